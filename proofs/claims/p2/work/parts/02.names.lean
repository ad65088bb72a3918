theorem ax_places {big : List Cond} (ws : List Cond) (ps : List Nat) (hp : ws = ps.filterMap (fun i => big[i]?)) (h : ws.all goodWord = true) : GoodIn big ws := by
  intro w hw
  refine ⟨?_, good_of_word (List.all_eq_true.mp h w hw)⟩
  rw [hp] at hw
  obtain ⟨i, -, hi⟩ := List.mem_filterMap.mp hw
  exact List.mem_of_getElem? hi
theorem goodIn_ap {big a b : List Cond} (ha : GoodIn big a) (hb : GoodIn big b) : GoodIn big (a ++ b) := fun w h => (List.mem_append.mp h).elim (ha w) (hb w)
def RX0 : String := "LaneWarps$Forecast"
def TX0 : u_T := fun k => match k with
  | 0 => ("LaneWarps$Forecast", "machine", "LLaneWarps$Machine;", true)
  | 1 => ("LaneWarps$Forecast", "origin", "LLaneWarps$State;", true)
  | 2 => ("LaneWarps$Forecast", "scout", "LLaneWarps$State;", true)
  | 3 => ("LaneWarps$Forecast", "trail", "LLaneWarps$State;", true)
  | 4 => ("LaneWarps$Forecast", "courses", "[I", true)
  | 5 => ("LaneWarps$Forecast", "coursesKnown", "I", false)
  | 6 => ("LaneWarps$Forecast", "ends", "[I", true)
  | 7 => ("LaneWarps$Forecast", "endsKnown", "J", false)
  | 8 => ("LaneWarps$Forecast", "solos", "[I", true)
  | 9 => ("LaneWarps$Forecast", "solosKnown", "I", false)
  | 10 => ("LaneWarps$Forecast", "program", "LLaneWarps$Program;", false)
  | 11 => ("LaneWarps$Forecast", "mode", "I", false)
  | 12 => ("LaneWarps$Forecast", "order", "I", false)
  | _ => ("LaneWarps$Forecast", "skew", "I", false)
def tyX0 : Nat → FieldType := fun k => match k with
  | 0 => .object "LaneWarps$Machine"
  | 1 => .object "LaneWarps$State"
  | 2 => .object "LaneWarps$State"
  | 3 => .object "LaneWarps$State"
  | 4 => .array .int
  | 5 => .int
  | 6 => .array .int
  | 7 => .long
  | 8 => .array .int
  | 9 => .int
  | 10 => .object "LaneWarps$Program"
  | 11 => .int
  | 12 => .int
  | _ => .int
abbrev wsX00 : List Cond := u_ws RX0 TX0 14
theorem nmX0 : ∀ a, a < 14 → ∀ b, b < 14 → a ≠ b → (TX0 a).2.1 ≠ (TX0 b).2.1 := by decide +kernel
theorem tyX0_ok : ∀ k, k < 14 → parseFieldDescriptor (TX0 k).2.2.1 = some (tyX0 k) := by decide +kernel
theorem dvX0 : ∀ j, j < 14 → defaultValue (tyX0 j) = vp_V [.null, .null, .null, .null, .null, .int 0, .null, .long 0, .null, .int 0, .null, .int 0, .int 0, .int 0] j := fun j hj => by rcases (show j = 0 ∨ j = 1 ∨ j = 2 ∨ j = 3 ∨ j = 4 ∨ j = 5 ∨ j = 6 ∨ j = 7 ∨ j = 8 ∨ j = 9 ∨ j = 10 ∨ j = 11 ∨ j = 12 ∨ j = 13 by omega) with rfl | rfl | rfl | rfl | rfl | rfl | rfl | rfl | rfl | rfl | rfl | rfl | rfl | rfl <;> rfl
def RX1 : String := "LaneWarps$Machine"
def TX1 : u_T := fun k => match k with
  | 0 => ("LaneWarps$Machine", "addresses", "[I", true)
  | 1 => ("LaneWarps$Machine", "inBank", "[I", true)
  | 2 => ("LaneWarps$Machine", "program", "LLaneWarps$Program;", false)
  | 3 => ("LaneWarps$Machine", "state", "LLaneWarps$State;", false)
  | 4 => ("LaneWarps$Machine", "mover", "LLaneWarps$Warp;", false)
  | 5 => ("LaneWarps$Machine", "row", "[I", false)
  | 6 => ("LaneWarps$Machine", "warp", "I", false)
  | 7 => ("LaneWarps$Machine", "line", "I", false)
  | 8 => ("LaneWarps$Machine", "lanes", "I", false)
  | 9 => ("LaneWarps$Machine", "leader", "I", false)
  | 10 => ("LaneWarps$Machine", "takes", "I", false)
  | _ => ("LaneWarps$Machine", "loaded", "J", false)
def tyX1 : Nat → FieldType := fun k => match k with
  | 0 => .array .int
  | 1 => .array .int
  | 2 => .object "LaneWarps$Program"
  | 3 => .object "LaneWarps$State"
  | 4 => .object "LaneWarps$Warp"
  | 5 => .array .int
  | 6 => .int
  | 7 => .int
  | 8 => .int
  | 9 => .int
  | 10 => .int
  | _ => .long
abbrev wsX10 : List Cond := u_ws RX1 TX1 12
theorem nmX1 : ∀ a, a < 12 → ∀ b, b < 12 → a ≠ b → (TX1 a).2.1 ≠ (TX1 b).2.1 := by decide +kernel
theorem tyX1_ok : ∀ k, k < 12 → parseFieldDescriptor (TX1 k).2.2.1 = some (tyX1 k) := by decide +kernel
theorem dvX1 : ∀ j, j < 12 → defaultValue (tyX1 j) = vp_V [.null, .null, .null, .null, .null, .null, .int 0, .int 0, .int 0, .int 0, .int 0, .long 0] j := fun j hj => by rcases (show j = 0 ∨ j = 1 ∨ j = 2 ∨ j = 3 ∨ j = 4 ∨ j = 5 ∨ j = 6 ∨ j = 7 ∨ j = 8 ∨ j = 9 ∨ j = 10 ∨ j = 11 by omega) with rfl | rfl | rfl | rfl | rfl | rfl | rfl | rfl | rfl | rfl | rfl | rfl <;> rfl
def RX2 : String := "LaneWarps$Program"
def TX2 : u_T := fun k => match k with
  | 0 => ("LaneWarps$Program", "rows", "[[I", true)
  | 1 => ("LaneWarps$Program", "far", "[I", true)
  | 2 => ("LaneWarps$Program", "passed", "[J", true)
  | 3 => ("LaneWarps$Program", "lines", "I", false)
  | 4 => ("LaneWarps$Program", "warps", "I", false)
  | 5 => ("LaneWarps$Program", "mode", "I", false)
  | _ => ("LaneWarps$Program", "order", "I", false)
def tyX2 : Nat → FieldType := fun k => match k with
  | 0 => .array (.array .int)
  | 1 => .array .int
  | 2 => .array .long
  | 3 => .int
  | 4 => .int
  | 5 => .int
  | _ => .int
abbrev wsX20 : List Cond := u_ws RX2 TX2 7
theorem nmX2 : ∀ a, a < 7 → ∀ b, b < 7 → a ≠ b → (TX2 a).2.1 ≠ (TX2 b).2.1 := by decide +kernel
theorem tyX2_ok : ∀ k, k < 7 → parseFieldDescriptor (TX2 k).2.2.1 = some (tyX2 k) := by decide +kernel
theorem dvX2 : ∀ j, j < 7 → defaultValue (tyX2 j) = vp_V [.null, .null, .null, .int 0, .int 0, .int 0, .int 0] j := fun j hj => by rcases (show j = 0 ∨ j = 1 ∨ j = 2 ∨ j = 3 ∨ j = 4 ∨ j = 5 ∨ j = 6 by omega) with rfl | rfl | rfl | rfl | rfl | rfl | rfl <;> rfl
def RX3 : String := "LaneWarps$Reader"
def TX3 : u_T := fun k => match k with
  | 0 => ("LaneWarps$Reader", "nameAt", "[I", true)
  | 1 => ("LaneWarps$Reader", "nameEnd", "[I", true)
  | 2 => ("LaneWarps$Reader", "aimAt", "[I", true)
  | 3 => ("LaneWarps$Reader", "aimEnd", "[I", true)
  | 4 => ("LaneWarps$Reader", "text", "[B", false)
  | 5 => ("LaneWarps$Reader", "length", "I", false)
  | 6 => ("LaneWarps$Reader", "into", "LLaneWarps$Program;", false)
  | 7 => ("LaneWarps$Reader", "kind", "I", false)
  | 8 => ("LaneWarps$Reader", "from", "I", false)
  | 9 => ("LaneWarps$Reader", "to", "I", false)
  | 10 => ("LaneWarps$Reader", "own", "I", false)
  | 11 => ("LaneWarps$Reader", "number", "I", false)
  | 12 => ("LaneWarps$Reader", "address", "I", false)
  | 13 => ("LaneWarps$Reader", "fault", "I", false)
  | _ => ("LaneWarps$Reader", "place", "I", false)
def tyX3 : Nat → FieldType := fun k => match k with
  | 0 => .array .int
  | 1 => .array .int
  | 2 => .array .int
  | 3 => .array .int
  | 4 => .array .byte
  | 5 => .int
  | 6 => .object "LaneWarps$Program"
  | 7 => .int
  | 8 => .int
  | 9 => .int
  | 10 => .int
  | 11 => .int
  | 12 => .int
  | 13 => .int
  | _ => .int
abbrev wsX30 : List Cond := u_ws RX3 TX3 15
theorem nmX3 : ∀ a, a < 15 → ∀ b, b < 15 → a ≠ b → (TX3 a).2.1 ≠ (TX3 b).2.1 := by decide +kernel
theorem tyX3_ok : ∀ k, k < 15 → parseFieldDescriptor (TX3 k).2.2.1 = some (tyX3 k) := by decide +kernel
theorem dvX3 : ∀ j, j < 15 → defaultValue (tyX3 j) = vp_V [.null, .null, .null, .null, .null, .int 0, .null, .int 0, .int 0, .int 0, .int 0, .int 0, .int 0, .int 0, .int 0] j := fun j hj => by rcases (show j = 0 ∨ j = 1 ∨ j = 2 ∨ j = 3 ∨ j = 4 ∨ j = 5 ∨ j = 6 ∨ j = 7 ∨ j = 8 ∨ j = 9 ∨ j = 10 ∨ j = 11 ∨ j = 12 ∨ j = 13 ∨ j = 14 by omega) with rfl | rfl | rfl | rfl | rfl | rfl | rfl | rfl | rfl | rfl | rfl | rfl | rfl | rfl | rfl <;> rfl
def RX4 : String := "LaneWarps$State"
def TX4 : u_T := fun k => match k with
  | 0 => ("LaneWarps$State", "warps", "[LLaneWarps$Warp;", true)
  | 1 => ("LaneWarps$State", "far", "[I", true)
  | 2 => ("LaneWarps$State", "near", "[I", true)
  | 3 => ("LaneWarps$State", "touched", "[I", true)
  | 4 => ("LaneWarps$State", "wrote", "[I", true)
  | 5 => ("LaneWarps$State", "raced", "[I", true)
  | 6 => ("LaneWarps$State", "kept", "[I", true)
  | 7 => ("LaneWarps$State", "used", "I", false)
  | 8 => ("LaneWarps$State", "mode", "I", false)
  | 9 => ("LaneWarps$State", "order", "I", false)
  | 10 => ("LaneWarps$State", "skew", "I", false)
  | 11 => ("LaneWarps$State", "cycle", "I", false)
  | 12 => ("LaneWarps$State", "done", "I", false)
  | 13 => ("LaneWarps$State", "epochs", "I", false)
  | _ => ("LaneWarps$State", "last", "I", false)
def tyX4 : Nat → FieldType := fun k => match k with
  | 0 => .array (.object "LaneWarps$Warp")
  | 1 => .array .int
  | 2 => .array .int
  | 3 => .array .int
  | 4 => .array .int
  | 5 => .array .int
  | 6 => .array .int
  | 7 => .int
  | 8 => .int
  | 9 => .int
  | 10 => .int
  | 11 => .int
  | 12 => .int
  | 13 => .int
  | _ => .int
abbrev wsX40 : List Cond := u_ws RX4 TX4 15
theorem nmX4 : ∀ a, a < 15 → ∀ b, b < 15 → a ≠ b → (TX4 a).2.1 ≠ (TX4 b).2.1 := by decide +kernel
theorem tyX4_ok : ∀ k, k < 15 → parseFieldDescriptor (TX4 k).2.2.1 = some (tyX4 k) := by decide +kernel
theorem dvX4 : ∀ j, j < 15 → defaultValue (tyX4 j) = vp_V [.null, .null, .null, .null, .null, .null, .null, .int 0, .int 0, .int 0, .int 0, .int 0, .int 0, .int 0, .int 0] j := fun j hj => by rcases (show j = 0 ∨ j = 1 ∨ j = 2 ∨ j = 3 ∨ j = 4 ∨ j = 5 ∨ j = 6 ∨ j = 7 ∨ j = 8 ∨ j = 9 ∨ j = 10 ∨ j = 11 ∨ j = 12 ∨ j = 13 ∨ j = 14 by omega) with rfl | rfl | rfl | rfl | rfl | rfl | rfl | rfl | rfl | rfl | rfl | rfl | rfl | rfl | rfl <;> rfl
def RX5 : String := "LaneWarps$Warp"
def TX5 : u_T := fun k => match k with
  | 0 => ("LaneWarps$Warp", "registers", "[I", true)
  | 1 => ("LaneWarps$Warp", "lines", "[I", true)
  | 2 => ("LaneWarps$Warp", "partLine", "[I", true)
  | 3 => ("LaneWarps$Warp", "partMeets", "[I", true)
  | 4 => ("LaneWarps$Warp", "partLanes", "[I", true)
  | 5 => ("LaneWarps$Warp", "parts", "I", false)
  | 6 => ("LaneWarps$Warp", "lives", "I", false)
  | 7 => ("LaneWarps$Warp", "waits", "I", false)
  | 8 => ("LaneWarps$Warp", "ready", "I", false)
  | 9 => ("LaneWarps$Warp", "done", "I", false)
  | _ => ("LaneWarps$Warp", "turn", "I", false)
def tyX5 : Nat → FieldType := fun k => match k with
  | 0 => .array .int
  | 1 => .array .int
  | 2 => .array .int
  | 3 => .array .int
  | 4 => .array .int
  | 5 => .int
  | 6 => .int
  | 7 => .int
  | 8 => .int
  | 9 => .int
  | _ => .int
abbrev wsX50 : List Cond := u_ws RX5 TX5 11
theorem nmX5 : ∀ a, a < 11 → ∀ b, b < 11 → a ≠ b → (TX5 a).2.1 ≠ (TX5 b).2.1 := by decide +kernel
theorem tyX5_ok : ∀ k, k < 11 → parseFieldDescriptor (TX5 k).2.2.1 = some (tyX5 k) := by decide +kernel
theorem dvX5 : ∀ j, j < 11 → defaultValue (tyX5 j) = vp_V [.null, .null, .null, .null, .null, .int 0, .int 0, .int 0, .int 0, .int 0, .int 0] j := fun j hj => by rcases (show j = 0 ∨ j = 1 ∨ j = 2 ∨ j = 3 ∨ j = 4 ∨ j = 5 ∨ j = 6 ∨ j = 7 ∨ j = 8 ∨ j = 9 ∨ j = 10 by omega) with rfl | rfl | rfl | rfl | rfl | rfl | rfl | rfl | rfl | rfl | rfl <;> rfl
def RX6 : String := "LaneWarps"
def TX6 : u_T := fun k => match k with
  | 0 => ("LaneWarps", "tape", "[B", true)
  | 1 => ("LaneWarps", "bytes", "I", false)
  | 2 => ("LaneWarps", "reader", "LLaneWarps$Reader;", true)
  | 3 => ("LaneWarps", "current", "LLaneWarps$Program;", false)
  | 4 => ("LaneWarps", "spare", "LLaneWarps$Program;", false)
  | 5 => ("LaneWarps", "told", "Z", false)
  | 6 => ("LaneWarps", "now", "LLaneWarps$State;", true)
  | 7 => ("LaneWarps", "past", "[LLaneWarps$State;", true)
  | 8 => ("LaneWarps", "oldestAct", "I", false)
  | 9 => ("LaneWarps", "acts", "I", false)
  | 10 => ("LaneWarps", "machine", "LLaneWarps$Machine;", true)
  | 11 => ("LaneWarps", "forecast", "LLaneWarps$Forecast;", true)
  | 12 => ("LaneWarps", "refused", "[I", true)
  | _ => ("LaneWarps", "drawn", "J", false)
def tyX6 : Nat → FieldType := fun k => match k with
  | 0 => .array .byte
  | 1 => .int
  | 2 => .object "LaneWarps$Reader"
  | 3 => .object "LaneWarps$Program"
  | 4 => .object "LaneWarps$Program"
  | 5 => .boolean
  | 6 => .object "LaneWarps$State"
  | 7 => .array (.object "LaneWarps$State")
  | 8 => .int
  | 9 => .int
  | 10 => .object "LaneWarps$Machine"
  | 11 => .object "LaneWarps$Forecast"
  | 12 => .array .int
  | _ => .long
abbrev wsX60 : List Cond := u_ws RX6 TX6 14
theorem nmX6 : ∀ a, a < 14 → ∀ b, b < 14 → a ≠ b → (TX6 a).2.1 ≠ (TX6 b).2.1 := by decide +kernel
theorem tyX6_ok : ∀ k, k < 14 → parseFieldDescriptor (TX6 k).2.2.1 = some (tyX6 k) := by decide +kernel
theorem dvX6 : ∀ j, j < 14 → defaultValue (tyX6 j) = vp_V [.null, .int 0, .null, .null, .null, .int 0, .null, .null, .int 0, .int 0, .null, .null, .null, .long 0] j := fun j hj => by rcases (show j = 0 ∨ j = 1 ∨ j = 2 ∨ j = 3 ∨ j = 4 ∨ j = 5 ∨ j = 6 ∨ j = 7 ∨ j = 8 ∨ j = 9 ∨ j = 10 ∨ j = 11 ∨ j = 12 ∨ j = 13 by omega) with rfl | rfl | rfl | rfl | rfl | rfl | rfl | rfl | rfl | rfl | rfl | rfl | rfl | rfl <;> rfl
def RX7 : String := "LaneWarpsModel"
def TX7 : u_T := fun k => match k with
  | 0 => ("LaneWarpsModel", "tape", "[I", true)
  | 1 => ("LaneWarpsModel", "taped", "I", false)
  | 2 => ("LaneWarpsModel", "at", "I", false)
  | 3 => ("LaneWarpsModel", "end", "I", false)
  | 4 => ("LaneWarpsModel", "ended", "I", false)
  | 5 => ("LaneWarpsModel", "bad", "I", false)
  | 6 => ("LaneWarpsModel", "badPlace", "I", false)
  | 7 => ("LaneWarpsModel", "fault", "I", false)
  | 8 => ("LaneWarpsModel", "faultPlace", "I", false)
  | 9 => ("LaneWarpsModel", "refused", "[I", true)
  | 10 => ("LaneWarpsModel", "own", "[C", true)
  | 11 => ("LaneWarpsModel", "namePlace", "I", false)
  | 12 => ("LaneWarpsModel", "draft", "[I", true)
  | 13 => ("LaneWarpsModel", "program", "[I", true)
  | 14 => ("LaneWarpsModel", "goPlace", "[I", true)
  | 15 => ("LaneWarpsModel", "isTold", "Z", false)
  | 16 => ("LaneWarpsModel", "statements", "I", false)
  | 17 => ("LaneWarpsModel", "isCome", "[Z", true)
  | 18 => ("LaneWarpsModel", "heap", "[I", true)
  | 19 => ("LaneWarpsModel", "heapMany", "I", false)
  | 20 => ("LaneWarpsModel", "now", "[I", true)
  | 21 => ("LaneWarpsModel", "first", "[I", true)
  | 22 => ("LaneWarpsModel", "second", "[I", true)
  | 23 => ("LaneWarpsModel", "behind", "[I", true)
  | 24 => ("LaneWarpsModel", "states", "[I", true)
  | 25 => ("LaneWarpsModel", "how", "I", false)
  | 26 => ("LaneWarpsModel", "many", "I", false)
  | 27 => ("LaneWarpsModel", "round", "I", false)
  | 28 => ("LaneWarpsModel", "alone0", "[I", true)
  | 29 => ("LaneWarpsModel", "endsBy", "[I", true)
  | 30 => ("LaneWarpsModel", "kept0", "[I", true)
  | 31 => ("LaneWarpsModel", "undoable", "I", false)
  | 32 => ("LaneWarpsModel", "newest", "I", false)
  | _ => ("LaneWarpsModel", "seeded", "J", false)
def tyX7 : Nat → FieldType := fun k => match k with
  | 0 => .array .int
  | 1 => .int
  | 2 => .int
  | 3 => .int
  | 4 => .int
  | 5 => .int
  | 6 => .int
  | 7 => .int
  | 8 => .int
  | 9 => .array .int
  | 10 => .array .char
  | 11 => .int
  | 12 => .array .int
  | 13 => .array .int
  | 14 => .array .int
  | 15 => .boolean
  | 16 => .int
  | 17 => .array .boolean
  | 18 => .array .int
  | 19 => .int
  | 20 => .array .int
  | 21 => .array .int
  | 22 => .array .int
  | 23 => .array .int
  | 24 => .array .int
  | 25 => .int
  | 26 => .int
  | 27 => .int
  | 28 => .array .int
  | 29 => .array .int
  | 30 => .array .int
  | 31 => .int
  | 32 => .int
  | _ => .long
abbrev wsX70 : List Cond := u_ws RX7 TX7 34
theorem nmX7 : ∀ a, a < 34 → ∀ b, b < 34 → a ≠ b → (TX7 a).2.1 ≠ (TX7 b).2.1 := by decide +kernel
theorem tyX7_ok : ∀ k, k < 34 → parseFieldDescriptor (TX7 k).2.2.1 = some (tyX7 k) := by decide +kernel
theorem dvX7 : ∀ j, j < 34 → defaultValue (tyX7 j) = vp_V [.null, .int 0, .int 0, .int 0, .int 0, .int 0, .int 0, .int 0, .int 0, .null, .null, .int 0, .null, .null, .null, .int 0, .int 0, .null, .null, .int 0, .null, .null, .null, .null, .null, .int 0, .int 0, .int 0, .null, .null, .null, .int 0, .int 0, .long 0] j := fun j hj => by rcases (show j = 0 ∨ j = 1 ∨ j = 2 ∨ j = 3 ∨ j = 4 ∨ j = 5 ∨ j = 6 ∨ j = 7 ∨ j = 8 ∨ j = 9 ∨ j = 10 ∨ j = 11 ∨ j = 12 ∨ j = 13 ∨ j = 14 ∨ j = 15 ∨ j = 16 ∨ j = 17 ∨ j = 18 ∨ j = 19 ∨ j = 20 ∨ j = 21 ∨ j = 22 ∨ j = 23 ∨ j = 24 ∨ j = 25 ∨ j = 26 ∨ j = 27 ∨ j = 28 ∨ j = 29 ∨ j = 30 ∨ j = 31 ∨ j = 32 ∨ j = 33 by omega) with rfl | rfl | rfl | rfl | rfl | rfl | rfl | rfl | rfl | rfl | rfl | rfl | rfl | rfl | rfl | rfl | rfl | rfl | rfl | rfl | rfl | rfl | rfl | rfl | rfl | rfl | rfl | rfl | rfl | rfl | rfl | rfl | rfl | rfl <;> rfl
def RL : String := "LaneWarpsLaw"
abbrev cL_law : ByteArray := code
def RJ0 : String := "java/lang/String"
def RJ1 : String := "java/lang/StringLatin1"
def RJ2 : String := "java/lang/StringUTF16"
def RJ3 : String := "jdk/internal/util/Preconditions"
def RJ6 : String := "java/lang/Integer"
def RJ7 : String := "java/util/Arrays"
def RJ9 : String := "java/lang/Math"
abbrev cJ0_charAt_5068e : ByteArray := prog_12_method_56_code
def yJ0_charAt_5068e : MethodName := ⟨RJ0, "charAt", "(I)C"⟩
abbrev cJ0_checkIndex_df160 : ByteArray := prog_12_method_155_code
def yJ0_checkIndex_df160 : MethodName := ⟨RJ0, "checkIndex", "(II)V"⟩
abbrev cJ0_coder_7d493 : ByteArray := prog_12_method_152_code
def yJ0_coder_7d493 : MethodName := ⟨RJ0, "coder", "()B"⟩
abbrev cJ0_isEmpty_aae02 : ByteArray := prog_12_method_55_code
def yJ0_isEmpty_aae02 : MethodName := ⟨RJ0, "isEmpty", "()Z"⟩
abbrev cJ0_isLatin1_aae02 : ByteArray := prog_12_method_154_code
def yJ0_isLatin1_aae02 : MethodName := ⟨RJ0, "isLatin1", "()Z"⟩
abbrev cJ0_length_8abf5 : ByteArray := prog_12_method_54_code
def yJ0_length_8abf5 : MethodName := ⟨RJ0, "length", "()I"⟩
abbrev cJ1_charAt_3b067 : ByteArray := prog_13_method_2_code
def yJ1_charAt_3b067 : MethodName := ⟨RJ1, "charAt", "([BI)C"⟩
abbrev cJ2_charAt_3b067 : ByteArray := prog_14_method_83_code
def yJ2_charAt_3b067 : MethodName := ⟨RJ2, "charAt", "([BI)C"⟩
abbrev cJ2_checkIndex_2214a : ByteArray := prog_14_method_91_code
def yJ2_checkIndex_2214a : MethodName := ⟨RJ2, "checkIndex", "(I[B)V"⟩
abbrev cJ2_getChar_3b067 : ByteArray := prog_14_method_5_code
def yJ2_getChar_3b067 : MethodName := ⟨RJ2, "getChar", "([BI)C"⟩
abbrev cJ2_length_9d52b : ByteArray := prog_14_method_6_code
def yJ2_length_9d52b : MethodName := ⟨RJ2, "length", "([B)I"⟩
abbrev cJ3_checkIndex_8e157 : ByteArray := prog_17_method_11_code
def yJ3_checkIndex_8e157 : MethodName := ⟨RJ3, "checkIndex", "(IILjava/util/function/BiFunction;)I"⟩
abbrev cJ6_bitCount_0f7a4 : ByteArray := prog_10_method_49_code
def yJ6_bitCount_0f7a4 : MethodName := ⟨RJ6, "bitCount", "(I)I"⟩
abbrev cJ7_fill_53178 : ByteArray := prog_16_method_103_code
def yJ7_fill_53178 : MethodName := ⟨RJ7, "fill", "([II)V"⟩
abbrev cJ7_fill_d0a16 : ByteArray := prog_16_method_101_code
def yJ7_fill_d0a16 : MethodName := ⟨RJ7, "fill", "([JJ)V"⟩
abbrev cJ9_floorMod_7cf53 : ByteArray := prog_11_method_50_code
def yJ9_floorMod_7cf53 : MethodName := ⟨RJ9, "floorMod", "(II)I"⟩
abbrev cJ9_max_7cf53 : ByteArray := prog_11_method_65_code
def yJ9_max_7cf53 : MethodName := ⟨RJ9, "max", "(II)I"⟩
abbrev cJ9_min_7cf53 : ByteArray := prog_11_method_69_code
def yJ9_min_7cf53 : MethodName := ⟨RJ9, "min", "(II)I"⟩
abbrev cX0_begun : ByteArray := prog_2_method_6_code
def yX0_begun : MethodName := ⟨RX0, "begun", "(III)LLaneWarps$State;"⟩
abbrev cX0_behind : ByteArray := prog_2_method_5_code
def yX0_behind : MethodName := ⟨RX0, "behind", "(LLaneWarps$State;I)LLaneWarps$State;"⟩
abbrev cX0_course : ByteArray := prog_2_method_7_code
def yX0_course : MethodName := ⟨RX0, "course", "(LLaneWarps$State;II)I"⟩
abbrev cX0_cyclesToRest : ByteArray := prog_2_method_8_code
def yX0_cyclesToRest : MethodName := ⟨RX0, "cyclesToRest", "(LLaneWarps$State;)I"⟩
abbrev cX0_cyclesWith : ByteArray := prog_2_method_12_code
def yX0_cyclesWith : MethodName := ⟨RX0, "cyclesWith", "(II)I"⟩
abbrev cX0_firstAgain : ByteArray := prog_2_method_10_code
def yX0_firstAgain : MethodName := ⟨RX0, "firstAgain", "(LLaneWarps$State;I)I"⟩
abbrev cX0_forgetAhead : ByteArray := prog_2_method_3_code
def yX0_forgetAhead : MethodName := ⟨RX0, "forgetAhead", "()V"⟩
abbrev cX0_init : ByteArray := prog_2_method_1_code
def yX0_init : MethodName := ⟨RX0, "<init>", "()V"⟩
abbrev cX0_roundFromHere : ByteArray := prog_2_method_9_code
def yX0_roundFromHere : MethodName := ⟨RX0, "roundFromHere", "()I"⟩
abbrev cX0_solo : ByteArray := prog_2_method_15_code
def yX0_solo : MethodName := ⟨RX0, "solo", "(III)I"⟩
abbrev cX0_take : ByteArray := prog_2_method_2_code
def yX0_take : MethodName := ⟨RX0, "take", "(LLaneWarps$Program;)V"⟩
abbrev cX0_tryBy : ByteArray := prog_2_method_4_code
def yX0_tryBy : MethodName := ⟨RX0, "tryBy", "(III)V"⟩
abbrev cX0_tryLane : ByteArray := prog_2_method_14_code
def yX0_tryLane : MethodName := ⟨RX0, "tryLane", "(II)V"⟩
abbrev cX0_tryWord : ByteArray := prog_2_method_11_code
def yX0_tryWord : MethodName := ⟨RX0, "tryWord", "(I)V"⟩
abbrev cX0_unlike : ByteArray := prog_2_method_13_code
def yX0_unlike : MethodName := ⟨RX0, "unlike", "(I)I"⟩
abbrev cX1_ask : ByteArray := prog_3_method_16_code
def yX1_ask : MethodName := ⟨RX1, "ask", "(II)V"⟩
abbrev cX1_bounded : ByteArray := prog_3_method_15_code
def yX1_bounded : MethodName := ⟨RX1, "bounded", "(I)I"⟩
abbrev cX1_foresee : ByteArray := prog_3_method_4_code
def yX1_foresee : MethodName := ⟨RX1, "foresee", "(LLaneWarps$State;)Z"⟩
abbrev cX1_goers : ByteArray := prog_3_method_17_code
def yX1_goers : MethodName := ⟨RX1, "goers", "()I"⟩
abbrev cX1_goesNow : ByteArray := prog_3_method_7_code
def yX1_goesNow : MethodName := ⟨RX1, "goesNow", "(I)Z"⟩
abbrev cX1_holds : ByteArray := prog_3_method_18_code
def yX1_holds : MethodName := ⟨RX1, "holds", "(I)Z"⟩
abbrev cX1_init : ByteArray := prog_3_method_1_code
def yX1_init : MethodName := ⟨RX1, "<init>", "()V"⟩
abbrev cX1_keepLine : ByteArray := prog_3_method_12_code
def yX1_keepLine : MethodName := ⟨RX1, "keepLine", "()V"⟩
abbrev cX1_lineBehind : ByteArray := prog_3_method_19_code
def yX1_lineBehind : MethodName := ⟨RX1, "lineBehind", "()I"⟩
abbrev cX1_measure : ByteArray := prog_3_method_9_code
def yX1_measure : MethodName := ⟨RX1, "measure", "()V"⟩
abbrev cX1_mostInOneBank : ByteArray := prog_3_method_11_code
def yX1_mostInOneBank : MethodName := ⟨RX1, "mostInOneBank", "()I"⟩
abbrev cX1_moveEach : ByteArray := prog_3_method_21_code
def yX1_moveEach : MethodName := ⟨RX1, "moveEach", "()V"⟩
abbrev cX1_moveTop : ByteArray := prog_3_method_20_code
def yX1_moveTop : MethodName := ⟨RX1, "moveTop", "()V"⟩
abbrev cX1_pickLanes : ByteArray := prog_3_method_6_code
def yX1_pickLanes : MethodName := ⟨RX1, "pickLanes", "()V"⟩
abbrev cX1_pickWarp : ByteArray := prog_3_method_5_code
def yX1_pickWarp : MethodName := ⟨RX1, "pickWarp", "()Z"⟩
abbrev cX1_result : ByteArray := prog_3_method_14_code
def yX1_result : MethodName := ⟨RX1, "result", "(II)I"⟩
abbrev cX1_segments : ByteArray := prog_3_method_10_code
def yX1_segments : MethodName := ⟨RX1, "segments", "()I"⟩
abbrev cX1_step : ByteArray := prog_3_method_3_code
def yX1_step : MethodName := ⟨RX1, "step", "(LLaneWarps$State;)Z"⟩
abbrev cX1_take : ByteArray := prog_3_method_2_code
def yX1_take : MethodName := ⟨RX1, "take", "(LLaneWarps$Program;)V"⟩
abbrev cX1_valueOf : ByteArray := prog_3_method_8_code
def yX1_valueOf : MethodName := ⟨RX1, "valueOf", "(II)I"⟩
abbrev cX1_work : ByteArray := prog_3_method_13_code
def yX1_work : MethodName := ⟨RX1, "work", "()V"⟩
abbrev cX2_addLine : ByteArray := prog_4_method_3_code
def yX2_addLine : MethodName := ⟨RX2, "addLine", "(I)V"⟩
abbrev cX2_clear : ByteArray := prog_4_method_2_code
def yX2_clear : MethodName := ⟨RX2, "clear", "()V"⟩
abbrev cX2_findMeets : ByteArray := prog_4_method_5_code
def yX2_findMeets : MethodName := ⟨RX2, "findMeets", "()V"⟩
abbrev cX2_findPassed : ByteArray := prog_4_method_6_code
def yX2_findPassed : MethodName := ⟨RX2, "findPassed", "()V"⟩
abbrev cX2_init : ByteArray := prog_4_method_1_code
def yX2_init : MethodName := ⟨RX2, "<init>", "()V"⟩
abbrev cX2_latest : ByteArray := prog_4_method_4_code
def yX2_latest : MethodName := ⟨RX2, "latest", "()[I"⟩
abbrev cX2_meetOf : ByteArray := prog_4_method_8_code
def yX2_meetOf : MethodName := ⟨RX2, "meetOf", "(I)I"⟩
abbrev cX2_passedBehind : ByteArray := prog_4_method_7_code
def yX2_passedBehind : MethodName := ⟨RX2, "passedBehind", "(I)J"⟩
abbrev cX3_aimAll : ByteArray := prog_5_method_13_code
def yX3_aimAll : MethodName := ⟨RX3, "aimAll", "()Z"⟩
abbrev cX3_fail : ByteArray := prog_5_method_3_code
def yX3_fail : MethodName := ⟨RX3, "fail", "(II)Z"⟩
abbrev cX3_init : ByteArray := prog_5_method_1_code
def yX3_init : MethodName := ⟨RX3, "<init>", "()V"⟩
abbrev cX3_isDigit : ByteArray := prog_5_method_19_code
def yX3_isDigit : MethodName := ⟨RX3, "isDigit", "(I)Z"⟩
abbrev cX3_isLetter : ByteArray := prog_5_method_18_code
def yX3_isLetter : MethodName := ⟨RX3, "isLetter", "(I)Z"⟩
abbrev cX3_lineNamed : ByteArray := prog_5_method_14_code
def yX3_lineNamed : MethodName := ⟨RX3, "lineNamed", "(II)I"⟩
abbrev cX3_openLine : ByteArray := prog_5_method_5_code
def yX3_openLine : MethodName := ⟨RX3, "openLine", "()Z"⟩
abbrev cX3_ownWord : ByteArray := prog_5_method_20_code
def yX3_ownWord : MethodName := ⟨RX3, "ownWord", "()I"⟩
abbrev cX3_piecesOf : ByteArray := prog_5_method_6_code
def yX3_piecesOf : MethodName := ⟨RX3, "piecesOf", "(I)Ljava/lang/String;"⟩
abbrev cX3_read : ByteArray := prog_5_method_2_code
def yX3_read : MethodName := ⟨RX3, "read", "([BILLaneWarps$Program;)Z"⟩
abbrev cX3_readComparison : ByteArray := prog_5_method_11_code
def yX3_readComparison : MethodName := ⟨RX3, "readComparison", "()I"⟩
abbrev cX3_readName : ByteArray := prog_5_method_10_code
def yX3_readName : MethodName := ⟨RX3, "readName", "()Z"⟩
abbrev cX3_readNumber : ByteArray := prog_5_method_8_code
def yX3_readNumber : MethodName := ⟨RX3, "readNumber", "(II)I"⟩
abbrev cX3_readOwn : ByteArray := prog_5_method_9_code
def yX3_readOwn : MethodName := ⟨RX3, "readOwn", "(II)I"⟩
abbrev cX3_readPiece : ByteArray := prog_5_method_7_code
def yX3_readPiece : MethodName := ⟨RX3, "readPiece", "(C)Z"⟩
abbrev cX3_readSign : ByteArray := prog_5_method_12_code
def yX3_readSign : MethodName := ⟨RX3, "readSign", "(C)Z"⟩
abbrev cX3_readStatement : ByteArray := prog_5_method_4_code
def yX3_readStatement : MethodName := ⟨RX3, "readStatement", "(I)Z"⟩
abbrev cX3_scan : ByteArray := prog_5_method_15_code
def yX3_scan : MethodName := ⟨RX3, "scan", "()V"⟩
abbrev cX3_scanNumber : ByteArray := prog_5_method_17_code
def yX3_scanNumber : MethodName := ⟨RX3, "scanNumber", "()V"⟩
abbrev cX3_scanWord : ByteArray := prog_5_method_16_code
def yX3_scanWord : MethodName := ⟨RX3, "scanWord", "()V"⟩
abbrev cX4_canGo : ByteArray := prog_6_method_8_code
def yX4_canGo : MethodName := ⟨RX4, "canGo", "(I)Z"⟩
abbrev cX4_copyFrom : ByteArray := prog_6_method_5_code
def yX4_copyFrom : MethodName := ⟨RX4, "copyFrom", "(LLaneWarps$State;)V"⟩
abbrev cX4_hasEnded : ByteArray := prog_6_method_9_code
def yX4_hasEnded : MethodName := ⟨RX4, "hasEnded", "()Z"⟩
abbrev cX4_hasNoneToGo : ByteArray := prog_6_method_10_code
def yX4_hasNoneToGo : MethodName := ⟨RX4, "hasNoneToGo", "()Z"⟩
abbrev cX4_init : ByteArray := prog_6_method_1_code
def yX4_init : MethodName := ⟨RX4, "<init>", "()V"⟩
abbrev cX4_isLike : ByteArray := prog_6_method_6_code
def yX4_isLike : MethodName := ⟨RX4, "isLike", "(LLaneWarps$State;)Z"⟩
abbrev cX4_lay : ByteArray := prog_6_method_2_code
def yX4_lay : MethodName := ⟨RX4, "lay", "(III)V"⟩
abbrev cX4_leaveAlone : ByteArray := prog_6_method_4_code
def yX4_leaveAlone : MethodName := ⟨RX4, "leaveAlone", "(III)V"⟩
abbrev cX4_living : ByteArray := prog_6_method_11_code
def yX4_living : MethodName := ⟨RX4, "living", "()I"⟩
abbrev cX4_passBarIfAllWait : ByteArray := prog_6_method_15_code
def yX4_passBarIfAllWait : MethodName := ⟨RX4, "passBarIfAllWait", "(I)V"⟩
abbrev cX4_racedWords : ByteArray := prog_6_method_13_code
def yX4_racedWords : MethodName := ⟨RX4, "racedWords", "()I"⟩
abbrev cX4_restOfReady : ByteArray := prog_6_method_7_code
def yX4_restOfReady : MethodName := ⟨RX4, "restOfReady", "(I)I"⟩
abbrev cX4_restart : ByteArray := prog_6_method_3_code
def yX4_restart : MethodName := ⟨RX4, "restart", "(LLaneWarps$Program;)V"⟩
abbrev cX4_touch : ByteArray := prog_6_method_14_code
def yX4_touch : MethodName := ⟨RX4, "touch", "(IIZ)V"⟩
abbrev cX4_waiting : ByteArray := prog_6_method_12_code
def yX4_waiting : MethodName := ⟨RX4, "waiting", "()I"⟩
abbrev cX5_copyFrom : ByteArray := prog_7_method_3_code
def yX5_copyFrom : MethodName := ⟨RX5, "copyFrom", "(LLaneWarps$Warp;)V"⟩
abbrev cX5_init : ByteArray := prog_7_method_1_code
def yX5_init : MethodName := ⟨RX5, "<init>", "()V"⟩
abbrev cX5_isLike : ByteArray := prog_7_method_4_code
def yX5_isLike : MethodName := ⟨RX5, "isLike", "(LLaneWarps$Warp;)Z"⟩
abbrev cX5_layPart : ByteArray := prog_7_method_7_code
def yX5_layPart : MethodName := ⟨RX5, "layPart", "(III)V"⟩
abbrev cX5_lineOf : ByteArray := prog_7_method_5_code
def yX5_lineOf : MethodName := ⟨RX5, "lineOf", "(II)I"⟩
abbrev cX5_movable : ByteArray := prog_7_method_6_code
def yX5_movable : MethodName := ⟨RX5, "movable", "(I)I"⟩
abbrev cX5_moveLane : ByteArray := prog_7_method_12_code
def yX5_moveLane : MethodName := ⟨RX5, "moveLane", "(III)V"⟩
abbrev cX5_moveTop : ByteArray := prog_7_method_8_code
def yX5_moveTop : MethodName := ⟨RX5, "moveTop", "(I)V"⟩
abbrev cX5_passBar : ByteArray := prog_7_method_13_code
def yX5_passBar : MethodName := ⟨RX5, "passBar", "(II)V"⟩
abbrev cX5_restart : ByteArray := prog_7_method_2_code
def yX5_restart : MethodName := ⟨RX5, "restart", "(III)V"⟩
abbrev cX5_settle : ByteArray := prog_7_method_11_code
def yX5_settle : MethodName := ⟨RX5, "settle", "(I)V"⟩
abbrev cX5_splitTop : ByteArray := prog_7_method_9_code
def yX5_splitTop : MethodName := ⟨RX5, "splitTop", "(IIIII)V"⟩
abbrev cX5_yieldTop : ByteArray := prog_7_method_10_code
def yX5_yieldTop : MethodName := ⟨RX5, "yieldTop", "()V"⟩
abbrev cX6_agrees : ByteArray := prog_1_method_20_code
def yX6_agrees : MethodName := ⟨RX6, "agrees", "()I"⟩
abbrev cX6_alone : ByteArray := prog_1_method_19_code
def yX6_alone : MethodName := ⟨RX6, "alone", "(III)I"⟩
abbrev cX6_areLike : ByteArray := prog_1_method_43_code
def yX6_areLike : MethodName := ⟨RX6, "areLike", "([I[I)Z"⟩
abbrev cX6_begin : ByteArray := prog_1_method_26_code
def yX6_begin : MethodName := ⟨RX6, "begin", "()Z"⟩
abbrev cX6_by : ByteArray := prog_1_method_17_code
def yX6_by : MethodName := ⟨RX6, "by", "(III)I"⟩
abbrev cX6_chance : ByteArray := prog_1_method_27_code
def yX6_chance : MethodName := ⟨RX6, "chance", "(I)I"⟩
abbrev cX6_cycles : ByteArray := prog_1_method_23_code
def yX6_cycles : MethodName := ⟨RX6, "cycles", "(I)I"⟩
abbrev cX6_draw : ByteArray := prog_1_method_42_code
def yX6_draw : MethodName := ⟨RX6, "draw", "(I)I"⟩
abbrev cX6_end : ByteArray := prog_1_method_3_code
def yX6_end : MethodName := ⟨RX6, "end", "(I)Z"⟩
abbrev cX6_fault : ByteArray := prog_1_method_5_code
def yX6_fault : MethodName := ⟨RX6, "fault", "(I)I"⟩
abbrev cX6_feed : ByteArray := prog_1_method_2_code
def yX6_feed : MethodName := ⟨RX6, "feed", "(IIIII)I"⟩
abbrev cX6_goes : ByteArray := prog_1_method_15_code
def yX6_goes : MethodName := ⟨RX6, "goes", "(I)I"⟩
abbrev cX6_has : ByteArray := prog_1_method_6_code
def yX6_has : MethodName := ⟨RX6, "has", "(I)I"⟩
abbrev cX6_hasLane : ByteArray := prog_1_method_34_code
def yX6_hasLane : MethodName := ⟨RX6, "hasLane", "(II)Z"⟩
abbrev cX6_hasWarp : ByteArray := prog_1_method_33_code
def yX6_hasWarp : MethodName := ⟨RX6, "hasWarp", "(I)Z"⟩
abbrev cX6_hasWord : ByteArray := prog_1_method_35_code
def yX6_hasWord : MethodName := ⟨RX6, "hasWord", "(ZI)Z"⟩
abbrev cX6_init : ByteArray := prog_1_method_1_code
def yX6_init : MethodName := ⟨RX6, "<init>", "()V"⟩
abbrev cX6_isAsAlone : ByteArray := prog_1_method_39_code
def yX6_isAsAlone : MethodName := ⟨RX6, "isAsAlone", "(II)Z"⟩
abbrev cX6_isMode : ByteArray := prog_1_method_37_code
def yX6_isMode : MethodName := ⟨RX6, "isMode", "(I)Z"⟩
abbrev cX6_isOrder : ByteArray := prog_1_method_38_code
def yX6_isOrder : MethodName := ⟨RX6, "isOrder", "(I)Z"⟩
abbrev cX6_keepForUndo : ByteArray := prog_1_method_40_code
def yX6_keepForUndo : MethodName := ⟨RX6, "keepForUndo", "()V"⟩
abbrev cX6_kept : ByteArray := prog_1_method_13_code
def yX6_kept : MethodName := ⟨RX6, "kept", "(II)I"⟩
abbrev cX6_lane : ByteArray := prog_1_method_8_code
def yX6_lane : MethodName := ⟨RX6, "lane", "(III)I"⟩
abbrev cX6_later : ByteArray := prog_1_method_16_code
def yX6_later : MethodName := ⟨RX6, "later", "(IIII)I"⟩
abbrev cX6_layBytes : ByteArray := prog_1_method_32_code
def yX6_layBytes : MethodName := ⟨RX6, "layBytes", "(I)V"⟩
abbrev cX6_layout : ByteArray := prog_1_method_36_code
def yX6_layout : MethodName := ⟨RX6, "layout", "(III)I"⟩
abbrev cX6_likely : ByteArray := prog_1_method_21_code
def yX6_likely : MethodName := ⟨RX6, "likely", "(III)I"⟩
abbrev cX6_line : ByteArray := prog_1_method_7_code
def yX6_line : MethodName := ⟨RX6, "line", "(II)I"⟩
abbrev cX6_next : ByteArray := prog_1_method_14_code
def yX6_next : MethodName := ⟨RX6, "next", "(I)I"⟩
abbrev cX6_part : ByteArray := prog_1_method_10_code
def yX6_part : MethodName := ⟨RX6, "part", "(III)I"⟩
abbrev cX6_poke : ByteArray := prog_1_method_24_code
def yX6_poke : MethodName := ⟨RX6, "poke", "(ZII)I"⟩
abbrev cX6_program : ByteArray := prog_1_method_4_code
def yX6_program : MethodName := ⟨RX6, "program", "()I"⟩
abbrev cX6_raced : ByteArray := prog_1_method_12_code
def yX6_raced : MethodName := ⟨RX6, "raced", "(ZI)I"⟩
abbrev cX6_refuse : ByteArray := prog_1_method_31_code
def yX6_refuse : MethodName := ⟨RX6, "refuse", "(I)I"⟩
abbrev cX6_run : ByteArray := prog_1_method_41_code
def yX6_run : MethodName := ⟨RX6, "run", "(I)I"⟩
abbrev cX6_seed : ByteArray := prog_1_method_29_code
def yX6_seed : MethodName := ⟨RX6, "seed", "(I)Z"⟩
abbrev cX6_set : ByteArray := prog_1_method_25_code
def yX6_set : MethodName := ⟨RX6, "set", "(III)Z"⟩
abbrev cX6_skew : ByteArray := prog_1_method_18_code
def yX6_skew : MethodName := ⟨RX6, "skew", "(I)I"⟩
abbrev cX6_status : ByteArray := prog_1_method_30_code
def yX6_status : MethodName := ⟨RX6, "status", "(I)I"⟩
abbrev cX6_tells : ByteArray := prog_1_method_22_code
def yX6_tells : MethodName := ⟨RX6, "tells", "(I)I"⟩
abbrev cX6_undo : ByteArray := prog_1_method_28_code
def yX6_undo : MethodName := ⟨RX6, "undo", "()Z"⟩
abbrev cX6_warp : ByteArray := prog_1_method_9_code
def yX6_warp : MethodName := ⟨RX6, "warp", "(II)I"⟩
abbrev cX6_word : ByteArray := prog_1_method_11_code
def yX6_word : MethodName := ⟨RX6, "word", "(ZI)I"⟩
abbrev cX7_aCycle : ByteArray := prog_9_method_89_code
def yX7_aCycle : MethodName := ⟨RX7, "aCycle", "()V"⟩
abbrev cX7_agrees : ByteArray := prog_9_method_122_code
def yX7_agrees : MethodName := ⟨RX7, "agrees", "()I"⟩
abbrev cX7_alone : ByteArray := prog_9_method_120_code
def yX7_alone : MethodName := ⟨RX7, "alone", "(III)I"⟩
abbrev cX7_areAlike : ByteArray := prog_9_method_109_code
def yX7_areAlike : MethodName := ⟨RX7, "areAlike", "(II)Z"⟩
abbrev cX7_asks : ByteArray := prog_9_method_22_code
def yX7_asks : MethodName := ⟨RX7, "asks", "(I)V"⟩
abbrev cX7_asksSign : ByteArray := prog_9_method_16_code
def yX7_asksSign : MethodName := ⟨RX7, "asksSign", "(I)V"⟩
abbrev cX7_bankOf : ByteArray := prog_9_method_69_code
def yX7_bankOf : MethodName := ⟨RX7, "bankOf", "(I)I"⟩
abbrev cX7_begin : ByteArray := prog_9_method_132_code
def yX7_begin : MethodName := ⟨RX7, "begin", "()Z"⟩
abbrev cX7_begins : ByteArray := prog_9_method_55_code
def yX7_begins : MethodName := ⟨RX7, "begins", "(I)V"⟩
abbrev cX7_bounded : ByteArray := prog_9_method_66_code
def yX7_bounded : MethodName := ⟨RX7, "bounded", "(J)I"⟩
abbrev cX7_by : ByteArray := prog_9_method_116_code
def yX7_by : MethodName := ⟨RX7, "by", "(III)I"⟩
abbrev cX7_canGo : ByteArray := prog_9_method_62_code
def yX7_canGo : MethodName := ⟨RX7, "canGo", "(I)Z"⟩
abbrev cX7_chance : ByteArray := prog_9_method_135_code
def yX7_chance : MethodName := ⟨RX7, "chance", "(I)I"⟩
abbrev cX7_changesParts : ByteArray := prog_9_method_81_code
def yX7_changesParts : MethodName := ⟨RX7, "changesParts", "(I)V"⟩
abbrev cX7_clashes : ByteArray := prog_9_method_71_code
def yX7_clashes : MethodName := ⟨RX7, "clashes", "(I)I"⟩
abbrev cX7_clears : ByteArray := prog_9_method_59_code
def yX7_clears : MethodName := ⟨RX7, "clears", "(I)V"⟩
abbrev cX7_comesTo : ByteArray := prog_9_method_43_code
def yX7_comesTo : MethodName := ⟨RX7, "comesTo", "(II)V"⟩
abbrev cX7_count : ByteArray := prog_9_method_86_code
def yX7_count : MethodName := ⟨RX7, "count", "(I)I"⟩
abbrev cX7_cycles : ByteArray := prog_9_method_129_code
def yX7_cycles : MethodName := ⟨RX7, "cycles", "(I)I"⟩
abbrev cX7_dies : ByteArray := prog_9_method_57_code
def yX7_dies : MethodName := ⟨RX7, "dies", "(II)V"⟩
abbrev cX7_doesAgree : ByteArray := prog_9_method_121_code
def yX7_doesAgree : MethodName := ⟨RX7, "doesAgree", "(II)Z"⟩
abbrev cX7_drafted : ByteArray := prog_9_method_25_code
def yX7_drafted : MethodName := ⟨RX7, "drafted", "()I"⟩
abbrev cX7_drawOf : ByteArray := prog_9_method_134_code
def yX7_drawOf : MethodName := ⟨RX7, "drawOf", "(I)I"⟩
abbrev cX7_end : ByteArray := prog_9_method_7_code
def yX7_end : MethodName := ⟨RX7, "end", "(I)Z"⟩
abbrev cX7_endsBehind : ByteArray := prog_9_method_117_code
def yX7_endsBehind : MethodName := ⟨RX7, "endsBehind", "()I"⟩
abbrev cX7_endsTop : ByteArray := prog_9_method_58_code
def yX7_endsTop : MethodName := ⟨RX7, "endsTop", "(I)V"⟩
abbrev cX7_fail : ByteArray := prog_9_method_10_code
def yX7_fail : MethodName := ⟨RX7, "fail", "(II)V"⟩
abbrev cX7_fault : ByteArray := prog_9_method_9_code
def yX7_fault : MethodName := ⟨RX7, "fault", "(I)I"⟩
abbrev cX7_feed : ByteArray := prog_9_method_6_code
def yX7_feed : MethodName := ⟨RX7, "feed", "(IIIII)I"⟩
abbrev cX7_flag : ByteArray := prog_9_method_3_code
def yX7_flag : MethodName := ⟨RX7, "flag", "(Z)I"⟩
abbrev cX7_goTold : ByteArray := prog_9_method_29_code
def yX7_goTold : MethodName := ⟨RX7, "goTold", "()V"⟩
abbrev cX7_goer : ByteArray := prog_9_method_63_code
def yX7_goer : MethodName := ⟨RX7, "goer", "()I"⟩
abbrev cX7_goes : ByteArray := prog_9_method_114_code
def yX7_goes : MethodName := ⟨RX7, "goes", "(I)I"⟩
abbrev cX7_goes0 : ByteArray := prog_9_method_85_code
def yX7_goes0 : MethodName := ⟨RX7, "goes0", "(I)V"⟩
abbrev cX7_goesByStack : ByteArray := prog_9_method_82_code
def yX7_goesByStack : MethodName := ⟨RX7, "goesByStack", "(III)V"⟩
abbrev cX7_goesFair : ByteArray := prog_9_method_83_code
def yX7_goesFair : MethodName := ⟨RX7, "goesFair", "(III)V"⟩
abbrev cX7_goesFrom : ByteArray := prog_9_method_44_code
def yX7_goesFrom : MethodName := ⟨RX7, "goesFrom", "(II)V"⟩
abbrev cX7_goesOn : ByteArray := prog_9_method_112_code
def yX7_goesOn : MethodName := ⟨RX7, "goesOn", "()V"⟩
abbrev cX7_has : ByteArray := prog_9_method_90_code
def yX7_has : MethodName := ⟨RX7, "has", "(I)I"⟩
abbrev cX7_hasFirst : ByteArray := prog_9_method_67_code
def yX7_hasFirst : MethodName := ⟨RX7, "hasFirst", "(I)Z"⟩
abbrev cX7_hasRegister : ByteArray := prog_9_method_30_code
def yX7_hasRegister : MethodName := ⟨RX7, "hasRegister", "(I)Z"⟩
abbrev cX7_holding : ByteArray := prog_9_method_77_code
def yX7_holding : MethodName := ⟨RX7, "holding", "(II)I"⟩
abbrev cX7_init : ByteArray := prog_9_method_1_code
def yX7_init : MethodName := ⟨RX7, "<init>", "()V"⟩
abbrev cX7_isAlone : ByteArray := prog_9_method_119_code
def yX7_isAlone : MethodName := ⟨RX7, "isAlone", "(II)Z"⟩
abbrev cX7_isAsked : ByteArray := prog_9_method_72_code
def yX7_isAsked : MethodName := ⟨RX7, "isAsked", "(II)Z"⟩
abbrev cX7_isDigit : ByteArray := prog_9_method_12_code
def yX7_isDigit : MethodName := ⟨RX7, "isDigit", "(I)Z"⟩
abbrev cX7_isEndReached : ByteArray := prog_9_method_45_code
def yX7_isEndReached : MethodName := ⟨RX7, "isEndReached", "(II)Z"⟩
abbrev cX7_isEnded : ByteArray := prog_9_method_106_code
def yX7_isEnded : MethodName := ⟨RX7, "isEnded", "()Z"⟩
abbrev cX7_isFirst : ByteArray := prog_9_method_47_code
def yX7_isFirst : MethodName := ⟨RX7, "isFirst", "(II)Z"⟩
abbrev cX7_isFork : ByteArray := prog_9_method_42_code
def yX7_isFork : MethodName := ⟨RX7, "isFork", "(I)Z"⟩
abbrev cX7_isIn : ByteArray := prog_9_method_2_code
def yX7_isIn : MethodName := ⟨RX7, "isIn", "(JJJ)Z"⟩
abbrev cX7_isLane : ByteArray := prog_9_method_94_code
def yX7_isLane : MethodName := ⟨RX7, "isLane", "(II)Z"⟩
abbrev cX7_isLetter : ByteArray := prog_9_method_11_code
def yX7_isLetter : MethodName := ⟨RX7, "isLetter", "(I)Z"⟩
abbrev cX7_isLike : ByteArray := prog_9_method_19_code
def yX7_isLike : MethodName := ⟨RX7, "isLike", "(II)Z"⟩
abbrev cX7_isNamed : ByteArray := prog_9_method_33_code
def yX7_isNamed : MethodName := ⟨RX7, "isNamed", "(I)Z"⟩
abbrev cX7_isOf : ByteArray := prog_9_method_54_code
def yX7_isOf : MethodName := ⟨RX7, "isOf", "(II)Z"⟩
abbrev cX7_isOver : ByteArray := prog_9_method_111_code
def yX7_isOver : MethodName := ⟨RX7, "isOver", "(I)Z"⟩
abbrev cX7_isRefused : ByteArray := prog_9_method_5_code
def yX7_isRefused : MethodName := ⟨RX7, "isRefused", "(I)Z"⟩
abbrev cX7_isStuck : ByteArray := prog_9_method_107_code
def yX7_isStuck : MethodName := ⟨RX7, "isStuck", "()Z"⟩
abbrev cX7_isWarp : ByteArray := prog_9_method_93_code
def yX7_isWarp : MethodName := ⟨RX7, "isWarp", "(I)Z"⟩
abbrev cX7_isWordHere : ByteArray := prog_9_method_14_code
def yX7_isWordHere : MethodName := ⟨RX7, "isWordHere", "()Z"⟩
abbrev cX7_its : ByteArray := prog_9_method_49_code
def yX7_its : MethodName := ⟨RX7, "its", "(II)I"⟩
abbrev cX7_joins : ByteArray := prog_9_method_36_code
def yX7_joins : MethodName := ⟨RX7, "joins", "()V"⟩
abbrev cX7_keeps : ByteArray := prog_9_method_127_code
def yX7_keeps : MethodName := ⟨RX7, "keeps", "()V"⟩
abbrev cX7_keepsLine : ByteArray := prog_9_method_84_code
def yX7_keepsLine : MethodName := ⟨RX7, "keepsLine", "(IIII)V"⟩
abbrev cX7_kept : ByteArray := prog_9_method_102_code
def yX7_kept : MethodName := ⟨RX7, "kept", "(II)I"⟩
abbrev cX7_lane : ByteArray := prog_9_method_96_code
def yX7_lane : MethodName := ⟨RX7, "lane", "(III)I"⟩
abbrev cX7_later : ByteArray := prog_9_method_115_code
def yX7_later : MethodName := ⟨RX7, "later", "(IIII)I"⟩
abbrev cX7_lays : ByteArray := prog_9_method_26_code
def yX7_lays : MethodName := ⟨RX7, "lays", "(II)V"⟩
abbrev cX7_laysEnds : ByteArray := prog_9_method_123_code
def yX7_laysEnds : MethodName := ⟨RX7, "laysEnds", "(I)V"⟩
abbrev cX7_laysPart : ByteArray := prog_9_method_80_code
def yX7_laysPart : MethodName := ⟨RX7, "laysPart", "(IIII)V"⟩
abbrev cX7_laysState : ByteArray := prog_9_method_108_code
def yX7_laysState : MethodName := ⟨RX7, "laysState", "(I)V"⟩
abbrev cX7_likeOf : ByteArray := prog_9_method_110_code
def yX7_likeOf : MethodName := ⟨RX7, "likeOf", "(I)I"⟩
abbrev cX7_likely : ByteArray := prog_9_method_124_code
def yX7_likely : MethodName := ⟨RX7, "likely", "(III)I"⟩
abbrev cX7_line : ByteArray := prog_9_method_92_code
def yX7_line : MethodName := ⟨RX7, "line", "(II)I"⟩
abbrev cX7_lineAt : ByteArray := prog_9_method_24_code
def yX7_lineAt : MethodName := ⟨RX7, "lineAt", "(II)I"⟩
abbrev cX7_lineBegins : ByteArray := prog_9_method_34_code
def yX7_lineBegins : MethodName := ⟨RX7, "lineBegins", "(IZ)V"⟩
abbrev cX7_lineOf : ByteArray := prog_9_method_61_code
def yX7_lineOf : MethodName := ⟨RX7, "lineOf", "(I)I"⟩
abbrev cX7_lineTold : ByteArray := prog_9_method_32_code
def yX7_lineTold : MethodName := ⟨RX7, "lineTold", "(I)V"⟩
abbrev cX7_lines : ByteArray := prog_9_method_39_code
def yX7_lines : MethodName := ⟨RX7, "lines", "()I"⟩
abbrev cX7_look : ByteArray := prog_9_method_13_code
def yX7_look : MethodName := ⟨RX7, "look", "()I"⟩
abbrev cX7_made : ByteArray := prog_9_method_74_code
def yX7_made : MethodName := ⟨RX7, "made", "(III)I"⟩
abbrev cX7_meetOf : ByteArray := prog_9_method_46_code
def yX7_meetOf : MethodName := ⟨RX7, "meetOf", "(I)I"⟩
abbrev cX7_modulo : ByteArray := prog_9_method_65_code
def yX7_modulo : MethodName := ⟨RX7, "modulo", "(JI)I"⟩
abbrev cX7_name : ByteArray := prog_9_method_23_code
def yX7_name : MethodName := ⟨RX7, "name", "()I"⟩
abbrev cX7_next : ByteArray := prog_9_method_103_code
def yX7_next : MethodName := ⟨RX7, "next", "(I)I"⟩
abbrev cX7_nextAt : ByteArray := prog_9_method_51_code
def yX7_nextAt : MethodName := ⟨RX7, "nextAt", "(II)I"⟩
abbrev cX7_nextOf : ByteArray := prog_9_method_95_code
def yX7_nextOf : MethodName := ⟨RX7, "nextOf", "(II)I"⟩
abbrev cX7_nexts : ByteArray := prog_9_method_78_code
def yX7_nexts : MethodName := ⟨RX7, "nexts", "(III)V"⟩
abbrev cX7_number : ByteArray := prog_9_method_17_code
def yX7_number : MethodName := ⟨RX7, "number", "(II)I"⟩
abbrev cX7_of : ByteArray := prog_9_method_41_code
def yX7_of : MethodName := ⟨RX7, "of", "(II)I"⟩
abbrev cX7_opensBar : ByteArray := prog_9_method_88_code
def yX7_opensBar : MethodName := ⟨RX7, "opensBar", "()V"⟩
abbrev cX7_ownHere : ByteArray := prog_9_method_18_code
def yX7_ownHere : MethodName := ⟨RX7, "ownHere", "()I"⟩
abbrev cX7_part : ByteArray := prog_9_method_98_code
def yX7_part : MethodName := ⟨RX7, "part", "(III)I"⟩
abbrev cX7_partAt : ByteArray := prog_9_method_52_code
def yX7_partAt : MethodName := ⟨RX7, "partAt", "(III)I"⟩
abbrev cX7_partOf : ByteArray := prog_9_method_64_code
def yX7_partOf : MethodName := ⟨RX7, "partOf", "(III)I"⟩
abbrev cX7_partTold : ByteArray := prog_9_method_28_code
def yX7_partTold : MethodName := ⟨RX7, "partTold", "()I"⟩
abbrev cX7_partsOf : ByteArray := prog_9_method_31_code
def yX7_partsOf : MethodName := ⟨RX7, "partsOf", "(I)I"⟩
abbrev cX7_partsWays : ByteArray := prog_9_method_79_code
def yX7_partsWays : MethodName := ⟨RX7, "partsWays", "(III)V"⟩
abbrev cX7_passes : ByteArray := prog_9_method_20_code
def yX7_passes : MethodName := ⟨RX7, "passes", "()V"⟩
abbrev cX7_poke : ByteArray := prog_9_method_130_code
def yX7_poke : MethodName := ⟨RX7, "poke", "(ZII)I"⟩
abbrev cX7_program : ByteArray := prog_9_method_37_code
def yX7_program : MethodName := ⟨RX7, "program", "()I"⟩
abbrev cX7_pushes : ByteArray := prog_9_method_56_code
def yX7_pushes : MethodName := ⟨RX7, "pushes", "(IIII)V"⟩
abbrev cX7_putsAside : ByteArray := prog_9_method_104_code
def yX7_putsAside : MethodName := ⟨RX7, "putsAside", "()V"⟩
abbrev cX7_raced : ByteArray := prog_9_method_101_code
def yX7_raced : MethodName := ⟨RX7, "raced", "(ZI)I"⟩
abbrev cX7_racedMany : ByteArray := prog_9_method_91_code
def yX7_racedMany : MethodName := ⟨RX7, "racedMany", "()I"⟩
abbrev cX7_reads : ByteArray := prog_9_method_68_code
def yX7_reads : MethodName := ⟨RX7, "reads", "(III)V"⟩
abbrev cX7_refuses : ByteArray := prog_9_method_4_code
def yX7_refuses : MethodName := ⟨RX7, "refuses", "(I)I"⟩
abbrev cX7_registerAt : ByteArray := prog_9_method_50_code
def yX7_registerAt : MethodName := ⟨RX7, "registerAt", "(III)I"⟩
abbrev cX7_registerTold : ByteArray := prog_9_method_27_code
def yX7_registerTold : MethodName := ⟨RX7, "registerTold", "()I"⟩
abbrev cX7_seed : ByteArray := prog_9_method_133_code
def yX7_seed : MethodName := ⟨RX7, "seed", "(I)Z"⟩
abbrev cX7_segments : ByteArray := prog_9_method_70_code
def yX7_segments : MethodName := ⟨RX7, "segments", "(I)I"⟩
abbrev cX7_set : ByteArray := prog_9_method_131_code
def yX7_set : MethodName := ⟨RX7, "set", "(III)Z"⟩
abbrev cX7_skew : ByteArray := prog_9_method_118_code
def yX7_skew : MethodName := ⟨RX7, "skew", "(I)I"⟩
abbrev cX7_stands : ByteArray := prog_9_method_38_code
def yX7_stands : MethodName := ⟨RX7, "stands", "()V"⟩
abbrev cX7_statementTold : ByteArray := prog_9_method_35_code
def yX7_statementTold : MethodName := ⟨RX7, "statementTold", "()V"⟩
abbrev cX7_status : ByteArray := prog_9_method_8_code
def yX7_status : MethodName := ⟨RX7, "status", "(I)I"⟩
abbrev cX7_sumOf : ByteArray := prog_9_method_87_code
def yX7_sumOf : MethodName := ⟨RX7, "sumOf", "(I)I"⟩
abbrev cX7_takes : ByteArray := prog_9_method_21_code
def yX7_takes : MethodName := ⟨RX7, "takes", "(I)Z"⟩
abbrev cX7_takes0 : ByteArray := prog_9_method_73_code
def yX7_takes0 : MethodName := ⟨RX7, "takes0", "(III)I"⟩
abbrev cX7_takesBack : ByteArray := prog_9_method_105_code
def yX7_takesBack : MethodName := ⟨RX7, "takesBack", "()V"⟩
abbrev cX7_takesSign : ByteArray := prog_9_method_15_code
def yX7_takesSign : MethodName := ⟨RX7, "takesSign", "(I)Z"⟩
abbrev cX7_tells : ByteArray := prog_9_method_126_code
def yX7_tells : MethodName := ⟨RX7, "tells", "(I)I"⟩
abbrev cX7_together : ByteArray := prog_9_method_60_code
def yX7_together : MethodName := ⟨RX7, "together", "(I)I"⟩
abbrev cX7_told : ByteArray := prog_9_method_113_code
def yX7_told : MethodName := ⟨RX7, "told", "(I)I"⟩
abbrev cX7_top : ByteArray := prog_9_method_53_code
def yX7_top : MethodName := ⟨RX7, "top", "(I)I"⟩
abbrev cX7_touches : ByteArray := prog_9_method_75_code
def yX7_touches : MethodName := ⟨RX7, "touches", "(IIZ)V"⟩
abbrev cX7_undo : ByteArray := prog_9_method_128_code
def yX7_undo : MethodName := ⟨RX7, "undo", "()Z"⟩
abbrev cX7_unlike : ByteArray := prog_9_method_125_code
def yX7_unlike : MethodName := ⟨RX7, "unlike", "()I"⟩
abbrev cX7_warp : ByteArray := prog_9_method_97_code
def yX7_warp : MethodName := ⟨RX7, "warp", "(II)I"⟩
abbrev cX7_warpAt : ByteArray := prog_9_method_48_code
def yX7_warpAt : MethodName := ⟨RX7, "warpAt", "(II)I"⟩
abbrev cX7_warps : ByteArray := prog_9_method_40_code
def yX7_warps : MethodName := ⟨RX7, "warps", "()I"⟩
abbrev cX7_word : ByteArray := prog_9_method_100_code
def yX7_word : MethodName := ⟨RX7, "word", "(ZI)I"⟩
abbrev cX7_wordOf : ByteArray := prog_9_method_99_code
def yX7_wordOf : MethodName := ⟨RX7, "wordOf", "(ZI)I"⟩
abbrev cX7_works : ByteArray := prog_9_method_76_code
def yX7_works : MethodName := ⟨RX7, "works", "(III)V"⟩
abbrev vwCl : List vw_C := [(RX0, TX0, 14), (RX1, TX1, 12), (RX2, TX2, 7), (RX3, TX3, 15), (RX4, TX4, 15), (RX5, TX5, 11), (RX6, TX6, 14), (RX7, TX7, 34)]
def Tc0 : List Cond := [Cond.code objectInit ⟨#[0xb1]⟩ 1 none, Cond.code yX5_init cX5_init 1 none, Cond.code yX1_init cX1_init 1 none, Cond.code yX4_init cX4_init 2 none, Cond.code yX1_take cX1_take 2 none, Cond.code yX3_init cX3_init 1 none, Cond.code yX2_init cX2_init 1 none, Cond.code yX0_init cX0_init 1 none, Cond.code yX0_take cX0_take 2 none, Cond.code yX6_layBytes cX6_layBytes 3 none, Cond.code yX6_refuse cX6_refuse 2 (some .int), Cond.code yJ7_fill_53178 cJ7_fill_53178 4 none, Cond.code yX2_clear cX2_clear 1 none, Cond.code yX3_scan cX3_scan 3 none, Cond.code yX3_fail cX3_fail 3 (some .boolean), Cond.code yX3_read cX3_read 6 (some .boolean), Cond.code yX6_hasWarp cX6_hasWarp 2 (some .boolean), Cond.code yX6_hasLane cX6_hasLane 3 (some .boolean), Cond.code yX6_hasWord cX6_hasWord 3 (some .boolean), Cond.code Lib.Math.min.name Lib.Math.min.code 2 (some .int), Cond.code yX7_isRefused cX7_isRefused 2 (some .boolean), Cond.code yX7_isIn cX7_isIn 6 (some .boolean), Cond.code yX7_look cX7_look 1 (some .int), Cond.code yX7_isLetter cX7_isLetter 1 (some .boolean), Cond.code yX7_isWordHere cX7_isWordHere 1 (some .boolean)]
def Tc1 : List Cond := [Cond.code yX7_ownHere cX7_ownHere 5 (some .int), Cond.code yX7_takes cX7_takes 2 (some .boolean), Cond.code yX7_fail cX7_fail 3 none, Cond.code yX7_drafted cX7_drafted 1 (some .int), Cond.code yX7_asks cX7_asks 2 none, Cond.code yX7_number cX7_number 5 (some .int), Cond.code yX7_asksSign cX7_asksSign 2 none, Cond.code yX7_joins cX7_joins 4 none, Cond.code yX7_refuses cX7_refuses 2 (some .int), Cond.code yX7_isWarp cX7_isWarp 2 (some .boolean), Cond.code yX7_isLane cX7_isLane 3 (some .boolean), Cond.code yX7_wordOf cX7_wordOf 3 (some .int), Cond.code yX6_feed cX6_feed 6 (some .int), Cond.code yX7_feed cX7_feed 8 (some .int), Cond.code yX6_end cX6_end 2 (some .boolean), Cond.code yX7_end cX7_end 2 (some .boolean), Cond.code yX6_program cX6_program 3 (some .int), Cond.code yX7_program cX7_program 2 (some .int), Cond.code yX6_fault cX6_fault 2 (some .int), Cond.code yX7_fault cX7_fault 2 (some .int), Cond.code yX6_has cX6_has 2 (some .int), Cond.code yX7_has cX7_has 2 (some .int), Cond.code yX6_line cX6_line 3 (some .int), Cond.code yX7_line cX7_line 3 (some .int), Cond.code yX6_lane cX6_lane 6 (some .int)]
def Tc2 : List Cond := [Cond.code yX7_lane cX7_lane 4 (some .int), Cond.code yX6_warp cX6_warp 4 (some .int), Cond.code yX7_warp cX7_warp 3 (some .int), Cond.code yX6_part cX6_part 5 (some .int), Cond.code yX7_part cX7_part 4 (some .int), Cond.code yX6_word cX6_word 3 (some .int), Cond.code yX7_word cX7_word 4 (some .int), Cond.code yX6_raced cX6_raced 3 (some .int), Cond.code yX7_raced cX7_raced 4 (some .int), Cond.code yX6_kept cX6_kept 4 (some .int), Cond.code yX7_kept cX7_kept 3 (some .int), Cond.code yX6_next cX6_next 2 (some .int), Cond.code yX7_next cX7_next 3 (some .int), Cond.code yX6_goes cX6_goes 2 (some .int), Cond.code yX7_goes cX7_goes 2 (some .int), Cond.code yX6_later cX6_later 6 (some .int), Cond.code yX7_later cX7_later 6 (some .int), Cond.code yX6_by cX6_by 4 (some .int), Cond.code yX7_by cX7_by 4 (some .int), Cond.code yX6_skew cX6_skew 9 (some .int), Cond.code yX7_skew cX7_skew 6 (some .int), Cond.code yX6_alone cX6_alone 4 (some .int), Cond.code yX7_alone cX7_alone 4 (some .int), Cond.code yX6_agrees cX6_agrees 4 (some .int), Cond.code yX7_agrees cX7_agrees 3 (some .int)]
def Tc3 : List Cond := [Cond.code yX6_likely cX6_likely 6 (some .int), Cond.code yX7_likely cX7_likely 6 (some .int), Cond.code yX6_tells cX6_tells 6 (some .int), Cond.code yX7_tells cX7_tells 5 (some .int), Cond.code yX6_cycles cX6_cycles 2 (some .int), Cond.code yX7_cycles cX7_cycles 4 (some .int), Cond.code yX6_poke cX6_poke 6 (some .int), Cond.code yX7_poke cX7_poke 6 (some .int), Cond.code yX6_set cX6_set 4 (some .boolean), Cond.code yX7_set cX7_set 4 (some .boolean), Cond.code yX6_begin cX6_begin 1 (some .boolean), Cond.code yX7_begin cX7_begin 1 (some .boolean), Cond.code yX6_chance cX6_chance 6 (some .int), Cond.code yX7_chance cX7_chance 7 (some .int), Cond.code yX6_undo cX6_undo 1 (some .boolean), Cond.code yX7_undo cX7_undo 2 (some .boolean), Cond.code yX6_seed cX6_seed 2 (some .boolean), Cond.code yX7_seed cX7_seed 2 (some .boolean), Cond.code yX6_status cX6_status 2 (some .int), Cond.code yX7_status cX7_status 2 (some .int), Cond.code yX6_init cX6_init 2 none, Cond.code yX7_init cX7_init 1 none, Cond.code yJ0_isLatin1_aae02 cJ0_isLatin1_aae02 1 (some .boolean), Cond.code yJ1_charAt_3b067 cJ1_charAt_3b067 2 (some .char), Cond.code yJ2_charAt_3b067 cJ2_charAt_3b067 2 (some .char)]
def Tc4 : List Cond := [Cond.code yJ3_checkIndex_8e157 cJ3_checkIndex_8e157 3 (some .int), Cond.code yJ0_coder_7d493 cJ0_coder_7d493 1 (some .byte), Cond.code yJ0_checkIndex_df160 cJ0_checkIndex_df160 2 none, Cond.code yJ2_checkIndex_2214a cJ2_checkIndex_2214a 2 none, Cond.code yJ2_getChar_3b067 cJ2_getChar_3b067 2 (some .char), Cond.code yJ2_length_9d52b cJ2_length_9d52b 1 (some .int), Cond.code yX4_lay cX4_lay 4 none, Cond.code yX4_restart cX4_restart 3 none, Cond.code yX4_copyFrom cX4_copyFrom 3 none, Cond.code yX1_step cX1_step 3 (some .boolean), Cond.code yX0_cyclesToRest cX0_cyclesToRest 3 (some .int), Cond.code yX4_hasEnded cX4_hasEnded 3 (some .boolean), Cond.code yX0_roundFromHere cX0_roundFromHere 2 (some .int), Cond.code yX0_firstAgain cX0_firstAgain 4 (some .int), Cond.code yX4_hasNoneToGo cX4_hasNoneToGo 3 (some .boolean), Cond.code yX4_isLike cX4_isLike 3 (some .boolean), Cond.code yX0_begun cX0_begun 4 (some (.object "LaneWarps$State")), Cond.code yX4_leaveAlone cX4_leaveAlone 5 none, Cond.code yX0_cyclesWith cX0_cyclesWith 3 (some .int), Cond.code Lib.Math.max.name Lib.Math.max.code 2 (some .int), Cond.code yX1_valueOf cX1_valueOf 3 (some .int), Cond.code yX4_touch cX4_touch 4 none, Cond.code yX1_pickWarp cX1_pickWarp 4 (some .boolean), Cond.code yX1_pickLanes cX1_pickLanes 3 none, Cond.code yX1_measure cX1_measure 4 none]
def Tc5 : List Cond := [Cond.code yX1_goesNow cX1_goesNow 2 (some .boolean), Cond.code yX1_holds cX1_holds 4 (some .boolean), Cond.code yJ9_floorMod_7cf53 cJ9_floorMod_7cf53 3 (some .int), Cond.code yJ6_bitCount_0f7a4 cJ6_bitCount_0f7a4 1 (some .int), Cond.code yX1_mostInOneBank cX1_mostInOneBank 6 (some .int), Cond.code yX1_segments cX1_segments 3 (some .int), Cond.code yX1_goers cX1_goers 3 (some .int), Cond.code yX1_lineBehind cX1_lineBehind 1 (some .int), Cond.code yX5_moveLane cX5_moveLane 4 none, Cond.code yX5_moveTop cX5_moveTop 2 none, Cond.code yX5_splitTop cX5_splitTop 7 none, Cond.code yX5_yieldTop cX5_yieldTop 5 none, Cond.code yX5_settle cX5_settle 6 none, Cond.code yX5_movable cX5_movable 3 (some .int), Cond.code yX4_canGo cX4_canGo 2 (some .boolean), Cond.code yX1_foresee cX1_foresee 2 (some .boolean), Cond.code yX1_keepLine cX1_keepLine 2 none, Cond.code yX1_work cX1_work 3 none, Cond.code yX1_moveTop cX1_moveTop 2 none, Cond.code yX1_moveEach cX1_moveEach 4 none, Cond.code yX4_passBarIfAllWait cX4_passBarIfAllWait 5 none, Cond.code yX1_result cX1_result 5 (some .int), Cond.code yX1_bounded cX1_bounded 1 (some .int), Cond.code yX1_ask cX1_ask 8 none, Cond.code yX2_findPassed cX2_findPassed 8 none]
def Tc6 : List Cond := [Cond.code yX2_meetOf cX2_meetOf 6 (some .int), Cond.code yJ7_fill_d0a16 cJ7_fill_d0a16 5 none, Cond.code yX2_passedBehind cX2_passedBehind 5 (some .long), Cond.code yX3_lineNamed cX3_lineNamed 7 (some .int), Cond.code yX3_readName cX3_readName 1 (some .boolean), Cond.code yX3_readSign cX3_readSign 2 (some .boolean), Cond.code yX2_addLine cX2_addLine 2 none, Cond.code yJ0_length_8abf5 cJ0_length_8abf5 1 (some .int), Cond.code yJ0_charAt_5068e cJ0_charAt_5068e 2 (some .char), Cond.code yX3_readStatement cX3_readStatement 5 (some .boolean), Cond.code yX3_aimAll cX3_aimAll 3 (some .boolean), Cond.code yX3_readNumber cX3_readNumber 4 (some .int), Cond.code yX3_readOwn cX3_readOwn 4 (some .int), Cond.code yX2_latest cX2_latest 1 (some (.array .int)), Cond.code yX3_readComparison cX3_readComparison 2 (some .int), Cond.code yX3_openLine cX3_openLine 3 (some .boolean), Cond.code yX3_piecesOf cX3_piecesOf 1 (some (.object "java/lang/String")), Cond.code yJ0_isEmpty_aae02 cJ0_isEmpty_aae02 1 (some .boolean), Cond.code yX3_readPiece cX3_readPiece 2 (some .boolean), Cond.code yX3_isLetter cX3_isLetter 1 (some .boolean), Cond.code yX3_scanWord cX3_scanWord 1 none, Cond.code yX3_ownWord cX3_ownWord 6 (some .int), Cond.code yX3_isDigit cX3_isDigit 1 (some .boolean), Cond.code yX3_scanNumber cX3_scanNumber 1 none, Cond.code yX5_copyFrom cX5_copyFrom 2 none]
def Tc7 : List Cond := [Cond.code yX4_restOfReady cX4_restOfReady 2 (some .int), Cond.code yX5_isLike cX5_isLike 3 (some .boolean), Cond.code yX6_areLike cX6_areLike 3 (some .boolean), Cond.code yX5_restart cX5_restart 4 none, Cond.code yX5_passBar cX5_passBar 5 none, Cond.code yX5_layPart cX5_layPart 4 none, Cond.code yX0_tryBy cX0_tryBy 4 none, Cond.code yX0_tryLane cX0_tryLane 8 none, Cond.code yX6_isAsAlone cX6_isAsAlone 4 (some .boolean), Cond.code yX0_solo cX0_solo 4 (some .int), Cond.code yX6_keepForUndo cX6_keepForUndo 1 none, Cond.code yX6_isMode cX6_isMode 1 (some .boolean), Cond.code yX6_isOrder cX6_isOrder 1 (some .boolean), Cond.code yX6_layout cX6_layout 3 (some .int), Cond.code yX0_course cX0_course 7 (some .int), Cond.code yX6_draw cX6_draw 2 (some .int), Cond.code yX6_run cX6_run 4 (some .int), Cond.code yX4_living cX4_living 3 (some .int), Cond.code yX4_waiting cX4_waiting 3 (some .int), Cond.code yX4_racedWords cX4_racedWords 3 (some .int), Cond.code yX0_forgetAhead cX0_forgetAhead 1 none, Cond.code yX5_lineOf cX5_lineOf 5 (some .int), Cond.code yX0_behind cX0_behind 4 (some (.object "LaneWarps$State")), Cond.code yX0_tryWord cX0_tryWord 6 none, Cond.code yX2_findMeets cX2_findMeets 2 none]
def Tc8 : List Cond := [Cond.code yX0_unlike cX0_unlike 6 (some .int), Cond.code yX7_goer cX7_goer 3 (some .int), Cond.code yX7_goes0 cX7_goes0 6 none, Cond.code yX7_opensBar cX7_opensBar 4 none, Cond.code yX7_warps cX7_warps 1 (some .int), Cond.code yX7_doesAgree cX7_doesAgree 4 (some .boolean), Cond.code yX7_flag cX7_flag 1 (some .int), Cond.code yX7_isAlone cX7_isAlone 4 (some .boolean), Cond.code yX7_takesSign cX7_takesSign 2 (some .boolean), Cond.code yX7_keeps cX7_keeps 2 none, Cond.code yX7_begins cX7_begins 5 none, Cond.code yX7_warpAt cX7_warpAt 2 (some .int), Cond.code yX7_nextAt cX7_nextAt 2 (some .int), Cond.code yX7_isOf cX7_isOf 2 (some .boolean), Cond.code yX7_lines cX7_lines 1 (some .int), Cond.code yX7_pushes cX7_pushes 6 none, Cond.code yX7_putsAside cX7_putsAside 2 none, Cond.code yX7_goesOn cX7_goesOn 1 none, Cond.code yX7_takesBack cX7_takesBack 2 none, Cond.code yX7_told cX7_told 2 (some .int), Cond.code yX7_its cX7_its 3 (some .int), Cond.code yX7_together cX7_together 6 (some .int), Cond.code yX7_drawOf cX7_drawOf 2 (some .int), Cond.code yX7_aCycle cX7_aCycle 2 none, Cond.code yX7_top cX7_top 2 (some .int)]
def Tc9 : List Cond := [Cond.code yX7_partAt cX7_partAt 3 (some .int), Cond.code yX7_bankOf cX7_bankOf 2 (some .int), Cond.code yX7_isAsked cX7_isAsked 4 (some .boolean), Cond.code yX7_endsTop cX7_endsTop 3 none, Cond.code yX7_registerAt cX7_registerAt 3 (some .int), Cond.code yX7_isEnded cX7_isEnded 1 (some .boolean), Cond.code yX7_dies cX7_dies 4 none, Cond.code yX7_name cX7_name 2 (some .int), Cond.code yX7_lays cX7_lays 3 none, Cond.code yX7_partTold cX7_partTold 2 (some .int), Cond.code yX7_canGo cX7_canGo 2 (some .boolean), Cond.code yX7_lineOf cX7_lineOf 4 (some .int), Cond.code yX7_of cX7_of 3 (some .int), Cond.code yX7_takes0 cX7_takes0 7 (some .int), Cond.code yX7_keepsLine cX7_keepsLine 6 none, Cond.code yX7_works cX7_works 11 none, Cond.code yX7_goesFair cX7_goesFair 7 none, Cond.code yX7_goesByStack cX7_goesByStack 5 none, Cond.code yX7_partsWays cX7_partsWays 7 none, Cond.code yX7_changesParts cX7_changesParts 5 none, Cond.code yX7_clears cX7_clears 3 none, Cond.code yX7_holding cX7_holding 6 (some .int), Cond.code yX7_nexts cX7_nexts 5 none, Cond.code yX7_comesTo cX7_comesTo 3 none, Cond.code yX7_isFork cX7_isFork 2 (some .boolean)]
def Tc10 : List Cond := [Cond.code yX7_isOver cX7_isOver 3 (some .boolean), Cond.code yX7_sumOf cX7_sumOf 4 (some .int), Cond.code yX7_racedMany cX7_racedMany 3 (some .int), Cond.code yX7_partsOf cX7_partsOf 1 (some .int), Cond.code yX7_endsBehind cX7_endsBehind 2 (some .int), Cond.code yX7_modulo cX7_modulo 5 (some .int), Cond.code yX7_goesFrom cX7_goesFrom 4 none, Cond.code yX7_isEndReached cX7_isEndReached 4 (some .boolean), Cond.code yX7_lineAt cX7_lineAt 2 (some .int), Cond.code yX7_isStuck cX7_isStuck 2 (some .boolean), Cond.code yX7_laysState cX7_laysState 7 none, Cond.code yX7_likeOf cX7_likeOf 3 (some .int), Cond.code yX7_nextOf cX7_nextOf 4 (some .int), Cond.code yX7_areAlike cX7_areAlike 4 (some .boolean), Cond.code yX7_laysEnds cX7_laysEnds 3 none, Cond.code yX7_isNamed cX7_isNamed 3 (some .boolean), Cond.code yX7_lineTold cX7_lineTold 4 none, Cond.code yX7_passes cX7_passes 1 none, Cond.code yX7_hasRegister cX7_hasRegister 1 (some .boolean), Cond.code yX7_registerTold cX7_registerTold 2 (some .int), Cond.code yX7_goTold cX7_goTold 3 none, Cond.code yX7_bounded cX7_bounded 2 (some .int), Cond.code yX7_isFirst cX7_isFirst 4 (some .boolean), Cond.code yX7_isDigit cX7_isDigit 1 (some .boolean), Cond.code yX7_isLike cX7_isLike 4 (some .boolean)]
def Tc11 : List Cond := [Cond.code yX7_laysPart cX7_laysPart 5 none, Cond.code yX7_statementTold cX7_statementTold 5 none, Cond.code yX7_stands cX7_stands 2 none, Cond.code yX7_hasFirst cX7_hasFirst 1 (some .boolean), Cond.code yX7_partOf cX7_partOf 4 (some .int), Cond.code yX7_meetOf cX7_meetOf 3 (some .int), Cond.code yX7_lineBegins cX7_lineBegins 4 none, Cond.code yX7_count cX7_count 3 (some .int), Cond.code yX7_reads cX7_reads 6 none, Cond.code yX7_segments cX7_segments 5 (some .int), Cond.code yX7_clashes cX7_clashes 6 (some .int), Cond.code yX7_unlike cX7_unlike 5 (some .int), Cond.code yX7_touches cX7_touches 6 none, Cond.code yX7_made cX7_made 3 (some .int)]
def Tc12 : List Cond := [Cond.methodLink RX5 3 objectInit, Cond.instanceMethod objectInit, Cond.arrayClass .int, Cond.fieldLink RX5 9 "LaneWarps$Warp" "registers" "[I", Cond.fieldLink RX5 15 "LaneWarps$Warp" "lines" "[I", Cond.fieldLink RX5 18 "LaneWarps$Warp" "partLine" "[I", Cond.fieldLink RX5 21 "LaneWarps$Warp" "partMeets" "[I", Cond.fieldLink RX5 24 "LaneWarps$Warp" "partLanes" "[I", Cond.methodLink RX4 3 objectInit, Cond.classLink RX4 9 RX5, Cond.fieldLink RX4 11 "LaneWarps$State" "warps" "[LLaneWarps$Warp;", Cond.fieldLink RX4 17 "LaneWarps$State" "far" "[I", Cond.fieldLink RX4 21 "LaneWarps$State" "near" "[I", Cond.fieldLink RX4 24 "LaneWarps$State" "touched" "[I", Cond.fieldLink RX4 27 "LaneWarps$State" "wrote" "[I", Cond.fieldLink RX4 30 "LaneWarps$State" "raced" "[I", Cond.fieldLink RX4 33 "LaneWarps$State" "kept" "[I", Cond.fieldLink RX4 36 "LaneWarps$State" "last" "I", Cond.instantiable RX5 11, Cond.initialized RX5, Cond.instanceMethod yX5_init, Cond.methodLink RX1 3 objectInit, Cond.fieldLink RX1 9 "LaneWarps$Machine" "addresses" "[I", Cond.fieldLink RX1 15 "LaneWarps$Machine" "inBank" "[I", Cond.fieldLink RX1 18 "LaneWarps$Machine" "program" "LLaneWarps$Program;", Cond.methodLink RX2 3 objectInit, Cond.classLink RX2 9 "[[I", Cond.fieldLink RX2 11 "LaneWarps$Program" "rows" "[[I", Cond.fieldLink RX2 16 "LaneWarps$Program" "far" "[I", Cond.arrayClass .long, Cond.fieldLink RX2 20 "LaneWarps$Program" "passed" "[J", Cond.methodLink RX3 3 objectInit, Cond.fieldLink RX3 9 "LaneWarps$Reader" "nameAt" "[I", Cond.fieldLink RX3 15 "LaneWarps$Reader" "nameEnd" "[I", Cond.fieldLink RX3 18 "LaneWarps$Reader" "aimAt" "[I", Cond.fieldLink RX3 21 "LaneWarps$Reader" "aimEnd" "[I", Cond.fieldLink RX3 24 "LaneWarps$Reader" "place" "I", Cond.methodLink RX0 3 objectInit, Cond.classLink RX0 9 RX1, Cond.instantiable RX1 12]
def Tc13 : List Cond := [Cond.initialized RX1, Cond.instanceMethod yX1_init, Cond.fieldLink RX0 12 "LaneWarps$Forecast" "machine" "LLaneWarps$Machine;", Cond.classLink RX0 18 RX4, Cond.instantiable RX4 15, Cond.initialized RX4, Cond.methodLink RX0 20 yX4_init, Cond.instanceMethod yX4_init, Cond.fieldLink RX0 21 "LaneWarps$Forecast" "origin" "LLaneWarps$State;", Cond.fieldLink RX0 25 "LaneWarps$Forecast" "scout" "LLaneWarps$State;", Cond.fieldLink RX0 28 "LaneWarps$Forecast" "trail" "LLaneWarps$State;", Cond.fieldLink RX0 31 "LaneWarps$Forecast" "courses" "[I", Cond.fieldLink RX0 35 "LaneWarps$Forecast" "ends" "[I", Cond.fieldLink RX0 38 "LaneWarps$Forecast" "solos" "[I", Cond.fieldLink RX0 41 "LaneWarps$Forecast" "program" "LLaneWarps$Program;", Cond.methodLink RX0 45 yX1_take, Cond.instanceMethod yX1_take, Cond.selects RX1 yX1_take yX1_take, Cond.fieldLink RX0 49 "LaneWarps$Forecast" "coursesKnown" "I", Cond.fieldLink RX0 53 "LaneWarps$Forecast" "endsKnown" "J", Cond.fieldLink RX0 57 "LaneWarps$Forecast" "solosKnown" "I", Cond.methodLink RX6 3 objectInit, Cond.arrayClass .byte, Cond.fieldLink RX6 9 "LaneWarps" "tape" "[B", Cond.classLink RX6 13 RX3, Cond.instantiable RX3 15, Cond.initialized RX3, Cond.instanceMethod yX3_init, Cond.fieldLink RX6 16 "LaneWarps" "reader" "LLaneWarps$Reader;", Cond.classLink RX6 20 RX2, Cond.instantiable RX2 7, Cond.initialized RX2, Cond.instanceMethod yX2_init, Cond.fieldLink RX6 23 "LaneWarps" "current" "LLaneWarps$Program;", Cond.fieldLink RX6 27 "LaneWarps" "spare" "LLaneWarps$Program;", Cond.classLink RX6 30 RX4, Cond.methodLink RX6 32 yX4_init, Cond.fieldLink RX6 33 "LaneWarps" "now" "LLaneWarps$State;", Cond.fieldLink RX6 37 "LaneWarps" "past" "[LLaneWarps$State;", Cond.classLink RX6 41 RX1]
def Tc14 : List Cond := [Cond.fieldLink RX6 44 "LaneWarps" "machine" "LLaneWarps$Machine;", Cond.classLink RX6 48 RX0, Cond.instantiable RX0 14, Cond.initialized RX0, Cond.instanceMethod yX0_init, Cond.fieldLink RX6 51 "LaneWarps" "forecast" "LLaneWarps$Forecast;", Cond.fieldLink RX6 55 "LaneWarps" "refused" "[I", Cond.fieldLink RX6 59 "LaneWarps" "drawn" "J", Cond.methodLink RX6 63 yX1_take, Cond.methodLink RX6 67 yX0_take, Cond.instanceMethod yX0_take, Cond.selects RX0 yX0_take yX0_take, Cond.fieldLink RX6 68 "LaneWarps" "bytes" "I", Cond.methodLink RX6 76 yX6_layBytes, Cond.instanceMethod yX6_layBytes, Cond.selects RX6 yX6_layBytes yX6_layBytes, Cond.initialized RX6, Cond.methodLink RX6 72 yX6_refuse, Cond.instanceMethod yX6_refuse, Cond.selects RX6 yX6_refuse yX6_refuse, Cond.initialized RJ7, Cond.methodLink RX2 24 yJ7_fill_53178, Cond.static yJ7_fill_53178, Cond.fieldLink RX2 30 "LaneWarps$Program" "lines" "I", Cond.fieldLink RX2 34 "LaneWarps$Program" "warps" "I", Cond.fieldLink RX2 37 "LaneWarps$Program" "mode" "I", Cond.fieldLink RX2 40 "LaneWarps$Program" "order" "I", Cond.fieldLink RX3 44 "LaneWarps$Reader" "kind" "I", Cond.fieldLink RX3 47 "LaneWarps$Reader" "to" "I", Cond.fieldLink RX3 71 "LaneWarps$Reader" "from" "I", Cond.fieldLink RX3 32 "LaneWarps$Reader" "length" "I", Cond.fieldLink RX3 74 "LaneWarps$Reader" "own" "I", Cond.fieldLink RX3 50 "LaneWarps$Reader" "fault" "I", Cond.fieldLink RX3 28 "LaneWarps$Reader" "text" "[B", Cond.fieldLink RX3 35 "LaneWarps$Reader" "into" "LLaneWarps$Program;", Cond.methodLink RX3 39 yX2_clear, Cond.instanceMethod yX2_clear, Cond.selects RX2 yX2_clear yX2_clear, Cond.methodLink RX3 53 yX3_scan, Cond.instanceMethod yX3_scan]
def Tc15 : List Cond := [Cond.selects RX3 yX3_scan yX3_scan, Cond.methodLink RX3 63 yX3_fail, Cond.instanceMethod yX3_fail, Cond.selects RX3 yX3_fail yX3_fail, Cond.methodLink RX6 80 yX3_read, Cond.instanceMethod yX3_read, Cond.selects RX3 yX3_read yX3_read, Cond.fieldLink RX6 87 "LaneWarps" "told" "Z", Cond.methodLink RX6 181 yX6_hasWarp, Cond.instanceMethod yX6_hasWarp, Cond.selects RX6 yX6_hasWarp yX6_hasWarp, Cond.constant RX6 155 (-1000000), Cond.methodLink RX6 160 yX6_hasLane, Cond.instanceMethod yX6_hasLane, Cond.selects RX6 yX6_hasLane yX6_hasLane, Cond.methodLink RX6 207 yX6_hasWord, Cond.instanceMethod yX6_hasWord, Cond.selects RX6 yX6_hasWord yX6_hasWord, Cond.methodLink RX6 135 Lib.Math.min.name, Cond.static Lib.Math.min.name, Cond.initialized "java/lang/Math", Cond.fieldLink RX6 104 "LaneWarps" "acts" "I", Cond.methodLink RX7 1 objectInit, Cond.fieldLink RX7 7 "LaneWarpsModel" "tape" "[I", Cond.fieldLink RX7 13 "LaneWarpsModel" "faultPlace" "I", Cond.fieldLink RX7 17 "LaneWarpsModel" "refused" "[I", Cond.arrayClass .char, Cond.fieldLink RX7 20 "LaneWarpsModel" "own" "[C", Cond.fieldLink RX7 24 "LaneWarpsModel" "draft" "[I", Cond.fieldLink RX7 27 "LaneWarpsModel" "program" "[I", Cond.fieldLink RX7 30 "LaneWarpsModel" "goPlace" "[I", Cond.arrayClass .boolean, Cond.fieldLink RX7 33 "LaneWarpsModel" "isCome" "[Z", Cond.fieldLink RX7 37 "LaneWarpsModel" "heap" "[I", Cond.fieldLink RX7 40 "LaneWarpsModel" "now" "[I", Cond.fieldLink RX7 43 "LaneWarpsModel" "first" "[I", Cond.fieldLink RX7 46 "LaneWarpsModel" "second" "[I", Cond.fieldLink RX7 49 "LaneWarpsModel" "behind" "[I", Cond.constant RX7 52 (191277), Cond.fieldLink RX7 53 "LaneWarpsModel" "states" "[I"]
def Tc16 : List Cond := [Cond.fieldLink RX7 56 "LaneWarpsModel" "alone0" "[I", Cond.fieldLink RX7 59 "LaneWarpsModel" "endsBy" "[I", Cond.fieldLink RX7 62 "LaneWarpsModel" "kept0" "[I", Cond.fieldLink RX7 65 "LaneWarpsModel" "seeded" "J", Cond.fieldLink RX7 69 "LaneWarpsModel" "taped" "I", Cond.methodLink RX7 76 yX7_isRefused, Cond.instanceMethod yX7_isRefused, Cond.selects RX7 yX7_isRefused yX7_isRefused, Cond.initialized RX7, Cond.constantLong RX7 80 (5), Cond.methodLink RX7 82 yX7_isIn, Cond.static yX7_isIn, Cond.fieldLink RX7 86 "LaneWarpsModel" "fault" "I", Cond.constantLong RX7 384 (13), Cond.fieldLink RX7 215 "LaneWarpsModel" "isTold" "Z", Cond.fieldLink RX7 95 "LaneWarpsModel" "at" "I", Cond.fieldLink RX7 98 "LaneWarpsModel" "end" "I", Cond.fieldLink RX7 89 "LaneWarpsModel" "bad" "I", Cond.methodLink RX7 101 yX7_look, Cond.instanceMethod yX7_look, Cond.selects RX7 yX7_look yX7_look, Cond.methodLink RX7 105 yX7_isLetter, Cond.static yX7_isLetter, Cond.methodLink RX7 121 yX7_isWordHere, Cond.instanceMethod yX7_isWordHere, Cond.selects RX7 yX7_isWordHere yX7_isWordHere, Cond.methodLink RX7 129 yX7_ownHere, Cond.instanceMethod yX7_ownHere, Cond.selects RX7 yX7_ownHere yX7_ownHere, Cond.fieldLink RX7 92 "LaneWarpsModel" "badPlace" "I", Cond.methodLink RX7 135 yX7_takes, Cond.instanceMethod yX7_takes, Cond.selects RX7 yX7_takes yX7_takes, Cond.methodLink RX7 114 yX7_fail, Cond.instanceMethod yX7_fail, Cond.selects RX7 yX7_fail yX7_fail, Cond.methodLink RX7 141 yX7_drafted, Cond.instanceMethod yX7_drafted, Cond.selects RX7 yX7_drafted yX7_drafted, Cond.fieldLink RX7 108 "LaneWarpsModel" "ended" "I"]
def Tc17 : List Cond := [Cond.methodLink RX7 196 yX7_asks, Cond.instanceMethod yX7_asks, Cond.selects RX7 yX7_asks yX7_asks, Cond.methodLink RX7 152 yX7_number, Cond.instanceMethod yX7_number, Cond.selects RX7 yX7_number yX7_number, Cond.methodLink RX7 182 yX7_asksSign, Cond.instanceMethod yX7_asksSign, Cond.selects RX7 yX7_asksSign yX7_asksSign, Cond.fieldLink RX7 189 "LaneWarpsModel" "statements" "I", Cond.methodLink RX7 206 yX7_joins, Cond.instanceMethod yX7_joins, Cond.selects RX7 yX7_joins yX7_joins, Cond.methodLink RX7 72 yX7_refuses, Cond.instanceMethod yX7_refuses, Cond.selects RX7 yX7_refuses yX7_refuses, Cond.methodLink RX7 391 yX7_isWarp, Cond.instanceMethod yX7_isWarp, Cond.selects RX7 yX7_isWarp yX7_isWarp, Cond.constant RX7 167 (-1000000), Cond.methodLink RX7 396 yX7_isLane, Cond.instanceMethod yX7_isLane, Cond.selects RX7 yX7_isLane yX7_isLane, Cond.methodLink RX7 404 yX7_wordOf, Cond.instanceMethod yX7_wordOf, Cond.selects RX7 yX7_wordOf yX7_wordOf, Cond.fieldLink RX7 228 "LaneWarpsModel" "undoable" "I", Cond.instanceMethod yX6_feed, Cond.selects RX6 yX6_feed yX6_feed, Cond.instanceMethod yX7_feed, Cond.selects RX7 yX7_feed yX7_feed, Cond.instanceMethod yX6_end, Cond.selects RX6 yX6_end yX6_end, Cond.instanceMethod yX7_end, Cond.selects RX7 yX7_end yX7_end, Cond.instanceMethod yX6_program, Cond.selects RX6 yX6_program yX6_program, Cond.instanceMethod yX7_program, Cond.selects RX7 yX7_program yX7_program, Cond.instanceMethod yX6_fault]
def Tc18 : List Cond := [Cond.selects RX6 yX6_fault yX6_fault, Cond.instanceMethod yX7_fault, Cond.selects RX7 yX7_fault yX7_fault, Cond.instanceMethod yX6_has, Cond.selects RX6 yX6_has yX6_has, Cond.instanceMethod yX7_has, Cond.selects RX7 yX7_has yX7_has, Cond.instanceMethod yX6_line, Cond.selects RX6 yX6_line yX6_line, Cond.instanceMethod yX7_line, Cond.selects RX7 yX7_line yX7_line, Cond.instanceMethod yX6_lane, Cond.selects RX6 yX6_lane yX6_lane, Cond.instanceMethod yX7_lane, Cond.selects RX7 yX7_lane yX7_lane, Cond.instanceMethod yX6_warp, Cond.selects RX6 yX6_warp yX6_warp, Cond.instanceMethod yX7_warp, Cond.selects RX7 yX7_warp yX7_warp, Cond.instanceMethod yX6_part, Cond.selects RX6 yX6_part yX6_part, Cond.instanceMethod yX7_part, Cond.selects RX7 yX7_part yX7_part, Cond.instanceMethod yX6_word, Cond.selects RX6 yX6_word yX6_word, Cond.instanceMethod yX7_word, Cond.selects RX7 yX7_word yX7_word, Cond.instanceMethod yX6_raced, Cond.selects RX6 yX6_raced yX6_raced, Cond.instanceMethod yX7_raced, Cond.selects RX7 yX7_raced yX7_raced, Cond.instanceMethod yX6_kept, Cond.selects RX6 yX6_kept yX6_kept, Cond.instanceMethod yX7_kept, Cond.selects RX7 yX7_kept yX7_kept, Cond.instanceMethod yX6_next, Cond.selects RX6 yX6_next yX6_next, Cond.instanceMethod yX7_next, Cond.selects RX7 yX7_next yX7_next, Cond.instanceMethod yX6_goes]
def Tc19 : List Cond := [Cond.selects RX6 yX6_goes yX6_goes, Cond.instanceMethod yX7_goes, Cond.selects RX7 yX7_goes yX7_goes, Cond.instanceMethod yX6_later, Cond.selects RX6 yX6_later yX6_later, Cond.instanceMethod yX7_later, Cond.selects RX7 yX7_later yX7_later, Cond.instanceMethod yX6_by, Cond.selects RX6 yX6_by yX6_by, Cond.instanceMethod yX7_by, Cond.selects RX7 yX7_by yX7_by, Cond.instanceMethod yX6_skew, Cond.selects RX6 yX6_skew yX6_skew, Cond.instanceMethod yX7_skew, Cond.selects RX7 yX7_skew yX7_skew, Cond.instanceMethod yX6_alone, Cond.selects RX6 yX6_alone yX6_alone, Cond.instanceMethod yX7_alone, Cond.selects RX7 yX7_alone yX7_alone, Cond.instanceMethod yX6_agrees, Cond.selects RX6 yX6_agrees yX6_agrees, Cond.instanceMethod yX7_agrees, Cond.selects RX7 yX7_agrees yX7_agrees, Cond.instanceMethod yX6_likely, Cond.selects RX6 yX6_likely yX6_likely, Cond.instanceMethod yX7_likely, Cond.selects RX7 yX7_likely yX7_likely, Cond.instanceMethod yX6_tells, Cond.selects RX6 yX6_tells yX6_tells, Cond.instanceMethod yX7_tells, Cond.selects RX7 yX7_tells yX7_tells, Cond.instanceMethod yX6_cycles, Cond.selects RX6 yX6_cycles yX6_cycles, Cond.instanceMethod yX7_cycles, Cond.selects RX7 yX7_cycles yX7_cycles, Cond.instanceMethod yX6_poke, Cond.selects RX6 yX6_poke yX6_poke, Cond.instanceMethod yX7_poke, Cond.selects RX7 yX7_poke yX7_poke, Cond.instanceMethod yX6_set]
def Tc20 : List Cond := [Cond.selects RX6 yX6_set yX6_set, Cond.instanceMethod yX7_set, Cond.selects RX7 yX7_set yX7_set, Cond.instanceMethod yX6_begin, Cond.selects RX6 yX6_begin yX6_begin, Cond.instanceMethod yX7_begin, Cond.selects RX7 yX7_begin yX7_begin, Cond.instanceMethod yX6_chance, Cond.selects RX6 yX6_chance yX6_chance, Cond.instanceMethod yX7_chance, Cond.selects RX7 yX7_chance yX7_chance, Cond.instanceMethod yX6_undo, Cond.selects RX6 yX6_undo yX6_undo, Cond.instanceMethod yX7_undo, Cond.selects RX7 yX7_undo yX7_undo, Cond.instanceMethod yX6_seed, Cond.selects RX6 yX6_seed yX6_seed, Cond.instanceMethod yX7_seed, Cond.selects RX7 yX7_seed yX7_seed, Cond.instanceMethod yX6_status, Cond.selects RX6 yX6_status yX6_status, Cond.instanceMethod yX7_status, Cond.selects RX7 yX7_status yX7_status, Cond.instantiable RX6 14, Cond.instantiable RX7 34, Cond.instanceMethod yX6_init, Cond.instanceMethod yX7_init, Cond.methodLink RJ0 492 yJ0_isLatin1_aae02, Cond.initialized RJ0, Cond.instanceMethod yJ0_isLatin1_aae02, Cond.selects RJ0 yJ0_isLatin1_aae02 yJ0_isLatin1_aae02, Cond.fieldLink RJ0 9 "java/lang/String" "value" "[B", Cond.methodLink RJ0 495 yJ1_charAt_3b067, Cond.initialized RJ1, Cond.static yJ1_charAt_3b067, Cond.methodLink RJ0 498 yJ2_charAt_3b067, Cond.initialized RJ2, Cond.static yJ2_charAt_3b067, Cond.fieldLink RJ0 1053 "jdk/internal/util/Preconditions" "SIOOBE_FORMATTER" "Ljava/util/function/BiFunction;", Cond.methodLink RJ0 1059 yJ3_checkIndex_8e157]
def Tc21 : List Cond := [Cond.initialized RJ3, Cond.static yJ3_checkIndex_8e157, Cond.fieldLink RJ0 38 "java/lang/String" "COMPACT_STRINGS" "Z", Cond.fieldLink RJ0 15 "java/lang/String" "coder" "B", Cond.methodLink RJ0 335 yJ0_coder_7d493, Cond.instanceMethod yJ0_coder_7d493, Cond.selects RJ0 yJ0_coder_7d493 yJ0_coder_7d493, Cond.methodLink RJ1 9 yJ0_checkIndex_df160, Cond.static yJ0_checkIndex_df160, Cond.methodLink RJ2 67 yJ2_checkIndex_2214a, Cond.static yJ2_checkIndex_2214a, Cond.methodLink RJ2 71 yJ2_getChar_3b067, Cond.static yJ2_getChar_3b067, Cond.methodLink RJ2 48 yJ2_length_9d52b, Cond.static yJ2_length_9d52b, Cond.methodLink RJ2 414 yJ0_checkIndex_df160, Cond.fieldLink RJ2 44 "java/lang/StringUTF16" "$assertionsDisabled" "Z", Cond.fieldLink RJ2 59 "java/lang/StringUTF16" "HI_BYTE_SHIFT" "I", Cond.fieldLink RJ2 63 "java/lang/StringUTF16" "LO_BYTE_SHIFT" "I", Cond.constant RJ6 265 (1431655765), Cond.constant RJ6 266 (858993459), Cond.constant RJ6 267 (252645135), Cond.classLink RL 7 RX6, Cond.methodLink RL 9 yX6_init, Cond.classLink RL 10 RX7, Cond.methodLink RL 12 yX7_init, Cond.methodLink RL 13 yX6_feed, Cond.methodLink RL 17 yX7_feed, Cond.methodLink RL 18 yX6_end, Cond.methodLink RL 22 yX7_end, Cond.methodLink RL 23 yX6_program, Cond.methodLink RL 27 yX7_program, Cond.methodLink RL 28 yX6_fault, Cond.methodLink RL 32 yX7_fault, Cond.methodLink RL 33 yX6_has, Cond.methodLink RL 36 yX7_has, Cond.methodLink RL 37 yX6_line, Cond.methodLink RL 41 yX7_line, Cond.methodLink RL 42 yX6_lane, Cond.methodLink RL 46 yX7_lane]
def Tc22 : List Cond := [Cond.methodLink RL 47 yX6_warp, Cond.methodLink RL 50 yX7_warp, Cond.methodLink RL 51 yX6_part, Cond.methodLink RL 54 yX7_part, Cond.methodLink RL 55 yX6_word, Cond.methodLink RL 59 yX7_word, Cond.methodLink RL 60 yX6_raced, Cond.methodLink RL 63 yX7_raced, Cond.methodLink RL 64 yX6_kept, Cond.methodLink RL 67 yX7_kept, Cond.methodLink RL 68 yX6_next, Cond.methodLink RL 71 yX7_next, Cond.methodLink RL 72 yX6_goes, Cond.methodLink RL 75 yX7_goes, Cond.methodLink RL 76 yX6_later, Cond.methodLink RL 80 yX7_later, Cond.methodLink RL 81 yX6_by, Cond.methodLink RL 84 yX7_by, Cond.methodLink RL 85 yX6_skew, Cond.methodLink RL 88 yX7_skew, Cond.methodLink RL 89 yX6_alone, Cond.methodLink RL 92 yX7_alone, Cond.methodLink RL 93 yX6_agrees, Cond.methodLink RL 96 yX7_agrees, Cond.methodLink RL 97 yX6_likely, Cond.methodLink RL 100 yX7_likely, Cond.methodLink RL 101 yX6_tells, Cond.methodLink RL 104 yX7_tells, Cond.methodLink RL 105 yX6_cycles, Cond.methodLink RL 108 yX7_cycles, Cond.methodLink RL 109 yX6_poke, Cond.methodLink RL 113 yX7_poke, Cond.methodLink RL 114 yX6_set, Cond.methodLink RL 118 yX7_set, Cond.methodLink RL 119 yX6_begin, Cond.methodLink RL 123 yX7_begin, Cond.methodLink RL 124 yX6_chance, Cond.methodLink RL 127 yX7_chance, Cond.methodLink RL 128 yX6_undo, Cond.methodLink RL 131 yX7_undo]
def Tc23 : List Cond := [Cond.methodLink RL 132 yX6_seed, Cond.methodLink RL 135 yX7_seed, Cond.methodLink RL 136 yX6_status, Cond.methodLink RL 139 yX7_status, Cond.methodLink RX0 78 yX4_lay, Cond.instanceMethod yX4_lay, Cond.selects RX4 yX4_lay yX4_lay, Cond.methodLink RX0 82 yX4_restart, Cond.instanceMethod yX4_restart, Cond.selects RX4 yX4_restart yX4_restart, Cond.methodLink RX0 70 yX4_copyFrom, Cond.instanceMethod yX4_copyFrom, Cond.selects RX4 yX4_copyFrom yX4_copyFrom, Cond.methodLink RX0 74 yX1_step, Cond.instanceMethod yX1_step, Cond.selects RX1 yX1_step yX1_step, Cond.methodLink RX0 85 yX0_cyclesToRest, Cond.instanceMethod yX0_cyclesToRest, Cond.selects RX0 yX0_cyclesToRest yX0_cyclesToRest, Cond.methodLink RX0 89 yX4_hasEnded, Cond.instanceMethod yX4_hasEnded, Cond.selects RX4 yX4_hasEnded yX4_hasEnded, Cond.methodLink RX0 93 yX0_roundFromHere, Cond.instanceMethod yX0_roundFromHere, Cond.selects RX0 yX0_roundFromHere yX0_roundFromHere, Cond.methodLink RX0 97 yX0_firstAgain, Cond.instanceMethod yX0_firstAgain, Cond.selects RX0 yX0_firstAgain yX0_firstAgain, Cond.methodLink RX0 101 yX4_hasNoneToGo, Cond.instanceMethod yX4_hasNoneToGo, Cond.selects RX4 yX4_hasNoneToGo yX4_hasNoneToGo, Cond.methodLink RX0 104 yX4_isLike, Cond.instanceMethod yX4_isLike, Cond.selects RX4 yX4_isLike yX4_isLike, Cond.constant RX0 60 (-65537), Cond.fieldLink RX0 61 "LaneWarps$Forecast" "mode" "I", Cond.fieldLink RX0 64 "LaneWarps$Forecast" "order" "I", Cond.fieldLink RX0 67 "LaneWarps$Forecast" "skew" "I", Cond.methodLink RX0 107 yX0_begun, Cond.instanceMethod yX0_begun]
def Tc24 : List Cond := [Cond.selects RX0 yX0_begun yX0_begun, Cond.methodLink RX0 126 yX4_leaveAlone, Cond.instanceMethod yX4_leaveAlone, Cond.selects RX4 yX4_leaveAlone yX4_leaveAlone, Cond.constant RX0 138 (-1000000), Cond.methodLink RX0 117 yX0_cyclesWith, Cond.instanceMethod yX0_cyclesWith, Cond.selects RX0 yX0_cyclesWith yX0_cyclesWith, Cond.fieldLink RX1 86 "LaneWarps$Machine" "row" "[I", Cond.methodLink RX1 125 Lib.Math.max.name, Cond.static Lib.Math.max.name, Cond.fieldLink RX1 68 "LaneWarps$Machine" "state" "LLaneWarps$State;", Cond.fieldLink RX1 29 "LaneWarps$Machine" "mover" "LLaneWarps$Warp;", Cond.methodLink RX1 145 yX1_valueOf, Cond.instanceMethod yX1_valueOf, Cond.selects RX1 yX1_valueOf yX1_valueOf, Cond.fieldLink RX1 198 "LaneWarps$Machine" "loaded" "J", Cond.fieldLink RX1 105 "LaneWarps$Machine" "warp" "I", Cond.methodLink RX1 202 yX4_touch, Cond.instanceMethod yX4_touch, Cond.selects RX4 yX4_touch yX4_touch, Cond.methodLink RX1 189 Lib.Math.min.name, Cond.methodLink RX1 72 yX1_pickWarp, Cond.instanceMethod yX1_pickWarp, Cond.selects RX1 yX1_pickWarp yX1_pickWarp, Cond.methodLink RX1 76 yX1_pickLanes, Cond.instanceMethod yX1_pickLanes, Cond.selects RX1 yX1_pickLanes yX1_pickLanes, Cond.fieldLink RX1 79 "LaneWarps$Machine" "line" "I", Cond.methodLink RX1 89 yX1_measure, Cond.instanceMethod yX1_measure, Cond.selects RX1 yX1_measure yX1_measure, Cond.methodLink RX1 142 yX1_goesNow, Cond.instanceMethod yX1_goesNow, Cond.selects RX1 yX1_goesNow yX1_goesNow, Cond.methodLink RX1 206 yX1_holds, Cond.instanceMethod yX1_holds, Cond.selects RX1 yX1_holds yX1_holds, Cond.fieldLink RX1 116 "LaneWarps$Machine" "lanes" "I", Cond.fieldLink RX1 39 "LaneWarps$Machine" "takes" "I"]
def Tc25 : List Cond := [Cond.methodLink RX1 148 yJ9_floorMod_7cf53, Cond.initialized RJ9, Cond.static yJ9_floorMod_7cf53, Cond.methodLink RX1 151 yJ6_bitCount_0f7a4, Cond.initialized RJ6, Cond.static yJ6_bitCount_0f7a4, Cond.methodLink RX1 156 yX1_mostInOneBank, Cond.instanceMethod yX1_mostInOneBank, Cond.selects RX1 yX1_mostInOneBank yX1_mostInOneBank, Cond.methodLink RX1 160 yX1_segments, Cond.instanceMethod yX1_segments, Cond.selects RX1 yX1_segments yX1_segments, Cond.methodLink RX1 163 yJ7_fill_53178, Cond.fieldLink RX1 134 "LaneWarps$Machine" "leader" "I", Cond.methodLink RX1 212 yX1_goers, Cond.instanceMethod yX1_goers, Cond.selects RX1 yX1_goers yX1_goers, Cond.methodLink RX1 215 yX1_lineBehind, Cond.instanceMethod yX1_lineBehind, Cond.selects RX1 yX1_lineBehind yX1_lineBehind, Cond.methodLink RX1 230 yX5_moveLane, Cond.instanceMethod yX5_moveLane, Cond.selects RX5 yX5_moveLane yX5_moveLane, Cond.methodLink RX1 218 yX5_moveTop, Cond.instanceMethod yX5_moveTop, Cond.selects RX5 yX5_moveTop yX5_moveTop, Cond.methodLink RX1 220 yX5_splitTop, Cond.instanceMethod yX5_splitTop, Cond.selects RX5 yX5_splitTop yX5_splitTop, Cond.methodLink RX1 224 yX5_yieldTop, Cond.instanceMethod yX5_yieldTop, Cond.selects RX5 yX5_yieldTop yX5_yieldTop, Cond.methodLink RX1 227 yX5_settle, Cond.instanceMethod yX5_settle, Cond.selects RX5 yX5_settle yX5_settle, Cond.methodLink RX1 112 yX5_movable, Cond.instanceMethod yX5_movable, Cond.selects RX5 yX5_movable yX5_movable, Cond.methodLink RX1 101 yX4_canGo, Cond.instanceMethod yX4_canGo]
def Tc26 : List Cond := [Cond.selects RX4 yX4_canGo yX4_canGo, Cond.methodLink RX1 22 yX1_foresee, Cond.instanceMethod yX1_foresee, Cond.selects RX1 yX1_foresee yX1_foresee, Cond.methodLink RX1 26 yX1_keepLine, Cond.instanceMethod yX1_keepLine, Cond.selects RX1 yX1_keepLine yX1_keepLine, Cond.methodLink RX1 47 yX1_work, Cond.instanceMethod yX1_work, Cond.selects RX1 yX1_work yX1_work, Cond.methodLink RX1 53 yX1_moveTop, Cond.instanceMethod yX1_moveTop, Cond.selects RX1 yX1_moveTop yX1_moveTop, Cond.methodLink RX1 56 yX1_moveEach, Cond.instanceMethod yX1_moveEach, Cond.selects RX1 yX1_moveEach yX1_moveEach, Cond.methodLink RX1 64 yX4_passBarIfAllWait, Cond.instanceMethod yX4_passBarIfAllWait, Cond.selects RX4 yX4_passBarIfAllWait yX4_passBarIfAllWait, Cond.methodLink RX1 179 yX1_result, Cond.instanceMethod yX1_result, Cond.selects RX1 yX1_result yX1_result, Cond.methodLink RX1 182 yX1_bounded, Cond.static yX1_bounded, Cond.methodLink RX1 185 yX1_ask, Cond.instanceMethod yX1_ask, Cond.selects RX1 yX1_ask yX1_ask, Cond.constant RX2 43 (-1000000), Cond.methodLink RX2 50 yX2_findPassed, Cond.instanceMethod yX2_findPassed, Cond.selects RX2 yX2_findPassed yX2_findPassed, Cond.methodLink RX2 53 yX2_meetOf, Cond.instanceMethod yX2_meetOf, Cond.selects RX2 yX2_meetOf yX2_meetOf, Cond.methodLink RX2 57 yJ7_fill_d0a16, Cond.static yJ7_fill_d0a16, Cond.methodLink RX2 60 yX2_passedBehind, Cond.instanceMethod yX2_passedBehind, Cond.selects RX2 yX2_passedBehind yX2_passedBehind, Cond.methodLink RX2 44 Lib.Math.max.name]
def Tc27 : List Cond := [Cond.methodLink RX3 103 yX3_lineNamed, Cond.instanceMethod yX3_lineNamed, Cond.selects RX3 yX3_lineNamed yX3_lineNamed, Cond.methodLink RX3 100 yX3_readName, Cond.instanceMethod yX3_readName, Cond.selects RX3 yX3_readName yX3_readName, Cond.methodLink RX3 107 yX3_readSign, Cond.instanceMethod yX3_readSign, Cond.selects RX3 yX3_readSign yX3_readSign, Cond.methodLink RX3 110 yX2_addLine, Cond.instanceMethod yX2_addLine, Cond.selects RX2 yX2_addLine yX2_addLine, Cond.methodLink RX3 89 yJ0_length_8abf5, Cond.instanceMethod yJ0_length_8abf5, Cond.selects RJ0 yJ0_length_8abf5 yJ0_length_8abf5, Cond.methodLink RX3 92 yJ0_charAt_5068e, Cond.instanceMethod yJ0_charAt_5068e, Cond.selects RJ0 yJ0_charAt_5068e yJ0_charAt_5068e, Cond.methodLink RX3 56 yX3_readStatement, Cond.instanceMethod yX3_readStatement, Cond.selects RX3 yX3_readStatement yX3_readStatement, Cond.methodLink RX3 67 yX3_aimAll, Cond.instanceMethod yX3_aimAll, Cond.selects RX3 yX3_aimAll yX3_aimAll, Cond.fieldLink RX3 169 "LaneWarps$Reader" "number" "I", Cond.methodLink RX3 136 yX3_readNumber, Cond.instanceMethod yX3_readNumber, Cond.selects RX3 yX3_readNumber yX3_readNumber, Cond.fieldLink RX3 142 "LaneWarps$Reader" "address" "I", Cond.methodLink RX3 148 Lib.Math.max.name, Cond.methodLink RX3 153 yX3_readOwn, Cond.instanceMethod yX3_readOwn, Cond.selects RX3 yX3_readOwn yX3_readOwn, Cond.methodLink RX3 162 yX2_latest, Cond.instanceMethod yX2_latest, Cond.selects RX2 yX2_latest yX2_latest, Cond.methodLink RX3 166 yX3_readComparison, Cond.instanceMethod yX3_readComparison, Cond.selects RX3 yX3_readComparison yX3_readComparison, Cond.methodLink RX3 77 yX3_openLine]
def Tc28 : List Cond := [Cond.instanceMethod yX3_openLine, Cond.selects RX3 yX3_openLine yX3_openLine, Cond.methodLink RX3 80 yX3_piecesOf, Cond.static yX3_piecesOf, Cond.methodLink RX3 84 yJ0_isEmpty_aae02, Cond.instanceMethod yJ0_isEmpty_aae02, Cond.selects RJ0 yJ0_isEmpty_aae02 yJ0_isEmpty_aae02, Cond.methodLink RX3 96 yX3_readPiece, Cond.instanceMethod yX3_readPiece, Cond.selects RX3 yX3_readPiece yX3_readPiece, Cond.methodLink RX3 176 yX3_isLetter, Cond.static yX3_isLetter, Cond.methodLink RX3 179 yX3_scanWord, Cond.instanceMethod yX3_scanWord, Cond.selects RX3 yX3_scanWord yX3_scanWord, Cond.methodLink RX3 182 yX3_ownWord, Cond.instanceMethod yX3_ownWord, Cond.selects RX3 yX3_ownWord yX3_ownWord, Cond.methodLink RX3 185 yX3_isDigit, Cond.static yX3_isDigit, Cond.methodLink RX3 188 yX3_scanNumber, Cond.instanceMethod yX3_scanNumber, Cond.selects RX3 yX3_scanNumber yX3_scanNumber, Cond.fieldLink RX4 70 "LaneWarps$State" "cycle" "I", Cond.fieldLink RX4 41 "LaneWarps$State" "mode" "I", Cond.methodLink RX4 114 yX5_movable, Cond.fieldLink RX4 54 "LaneWarps$State" "used" "I", Cond.fieldLink RX4 44 "LaneWarps$State" "order" "I", Cond.fieldLink RX4 47 "LaneWarps$State" "skew" "I", Cond.methodLink RX4 86 yX4_lay, Cond.fieldLink RX4 73 "LaneWarps$State" "done" "I", Cond.fieldLink RX4 76 "LaneWarps$State" "epochs" "I", Cond.methodLink RX4 58 arraycopyName, Cond.native arraycopyName, Cond.static arraycopyName, Cond.initialized "java/lang/System", Cond.methodLink RX4 89 yX5_copyFrom, Cond.instanceMethod yX5_copyFrom, Cond.selects RX5 yX5_copyFrom yX5_copyFrom, Cond.methodLink RX4 93 yX4_restOfReady]
def Tc29 : List Cond := [Cond.instanceMethod yX4_restOfReady, Cond.selects RX4 yX4_restOfReady yX4_restOfReady, Cond.methodLink RX4 97 yX5_isLike, Cond.instanceMethod yX5_isLike, Cond.selects RX5 yX5_isLike yX5_isLike, Cond.static yX6_areLike, Cond.methodLink RX4 82 yX5_restart, Cond.instanceMethod yX5_restart, Cond.selects RX5 yX5_restart yX5_restart, Cond.methodLink RX4 120 yJ6_bitCount_0f7a4, Cond.methodLink RX4 128 yX5_passBar, Cond.instanceMethod yX5_passBar, Cond.selects RX5 yX5_passBar yX5_passBar, Cond.methodLink RX4 64 yJ7_fill_53178, Cond.methodLink RX4 108 Lib.Math.max.name, Cond.methodLink RX5 56 arraycopyName, Cond.fieldLink RX5 49 "LaneWarps$Warp" "parts" "I", Cond.fieldLink RX5 33 "LaneWarps$Warp" "lives" "I", Cond.fieldLink RX5 37 "LaneWarps$Warp" "waits" "I", Cond.fieldLink RX5 40 "LaneWarps$Warp" "ready" "I", Cond.fieldLink RX5 43 "LaneWarps$Warp" "done" "I", Cond.fieldLink RX5 46 "LaneWarps$Warp" "turn" "I", Cond.methodLink RX5 66 yX5_moveTop, Cond.methodLink RX5 70 yX5_settle, Cond.methodLink RX5 73 yX5_moveLane, Cond.methodLink RX5 27 yJ7_fill_53178, Cond.methodLink RX5 52 yX5_layPart, Cond.instanceMethod yX5_layPart, Cond.selects RX5 yX5_layPart yX5_layPart, Cond.methodLink RX6 261 yX0_tryBy, Cond.instanceMethod yX0_tryBy, Cond.selects RX0 yX0_tryBy yX0_tryBy, Cond.methodLink RX6 264 yX0_tryLane, Cond.instanceMethod yX0_tryLane, Cond.selects RX0 yX0_tryLane yX0_tryLane, Cond.methodLink RX6 271 yX6_isAsAlone, Cond.instanceMethod yX6_isAsAlone, Cond.selects RX6 yX6_isAsAlone yX6_isAsAlone, Cond.methodLink RX6 268 yX0_solo, Cond.instanceMethod yX0_solo]
def Tc30 : List Cond := [Cond.selects RX0 yX0_solo yX0_solo, Cond.methodLink RX6 283 yX6_keepForUndo, Cond.instanceMethod yX6_keepForUndo, Cond.selects RX6 yX6_keepForUndo yX6_keepForUndo, Cond.methodLink RX6 101 yX4_restart, Cond.methodLink RX6 247 yX6_isMode, Cond.static yX6_isMode, Cond.methodLink RX6 250 yX6_isOrder, Cond.static yX6_isOrder, Cond.methodLink RX6 253 yX0_begun, Cond.methodLink RX6 257 yX6_layout, Cond.static yX6_layout, Cond.methodLink RX6 239 yX0_course, Cond.instanceMethod yX0_course, Cond.selects RX0 yX0_course yX0_course, Cond.methodLink RX6 289 yX6_draw, Cond.instanceMethod yX6_draw, Cond.selects RX6 yX6_draw yX6_draw, Cond.methodLink RX6 286 yX6_run, Cond.instanceMethod yX6_run, Cond.selects RX6 yX6_run yX6_run, Cond.constantLong RX6 305 (1103515245), Cond.constantLong RX6 307 (12345), Cond.constantLong RX6 309 (2147483647), Cond.constantLong RX6 311 (64), Cond.methodLink RX6 125 yX4_living, Cond.instanceMethod yX4_living, Cond.selects RX4 yX4_living yX4_living, Cond.methodLink RX6 129 yX4_waiting, Cond.instanceMethod yX4_waiting, Cond.selects RX4 yX4_waiting yX4_waiting, Cond.methodLink RX6 132 yX4_racedWords, Cond.instanceMethod yX4_racedWords, Cond.selects RX4 yX4_racedWords yX4_racedWords, Cond.methodLink RX6 152 Lib.Math.max.name, Cond.fieldLink RX6 292 "LaneWarps" "oldestAct" "I", Cond.methodLink RX6 295 yX4_copyFrom, Cond.methodLink RX6 299 yX0_forgetAhead, Cond.instanceMethod yX0_forgetAhead, Cond.selects RX0 yX0_forgetAhead yX0_forgetAhead]
def Tc31 : List Cond := [Cond.methodLink RX6 175 yX5_lineOf, Cond.instanceMethod yX5_lineOf, Cond.selects RX5 yX5_lineOf yX5_lineOf, Cond.methodLink RX6 243 yX0_behind, Cond.instanceMethod yX0_behind, Cond.selects RX0 yX0_behind yX0_behind, Cond.methodLink RX6 274 yX0_tryWord, Cond.instanceMethod yX0_tryWord, Cond.selects RX0 yX0_tryWord yX0_tryWord, Cond.methodLink RX6 277 yX0_cyclesWith, Cond.methodLink RX6 223 yX1_foresee, Cond.methodLink RX6 84 yX2_findMeets, Cond.instanceMethod yX2_findMeets, Cond.selects RX2 yX2_findMeets yX2_findMeets, Cond.methodLink RX6 97 yX4_lay, Cond.methodLink RX6 302 yX1_step, Cond.methodLink RX6 280 yX0_unlike, Cond.instanceMethod yX0_unlike, Cond.selects RX0 yX0_unlike yX0_unlike, Cond.methodLink RX6 195 yX4_canGo, Cond.methodLink RX7 375 yX7_goer, Cond.instanceMethod yX7_goer, Cond.selects RX7 yX7_goer yX7_goer, Cond.methodLink RX7 378 yX7_goes0, Cond.instanceMethod yX7_goes0, Cond.selects RX7 yX7_goes0 yX7_goes0, Cond.methodLink RX7 381 yX7_opensBar, Cond.instanceMethod yX7_opensBar, Cond.selects RX7 yX7_opensBar yX7_opensBar, Cond.methodLink RX7 255 yX7_warps, Cond.instanceMethod yX7_warps, Cond.selects RX7 yX7_warps yX7_warps, Cond.methodLink RX7 460 yX7_doesAgree, Cond.instanceMethod yX7_doesAgree, Cond.selects RX7 yX7_doesAgree yX7_doesAgree, Cond.methodLink RX7 192 yX7_flag, Cond.static yX7_flag, Cond.constantLong RX7 408 (4), Cond.methodLink RX7 457 yX7_isAlone, Cond.instanceMethod yX7_isAlone]
def Tc32 : List Cond := [Cond.selects RX7 yX7_isAlone yX7_isAlone, Cond.methodLink RX7 111 yX7_takesSign, Cond.instanceMethod yX7_takesSign, Cond.selects RX7 yX7_takesSign yX7_takesSign, Cond.methodLink RX7 474 yX7_keeps, Cond.instanceMethod yX7_keeps, Cond.selects RX7 yX7_keeps yX7_keeps, Cond.methodLink RX7 225 yX7_begins, Cond.instanceMethod yX7_begins, Cond.selects RX7 yX7_begins yX7_begins, Cond.methodLink RX7 249 yX7_warpAt, Cond.static yX7_warpAt, Cond.methodLink RX7 258 yX7_nextAt, Cond.static yX7_nextAt, Cond.methodLink RX7 261 yX7_isOf, Cond.static yX7_isOf, Cond.methodLink RX7 212 yX7_lines, Cond.instanceMethod yX7_lines, Cond.selects RX7 yX7_lines yX7_lines, Cond.methodLink RX7 264 yX7_pushes, Cond.instanceMethod yX7_pushes, Cond.selects RX7 yX7_pushes yX7_pushes, Cond.constantLong RX7 290 (9999), Cond.constantLong RX7 292 (-9999), Cond.constantLong RX7 402 (2), Cond.methodLink RX7 440 yX7_putsAside, Cond.instanceMethod yX7_putsAside, Cond.selects RX7 yX7_putsAside yX7_putsAside, Cond.methodLink RX7 443 yX7_goesOn, Cond.instanceMethod yX7_goesOn, Cond.selects RX7 yX7_goesOn yX7_goesOn, Cond.methodLink RX7 446 yX7_takesBack, Cond.instanceMethod yX7_takesBack, Cond.selects RX7 yX7_takesBack yX7_takesBack, Cond.methodLink RX7 449 yX7_told, Cond.instanceMethod yX7_told, Cond.selects RX7 yX7_told yX7_told, Cond.methodLink RX7 252 yX7_its, Cond.instanceMethod yX7_its, Cond.selects RX7 yX7_its yX7_its]
def Tc33 : List Cond := [Cond.methodLink RX7 281 yX7_together, Cond.instanceMethod yX7_together, Cond.selects RX7 yX7_together yX7_together, Cond.constantLong RX7 485 (20), Cond.methodLink RX7 487 yX7_drawOf, Cond.instanceMethod yX7_drawOf, Cond.selects RX7 yX7_drawOf yX7_drawOf, Cond.methodLink RX7 437 yX7_aCycle, Cond.instanceMethod yX7_aCycle, Cond.selects RX7 yX7_aCycle yX7_aCycle, Cond.methodLink RX7 272 yX7_top, Cond.instanceMethod yX7_top, Cond.selects RX7 yX7_top yX7_top, Cond.methodLink RX7 268 yX7_partAt, Cond.static yX7_partAt, Cond.methodLink RX7 304 yX7_bankOf, Cond.instanceMethod yX7_bankOf, Cond.selects RX7 yX7_bankOf yX7_bankOf, Cond.methodLink RX7 307 yX7_isAsked, Cond.instanceMethod yX7_isAsked, Cond.selects RX7 yX7_isAsked yX7_isAsked, Cond.methodLink RX7 278 yX7_endsTop, Cond.instanceMethod yX7_endsTop, Cond.selects RX7 yX7_endsTop yX7_endsTop, Cond.fieldLink RX7 234 "LaneWarpsModel" "heapMany" "I", Cond.constantLong RX7 452 (400), Cond.methodLink RX7 287 yX7_registerAt, Cond.static yX7_registerAt, Cond.constantLong RX7 477 (1103515245), Cond.constantLong RX7 479 (12345), Cond.constantLong RX7 481 (2147483648), Cond.constantLong RX7 483 (64), Cond.methodLink RX7 410 yX7_isEnded, Cond.instanceMethod yX7_isEnded, Cond.selects RX7 yX7_isEnded yX7_isEnded, Cond.methodLink RX7 275 yX7_dies, Cond.instanceMethod yX7_dies, Cond.selects RX7 yX7_dies yX7_dies, Cond.methodLink RX7 158 yX7_name, Cond.instanceMethod yX7_name]
def Tc34 : List Cond := [Cond.selects RX7 yX7_name yX7_name, Cond.fieldLink RX7 138 "LaneWarpsModel" "namePlace" "I", Cond.methodLink RX7 161 yX7_lays, Cond.instanceMethod yX7_lays, Cond.selects RX7 yX7_lays yX7_lays, Cond.methodLink RX7 164 yX7_partTold, Cond.instanceMethod yX7_partTold, Cond.selects RX7 yX7_partTold yX7_partTold, Cond.methodLink RX7 284 yX7_canGo, Cond.instanceMethod yX7_canGo, Cond.selects RX7 yX7_canGo yX7_canGo, Cond.methodLink RX7 351 yX7_lineOf, Cond.instanceMethod yX7_lineOf, Cond.selects RX7 yX7_lineOf yX7_lineOf, Cond.methodLink RX7 231 yX7_of, Cond.instanceMethod yX7_of, Cond.selects RX7 yX7_of yX7_of, Cond.methodLink RX7 354 yX7_takes0, Cond.instanceMethod yX7_takes0, Cond.selects RX7 yX7_takes0 yX7_takes0, Cond.methodLink RX7 357 yX7_keepsLine, Cond.instanceMethod yX7_keepsLine, Cond.selects RX7 yX7_keepsLine yX7_keepsLine, Cond.methodLink RX7 360 yX7_works, Cond.instanceMethod yX7_works, Cond.selects RX7 yX7_works yX7_works, Cond.methodLink RX7 363 yX7_goesFair, Cond.instanceMethod yX7_goesFair, Cond.selects RX7 yX7_goesFair yX7_goesFair, Cond.methodLink RX7 366 yX7_goesByStack, Cond.instanceMethod yX7_goesByStack, Cond.selects RX7 yX7_goesByStack yX7_goesByStack, Cond.methodLink RX7 339 yX7_partsWays, Cond.instanceMethod yX7_partsWays, Cond.selects RX7 yX7_partsWays yX7_partsWays, Cond.methodLink RX7 342 yX7_changesParts, Cond.instanceMethod yX7_changesParts, Cond.selects RX7 yX7_changesParts yX7_changesParts, Cond.methodLink RX7 345 yX7_clears, Cond.instanceMethod yX7_clears]
def Tc35 : List Cond := [Cond.selects RX7 yX7_clears yX7_clears, Cond.methodLink RX7 333 yX7_holding, Cond.instanceMethod yX7_holding, Cond.selects RX7 yX7_holding yX7_holding, Cond.methodLink RX7 348 yX7_nexts, Cond.instanceMethod yX7_nexts, Cond.selects RX7 yX7_nexts yX7_nexts, Cond.methodLink RX7 237 yX7_comesTo, Cond.instanceMethod yX7_comesTo, Cond.selects RX7 yX7_comesTo yX7_comesTo, Cond.methodLink RX7 219 yX7_isFork, Cond.instanceMethod yX7_isFork, Cond.selects RX7 yX7_isFork yX7_isFork, Cond.fieldLink RX7 428 "LaneWarpsModel" "round" "I", Cond.fieldLink RX7 431 "LaneWarpsModel" "many" "I", Cond.methodLink RX7 434 yX7_isOver, Cond.instanceMethod yX7_isOver, Cond.selects RX7 yX7_isOver yX7_isOver, Cond.methodLink RX7 372 yX7_sumOf, Cond.instanceMethod yX7_sumOf, Cond.selects RX7 yX7_sumOf yX7_sumOf, Cond.methodLink RX7 386 yX7_racedMany, Cond.instanceMethod yX7_racedMany, Cond.selects RX7 yX7_racedMany yX7_racedMany, Cond.methodLink RX7 173 yX7_partsOf, Cond.static yX7_partsOf, Cond.methodLink RX7 454 yX7_endsBehind, Cond.instanceMethod yX7_endsBehind, Cond.selects RX7 yX7_endsBehind yX7_endsBehind, Cond.methodLink RX7 300 yX7_modulo, Cond.static yX7_modulo, Cond.methodLink RX7 240 yX7_goesFrom, Cond.instanceMethod yX7_goesFrom, Cond.selects RX7 yX7_goesFrom yX7_goesFrom, Cond.methodLink RX7 243 yX7_isEndReached, Cond.instanceMethod yX7_isEndReached, Cond.selects RX7 yX7_isEndReached yX7_isEndReached, Cond.constantLong RX7 394 (7), Cond.methodLink RX7 144 yX7_lineAt, Cond.static yX7_lineAt]
def Tc36 : List Cond := [Cond.methodLink RX7 416 yX7_isStuck, Cond.instanceMethod yX7_isStuck, Cond.selects RX7 yX7_isStuck yX7_isStuck, Cond.fieldLink RX7 419 "LaneWarpsModel" "how" "I", Cond.methodLink RX7 422 yX7_laysState, Cond.instanceMethod yX7_laysState, Cond.selects RX7 yX7_laysState yX7_laysState, Cond.methodLink RX7 425 yX7_likeOf, Cond.instanceMethod yX7_likeOf, Cond.selects RX7 yX7_likeOf yX7_likeOf, Cond.fieldLink RX7 471 "LaneWarpsModel" "newest" "I", Cond.constantLong RX7 389 (6), Cond.methodLink RX7 399 yX7_nextOf, Cond.instanceMethod yX7_nextOf, Cond.selects RX7 yX7_nextOf yX7_nextOf, Cond.constantLong RX7 324 (3), Cond.methodLink RX7 413 yX7_areAlike, Cond.instanceMethod yX7_areAlike, Cond.selects RX7 yX7_areAlike yX7_areAlike, Cond.constantLong RX7 463 (63), Cond.methodLink RX7 465 yX7_laysEnds, Cond.instanceMethod yX7_laysEnds, Cond.selects RX7 yX7_laysEnds yX7_laysEnds, Cond.methodLink RX7 179 yX7_isNamed, Cond.instanceMethod yX7_isNamed, Cond.selects RX7 yX7_isNamed yX7_isNamed, Cond.methodLink RX7 186 yX7_lineTold, Cond.instanceMethod yX7_lineTold, Cond.selects RX7 yX7_lineTold yX7_lineTold, Cond.constantLong RX7 168 (15), Cond.methodLink RX7 132 yX7_passes, Cond.instanceMethod yX7_passes, Cond.selects RX7 yX7_passes yX7_passes, Cond.methodLink RX7 170 yX7_hasRegister, Cond.static yX7_hasRegister, Cond.methodLink RX7 155 yX7_registerTold, Cond.instanceMethod yX7_registerTold, Cond.selects RX7 yX7_registerTold yX7_registerTold, Cond.methodLink RX7 176 yX7_goTold, Cond.instanceMethod yX7_goTold]
def Tc37 : List Cond := [Cond.selects RX7 yX7_goTold yX7_goTold, Cond.methodLink RX7 320 yX7_bounded, Cond.static yX7_bounded, Cond.methodLink RX7 246 yX7_isFirst, Cond.instanceMethod yX7_isFirst, Cond.selects RX7 yX7_isFirst yX7_isFirst, Cond.methodLink RX7 118 yX7_isDigit, Cond.static yX7_isDigit, Cond.methodLink RX7 125 yX7_isLike, Cond.instanceMethod yX7_isLike, Cond.selects RX7 yX7_isLike yX7_isLike, Cond.methodLink RX7 336 yX7_laysPart, Cond.instanceMethod yX7_laysPart, Cond.selects RX7 yX7_laysPart yX7_laysPart, Cond.methodLink RX7 203 yX7_statementTold, Cond.instanceMethod yX7_statementTold, Cond.selects RX7 yX7_statementTold yX7_statementTold, Cond.methodLink RX7 209 yX7_stands, Cond.instanceMethod yX7_stands, Cond.selects RX7 yX7_stands yX7_stands, Cond.methodLink RX7 294 yX7_hasFirst, Cond.static yX7_hasFirst, Cond.methodLink RX7 297 yX7_partOf, Cond.instanceMethod yX7_partOf, Cond.selects RX7 yX7_partOf yX7_partOf, Cond.constantLong RX7 148 (16), Cond.constantLong RX7 150 (19), Cond.methodLink RX7 222 yX7_meetOf, Cond.instanceMethod yX7_meetOf, Cond.selects RX7 yX7_meetOf yX7_meetOf, Cond.methodLink RX7 199 yX7_lineBegins, Cond.instanceMethod yX7_lineBegins, Cond.selects RX7 yX7_lineBegins yX7_lineBegins, Cond.methodLink RX7 369 yX7_count, Cond.static yX7_count, Cond.methodLink RX7 310 yX7_reads, Cond.instanceMethod yX7_reads, Cond.selects RX7 yX7_reads yX7_reads, Cond.methodLink RX7 314 yX7_segments, Cond.instanceMethod yX7_segments]
def Tc38 : List Cond := [Cond.selects RX7 yX7_segments yX7_segments, Cond.methodLink RX7 317 yX7_clashes, Cond.instanceMethod yX7_clashes, Cond.selects RX7 yX7_clashes yX7_clashes, Cond.methodLink RX7 468 yX7_unlike, Cond.instanceMethod yX7_unlike, Cond.selects RX7 yX7_unlike yX7_unlike, Cond.methodLink RX7 326 yX7_touches, Cond.instanceMethod yX7_touches, Cond.selects RX7 yX7_touches yX7_touches, Cond.methodLink RX7 330 yX7_made, Cond.static yX7_made]
/-- the words that the walks need, one list for all -/
def T0w : List Cond := Tc0 ++ (Tc1 ++ (Tc2 ++ (Tc3 ++ (Tc4 ++ (Tc5 ++ (Tc6 ++ (Tc7 ++ (Tc8 ++ (Tc9 ++ (Tc10 ++ (Tc11 ++ (Tc12 ++ (Tc13 ++ (Tc14 ++ (Tc15 ++ (Tc16 ++ (Tc17 ++ (Tc18 ++ (Tc19 ++ (Tc20 ++ (Tc21 ++ (Tc22 ++ (Tc23 ++ (Tc24 ++ (Tc25 ++ (Tc26 ++ (Tc27 ++ (Tc28 ++ (Tc29 ++ (Tc30 ++ (Tc31 ++ (Tc32 ++ (Tc33 ++ (Tc34 ++ (Tc35 ++ (Tc36 ++ (Tc37 ++ (Tc38))))))))))))))))))))))))))))))))))))))
def T0 : List Cond := T0w ++ (wsX00 ++ (wsX10 ++ (wsX20 ++ (wsX30 ++ (wsX40 ++ (wsX50 ++ (wsX60 ++ (wsX70))))))))
theorem ax_c0 : ∀ w ∈ Tc0, w ∈ T0 := fun _ h => List.mem_append_left _ (List.mem_append_left _ h)
theorem T_0 : Cond.code objectInit ⟨#[0xb1]⟩ 1 none ∈ T0 := ax_c0 _ (List.mem_of_getElem? (i := 0) rfl)
theorem T_1 : Cond.code yX5_init cX5_init 1 none ∈ T0 := ax_c0 _ (List.mem_of_getElem? (i := 1) rfl)
theorem T_2 : Cond.code yX1_init cX1_init 1 none ∈ T0 := ax_c0 _ (List.mem_of_getElem? (i := 2) rfl)
theorem T_3 : Cond.code yX4_init cX4_init 2 none ∈ T0 := ax_c0 _ (List.mem_of_getElem? (i := 3) rfl)
theorem T_4 : Cond.code yX1_take cX1_take 2 none ∈ T0 := ax_c0 _ (List.mem_of_getElem? (i := 4) rfl)
theorem T_5 : Cond.code yX3_init cX3_init 1 none ∈ T0 := ax_c0 _ (List.mem_of_getElem? (i := 5) rfl)
theorem T_6 : Cond.code yX2_init cX2_init 1 none ∈ T0 := ax_c0 _ (List.mem_of_getElem? (i := 6) rfl)
theorem T_7 : Cond.code yX0_init cX0_init 1 none ∈ T0 := ax_c0 _ (List.mem_of_getElem? (i := 7) rfl)
theorem T_8 : Cond.code yX0_take cX0_take 2 none ∈ T0 := ax_c0 _ (List.mem_of_getElem? (i := 8) rfl)
theorem T_9 : Cond.code yX6_layBytes cX6_layBytes 3 none ∈ T0 := ax_c0 _ (List.mem_of_getElem? (i := 9) rfl)
theorem T_10 : Cond.code yX6_refuse cX6_refuse 2 (some .int) ∈ T0 := ax_c0 _ (List.mem_of_getElem? (i := 10) rfl)
theorem T_11 : Cond.code yJ7_fill_53178 cJ7_fill_53178 4 none ∈ T0 := ax_c0 _ (List.mem_of_getElem? (i := 11) rfl)
theorem T_12 : Cond.code yX2_clear cX2_clear 1 none ∈ T0 := ax_c0 _ (List.mem_of_getElem? (i := 12) rfl)
theorem T_13 : Cond.code yX3_scan cX3_scan 3 none ∈ T0 := ax_c0 _ (List.mem_of_getElem? (i := 13) rfl)
theorem T_14 : Cond.code yX3_fail cX3_fail 3 (some .boolean) ∈ T0 := ax_c0 _ (List.mem_of_getElem? (i := 14) rfl)
theorem T_15 : Cond.code yX3_read cX3_read 6 (some .boolean) ∈ T0 := ax_c0 _ (List.mem_of_getElem? (i := 15) rfl)
theorem T_16 : Cond.code yX6_hasWarp cX6_hasWarp 2 (some .boolean) ∈ T0 := ax_c0 _ (List.mem_of_getElem? (i := 16) rfl)
theorem T_17 : Cond.code yX6_hasLane cX6_hasLane 3 (some .boolean) ∈ T0 := ax_c0 _ (List.mem_of_getElem? (i := 17) rfl)
theorem T_18 : Cond.code yX6_hasWord cX6_hasWord 3 (some .boolean) ∈ T0 := ax_c0 _ (List.mem_of_getElem? (i := 18) rfl)
theorem T_19 : Cond.code Lib.Math.min.name Lib.Math.min.code 2 (some .int) ∈ T0 := ax_c0 _ (List.mem_of_getElem? (i := 19) rfl)
theorem T_20 : Cond.code yX7_isRefused cX7_isRefused 2 (some .boolean) ∈ T0 := ax_c0 _ (List.mem_of_getElem? (i := 20) rfl)
theorem T_21 : Cond.code yX7_isIn cX7_isIn 6 (some .boolean) ∈ T0 := ax_c0 _ (List.mem_of_getElem? (i := 21) rfl)
theorem T_22 : Cond.code yX7_look cX7_look 1 (some .int) ∈ T0 := ax_c0 _ (List.mem_of_getElem? (i := 22) rfl)
theorem T_23 : Cond.code yX7_isLetter cX7_isLetter 1 (some .boolean) ∈ T0 := ax_c0 _ (List.mem_of_getElem? (i := 23) rfl)
theorem T_24 : Cond.code yX7_isWordHere cX7_isWordHere 1 (some .boolean) ∈ T0 := ax_c0 _ (List.mem_of_getElem? (i := 24) rfl)
theorem ax_c1 : ∀ w ∈ Tc1, w ∈ T0 := fun _ h => List.mem_append_left _ (List.mem_append_right _ (List.mem_append_left _ h))
theorem T_25 : Cond.code yX7_ownHere cX7_ownHere 5 (some .int) ∈ T0 := ax_c1 _ (List.mem_of_getElem? (i := 0) rfl)
theorem T_26 : Cond.code yX7_takes cX7_takes 2 (some .boolean) ∈ T0 := ax_c1 _ (List.mem_of_getElem? (i := 1) rfl)
theorem T_27 : Cond.code yX7_fail cX7_fail 3 none ∈ T0 := ax_c1 _ (List.mem_of_getElem? (i := 2) rfl)
theorem T_28 : Cond.code yX7_drafted cX7_drafted 1 (some .int) ∈ T0 := ax_c1 _ (List.mem_of_getElem? (i := 3) rfl)
theorem T_29 : Cond.code yX7_asks cX7_asks 2 none ∈ T0 := ax_c1 _ (List.mem_of_getElem? (i := 4) rfl)
theorem T_30 : Cond.code yX7_number cX7_number 5 (some .int) ∈ T0 := ax_c1 _ (List.mem_of_getElem? (i := 5) rfl)
theorem T_31 : Cond.code yX7_asksSign cX7_asksSign 2 none ∈ T0 := ax_c1 _ (List.mem_of_getElem? (i := 6) rfl)
theorem T_32 : Cond.code yX7_joins cX7_joins 4 none ∈ T0 := ax_c1 _ (List.mem_of_getElem? (i := 7) rfl)
theorem T_33 : Cond.code yX7_refuses cX7_refuses 2 (some .int) ∈ T0 := ax_c1 _ (List.mem_of_getElem? (i := 8) rfl)
theorem T_34 : Cond.code yX7_isWarp cX7_isWarp 2 (some .boolean) ∈ T0 := ax_c1 _ (List.mem_of_getElem? (i := 9) rfl)
theorem T_35 : Cond.code yX7_isLane cX7_isLane 3 (some .boolean) ∈ T0 := ax_c1 _ (List.mem_of_getElem? (i := 10) rfl)
theorem T_36 : Cond.code yX7_wordOf cX7_wordOf 3 (some .int) ∈ T0 := ax_c1 _ (List.mem_of_getElem? (i := 11) rfl)
theorem T_37 : Cond.code yX6_feed cX6_feed 6 (some .int) ∈ T0 := ax_c1 _ (List.mem_of_getElem? (i := 12) rfl)
theorem T_38 : Cond.code yX7_feed cX7_feed 8 (some .int) ∈ T0 := ax_c1 _ (List.mem_of_getElem? (i := 13) rfl)
theorem T_39 : Cond.code yX6_end cX6_end 2 (some .boolean) ∈ T0 := ax_c1 _ (List.mem_of_getElem? (i := 14) rfl)
theorem T_40 : Cond.code yX7_end cX7_end 2 (some .boolean) ∈ T0 := ax_c1 _ (List.mem_of_getElem? (i := 15) rfl)
theorem T_41 : Cond.code yX6_program cX6_program 3 (some .int) ∈ T0 := ax_c1 _ (List.mem_of_getElem? (i := 16) rfl)
theorem T_42 : Cond.code yX7_program cX7_program 2 (some .int) ∈ T0 := ax_c1 _ (List.mem_of_getElem? (i := 17) rfl)
theorem T_43 : Cond.code yX6_fault cX6_fault 2 (some .int) ∈ T0 := ax_c1 _ (List.mem_of_getElem? (i := 18) rfl)
theorem T_44 : Cond.code yX7_fault cX7_fault 2 (some .int) ∈ T0 := ax_c1 _ (List.mem_of_getElem? (i := 19) rfl)
theorem T_45 : Cond.code yX6_has cX6_has 2 (some .int) ∈ T0 := ax_c1 _ (List.mem_of_getElem? (i := 20) rfl)
theorem T_46 : Cond.code yX7_has cX7_has 2 (some .int) ∈ T0 := ax_c1 _ (List.mem_of_getElem? (i := 21) rfl)
theorem T_47 : Cond.code yX6_line cX6_line 3 (some .int) ∈ T0 := ax_c1 _ (List.mem_of_getElem? (i := 22) rfl)
theorem T_48 : Cond.code yX7_line cX7_line 3 (some .int) ∈ T0 := ax_c1 _ (List.mem_of_getElem? (i := 23) rfl)
theorem T_49 : Cond.code yX6_lane cX6_lane 6 (some .int) ∈ T0 := ax_c1 _ (List.mem_of_getElem? (i := 24) rfl)
theorem ax_c2 : ∀ w ∈ Tc2, w ∈ T0 := fun _ h => List.mem_append_left _ (List.mem_append_right _ (List.mem_append_right _ (List.mem_append_left _ h)))
theorem T_50 : Cond.code yX7_lane cX7_lane 4 (some .int) ∈ T0 := ax_c2 _ (List.mem_of_getElem? (i := 0) rfl)
theorem T_51 : Cond.code yX6_warp cX6_warp 4 (some .int) ∈ T0 := ax_c2 _ (List.mem_of_getElem? (i := 1) rfl)
theorem T_52 : Cond.code yX7_warp cX7_warp 3 (some .int) ∈ T0 := ax_c2 _ (List.mem_of_getElem? (i := 2) rfl)
theorem T_53 : Cond.code yX6_part cX6_part 5 (some .int) ∈ T0 := ax_c2 _ (List.mem_of_getElem? (i := 3) rfl)
theorem T_54 : Cond.code yX7_part cX7_part 4 (some .int) ∈ T0 := ax_c2 _ (List.mem_of_getElem? (i := 4) rfl)
theorem T_55 : Cond.code yX6_word cX6_word 3 (some .int) ∈ T0 := ax_c2 _ (List.mem_of_getElem? (i := 5) rfl)
theorem T_56 : Cond.code yX7_word cX7_word 4 (some .int) ∈ T0 := ax_c2 _ (List.mem_of_getElem? (i := 6) rfl)
theorem T_57 : Cond.code yX6_raced cX6_raced 3 (some .int) ∈ T0 := ax_c2 _ (List.mem_of_getElem? (i := 7) rfl)
theorem T_58 : Cond.code yX7_raced cX7_raced 4 (some .int) ∈ T0 := ax_c2 _ (List.mem_of_getElem? (i := 8) rfl)
theorem T_59 : Cond.code yX6_kept cX6_kept 4 (some .int) ∈ T0 := ax_c2 _ (List.mem_of_getElem? (i := 9) rfl)
theorem T_60 : Cond.code yX7_kept cX7_kept 3 (some .int) ∈ T0 := ax_c2 _ (List.mem_of_getElem? (i := 10) rfl)
theorem T_61 : Cond.code yX6_next cX6_next 2 (some .int) ∈ T0 := ax_c2 _ (List.mem_of_getElem? (i := 11) rfl)
theorem T_62 : Cond.code yX7_next cX7_next 3 (some .int) ∈ T0 := ax_c2 _ (List.mem_of_getElem? (i := 12) rfl)
theorem T_63 : Cond.code yX6_goes cX6_goes 2 (some .int) ∈ T0 := ax_c2 _ (List.mem_of_getElem? (i := 13) rfl)
theorem T_64 : Cond.code yX7_goes cX7_goes 2 (some .int) ∈ T0 := ax_c2 _ (List.mem_of_getElem? (i := 14) rfl)
theorem T_65 : Cond.code yX6_later cX6_later 6 (some .int) ∈ T0 := ax_c2 _ (List.mem_of_getElem? (i := 15) rfl)
theorem T_66 : Cond.code yX7_later cX7_later 6 (some .int) ∈ T0 := ax_c2 _ (List.mem_of_getElem? (i := 16) rfl)
theorem T_67 : Cond.code yX6_by cX6_by 4 (some .int) ∈ T0 := ax_c2 _ (List.mem_of_getElem? (i := 17) rfl)
theorem T_68 : Cond.code yX7_by cX7_by 4 (some .int) ∈ T0 := ax_c2 _ (List.mem_of_getElem? (i := 18) rfl)
theorem T_69 : Cond.code yX6_skew cX6_skew 9 (some .int) ∈ T0 := ax_c2 _ (List.mem_of_getElem? (i := 19) rfl)
theorem T_70 : Cond.code yX7_skew cX7_skew 6 (some .int) ∈ T0 := ax_c2 _ (List.mem_of_getElem? (i := 20) rfl)
theorem T_71 : Cond.code yX6_alone cX6_alone 4 (some .int) ∈ T0 := ax_c2 _ (List.mem_of_getElem? (i := 21) rfl)
theorem T_72 : Cond.code yX7_alone cX7_alone 4 (some .int) ∈ T0 := ax_c2 _ (List.mem_of_getElem? (i := 22) rfl)
theorem T_73 : Cond.code yX6_agrees cX6_agrees 4 (some .int) ∈ T0 := ax_c2 _ (List.mem_of_getElem? (i := 23) rfl)
theorem T_74 : Cond.code yX7_agrees cX7_agrees 3 (some .int) ∈ T0 := ax_c2 _ (List.mem_of_getElem? (i := 24) rfl)
theorem ax_c3 : ∀ w ∈ Tc3, w ∈ T0 := fun _ h => List.mem_append_left _ (List.mem_append_right _ (List.mem_append_right _ (List.mem_append_right _ (List.mem_append_left _ h))))
theorem T_75 : Cond.code yX6_likely cX6_likely 6 (some .int) ∈ T0 := ax_c3 _ (List.mem_of_getElem? (i := 0) rfl)
theorem T_76 : Cond.code yX7_likely cX7_likely 6 (some .int) ∈ T0 := ax_c3 _ (List.mem_of_getElem? (i := 1) rfl)
theorem T_77 : Cond.code yX6_tells cX6_tells 6 (some .int) ∈ T0 := ax_c3 _ (List.mem_of_getElem? (i := 2) rfl)
theorem T_78 : Cond.code yX7_tells cX7_tells 5 (some .int) ∈ T0 := ax_c3 _ (List.mem_of_getElem? (i := 3) rfl)
theorem T_79 : Cond.code yX6_cycles cX6_cycles 2 (some .int) ∈ T0 := ax_c3 _ (List.mem_of_getElem? (i := 4) rfl)
theorem T_80 : Cond.code yX7_cycles cX7_cycles 4 (some .int) ∈ T0 := ax_c3 _ (List.mem_of_getElem? (i := 5) rfl)
theorem T_81 : Cond.code yX6_poke cX6_poke 6 (some .int) ∈ T0 := ax_c3 _ (List.mem_of_getElem? (i := 6) rfl)
theorem T_82 : Cond.code yX7_poke cX7_poke 6 (some .int) ∈ T0 := ax_c3 _ (List.mem_of_getElem? (i := 7) rfl)
theorem T_83 : Cond.code yX6_set cX6_set 4 (some .boolean) ∈ T0 := ax_c3 _ (List.mem_of_getElem? (i := 8) rfl)
theorem T_84 : Cond.code yX7_set cX7_set 4 (some .boolean) ∈ T0 := ax_c3 _ (List.mem_of_getElem? (i := 9) rfl)
theorem T_85 : Cond.code yX6_begin cX6_begin 1 (some .boolean) ∈ T0 := ax_c3 _ (List.mem_of_getElem? (i := 10) rfl)
theorem T_86 : Cond.code yX7_begin cX7_begin 1 (some .boolean) ∈ T0 := ax_c3 _ (List.mem_of_getElem? (i := 11) rfl)
theorem T_87 : Cond.code yX6_chance cX6_chance 6 (some .int) ∈ T0 := ax_c3 _ (List.mem_of_getElem? (i := 12) rfl)
theorem T_88 : Cond.code yX7_chance cX7_chance 7 (some .int) ∈ T0 := ax_c3 _ (List.mem_of_getElem? (i := 13) rfl)
theorem T_89 : Cond.code yX6_undo cX6_undo 1 (some .boolean) ∈ T0 := ax_c3 _ (List.mem_of_getElem? (i := 14) rfl)
theorem T_90 : Cond.code yX7_undo cX7_undo 2 (some .boolean) ∈ T0 := ax_c3 _ (List.mem_of_getElem? (i := 15) rfl)
theorem T_91 : Cond.code yX6_seed cX6_seed 2 (some .boolean) ∈ T0 := ax_c3 _ (List.mem_of_getElem? (i := 16) rfl)
theorem T_92 : Cond.code yX7_seed cX7_seed 2 (some .boolean) ∈ T0 := ax_c3 _ (List.mem_of_getElem? (i := 17) rfl)
theorem T_93 : Cond.code yX6_status cX6_status 2 (some .int) ∈ T0 := ax_c3 _ (List.mem_of_getElem? (i := 18) rfl)
theorem T_94 : Cond.code yX7_status cX7_status 2 (some .int) ∈ T0 := ax_c3 _ (List.mem_of_getElem? (i := 19) rfl)
theorem T_95 : Cond.code yX6_init cX6_init 2 none ∈ T0 := ax_c3 _ (List.mem_of_getElem? (i := 20) rfl)
theorem T_96 : Cond.code yX7_init cX7_init 1 none ∈ T0 := ax_c3 _ (List.mem_of_getElem? (i := 21) rfl)
theorem T_446 : Cond.code yJ0_isLatin1_aae02 cJ0_isLatin1_aae02 1 (some .boolean) ∈ T0 := ax_c3 _ (List.mem_of_getElem? (i := 22) rfl)
theorem T_452 : Cond.code yJ1_charAt_3b067 cJ1_charAt_3b067 2 (some .char) ∈ T0 := ax_c3 _ (List.mem_of_getElem? (i := 23) rfl)
theorem T_456 : Cond.code yJ2_charAt_3b067 cJ2_charAt_3b067 2 (some .char) ∈ T0 := ax_c3 _ (List.mem_of_getElem? (i := 24) rfl)
theorem ax_c4 : ∀ w ∈ Tc4, w ∈ T0 := fun _ h => List.mem_append_left _ (List.mem_append_right _ (List.mem_append_right _ (List.mem_append_right _ (List.mem_append_right _ (List.mem_append_left _ h)))))
theorem T_461 : Cond.code yJ3_checkIndex_8e157 cJ3_checkIndex_8e157 3 (some .int) ∈ T0 := ax_c4 _ (List.mem_of_getElem? (i := 0) rfl)
theorem T_466 : Cond.code yJ0_coder_7d493 cJ0_coder_7d493 1 (some .byte) ∈ T0 := ax_c4 _ (List.mem_of_getElem? (i := 1) rfl)
theorem T_470 : Cond.code yJ0_checkIndex_df160 cJ0_checkIndex_df160 2 none ∈ T0 := ax_c4 _ (List.mem_of_getElem? (i := 2) rfl)
theorem T_473 : Cond.code yJ2_checkIndex_2214a cJ2_checkIndex_2214a 2 none ∈ T0 := ax_c4 _ (List.mem_of_getElem? (i := 3) rfl)
theorem T_476 : Cond.code yJ2_getChar_3b067 cJ2_getChar_3b067 2 (some .char) ∈ T0 := ax_c4 _ (List.mem_of_getElem? (i := 4) rfl)
theorem T_479 : Cond.code yJ2_length_9d52b cJ2_length_9d52b 1 (some .int) ∈ T0 := ax_c4 _ (List.mem_of_getElem? (i := 5) rfl)
theorem T_551 : Cond.code yX4_lay cX4_lay 4 none ∈ T0 := ax_c4 _ (List.mem_of_getElem? (i := 6) rfl)
theorem T_555 : Cond.code yX4_restart cX4_restart 3 none ∈ T0 := ax_c4 _ (List.mem_of_getElem? (i := 7) rfl)
theorem T_559 : Cond.code yX4_copyFrom cX4_copyFrom 3 none ∈ T0 := ax_c4 _ (List.mem_of_getElem? (i := 8) rfl)
theorem T_563 : Cond.code yX1_step cX1_step 3 (some .boolean) ∈ T0 := ax_c4 _ (List.mem_of_getElem? (i := 9) rfl)
theorem T_567 : Cond.code yX0_cyclesToRest cX0_cyclesToRest 3 (some .int) ∈ T0 := ax_c4 _ (List.mem_of_getElem? (i := 10) rfl)
theorem T_571 : Cond.code yX4_hasEnded cX4_hasEnded 3 (some .boolean) ∈ T0 := ax_c4 _ (List.mem_of_getElem? (i := 11) rfl)
theorem T_575 : Cond.code yX0_roundFromHere cX0_roundFromHere 2 (some .int) ∈ T0 := ax_c4 _ (List.mem_of_getElem? (i := 12) rfl)
theorem T_579 : Cond.code yX0_firstAgain cX0_firstAgain 4 (some .int) ∈ T0 := ax_c4 _ (List.mem_of_getElem? (i := 13) rfl)
theorem T_583 : Cond.code yX4_hasNoneToGo cX4_hasNoneToGo 3 (some .boolean) ∈ T0 := ax_c4 _ (List.mem_of_getElem? (i := 14) rfl)
theorem T_587 : Cond.code yX4_isLike cX4_isLike 3 (some .boolean) ∈ T0 := ax_c4 _ (List.mem_of_getElem? (i := 15) rfl)
theorem T_595 : Cond.code yX0_begun cX0_begun 4 (some (.object "LaneWarps$State")) ∈ T0 := ax_c4 _ (List.mem_of_getElem? (i := 16) rfl)
theorem T_599 : Cond.code yX4_leaveAlone cX4_leaveAlone 5 none ∈ T0 := ax_c4 _ (List.mem_of_getElem? (i := 17) rfl)
theorem T_604 : Cond.code yX0_cyclesWith cX0_cyclesWith 3 (some .int) ∈ T0 := ax_c4 _ (List.mem_of_getElem? (i := 18) rfl)
theorem T_610 : Cond.code Lib.Math.max.name Lib.Math.max.code 2 (some .int) ∈ T0 := ax_c4 _ (List.mem_of_getElem? (i := 19) rfl)
theorem T_614 : Cond.code yX1_valueOf cX1_valueOf 3 (some .int) ∈ T0 := ax_c4 _ (List.mem_of_getElem? (i := 20) rfl)
theorem T_620 : Cond.code yX4_touch cX4_touch 4 none ∈ T0 := ax_c4 _ (List.mem_of_getElem? (i := 21) rfl)
theorem T_625 : Cond.code yX1_pickWarp cX1_pickWarp 4 (some .boolean) ∈ T0 := ax_c4 _ (List.mem_of_getElem? (i := 22) rfl)
theorem T_629 : Cond.code yX1_pickLanes cX1_pickLanes 3 none ∈ T0 := ax_c4 _ (List.mem_of_getElem? (i := 23) rfl)
theorem T_634 : Cond.code yX1_measure cX1_measure 4 none ∈ T0 := ax_c4 _ (List.mem_of_getElem? (i := 24) rfl)
theorem ax_c5 : ∀ w ∈ Tc5, w ∈ T0 := fun _ h => List.mem_append_left _ (List.mem_append_right _ (List.mem_append_right _ (List.mem_append_right _ (List.mem_append_right _ (List.mem_append_right _ (List.mem_append_left _ h))))))
theorem T_638 : Cond.code yX1_goesNow cX1_goesNow 2 (some .boolean) ∈ T0 := ax_c5 _ (List.mem_of_getElem? (i := 0) rfl)
theorem T_642 : Cond.code yX1_holds cX1_holds 4 (some .boolean) ∈ T0 := ax_c5 _ (List.mem_of_getElem? (i := 1) rfl)
theorem T_649 : Cond.code yJ9_floorMod_7cf53 cJ9_floorMod_7cf53 3 (some .int) ∈ T0 := ax_c5 _ (List.mem_of_getElem? (i := 2) rfl)
theorem T_653 : Cond.code yJ6_bitCount_0f7a4 cJ6_bitCount_0f7a4 1 (some .int) ∈ T0 := ax_c5 _ (List.mem_of_getElem? (i := 3) rfl)
theorem T_656 : Cond.code yX1_mostInOneBank cX1_mostInOneBank 6 (some .int) ∈ T0 := ax_c5 _ (List.mem_of_getElem? (i := 4) rfl)
theorem T_660 : Cond.code yX1_segments cX1_segments 3 (some .int) ∈ T0 := ax_c5 _ (List.mem_of_getElem? (i := 5) rfl)
theorem T_666 : Cond.code yX1_goers cX1_goers 3 (some .int) ∈ T0 := ax_c5 _ (List.mem_of_getElem? (i := 6) rfl)
theorem T_670 : Cond.code yX1_lineBehind cX1_lineBehind 1 (some .int) ∈ T0 := ax_c5 _ (List.mem_of_getElem? (i := 7) rfl)
theorem T_674 : Cond.code yX5_moveLane cX5_moveLane 4 none ∈ T0 := ax_c5 _ (List.mem_of_getElem? (i := 8) rfl)
theorem T_678 : Cond.code yX5_moveTop cX5_moveTop 2 none ∈ T0 := ax_c5 _ (List.mem_of_getElem? (i := 9) rfl)
theorem T_682 : Cond.code yX5_splitTop cX5_splitTop 7 none ∈ T0 := ax_c5 _ (List.mem_of_getElem? (i := 10) rfl)
theorem T_686 : Cond.code yX5_yieldTop cX5_yieldTop 5 none ∈ T0 := ax_c5 _ (List.mem_of_getElem? (i := 11) rfl)
theorem T_690 : Cond.code yX5_settle cX5_settle 6 none ∈ T0 := ax_c5 _ (List.mem_of_getElem? (i := 12) rfl)
theorem T_694 : Cond.code yX5_movable cX5_movable 3 (some .int) ∈ T0 := ax_c5 _ (List.mem_of_getElem? (i := 13) rfl)
theorem T_698 : Cond.code yX4_canGo cX4_canGo 2 (some .boolean) ∈ T0 := ax_c5 _ (List.mem_of_getElem? (i := 14) rfl)
theorem T_702 : Cond.code yX1_foresee cX1_foresee 2 (some .boolean) ∈ T0 := ax_c5 _ (List.mem_of_getElem? (i := 15) rfl)
theorem T_706 : Cond.code yX1_keepLine cX1_keepLine 2 none ∈ T0 := ax_c5 _ (List.mem_of_getElem? (i := 16) rfl)
theorem T_710 : Cond.code yX1_work cX1_work 3 none ∈ T0 := ax_c5 _ (List.mem_of_getElem? (i := 17) rfl)
theorem T_714 : Cond.code yX1_moveTop cX1_moveTop 2 none ∈ T0 := ax_c5 _ (List.mem_of_getElem? (i := 18) rfl)
theorem T_718 : Cond.code yX1_moveEach cX1_moveEach 4 none ∈ T0 := ax_c5 _ (List.mem_of_getElem? (i := 19) rfl)
theorem T_722 : Cond.code yX4_passBarIfAllWait cX4_passBarIfAllWait 5 none ∈ T0 := ax_c5 _ (List.mem_of_getElem? (i := 20) rfl)
theorem T_726 : Cond.code yX1_result cX1_result 5 (some .int) ∈ T0 := ax_c5 _ (List.mem_of_getElem? (i := 21) rfl)
theorem T_730 : Cond.code yX1_bounded cX1_bounded 1 (some .int) ∈ T0 := ax_c5 _ (List.mem_of_getElem? (i := 22) rfl)
theorem T_733 : Cond.code yX1_ask cX1_ask 8 none ∈ T0 := ax_c5 _ (List.mem_of_getElem? (i := 23) rfl)
theorem T_738 : Cond.code yX2_findPassed cX2_findPassed 8 none ∈ T0 := ax_c5 _ (List.mem_of_getElem? (i := 24) rfl)
theorem ax_c6 : ∀ w ∈ Tc6, w ∈ T0 := fun _ h => List.mem_append_left _ (List.mem_append_right _ (List.mem_append_right _ (List.mem_append_right _ (List.mem_append_right _ (List.mem_append_right _ (List.mem_append_right _ (List.mem_append_left _ h)))))))
theorem T_742 : Cond.code yX2_meetOf cX2_meetOf 6 (some .int) ∈ T0 := ax_c6 _ (List.mem_of_getElem? (i := 0) rfl)
theorem T_746 : Cond.code yJ7_fill_d0a16 cJ7_fill_d0a16 5 none ∈ T0 := ax_c6 _ (List.mem_of_getElem? (i := 1) rfl)
theorem T_749 : Cond.code yX2_passedBehind cX2_passedBehind 5 (some .long) ∈ T0 := ax_c6 _ (List.mem_of_getElem? (i := 2) rfl)
theorem T_754 : Cond.code yX3_lineNamed cX3_lineNamed 7 (some .int) ∈ T0 := ax_c6 _ (List.mem_of_getElem? (i := 3) rfl)
theorem T_758 : Cond.code yX3_readName cX3_readName 1 (some .boolean) ∈ T0 := ax_c6 _ (List.mem_of_getElem? (i := 4) rfl)
theorem T_762 : Cond.code yX3_readSign cX3_readSign 2 (some .boolean) ∈ T0 := ax_c6 _ (List.mem_of_getElem? (i := 5) rfl)
theorem T_766 : Cond.code yX2_addLine cX2_addLine 2 none ∈ T0 := ax_c6 _ (List.mem_of_getElem? (i := 6) rfl)
theorem T_770 : Cond.code yJ0_length_8abf5 cJ0_length_8abf5 1 (some .int) ∈ T0 := ax_c6 _ (List.mem_of_getElem? (i := 7) rfl)
theorem T_774 : Cond.code yJ0_charAt_5068e cJ0_charAt_5068e 2 (some .char) ∈ T0 := ax_c6 _ (List.mem_of_getElem? (i := 8) rfl)
theorem T_778 : Cond.code yX3_readStatement cX3_readStatement 5 (some .boolean) ∈ T0 := ax_c6 _ (List.mem_of_getElem? (i := 9) rfl)
theorem T_782 : Cond.code yX3_aimAll cX3_aimAll 3 (some .boolean) ∈ T0 := ax_c6 _ (List.mem_of_getElem? (i := 10) rfl)
theorem T_787 : Cond.code yX3_readNumber cX3_readNumber 4 (some .int) ∈ T0 := ax_c6 _ (List.mem_of_getElem? (i := 11) rfl)
theorem T_793 : Cond.code yX3_readOwn cX3_readOwn 4 (some .int) ∈ T0 := ax_c6 _ (List.mem_of_getElem? (i := 12) rfl)
theorem T_797 : Cond.code yX2_latest cX2_latest 1 (some (.array .int)) ∈ T0 := ax_c6 _ (List.mem_of_getElem? (i := 13) rfl)
theorem T_801 : Cond.code yX3_readComparison cX3_readComparison 2 (some .int) ∈ T0 := ax_c6 _ (List.mem_of_getElem? (i := 14) rfl)
theorem T_805 : Cond.code yX3_openLine cX3_openLine 3 (some .boolean) ∈ T0 := ax_c6 _ (List.mem_of_getElem? (i := 15) rfl)
theorem T_809 : Cond.code yX3_piecesOf cX3_piecesOf 1 (some (.object "java/lang/String")) ∈ T0 := ax_c6 _ (List.mem_of_getElem? (i := 16) rfl)
theorem T_812 : Cond.code yJ0_isEmpty_aae02 cJ0_isEmpty_aae02 1 (some .boolean) ∈ T0 := ax_c6 _ (List.mem_of_getElem? (i := 17) rfl)
theorem T_816 : Cond.code yX3_readPiece cX3_readPiece 2 (some .boolean) ∈ T0 := ax_c6 _ (List.mem_of_getElem? (i := 18) rfl)
theorem T_820 : Cond.code yX3_isLetter cX3_isLetter 1 (some .boolean) ∈ T0 := ax_c6 _ (List.mem_of_getElem? (i := 19) rfl)
theorem T_823 : Cond.code yX3_scanWord cX3_scanWord 1 none ∈ T0 := ax_c6 _ (List.mem_of_getElem? (i := 20) rfl)
theorem T_827 : Cond.code yX3_ownWord cX3_ownWord 6 (some .int) ∈ T0 := ax_c6 _ (List.mem_of_getElem? (i := 21) rfl)
theorem T_831 : Cond.code yX3_isDigit cX3_isDigit 1 (some .boolean) ∈ T0 := ax_c6 _ (List.mem_of_getElem? (i := 22) rfl)
theorem T_834 : Cond.code yX3_scanNumber cX3_scanNumber 1 none ∈ T0 := ax_c6 _ (List.mem_of_getElem? (i := 23) rfl)
theorem T_851 : Cond.code yX5_copyFrom cX5_copyFrom 2 none ∈ T0 := ax_c6 _ (List.mem_of_getElem? (i := 24) rfl)
theorem ax_c7 : ∀ w ∈ Tc7, w ∈ T0 := fun _ h => List.mem_append_left _ (List.mem_append_right _ (List.mem_append_right _ (List.mem_append_right _ (List.mem_append_right _ (List.mem_append_right _ (List.mem_append_right _ (List.mem_append_right _ (List.mem_append_left _ h))))))))
theorem T_855 : Cond.code yX4_restOfReady cX4_restOfReady 2 (some .int) ∈ T0 := ax_c7 _ (List.mem_of_getElem? (i := 0) rfl)
theorem T_859 : Cond.code yX5_isLike cX5_isLike 3 (some .boolean) ∈ T0 := ax_c7 _ (List.mem_of_getElem? (i := 1) rfl)
theorem T_862 : Cond.code yX6_areLike cX6_areLike 3 (some .boolean) ∈ T0 := ax_c7 _ (List.mem_of_getElem? (i := 2) rfl)
theorem T_865 : Cond.code yX5_restart cX5_restart 4 none ∈ T0 := ax_c7 _ (List.mem_of_getElem? (i := 3) rfl)
theorem T_870 : Cond.code yX5_passBar cX5_passBar 5 none ∈ T0 := ax_c7 _ (List.mem_of_getElem? (i := 4) rfl)
theorem T_887 : Cond.code yX5_layPart cX5_layPart 4 none ∈ T0 := ax_c7 _ (List.mem_of_getElem? (i := 5) rfl)
theorem T_891 : Cond.code yX0_tryBy cX0_tryBy 4 none ∈ T0 := ax_c7 _ (List.mem_of_getElem? (i := 6) rfl)
theorem T_895 : Cond.code yX0_tryLane cX0_tryLane 8 none ∈ T0 := ax_c7 _ (List.mem_of_getElem? (i := 7) rfl)
theorem T_899 : Cond.code yX6_isAsAlone cX6_isAsAlone 4 (some .boolean) ∈ T0 := ax_c7 _ (List.mem_of_getElem? (i := 8) rfl)
theorem T_903 : Cond.code yX0_solo cX0_solo 4 (some .int) ∈ T0 := ax_c7 _ (List.mem_of_getElem? (i := 9) rfl)
theorem T_907 : Cond.code yX6_keepForUndo cX6_keepForUndo 1 none ∈ T0 := ax_c7 _ (List.mem_of_getElem? (i := 10) rfl)
theorem T_912 : Cond.code yX6_isMode cX6_isMode 1 (some .boolean) ∈ T0 := ax_c7 _ (List.mem_of_getElem? (i := 11) rfl)
theorem T_915 : Cond.code yX6_isOrder cX6_isOrder 1 (some .boolean) ∈ T0 := ax_c7 _ (List.mem_of_getElem? (i := 12) rfl)
theorem T_919 : Cond.code yX6_layout cX6_layout 3 (some .int) ∈ T0 := ax_c7 _ (List.mem_of_getElem? (i := 13) rfl)
theorem T_922 : Cond.code yX0_course cX0_course 7 (some .int) ∈ T0 := ax_c7 _ (List.mem_of_getElem? (i := 14) rfl)
theorem T_926 : Cond.code yX6_draw cX6_draw 2 (some .int) ∈ T0 := ax_c7 _ (List.mem_of_getElem? (i := 15) rfl)
theorem T_930 : Cond.code yX6_run cX6_run 4 (some .int) ∈ T0 := ax_c7 _ (List.mem_of_getElem? (i := 16) rfl)
theorem T_938 : Cond.code yX4_living cX4_living 3 (some .int) ∈ T0 := ax_c7 _ (List.mem_of_getElem? (i := 17) rfl)
theorem T_942 : Cond.code yX4_waiting cX4_waiting 3 (some .int) ∈ T0 := ax_c7 _ (List.mem_of_getElem? (i := 18) rfl)
theorem T_946 : Cond.code yX4_racedWords cX4_racedWords 3 (some .int) ∈ T0 := ax_c7 _ (List.mem_of_getElem? (i := 19) rfl)
theorem T_953 : Cond.code yX0_forgetAhead cX0_forgetAhead 1 none ∈ T0 := ax_c7 _ (List.mem_of_getElem? (i := 20) rfl)
theorem T_957 : Cond.code yX5_lineOf cX5_lineOf 5 (some .int) ∈ T0 := ax_c7 _ (List.mem_of_getElem? (i := 21) rfl)
theorem T_961 : Cond.code yX0_behind cX0_behind 4 (some (.object "LaneWarps$State")) ∈ T0 := ax_c7 _ (List.mem_of_getElem? (i := 22) rfl)
theorem T_965 : Cond.code yX0_tryWord cX0_tryWord 6 none ∈ T0 := ax_c7 _ (List.mem_of_getElem? (i := 23) rfl)
theorem T_971 : Cond.code yX2_findMeets cX2_findMeets 2 none ∈ T0 := ax_c7 _ (List.mem_of_getElem? (i := 24) rfl)
theorem ax_c8 : ∀ w ∈ Tc8, w ∈ T0 := fun _ h => List.mem_append_left _ (List.mem_append_right _ (List.mem_append_right _ (List.mem_append_right _ (List.mem_append_right _ (List.mem_append_right _ (List.mem_append_right _ (List.mem_append_right _ (List.mem_append_right _ (List.mem_append_left _ h)))))))))
theorem T_977 : Cond.code yX0_unlike cX0_unlike 6 (some .int) ∈ T0 := ax_c8 _ (List.mem_of_getElem? (i := 0) rfl)
theorem T_982 : Cond.code yX7_goer cX7_goer 3 (some .int) ∈ T0 := ax_c8 _ (List.mem_of_getElem? (i := 1) rfl)
theorem T_986 : Cond.code yX7_goes0 cX7_goes0 6 none ∈ T0 := ax_c8 _ (List.mem_of_getElem? (i := 2) rfl)
theorem T_990 : Cond.code yX7_opensBar cX7_opensBar 4 none ∈ T0 := ax_c8 _ (List.mem_of_getElem? (i := 3) rfl)
theorem T_994 : Cond.code yX7_warps cX7_warps 1 (some .int) ∈ T0 := ax_c8 _ (List.mem_of_getElem? (i := 4) rfl)
theorem T_998 : Cond.code yX7_doesAgree cX7_doesAgree 4 (some .boolean) ∈ T0 := ax_c8 _ (List.mem_of_getElem? (i := 5) rfl)
theorem T_1002 : Cond.code yX7_flag cX7_flag 1 (some .int) ∈ T0 := ax_c8 _ (List.mem_of_getElem? (i := 6) rfl)
theorem T_1006 : Cond.code yX7_isAlone cX7_isAlone 4 (some .boolean) ∈ T0 := ax_c8 _ (List.mem_of_getElem? (i := 7) rfl)
theorem T_1010 : Cond.code yX7_takesSign cX7_takesSign 2 (some .boolean) ∈ T0 := ax_c8 _ (List.mem_of_getElem? (i := 8) rfl)
theorem T_1014 : Cond.code yX7_keeps cX7_keeps 2 none ∈ T0 := ax_c8 _ (List.mem_of_getElem? (i := 9) rfl)
theorem T_1018 : Cond.code yX7_begins cX7_begins 5 none ∈ T0 := ax_c8 _ (List.mem_of_getElem? (i := 10) rfl)
theorem T_1022 : Cond.code yX7_warpAt cX7_warpAt 2 (some .int) ∈ T0 := ax_c8 _ (List.mem_of_getElem? (i := 11) rfl)
theorem T_1025 : Cond.code yX7_nextAt cX7_nextAt 2 (some .int) ∈ T0 := ax_c8 _ (List.mem_of_getElem? (i := 12) rfl)
theorem T_1028 : Cond.code yX7_isOf cX7_isOf 2 (some .boolean) ∈ T0 := ax_c8 _ (List.mem_of_getElem? (i := 13) rfl)
theorem T_1031 : Cond.code yX7_lines cX7_lines 1 (some .int) ∈ T0 := ax_c8 _ (List.mem_of_getElem? (i := 14) rfl)
theorem T_1035 : Cond.code yX7_pushes cX7_pushes 6 none ∈ T0 := ax_c8 _ (List.mem_of_getElem? (i := 15) rfl)
theorem T_1042 : Cond.code yX7_putsAside cX7_putsAside 2 none ∈ T0 := ax_c8 _ (List.mem_of_getElem? (i := 16) rfl)
theorem T_1046 : Cond.code yX7_goesOn cX7_goesOn 1 none ∈ T0 := ax_c8 _ (List.mem_of_getElem? (i := 17) rfl)
theorem T_1050 : Cond.code yX7_takesBack cX7_takesBack 2 none ∈ T0 := ax_c8 _ (List.mem_of_getElem? (i := 18) rfl)
theorem T_1054 : Cond.code yX7_told cX7_told 2 (some .int) ∈ T0 := ax_c8 _ (List.mem_of_getElem? (i := 19) rfl)
theorem T_1058 : Cond.code yX7_its cX7_its 3 (some .int) ∈ T0 := ax_c8 _ (List.mem_of_getElem? (i := 20) rfl)
theorem T_1062 : Cond.code yX7_together cX7_together 6 (some .int) ∈ T0 := ax_c8 _ (List.mem_of_getElem? (i := 21) rfl)
theorem T_1067 : Cond.code yX7_drawOf cX7_drawOf 2 (some .int) ∈ T0 := ax_c8 _ (List.mem_of_getElem? (i := 22) rfl)
theorem T_1071 : Cond.code yX7_aCycle cX7_aCycle 2 none ∈ T0 := ax_c8 _ (List.mem_of_getElem? (i := 23) rfl)
theorem T_1075 : Cond.code yX7_top cX7_top 2 (some .int) ∈ T0 := ax_c8 _ (List.mem_of_getElem? (i := 24) rfl)
theorem ax_c9 : ∀ w ∈ Tc9, w ∈ T0 := fun _ h => List.mem_append_left _ (List.mem_append_right _ (List.mem_append_right _ (List.mem_append_right _ (List.mem_append_right _ (List.mem_append_right _ (List.mem_append_right _ (List.mem_append_right _ (List.mem_append_right _ (List.mem_append_right _ (List.mem_append_left _ h))))))))))
theorem T_1079 : Cond.code yX7_partAt cX7_partAt 3 (some .int) ∈ T0 := ax_c9 _ (List.mem_of_getElem? (i := 0) rfl)
theorem T_1082 : Cond.code yX7_bankOf cX7_bankOf 2 (some .int) ∈ T0 := ax_c9 _ (List.mem_of_getElem? (i := 1) rfl)
theorem T_1086 : Cond.code yX7_isAsked cX7_isAsked 4 (some .boolean) ∈ T0 := ax_c9 _ (List.mem_of_getElem? (i := 2) rfl)
theorem T_1090 : Cond.code yX7_endsTop cX7_endsTop 3 none ∈ T0 := ax_c9 _ (List.mem_of_getElem? (i := 3) rfl)
theorem T_1096 : Cond.code yX7_registerAt cX7_registerAt 3 (some .int) ∈ T0 := ax_c9 _ (List.mem_of_getElem? (i := 4) rfl)
theorem T_1103 : Cond.code yX7_isEnded cX7_isEnded 1 (some .boolean) ∈ T0 := ax_c9 _ (List.mem_of_getElem? (i := 5) rfl)
theorem T_1107 : Cond.code yX7_dies cX7_dies 4 none ∈ T0 := ax_c9 _ (List.mem_of_getElem? (i := 6) rfl)
theorem T_1111 : Cond.code yX7_name cX7_name 2 (some .int) ∈ T0 := ax_c9 _ (List.mem_of_getElem? (i := 7) rfl)
theorem T_1116 : Cond.code yX7_lays cX7_lays 3 none ∈ T0 := ax_c9 _ (List.mem_of_getElem? (i := 8) rfl)
theorem T_1120 : Cond.code yX7_partTold cX7_partTold 2 (some .int) ∈ T0 := ax_c9 _ (List.mem_of_getElem? (i := 9) rfl)
theorem T_1124 : Cond.code yX7_canGo cX7_canGo 2 (some .boolean) ∈ T0 := ax_c9 _ (List.mem_of_getElem? (i := 10) rfl)
theorem T_1128 : Cond.code yX7_lineOf cX7_lineOf 4 (some .int) ∈ T0 := ax_c9 _ (List.mem_of_getElem? (i := 11) rfl)
theorem T_1132 : Cond.code yX7_of cX7_of 3 (some .int) ∈ T0 := ax_c9 _ (List.mem_of_getElem? (i := 12) rfl)
theorem T_1136 : Cond.code yX7_takes0 cX7_takes0 7 (some .int) ∈ T0 := ax_c9 _ (List.mem_of_getElem? (i := 13) rfl)
theorem T_1140 : Cond.code yX7_keepsLine cX7_keepsLine 6 none ∈ T0 := ax_c9 _ (List.mem_of_getElem? (i := 14) rfl)
theorem T_1144 : Cond.code yX7_works cX7_works 11 none ∈ T0 := ax_c9 _ (List.mem_of_getElem? (i := 15) rfl)
theorem T_1148 : Cond.code yX7_goesFair cX7_goesFair 7 none ∈ T0 := ax_c9 _ (List.mem_of_getElem? (i := 16) rfl)
theorem T_1152 : Cond.code yX7_goesByStack cX7_goesByStack 5 none ∈ T0 := ax_c9 _ (List.mem_of_getElem? (i := 17) rfl)
theorem T_1156 : Cond.code yX7_partsWays cX7_partsWays 7 none ∈ T0 := ax_c9 _ (List.mem_of_getElem? (i := 18) rfl)
theorem T_1160 : Cond.code yX7_changesParts cX7_changesParts 5 none ∈ T0 := ax_c9 _ (List.mem_of_getElem? (i := 19) rfl)
theorem T_1164 : Cond.code yX7_clears cX7_clears 3 none ∈ T0 := ax_c9 _ (List.mem_of_getElem? (i := 20) rfl)
theorem T_1168 : Cond.code yX7_holding cX7_holding 6 (some .int) ∈ T0 := ax_c9 _ (List.mem_of_getElem? (i := 21) rfl)
theorem T_1172 : Cond.code yX7_nexts cX7_nexts 5 none ∈ T0 := ax_c9 _ (List.mem_of_getElem? (i := 22) rfl)
theorem T_1176 : Cond.code yX7_comesTo cX7_comesTo 3 none ∈ T0 := ax_c9 _ (List.mem_of_getElem? (i := 23) rfl)
theorem T_1180 : Cond.code yX7_isFork cX7_isFork 2 (some .boolean) ∈ T0 := ax_c9 _ (List.mem_of_getElem? (i := 24) rfl)
theorem ax_c10 : ∀ w ∈ Tc10, w ∈ T0 := fun _ h => List.mem_append_left _ (List.mem_append_right _ (List.mem_append_right _ (List.mem_append_right _ (List.mem_append_right _ (List.mem_append_right _ (List.mem_append_right _ (List.mem_append_right _ (List.mem_append_right _ (List.mem_append_right _ (List.mem_append_right _ (List.mem_append_left _ h)))))))))))
theorem T_1186 : Cond.code yX7_isOver cX7_isOver 3 (some .boolean) ∈ T0 := ax_c10 _ (List.mem_of_getElem? (i := 0) rfl)
theorem T_1190 : Cond.code yX7_sumOf cX7_sumOf 4 (some .int) ∈ T0 := ax_c10 _ (List.mem_of_getElem? (i := 1) rfl)
theorem T_1194 : Cond.code yX7_racedMany cX7_racedMany 3 (some .int) ∈ T0 := ax_c10 _ (List.mem_of_getElem? (i := 2) rfl)
theorem T_1198 : Cond.code yX7_partsOf cX7_partsOf 1 (some .int) ∈ T0 := ax_c10 _ (List.mem_of_getElem? (i := 3) rfl)
theorem T_1201 : Cond.code yX7_endsBehind cX7_endsBehind 2 (some .int) ∈ T0 := ax_c10 _ (List.mem_of_getElem? (i := 4) rfl)
theorem T_1205 : Cond.code yX7_modulo cX7_modulo 5 (some .int) ∈ T0 := ax_c10 _ (List.mem_of_getElem? (i := 5) rfl)
theorem T_1208 : Cond.code yX7_goesFrom cX7_goesFrom 4 none ∈ T0 := ax_c10 _ (List.mem_of_getElem? (i := 6) rfl)
theorem T_1212 : Cond.code yX7_isEndReached cX7_isEndReached 4 (some .boolean) ∈ T0 := ax_c10 _ (List.mem_of_getElem? (i := 7) rfl)
theorem T_1217 : Cond.code yX7_lineAt cX7_lineAt 2 (some .int) ∈ T0 := ax_c10 _ (List.mem_of_getElem? (i := 8) rfl)
theorem T_1220 : Cond.code yX7_isStuck cX7_isStuck 2 (some .boolean) ∈ T0 := ax_c10 _ (List.mem_of_getElem? (i := 9) rfl)
theorem T_1225 : Cond.code yX7_laysState cX7_laysState 7 none ∈ T0 := ax_c10 _ (List.mem_of_getElem? (i := 10) rfl)
theorem T_1229 : Cond.code yX7_likeOf cX7_likeOf 3 (some .int) ∈ T0 := ax_c10 _ (List.mem_of_getElem? (i := 11) rfl)
theorem T_1235 : Cond.code yX7_nextOf cX7_nextOf 4 (some .int) ∈ T0 := ax_c10 _ (List.mem_of_getElem? (i := 12) rfl)
theorem T_1240 : Cond.code yX7_areAlike cX7_areAlike 4 (some .boolean) ∈ T0 := ax_c10 _ (List.mem_of_getElem? (i := 13) rfl)
theorem T_1245 : Cond.code yX7_laysEnds cX7_laysEnds 3 none ∈ T0 := ax_c10 _ (List.mem_of_getElem? (i := 14) rfl)
theorem T_1249 : Cond.code yX7_isNamed cX7_isNamed 3 (some .boolean) ∈ T0 := ax_c10 _ (List.mem_of_getElem? (i := 15) rfl)
theorem T_1253 : Cond.code yX7_lineTold cX7_lineTold 4 none ∈ T0 := ax_c10 _ (List.mem_of_getElem? (i := 16) rfl)
theorem T_1258 : Cond.code yX7_passes cX7_passes 1 none ∈ T0 := ax_c10 _ (List.mem_of_getElem? (i := 17) rfl)
theorem T_1262 : Cond.code yX7_hasRegister cX7_hasRegister 1 (some .boolean) ∈ T0 := ax_c10 _ (List.mem_of_getElem? (i := 18) rfl)
theorem T_1265 : Cond.code yX7_registerTold cX7_registerTold 2 (some .int) ∈ T0 := ax_c10 _ (List.mem_of_getElem? (i := 19) rfl)
theorem T_1269 : Cond.code yX7_goTold cX7_goTold 3 none ∈ T0 := ax_c10 _ (List.mem_of_getElem? (i := 20) rfl)
theorem T_1273 : Cond.code yX7_bounded cX7_bounded 2 (some .int) ∈ T0 := ax_c10 _ (List.mem_of_getElem? (i := 21) rfl)
theorem T_1276 : Cond.code yX7_isFirst cX7_isFirst 4 (some .boolean) ∈ T0 := ax_c10 _ (List.mem_of_getElem? (i := 22) rfl)
theorem T_1280 : Cond.code yX7_isDigit cX7_isDigit 1 (some .boolean) ∈ T0 := ax_c10 _ (List.mem_of_getElem? (i := 23) rfl)
theorem T_1283 : Cond.code yX7_isLike cX7_isLike 4 (some .boolean) ∈ T0 := ax_c10 _ (List.mem_of_getElem? (i := 24) rfl)
theorem ax_c11 : ∀ w ∈ Tc11, w ∈ T0 := fun _ h => List.mem_append_left _ (List.mem_append_right _ (List.mem_append_right _ (List.mem_append_right _ (List.mem_append_right _ (List.mem_append_right _ (List.mem_append_right _ (List.mem_append_right _ (List.mem_append_right _ (List.mem_append_right _ (List.mem_append_right _ (List.mem_append_right _ (List.mem_append_left _ h))))))))))))
theorem T_1287 : Cond.code yX7_laysPart cX7_laysPart 5 none ∈ T0 := ax_c11 _ (List.mem_of_getElem? (i := 0) rfl)
theorem T_1291 : Cond.code yX7_statementTold cX7_statementTold 5 none ∈ T0 := ax_c11 _ (List.mem_of_getElem? (i := 1) rfl)
theorem T_1295 : Cond.code yX7_stands cX7_stands 2 none ∈ T0 := ax_c11 _ (List.mem_of_getElem? (i := 2) rfl)
theorem T_1299 : Cond.code yX7_hasFirst cX7_hasFirst 1 (some .boolean) ∈ T0 := ax_c11 _ (List.mem_of_getElem? (i := 3) rfl)
theorem T_1302 : Cond.code yX7_partOf cX7_partOf 4 (some .int) ∈ T0 := ax_c11 _ (List.mem_of_getElem? (i := 4) rfl)
theorem T_1308 : Cond.code yX7_meetOf cX7_meetOf 3 (some .int) ∈ T0 := ax_c11 _ (List.mem_of_getElem? (i := 5) rfl)
theorem T_1312 : Cond.code yX7_lineBegins cX7_lineBegins 4 none ∈ T0 := ax_c11 _ (List.mem_of_getElem? (i := 6) rfl)
theorem T_1316 : Cond.code yX7_count cX7_count 3 (some .int) ∈ T0 := ax_c11 _ (List.mem_of_getElem? (i := 7) rfl)
theorem T_1319 : Cond.code yX7_reads cX7_reads 6 none ∈ T0 := ax_c11 _ (List.mem_of_getElem? (i := 8) rfl)
theorem T_1323 : Cond.code yX7_segments cX7_segments 5 (some .int) ∈ T0 := ax_c11 _ (List.mem_of_getElem? (i := 9) rfl)
theorem T_1327 : Cond.code yX7_clashes cX7_clashes 6 (some .int) ∈ T0 := ax_c11 _ (List.mem_of_getElem? (i := 10) rfl)
theorem T_1331 : Cond.code yX7_unlike cX7_unlike 5 (some .int) ∈ T0 := ax_c11 _ (List.mem_of_getElem? (i := 11) rfl)
theorem T_1335 : Cond.code yX7_touches cX7_touches 6 none ∈ T0 := ax_c11 _ (List.mem_of_getElem? (i := 12) rfl)
theorem T_1339 : Cond.code yX7_made cX7_made 3 (some .int) ∈ T0 := ax_c11 _ (List.mem_of_getElem? (i := 13) rfl)
theorem ax_c12 : ∀ w ∈ Tc12, w ∈ T0 := fun _ h => List.mem_append_left _ (List.mem_append_right _ (List.mem_append_right _ (List.mem_append_right _ (List.mem_append_right _ (List.mem_append_right _ (List.mem_append_right _ (List.mem_append_right _ (List.mem_append_right _ (List.mem_append_right _ (List.mem_append_right _ (List.mem_append_right _ (List.mem_append_right _ (List.mem_append_left _ h)))))))))))))
theorem T_97 : Cond.methodLink RX5 3 objectInit ∈ T0 := ax_c12 _ (List.mem_of_getElem? (i := 0) rfl)
theorem T_98 : Cond.instanceMethod objectInit ∈ T0 := ax_c12 _ (List.mem_of_getElem? (i := 1) rfl)
theorem T_99 : Cond.arrayClass .int ∈ T0 := ax_c12 _ (List.mem_of_getElem? (i := 2) rfl)
theorem T_100 : Cond.fieldLink RX5 9 "LaneWarps$Warp" "registers" "[I" ∈ T0 := ax_c12 _ (List.mem_of_getElem? (i := 3) rfl)
theorem T_101 : Cond.fieldLink RX5 15 "LaneWarps$Warp" "lines" "[I" ∈ T0 := ax_c12 _ (List.mem_of_getElem? (i := 4) rfl)
theorem T_102 : Cond.fieldLink RX5 18 "LaneWarps$Warp" "partLine" "[I" ∈ T0 := ax_c12 _ (List.mem_of_getElem? (i := 5) rfl)
theorem T_103 : Cond.fieldLink RX5 21 "LaneWarps$Warp" "partMeets" "[I" ∈ T0 := ax_c12 _ (List.mem_of_getElem? (i := 6) rfl)
theorem T_104 : Cond.fieldLink RX5 24 "LaneWarps$Warp" "partLanes" "[I" ∈ T0 := ax_c12 _ (List.mem_of_getElem? (i := 7) rfl)
theorem T_105 : Cond.methodLink RX4 3 objectInit ∈ T0 := ax_c12 _ (List.mem_of_getElem? (i := 8) rfl)
theorem T_106 : Cond.classLink RX4 9 RX5 ∈ T0 := ax_c12 _ (List.mem_of_getElem? (i := 9) rfl)
theorem T_107 : Cond.fieldLink RX4 11 "LaneWarps$State" "warps" "[LLaneWarps$Warp;" ∈ T0 := ax_c12 _ (List.mem_of_getElem? (i := 10) rfl)
theorem T_108 : Cond.fieldLink RX4 17 "LaneWarps$State" "far" "[I" ∈ T0 := ax_c12 _ (List.mem_of_getElem? (i := 11) rfl)
theorem T_109 : Cond.fieldLink RX4 21 "LaneWarps$State" "near" "[I" ∈ T0 := ax_c12 _ (List.mem_of_getElem? (i := 12) rfl)
theorem T_110 : Cond.fieldLink RX4 24 "LaneWarps$State" "touched" "[I" ∈ T0 := ax_c12 _ (List.mem_of_getElem? (i := 13) rfl)
theorem T_111 : Cond.fieldLink RX4 27 "LaneWarps$State" "wrote" "[I" ∈ T0 := ax_c12 _ (List.mem_of_getElem? (i := 14) rfl)
theorem T_112 : Cond.fieldLink RX4 30 "LaneWarps$State" "raced" "[I" ∈ T0 := ax_c12 _ (List.mem_of_getElem? (i := 15) rfl)
theorem T_113 : Cond.fieldLink RX4 33 "LaneWarps$State" "kept" "[I" ∈ T0 := ax_c12 _ (List.mem_of_getElem? (i := 16) rfl)
theorem T_114 : Cond.fieldLink RX4 36 "LaneWarps$State" "last" "I" ∈ T0 := ax_c12 _ (List.mem_of_getElem? (i := 17) rfl)
theorem T_115 : Cond.instantiable RX5 11 ∈ T0 := ax_c12 _ (List.mem_of_getElem? (i := 18) rfl)
theorem T_116 : Cond.initialized RX5 ∈ T0 := ax_c12 _ (List.mem_of_getElem? (i := 19) rfl)
theorem T_117 : Cond.instanceMethod yX5_init ∈ T0 := ax_c12 _ (List.mem_of_getElem? (i := 20) rfl)
theorem T_118 : Cond.methodLink RX1 3 objectInit ∈ T0 := ax_c12 _ (List.mem_of_getElem? (i := 21) rfl)
theorem T_119 : Cond.fieldLink RX1 9 "LaneWarps$Machine" "addresses" "[I" ∈ T0 := ax_c12 _ (List.mem_of_getElem? (i := 22) rfl)
theorem T_120 : Cond.fieldLink RX1 15 "LaneWarps$Machine" "inBank" "[I" ∈ T0 := ax_c12 _ (List.mem_of_getElem? (i := 23) rfl)
theorem T_121 : Cond.fieldLink RX1 18 "LaneWarps$Machine" "program" "LLaneWarps$Program;" ∈ T0 := ax_c12 _ (List.mem_of_getElem? (i := 24) rfl)
theorem T_122 : Cond.methodLink RX2 3 objectInit ∈ T0 := ax_c12 _ (List.mem_of_getElem? (i := 25) rfl)
theorem T_123 : Cond.classLink RX2 9 "[[I" ∈ T0 := ax_c12 _ (List.mem_of_getElem? (i := 26) rfl)
theorem T_124 : Cond.fieldLink RX2 11 "LaneWarps$Program" "rows" "[[I" ∈ T0 := ax_c12 _ (List.mem_of_getElem? (i := 27) rfl)
theorem T_125 : Cond.fieldLink RX2 16 "LaneWarps$Program" "far" "[I" ∈ T0 := ax_c12 _ (List.mem_of_getElem? (i := 28) rfl)
theorem T_126 : Cond.arrayClass .long ∈ T0 := ax_c12 _ (List.mem_of_getElem? (i := 29) rfl)
theorem T_127 : Cond.fieldLink RX2 20 "LaneWarps$Program" "passed" "[J" ∈ T0 := ax_c12 _ (List.mem_of_getElem? (i := 30) rfl)
theorem T_128 : Cond.methodLink RX3 3 objectInit ∈ T0 := ax_c12 _ (List.mem_of_getElem? (i := 31) rfl)
theorem T_129 : Cond.fieldLink RX3 9 "LaneWarps$Reader" "nameAt" "[I" ∈ T0 := ax_c12 _ (List.mem_of_getElem? (i := 32) rfl)
theorem T_130 : Cond.fieldLink RX3 15 "LaneWarps$Reader" "nameEnd" "[I" ∈ T0 := ax_c12 _ (List.mem_of_getElem? (i := 33) rfl)
theorem T_131 : Cond.fieldLink RX3 18 "LaneWarps$Reader" "aimAt" "[I" ∈ T0 := ax_c12 _ (List.mem_of_getElem? (i := 34) rfl)
theorem T_132 : Cond.fieldLink RX3 21 "LaneWarps$Reader" "aimEnd" "[I" ∈ T0 := ax_c12 _ (List.mem_of_getElem? (i := 35) rfl)
theorem T_133 : Cond.fieldLink RX3 24 "LaneWarps$Reader" "place" "I" ∈ T0 := ax_c12 _ (List.mem_of_getElem? (i := 36) rfl)
theorem T_134 : Cond.methodLink RX0 3 objectInit ∈ T0 := ax_c12 _ (List.mem_of_getElem? (i := 37) rfl)
theorem T_135 : Cond.classLink RX0 9 RX1 ∈ T0 := ax_c12 _ (List.mem_of_getElem? (i := 38) rfl)
theorem T_136 : Cond.instantiable RX1 12 ∈ T0 := ax_c12 _ (List.mem_of_getElem? (i := 39) rfl)
theorem ax_c13 : ∀ w ∈ Tc13, w ∈ T0 := fun _ h => List.mem_append_left _ (List.mem_append_right _ (List.mem_append_right _ (List.mem_append_right _ (List.mem_append_right _ (List.mem_append_right _ (List.mem_append_right _ (List.mem_append_right _ (List.mem_append_right _ (List.mem_append_right _ (List.mem_append_right _ (List.mem_append_right _ (List.mem_append_right _ (List.mem_append_right _ (List.mem_append_left _ h))))))))))))))
theorem T_137 : Cond.initialized RX1 ∈ T0 := ax_c13 _ (List.mem_of_getElem? (i := 0) rfl)
theorem T_138 : Cond.instanceMethod yX1_init ∈ T0 := ax_c13 _ (List.mem_of_getElem? (i := 1) rfl)
theorem T_139 : Cond.fieldLink RX0 12 "LaneWarps$Forecast" "machine" "LLaneWarps$Machine;" ∈ T0 := ax_c13 _ (List.mem_of_getElem? (i := 2) rfl)
theorem T_140 : Cond.classLink RX0 18 RX4 ∈ T0 := ax_c13 _ (List.mem_of_getElem? (i := 3) rfl)
theorem T_141 : Cond.instantiable RX4 15 ∈ T0 := ax_c13 _ (List.mem_of_getElem? (i := 4) rfl)
theorem T_142 : Cond.initialized RX4 ∈ T0 := ax_c13 _ (List.mem_of_getElem? (i := 5) rfl)
theorem T_143 : Cond.methodLink RX0 20 yX4_init ∈ T0 := ax_c13 _ (List.mem_of_getElem? (i := 6) rfl)
theorem T_144 : Cond.instanceMethod yX4_init ∈ T0 := ax_c13 _ (List.mem_of_getElem? (i := 7) rfl)
theorem T_145 : Cond.fieldLink RX0 21 "LaneWarps$Forecast" "origin" "LLaneWarps$State;" ∈ T0 := ax_c13 _ (List.mem_of_getElem? (i := 8) rfl)
theorem T_146 : Cond.fieldLink RX0 25 "LaneWarps$Forecast" "scout" "LLaneWarps$State;" ∈ T0 := ax_c13 _ (List.mem_of_getElem? (i := 9) rfl)
theorem T_147 : Cond.fieldLink RX0 28 "LaneWarps$Forecast" "trail" "LLaneWarps$State;" ∈ T0 := ax_c13 _ (List.mem_of_getElem? (i := 10) rfl)
theorem T_148 : Cond.fieldLink RX0 31 "LaneWarps$Forecast" "courses" "[I" ∈ T0 := ax_c13 _ (List.mem_of_getElem? (i := 11) rfl)
theorem T_149 : Cond.fieldLink RX0 35 "LaneWarps$Forecast" "ends" "[I" ∈ T0 := ax_c13 _ (List.mem_of_getElem? (i := 12) rfl)
theorem T_150 : Cond.fieldLink RX0 38 "LaneWarps$Forecast" "solos" "[I" ∈ T0 := ax_c13 _ (List.mem_of_getElem? (i := 13) rfl)
theorem T_151 : Cond.fieldLink RX0 41 "LaneWarps$Forecast" "program" "LLaneWarps$Program;" ∈ T0 := ax_c13 _ (List.mem_of_getElem? (i := 14) rfl)
theorem T_152 : Cond.methodLink RX0 45 yX1_take ∈ T0 := ax_c13 _ (List.mem_of_getElem? (i := 15) rfl)
theorem T_153 : Cond.instanceMethod yX1_take ∈ T0 := ax_c13 _ (List.mem_of_getElem? (i := 16) rfl)
theorem T_154 : Cond.selects RX1 yX1_take yX1_take ∈ T0 := ax_c13 _ (List.mem_of_getElem? (i := 17) rfl)
theorem T_155 : Cond.fieldLink RX0 49 "LaneWarps$Forecast" "coursesKnown" "I" ∈ T0 := ax_c13 _ (List.mem_of_getElem? (i := 18) rfl)
theorem T_156 : Cond.fieldLink RX0 53 "LaneWarps$Forecast" "endsKnown" "J" ∈ T0 := ax_c13 _ (List.mem_of_getElem? (i := 19) rfl)
theorem T_157 : Cond.fieldLink RX0 57 "LaneWarps$Forecast" "solosKnown" "I" ∈ T0 := ax_c13 _ (List.mem_of_getElem? (i := 20) rfl)
theorem T_158 : Cond.methodLink RX6 3 objectInit ∈ T0 := ax_c13 _ (List.mem_of_getElem? (i := 21) rfl)
theorem T_159 : Cond.arrayClass .byte ∈ T0 := ax_c13 _ (List.mem_of_getElem? (i := 22) rfl)
theorem T_160 : Cond.fieldLink RX6 9 "LaneWarps" "tape" "[B" ∈ T0 := ax_c13 _ (List.mem_of_getElem? (i := 23) rfl)
theorem T_161 : Cond.classLink RX6 13 RX3 ∈ T0 := ax_c13 _ (List.mem_of_getElem? (i := 24) rfl)
theorem T_162 : Cond.instantiable RX3 15 ∈ T0 := ax_c13 _ (List.mem_of_getElem? (i := 25) rfl)
theorem T_163 : Cond.initialized RX3 ∈ T0 := ax_c13 _ (List.mem_of_getElem? (i := 26) rfl)
theorem T_164 : Cond.instanceMethod yX3_init ∈ T0 := ax_c13 _ (List.mem_of_getElem? (i := 27) rfl)
theorem T_165 : Cond.fieldLink RX6 16 "LaneWarps" "reader" "LLaneWarps$Reader;" ∈ T0 := ax_c13 _ (List.mem_of_getElem? (i := 28) rfl)
theorem T_166 : Cond.classLink RX6 20 RX2 ∈ T0 := ax_c13 _ (List.mem_of_getElem? (i := 29) rfl)
theorem T_167 : Cond.instantiable RX2 7 ∈ T0 := ax_c13 _ (List.mem_of_getElem? (i := 30) rfl)
theorem T_168 : Cond.initialized RX2 ∈ T0 := ax_c13 _ (List.mem_of_getElem? (i := 31) rfl)
theorem T_169 : Cond.instanceMethod yX2_init ∈ T0 := ax_c13 _ (List.mem_of_getElem? (i := 32) rfl)
theorem T_170 : Cond.fieldLink RX6 23 "LaneWarps" "current" "LLaneWarps$Program;" ∈ T0 := ax_c13 _ (List.mem_of_getElem? (i := 33) rfl)
theorem T_171 : Cond.fieldLink RX6 27 "LaneWarps" "spare" "LLaneWarps$Program;" ∈ T0 := ax_c13 _ (List.mem_of_getElem? (i := 34) rfl)
theorem T_172 : Cond.classLink RX6 30 RX4 ∈ T0 := ax_c13 _ (List.mem_of_getElem? (i := 35) rfl)
theorem T_173 : Cond.methodLink RX6 32 yX4_init ∈ T0 := ax_c13 _ (List.mem_of_getElem? (i := 36) rfl)
theorem T_174 : Cond.fieldLink RX6 33 "LaneWarps" "now" "LLaneWarps$State;" ∈ T0 := ax_c13 _ (List.mem_of_getElem? (i := 37) rfl)
theorem T_175 : Cond.fieldLink RX6 37 "LaneWarps" "past" "[LLaneWarps$State;" ∈ T0 := ax_c13 _ (List.mem_of_getElem? (i := 38) rfl)
theorem T_176 : Cond.classLink RX6 41 RX1 ∈ T0 := ax_c13 _ (List.mem_of_getElem? (i := 39) rfl)
theorem ax_c14 : ∀ w ∈ Tc14, w ∈ T0 := fun _ h => List.mem_append_left _ (List.mem_append_right _ (List.mem_append_right _ (List.mem_append_right _ (List.mem_append_right _ (List.mem_append_right _ (List.mem_append_right _ (List.mem_append_right _ (List.mem_append_right _ (List.mem_append_right _ (List.mem_append_right _ (List.mem_append_right _ (List.mem_append_right _ (List.mem_append_right _ (List.mem_append_right _ (List.mem_append_left _ h)))))))))))))))
theorem T_177 : Cond.fieldLink RX6 44 "LaneWarps" "machine" "LLaneWarps$Machine;" ∈ T0 := ax_c14 _ (List.mem_of_getElem? (i := 0) rfl)
theorem T_178 : Cond.classLink RX6 48 RX0 ∈ T0 := ax_c14 _ (List.mem_of_getElem? (i := 1) rfl)
theorem T_179 : Cond.instantiable RX0 14 ∈ T0 := ax_c14 _ (List.mem_of_getElem? (i := 2) rfl)
theorem T_180 : Cond.initialized RX0 ∈ T0 := ax_c14 _ (List.mem_of_getElem? (i := 3) rfl)
theorem T_181 : Cond.instanceMethod yX0_init ∈ T0 := ax_c14 _ (List.mem_of_getElem? (i := 4) rfl)
theorem T_182 : Cond.fieldLink RX6 51 "LaneWarps" "forecast" "LLaneWarps$Forecast;" ∈ T0 := ax_c14 _ (List.mem_of_getElem? (i := 5) rfl)
theorem T_183 : Cond.fieldLink RX6 55 "LaneWarps" "refused" "[I" ∈ T0 := ax_c14 _ (List.mem_of_getElem? (i := 6) rfl)
theorem T_184 : Cond.fieldLink RX6 59 "LaneWarps" "drawn" "J" ∈ T0 := ax_c14 _ (List.mem_of_getElem? (i := 7) rfl)
theorem T_185 : Cond.methodLink RX6 63 yX1_take ∈ T0 := ax_c14 _ (List.mem_of_getElem? (i := 8) rfl)
theorem T_186 : Cond.methodLink RX6 67 yX0_take ∈ T0 := ax_c14 _ (List.mem_of_getElem? (i := 9) rfl)
theorem T_187 : Cond.instanceMethod yX0_take ∈ T0 := ax_c14 _ (List.mem_of_getElem? (i := 10) rfl)
theorem T_188 : Cond.selects RX0 yX0_take yX0_take ∈ T0 := ax_c14 _ (List.mem_of_getElem? (i := 11) rfl)
theorem T_189 : Cond.fieldLink RX6 68 "LaneWarps" "bytes" "I" ∈ T0 := ax_c14 _ (List.mem_of_getElem? (i := 12) rfl)
theorem T_190 : Cond.methodLink RX6 76 yX6_layBytes ∈ T0 := ax_c14 _ (List.mem_of_getElem? (i := 13) rfl)
theorem T_191 : Cond.instanceMethod yX6_layBytes ∈ T0 := ax_c14 _ (List.mem_of_getElem? (i := 14) rfl)
theorem T_192 : Cond.selects RX6 yX6_layBytes yX6_layBytes ∈ T0 := ax_c14 _ (List.mem_of_getElem? (i := 15) rfl)
theorem T_193 : Cond.initialized RX6 ∈ T0 := ax_c14 _ (List.mem_of_getElem? (i := 16) rfl)
theorem T_194 : Cond.methodLink RX6 72 yX6_refuse ∈ T0 := ax_c14 _ (List.mem_of_getElem? (i := 17) rfl)
theorem T_195 : Cond.instanceMethod yX6_refuse ∈ T0 := ax_c14 _ (List.mem_of_getElem? (i := 18) rfl)
theorem T_196 : Cond.selects RX6 yX6_refuse yX6_refuse ∈ T0 := ax_c14 _ (List.mem_of_getElem? (i := 19) rfl)
theorem T_197 : Cond.initialized RJ7 ∈ T0 := ax_c14 _ (List.mem_of_getElem? (i := 20) rfl)
theorem T_198 : Cond.methodLink RX2 24 yJ7_fill_53178 ∈ T0 := ax_c14 _ (List.mem_of_getElem? (i := 21) rfl)
theorem T_199 : Cond.static yJ7_fill_53178 ∈ T0 := ax_c14 _ (List.mem_of_getElem? (i := 22) rfl)
theorem T_200 : Cond.fieldLink RX2 30 "LaneWarps$Program" "lines" "I" ∈ T0 := ax_c14 _ (List.mem_of_getElem? (i := 23) rfl)
theorem T_201 : Cond.fieldLink RX2 34 "LaneWarps$Program" "warps" "I" ∈ T0 := ax_c14 _ (List.mem_of_getElem? (i := 24) rfl)
theorem T_202 : Cond.fieldLink RX2 37 "LaneWarps$Program" "mode" "I" ∈ T0 := ax_c14 _ (List.mem_of_getElem? (i := 25) rfl)
theorem T_203 : Cond.fieldLink RX2 40 "LaneWarps$Program" "order" "I" ∈ T0 := ax_c14 _ (List.mem_of_getElem? (i := 26) rfl)
theorem T_204 : Cond.fieldLink RX3 44 "LaneWarps$Reader" "kind" "I" ∈ T0 := ax_c14 _ (List.mem_of_getElem? (i := 27) rfl)
theorem T_205 : Cond.fieldLink RX3 47 "LaneWarps$Reader" "to" "I" ∈ T0 := ax_c14 _ (List.mem_of_getElem? (i := 28) rfl)
theorem T_206 : Cond.fieldLink RX3 71 "LaneWarps$Reader" "from" "I" ∈ T0 := ax_c14 _ (List.mem_of_getElem? (i := 29) rfl)
theorem T_207 : Cond.fieldLink RX3 32 "LaneWarps$Reader" "length" "I" ∈ T0 := ax_c14 _ (List.mem_of_getElem? (i := 30) rfl)
theorem T_208 : Cond.fieldLink RX3 74 "LaneWarps$Reader" "own" "I" ∈ T0 := ax_c14 _ (List.mem_of_getElem? (i := 31) rfl)
theorem T_209 : Cond.fieldLink RX3 50 "LaneWarps$Reader" "fault" "I" ∈ T0 := ax_c14 _ (List.mem_of_getElem? (i := 32) rfl)
theorem T_210 : Cond.fieldLink RX3 28 "LaneWarps$Reader" "text" "[B" ∈ T0 := ax_c14 _ (List.mem_of_getElem? (i := 33) rfl)
theorem T_211 : Cond.fieldLink RX3 35 "LaneWarps$Reader" "into" "LLaneWarps$Program;" ∈ T0 := ax_c14 _ (List.mem_of_getElem? (i := 34) rfl)
theorem T_212 : Cond.methodLink RX3 39 yX2_clear ∈ T0 := ax_c14 _ (List.mem_of_getElem? (i := 35) rfl)
theorem T_213 : Cond.instanceMethod yX2_clear ∈ T0 := ax_c14 _ (List.mem_of_getElem? (i := 36) rfl)
theorem T_214 : Cond.selects RX2 yX2_clear yX2_clear ∈ T0 := ax_c14 _ (List.mem_of_getElem? (i := 37) rfl)
theorem T_215 : Cond.methodLink RX3 53 yX3_scan ∈ T0 := ax_c14 _ (List.mem_of_getElem? (i := 38) rfl)
theorem T_216 : Cond.instanceMethod yX3_scan ∈ T0 := ax_c14 _ (List.mem_of_getElem? (i := 39) rfl)
theorem ax_c15 : ∀ w ∈ Tc15, w ∈ T0 := fun _ h => List.mem_append_left _ (List.mem_append_right _ (List.mem_append_right _ (List.mem_append_right _ (List.mem_append_right _ (List.mem_append_right _ (List.mem_append_right _ (List.mem_append_right _ (List.mem_append_right _ (List.mem_append_right _ (List.mem_append_right _ (List.mem_append_right _ (List.mem_append_right _ (List.mem_append_right _ (List.mem_append_right _ (List.mem_append_right _ (List.mem_append_left _ h))))))))))))))))
theorem T_217 : Cond.selects RX3 yX3_scan yX3_scan ∈ T0 := ax_c15 _ (List.mem_of_getElem? (i := 0) rfl)
theorem T_218 : Cond.methodLink RX3 63 yX3_fail ∈ T0 := ax_c15 _ (List.mem_of_getElem? (i := 1) rfl)
theorem T_219 : Cond.instanceMethod yX3_fail ∈ T0 := ax_c15 _ (List.mem_of_getElem? (i := 2) rfl)
theorem T_220 : Cond.selects RX3 yX3_fail yX3_fail ∈ T0 := ax_c15 _ (List.mem_of_getElem? (i := 3) rfl)
theorem T_221 : Cond.methodLink RX6 80 yX3_read ∈ T0 := ax_c15 _ (List.mem_of_getElem? (i := 4) rfl)
theorem T_222 : Cond.instanceMethod yX3_read ∈ T0 := ax_c15 _ (List.mem_of_getElem? (i := 5) rfl)
theorem T_223 : Cond.selects RX3 yX3_read yX3_read ∈ T0 := ax_c15 _ (List.mem_of_getElem? (i := 6) rfl)
theorem T_224 : Cond.fieldLink RX6 87 "LaneWarps" "told" "Z" ∈ T0 := ax_c15 _ (List.mem_of_getElem? (i := 7) rfl)
theorem T_225 : Cond.methodLink RX6 181 yX6_hasWarp ∈ T0 := ax_c15 _ (List.mem_of_getElem? (i := 8) rfl)
theorem T_226 : Cond.instanceMethod yX6_hasWarp ∈ T0 := ax_c15 _ (List.mem_of_getElem? (i := 9) rfl)
theorem T_227 : Cond.selects RX6 yX6_hasWarp yX6_hasWarp ∈ T0 := ax_c15 _ (List.mem_of_getElem? (i := 10) rfl)
theorem T_228 : Cond.constant RX6 155 (-1000000) ∈ T0 := ax_c15 _ (List.mem_of_getElem? (i := 11) rfl)
theorem T_229 : Cond.methodLink RX6 160 yX6_hasLane ∈ T0 := ax_c15 _ (List.mem_of_getElem? (i := 12) rfl)
theorem T_230 : Cond.instanceMethod yX6_hasLane ∈ T0 := ax_c15 _ (List.mem_of_getElem? (i := 13) rfl)
theorem T_231 : Cond.selects RX6 yX6_hasLane yX6_hasLane ∈ T0 := ax_c15 _ (List.mem_of_getElem? (i := 14) rfl)
theorem T_232 : Cond.methodLink RX6 207 yX6_hasWord ∈ T0 := ax_c15 _ (List.mem_of_getElem? (i := 15) rfl)
theorem T_233 : Cond.instanceMethod yX6_hasWord ∈ T0 := ax_c15 _ (List.mem_of_getElem? (i := 16) rfl)
theorem T_234 : Cond.selects RX6 yX6_hasWord yX6_hasWord ∈ T0 := ax_c15 _ (List.mem_of_getElem? (i := 17) rfl)
theorem T_235 : Cond.methodLink RX6 135 Lib.Math.min.name ∈ T0 := ax_c15 _ (List.mem_of_getElem? (i := 18) rfl)
theorem T_236 : Cond.static Lib.Math.min.name ∈ T0 := ax_c15 _ (List.mem_of_getElem? (i := 19) rfl)
theorem T_237 : Cond.initialized "java/lang/Math" ∈ T0 := ax_c15 _ (List.mem_of_getElem? (i := 20) rfl)
theorem T_238 : Cond.fieldLink RX6 104 "LaneWarps" "acts" "I" ∈ T0 := ax_c15 _ (List.mem_of_getElem? (i := 21) rfl)
theorem T_239 : Cond.methodLink RX7 1 objectInit ∈ T0 := ax_c15 _ (List.mem_of_getElem? (i := 22) rfl)
theorem T_240 : Cond.fieldLink RX7 7 "LaneWarpsModel" "tape" "[I" ∈ T0 := ax_c15 _ (List.mem_of_getElem? (i := 23) rfl)
theorem T_241 : Cond.fieldLink RX7 13 "LaneWarpsModel" "faultPlace" "I" ∈ T0 := ax_c15 _ (List.mem_of_getElem? (i := 24) rfl)
theorem T_242 : Cond.fieldLink RX7 17 "LaneWarpsModel" "refused" "[I" ∈ T0 := ax_c15 _ (List.mem_of_getElem? (i := 25) rfl)
theorem T_243 : Cond.arrayClass .char ∈ T0 := ax_c15 _ (List.mem_of_getElem? (i := 26) rfl)
theorem T_244 : Cond.fieldLink RX7 20 "LaneWarpsModel" "own" "[C" ∈ T0 := ax_c15 _ (List.mem_of_getElem? (i := 27) rfl)
theorem T_245 : Cond.fieldLink RX7 24 "LaneWarpsModel" "draft" "[I" ∈ T0 := ax_c15 _ (List.mem_of_getElem? (i := 28) rfl)
theorem T_246 : Cond.fieldLink RX7 27 "LaneWarpsModel" "program" "[I" ∈ T0 := ax_c15 _ (List.mem_of_getElem? (i := 29) rfl)
theorem T_247 : Cond.fieldLink RX7 30 "LaneWarpsModel" "goPlace" "[I" ∈ T0 := ax_c15 _ (List.mem_of_getElem? (i := 30) rfl)
theorem T_248 : Cond.arrayClass .boolean ∈ T0 := ax_c15 _ (List.mem_of_getElem? (i := 31) rfl)
theorem T_249 : Cond.fieldLink RX7 33 "LaneWarpsModel" "isCome" "[Z" ∈ T0 := ax_c15 _ (List.mem_of_getElem? (i := 32) rfl)
theorem T_250 : Cond.fieldLink RX7 37 "LaneWarpsModel" "heap" "[I" ∈ T0 := ax_c15 _ (List.mem_of_getElem? (i := 33) rfl)
theorem T_251 : Cond.fieldLink RX7 40 "LaneWarpsModel" "now" "[I" ∈ T0 := ax_c15 _ (List.mem_of_getElem? (i := 34) rfl)
theorem T_252 : Cond.fieldLink RX7 43 "LaneWarpsModel" "first" "[I" ∈ T0 := ax_c15 _ (List.mem_of_getElem? (i := 35) rfl)
theorem T_253 : Cond.fieldLink RX7 46 "LaneWarpsModel" "second" "[I" ∈ T0 := ax_c15 _ (List.mem_of_getElem? (i := 36) rfl)
theorem T_254 : Cond.fieldLink RX7 49 "LaneWarpsModel" "behind" "[I" ∈ T0 := ax_c15 _ (List.mem_of_getElem? (i := 37) rfl)
theorem T_255 : Cond.constant RX7 52 (191277) ∈ T0 := ax_c15 _ (List.mem_of_getElem? (i := 38) rfl)
theorem T_256 : Cond.fieldLink RX7 53 "LaneWarpsModel" "states" "[I" ∈ T0 := ax_c15 _ (List.mem_of_getElem? (i := 39) rfl)
theorem ax_c16 : ∀ w ∈ Tc16, w ∈ T0 := fun _ h => List.mem_append_left _ (List.mem_append_right _ (List.mem_append_right _ (List.mem_append_right _ (List.mem_append_right _ (List.mem_append_right _ (List.mem_append_right _ (List.mem_append_right _ (List.mem_append_right _ (List.mem_append_right _ (List.mem_append_right _ (List.mem_append_right _ (List.mem_append_right _ (List.mem_append_right _ (List.mem_append_right _ (List.mem_append_right _ (List.mem_append_right _ (List.mem_append_left _ h)))))))))))))))))
theorem T_257 : Cond.fieldLink RX7 56 "LaneWarpsModel" "alone0" "[I" ∈ T0 := ax_c16 _ (List.mem_of_getElem? (i := 0) rfl)
theorem T_258 : Cond.fieldLink RX7 59 "LaneWarpsModel" "endsBy" "[I" ∈ T0 := ax_c16 _ (List.mem_of_getElem? (i := 1) rfl)
theorem T_259 : Cond.fieldLink RX7 62 "LaneWarpsModel" "kept0" "[I" ∈ T0 := ax_c16 _ (List.mem_of_getElem? (i := 2) rfl)
theorem T_260 : Cond.fieldLink RX7 65 "LaneWarpsModel" "seeded" "J" ∈ T0 := ax_c16 _ (List.mem_of_getElem? (i := 3) rfl)
theorem T_261 : Cond.fieldLink RX7 69 "LaneWarpsModel" "taped" "I" ∈ T0 := ax_c16 _ (List.mem_of_getElem? (i := 4) rfl)
theorem T_262 : Cond.methodLink RX7 76 yX7_isRefused ∈ T0 := ax_c16 _ (List.mem_of_getElem? (i := 5) rfl)
theorem T_263 : Cond.instanceMethod yX7_isRefused ∈ T0 := ax_c16 _ (List.mem_of_getElem? (i := 6) rfl)
theorem T_264 : Cond.selects RX7 yX7_isRefused yX7_isRefused ∈ T0 := ax_c16 _ (List.mem_of_getElem? (i := 7) rfl)
theorem T_265 : Cond.initialized RX7 ∈ T0 := ax_c16 _ (List.mem_of_getElem? (i := 8) rfl)
theorem T_266 : Cond.constantLong RX7 80 (5) ∈ T0 := ax_c16 _ (List.mem_of_getElem? (i := 9) rfl)
theorem T_267 : Cond.methodLink RX7 82 yX7_isIn ∈ T0 := ax_c16 _ (List.mem_of_getElem? (i := 10) rfl)
theorem T_268 : Cond.static yX7_isIn ∈ T0 := ax_c16 _ (List.mem_of_getElem? (i := 11) rfl)
theorem T_269 : Cond.fieldLink RX7 86 "LaneWarpsModel" "fault" "I" ∈ T0 := ax_c16 _ (List.mem_of_getElem? (i := 12) rfl)
theorem T_270 : Cond.constantLong RX7 384 (13) ∈ T0 := ax_c16 _ (List.mem_of_getElem? (i := 13) rfl)
theorem T_271 : Cond.fieldLink RX7 215 "LaneWarpsModel" "isTold" "Z" ∈ T0 := ax_c16 _ (List.mem_of_getElem? (i := 14) rfl)
theorem T_272 : Cond.fieldLink RX7 95 "LaneWarpsModel" "at" "I" ∈ T0 := ax_c16 _ (List.mem_of_getElem? (i := 15) rfl)
theorem T_273 : Cond.fieldLink RX7 98 "LaneWarpsModel" "end" "I" ∈ T0 := ax_c16 _ (List.mem_of_getElem? (i := 16) rfl)
theorem T_274 : Cond.fieldLink RX7 89 "LaneWarpsModel" "bad" "I" ∈ T0 := ax_c16 _ (List.mem_of_getElem? (i := 17) rfl)
theorem T_275 : Cond.methodLink RX7 101 yX7_look ∈ T0 := ax_c16 _ (List.mem_of_getElem? (i := 18) rfl)
theorem T_276 : Cond.instanceMethod yX7_look ∈ T0 := ax_c16 _ (List.mem_of_getElem? (i := 19) rfl)
theorem T_277 : Cond.selects RX7 yX7_look yX7_look ∈ T0 := ax_c16 _ (List.mem_of_getElem? (i := 20) rfl)
theorem T_278 : Cond.methodLink RX7 105 yX7_isLetter ∈ T0 := ax_c16 _ (List.mem_of_getElem? (i := 21) rfl)
theorem T_279 : Cond.static yX7_isLetter ∈ T0 := ax_c16 _ (List.mem_of_getElem? (i := 22) rfl)
theorem T_280 : Cond.methodLink RX7 121 yX7_isWordHere ∈ T0 := ax_c16 _ (List.mem_of_getElem? (i := 23) rfl)
theorem T_281 : Cond.instanceMethod yX7_isWordHere ∈ T0 := ax_c16 _ (List.mem_of_getElem? (i := 24) rfl)
theorem T_282 : Cond.selects RX7 yX7_isWordHere yX7_isWordHere ∈ T0 := ax_c16 _ (List.mem_of_getElem? (i := 25) rfl)
theorem T_283 : Cond.methodLink RX7 129 yX7_ownHere ∈ T0 := ax_c16 _ (List.mem_of_getElem? (i := 26) rfl)
theorem T_284 : Cond.instanceMethod yX7_ownHere ∈ T0 := ax_c16 _ (List.mem_of_getElem? (i := 27) rfl)
theorem T_285 : Cond.selects RX7 yX7_ownHere yX7_ownHere ∈ T0 := ax_c16 _ (List.mem_of_getElem? (i := 28) rfl)
theorem T_286 : Cond.fieldLink RX7 92 "LaneWarpsModel" "badPlace" "I" ∈ T0 := ax_c16 _ (List.mem_of_getElem? (i := 29) rfl)
theorem T_287 : Cond.methodLink RX7 135 yX7_takes ∈ T0 := ax_c16 _ (List.mem_of_getElem? (i := 30) rfl)
theorem T_288 : Cond.instanceMethod yX7_takes ∈ T0 := ax_c16 _ (List.mem_of_getElem? (i := 31) rfl)
theorem T_289 : Cond.selects RX7 yX7_takes yX7_takes ∈ T0 := ax_c16 _ (List.mem_of_getElem? (i := 32) rfl)
theorem T_290 : Cond.methodLink RX7 114 yX7_fail ∈ T0 := ax_c16 _ (List.mem_of_getElem? (i := 33) rfl)
theorem T_291 : Cond.instanceMethod yX7_fail ∈ T0 := ax_c16 _ (List.mem_of_getElem? (i := 34) rfl)
theorem T_292 : Cond.selects RX7 yX7_fail yX7_fail ∈ T0 := ax_c16 _ (List.mem_of_getElem? (i := 35) rfl)
theorem T_293 : Cond.methodLink RX7 141 yX7_drafted ∈ T0 := ax_c16 _ (List.mem_of_getElem? (i := 36) rfl)
theorem T_294 : Cond.instanceMethod yX7_drafted ∈ T0 := ax_c16 _ (List.mem_of_getElem? (i := 37) rfl)
theorem T_295 : Cond.selects RX7 yX7_drafted yX7_drafted ∈ T0 := ax_c16 _ (List.mem_of_getElem? (i := 38) rfl)
theorem T_296 : Cond.fieldLink RX7 108 "LaneWarpsModel" "ended" "I" ∈ T0 := ax_c16 _ (List.mem_of_getElem? (i := 39) rfl)
theorem ax_c17 : ∀ w ∈ Tc17, w ∈ T0 := fun _ h => List.mem_append_left _ (List.mem_append_right _ (List.mem_append_right _ (List.mem_append_right _ (List.mem_append_right _ (List.mem_append_right _ (List.mem_append_right _ (List.mem_append_right _ (List.mem_append_right _ (List.mem_append_right _ (List.mem_append_right _ (List.mem_append_right _ (List.mem_append_right _ (List.mem_append_right _ (List.mem_append_right _ (List.mem_append_right _ (List.mem_append_right _ (List.mem_append_right _ (List.mem_append_left _ h))))))))))))))))))
theorem T_297 : Cond.methodLink RX7 196 yX7_asks ∈ T0 := ax_c17 _ (List.mem_of_getElem? (i := 0) rfl)
theorem T_298 : Cond.instanceMethod yX7_asks ∈ T0 := ax_c17 _ (List.mem_of_getElem? (i := 1) rfl)
theorem T_299 : Cond.selects RX7 yX7_asks yX7_asks ∈ T0 := ax_c17 _ (List.mem_of_getElem? (i := 2) rfl)
theorem T_300 : Cond.methodLink RX7 152 yX7_number ∈ T0 := ax_c17 _ (List.mem_of_getElem? (i := 3) rfl)
theorem T_301 : Cond.instanceMethod yX7_number ∈ T0 := ax_c17 _ (List.mem_of_getElem? (i := 4) rfl)
theorem T_302 : Cond.selects RX7 yX7_number yX7_number ∈ T0 := ax_c17 _ (List.mem_of_getElem? (i := 5) rfl)
theorem T_303 : Cond.methodLink RX7 182 yX7_asksSign ∈ T0 := ax_c17 _ (List.mem_of_getElem? (i := 6) rfl)
theorem T_304 : Cond.instanceMethod yX7_asksSign ∈ T0 := ax_c17 _ (List.mem_of_getElem? (i := 7) rfl)
theorem T_305 : Cond.selects RX7 yX7_asksSign yX7_asksSign ∈ T0 := ax_c17 _ (List.mem_of_getElem? (i := 8) rfl)
theorem T_306 : Cond.fieldLink RX7 189 "LaneWarpsModel" "statements" "I" ∈ T0 := ax_c17 _ (List.mem_of_getElem? (i := 9) rfl)
theorem T_307 : Cond.methodLink RX7 206 yX7_joins ∈ T0 := ax_c17 _ (List.mem_of_getElem? (i := 10) rfl)
theorem T_308 : Cond.instanceMethod yX7_joins ∈ T0 := ax_c17 _ (List.mem_of_getElem? (i := 11) rfl)
theorem T_309 : Cond.selects RX7 yX7_joins yX7_joins ∈ T0 := ax_c17 _ (List.mem_of_getElem? (i := 12) rfl)
theorem T_310 : Cond.methodLink RX7 72 yX7_refuses ∈ T0 := ax_c17 _ (List.mem_of_getElem? (i := 13) rfl)
theorem T_311 : Cond.instanceMethod yX7_refuses ∈ T0 := ax_c17 _ (List.mem_of_getElem? (i := 14) rfl)
theorem T_312 : Cond.selects RX7 yX7_refuses yX7_refuses ∈ T0 := ax_c17 _ (List.mem_of_getElem? (i := 15) rfl)
theorem T_313 : Cond.methodLink RX7 391 yX7_isWarp ∈ T0 := ax_c17 _ (List.mem_of_getElem? (i := 16) rfl)
theorem T_314 : Cond.instanceMethod yX7_isWarp ∈ T0 := ax_c17 _ (List.mem_of_getElem? (i := 17) rfl)
theorem T_315 : Cond.selects RX7 yX7_isWarp yX7_isWarp ∈ T0 := ax_c17 _ (List.mem_of_getElem? (i := 18) rfl)
theorem T_316 : Cond.constant RX7 167 (-1000000) ∈ T0 := ax_c17 _ (List.mem_of_getElem? (i := 19) rfl)
theorem T_317 : Cond.methodLink RX7 396 yX7_isLane ∈ T0 := ax_c17 _ (List.mem_of_getElem? (i := 20) rfl)
theorem T_318 : Cond.instanceMethod yX7_isLane ∈ T0 := ax_c17 _ (List.mem_of_getElem? (i := 21) rfl)
theorem T_319 : Cond.selects RX7 yX7_isLane yX7_isLane ∈ T0 := ax_c17 _ (List.mem_of_getElem? (i := 22) rfl)
theorem T_320 : Cond.methodLink RX7 404 yX7_wordOf ∈ T0 := ax_c17 _ (List.mem_of_getElem? (i := 23) rfl)
theorem T_321 : Cond.instanceMethod yX7_wordOf ∈ T0 := ax_c17 _ (List.mem_of_getElem? (i := 24) rfl)
theorem T_322 : Cond.selects RX7 yX7_wordOf yX7_wordOf ∈ T0 := ax_c17 _ (List.mem_of_getElem? (i := 25) rfl)
theorem T_323 : Cond.fieldLink RX7 228 "LaneWarpsModel" "undoable" "I" ∈ T0 := ax_c17 _ (List.mem_of_getElem? (i := 26) rfl)
theorem T_324 : Cond.instanceMethod yX6_feed ∈ T0 := ax_c17 _ (List.mem_of_getElem? (i := 27) rfl)
theorem T_325 : Cond.selects RX6 yX6_feed yX6_feed ∈ T0 := ax_c17 _ (List.mem_of_getElem? (i := 28) rfl)
theorem T_326 : Cond.instanceMethod yX7_feed ∈ T0 := ax_c17 _ (List.mem_of_getElem? (i := 29) rfl)
theorem T_327 : Cond.selects RX7 yX7_feed yX7_feed ∈ T0 := ax_c17 _ (List.mem_of_getElem? (i := 30) rfl)
theorem T_328 : Cond.instanceMethod yX6_end ∈ T0 := ax_c17 _ (List.mem_of_getElem? (i := 31) rfl)
theorem T_329 : Cond.selects RX6 yX6_end yX6_end ∈ T0 := ax_c17 _ (List.mem_of_getElem? (i := 32) rfl)
theorem T_330 : Cond.instanceMethod yX7_end ∈ T0 := ax_c17 _ (List.mem_of_getElem? (i := 33) rfl)
theorem T_331 : Cond.selects RX7 yX7_end yX7_end ∈ T0 := ax_c17 _ (List.mem_of_getElem? (i := 34) rfl)
theorem T_332 : Cond.instanceMethod yX6_program ∈ T0 := ax_c17 _ (List.mem_of_getElem? (i := 35) rfl)
theorem T_333 : Cond.selects RX6 yX6_program yX6_program ∈ T0 := ax_c17 _ (List.mem_of_getElem? (i := 36) rfl)
theorem T_334 : Cond.instanceMethod yX7_program ∈ T0 := ax_c17 _ (List.mem_of_getElem? (i := 37) rfl)
theorem T_335 : Cond.selects RX7 yX7_program yX7_program ∈ T0 := ax_c17 _ (List.mem_of_getElem? (i := 38) rfl)
theorem T_336 : Cond.instanceMethod yX6_fault ∈ T0 := ax_c17 _ (List.mem_of_getElem? (i := 39) rfl)
theorem ax_c18 : ∀ w ∈ Tc18, w ∈ T0 := fun _ h => List.mem_append_left _ (List.mem_append_right _ (List.mem_append_right _ (List.mem_append_right _ (List.mem_append_right _ (List.mem_append_right _ (List.mem_append_right _ (List.mem_append_right _ (List.mem_append_right _ (List.mem_append_right _ (List.mem_append_right _ (List.mem_append_right _ (List.mem_append_right _ (List.mem_append_right _ (List.mem_append_right _ (List.mem_append_right _ (List.mem_append_right _ (List.mem_append_right _ (List.mem_append_right _ (List.mem_append_left _ h)))))))))))))))))))
theorem T_337 : Cond.selects RX6 yX6_fault yX6_fault ∈ T0 := ax_c18 _ (List.mem_of_getElem? (i := 0) rfl)
theorem T_338 : Cond.instanceMethod yX7_fault ∈ T0 := ax_c18 _ (List.mem_of_getElem? (i := 1) rfl)
theorem T_339 : Cond.selects RX7 yX7_fault yX7_fault ∈ T0 := ax_c18 _ (List.mem_of_getElem? (i := 2) rfl)
theorem T_340 : Cond.instanceMethod yX6_has ∈ T0 := ax_c18 _ (List.mem_of_getElem? (i := 3) rfl)
theorem T_341 : Cond.selects RX6 yX6_has yX6_has ∈ T0 := ax_c18 _ (List.mem_of_getElem? (i := 4) rfl)
theorem T_342 : Cond.instanceMethod yX7_has ∈ T0 := ax_c18 _ (List.mem_of_getElem? (i := 5) rfl)
theorem T_343 : Cond.selects RX7 yX7_has yX7_has ∈ T0 := ax_c18 _ (List.mem_of_getElem? (i := 6) rfl)
theorem T_344 : Cond.instanceMethod yX6_line ∈ T0 := ax_c18 _ (List.mem_of_getElem? (i := 7) rfl)
theorem T_345 : Cond.selects RX6 yX6_line yX6_line ∈ T0 := ax_c18 _ (List.mem_of_getElem? (i := 8) rfl)
theorem T_346 : Cond.instanceMethod yX7_line ∈ T0 := ax_c18 _ (List.mem_of_getElem? (i := 9) rfl)
theorem T_347 : Cond.selects RX7 yX7_line yX7_line ∈ T0 := ax_c18 _ (List.mem_of_getElem? (i := 10) rfl)
theorem T_348 : Cond.instanceMethod yX6_lane ∈ T0 := ax_c18 _ (List.mem_of_getElem? (i := 11) rfl)
theorem T_349 : Cond.selects RX6 yX6_lane yX6_lane ∈ T0 := ax_c18 _ (List.mem_of_getElem? (i := 12) rfl)
theorem T_350 : Cond.instanceMethod yX7_lane ∈ T0 := ax_c18 _ (List.mem_of_getElem? (i := 13) rfl)
theorem T_351 : Cond.selects RX7 yX7_lane yX7_lane ∈ T0 := ax_c18 _ (List.mem_of_getElem? (i := 14) rfl)
theorem T_352 : Cond.instanceMethod yX6_warp ∈ T0 := ax_c18 _ (List.mem_of_getElem? (i := 15) rfl)
theorem T_353 : Cond.selects RX6 yX6_warp yX6_warp ∈ T0 := ax_c18 _ (List.mem_of_getElem? (i := 16) rfl)
theorem T_354 : Cond.instanceMethod yX7_warp ∈ T0 := ax_c18 _ (List.mem_of_getElem? (i := 17) rfl)
theorem T_355 : Cond.selects RX7 yX7_warp yX7_warp ∈ T0 := ax_c18 _ (List.mem_of_getElem? (i := 18) rfl)
theorem T_356 : Cond.instanceMethod yX6_part ∈ T0 := ax_c18 _ (List.mem_of_getElem? (i := 19) rfl)
theorem T_357 : Cond.selects RX6 yX6_part yX6_part ∈ T0 := ax_c18 _ (List.mem_of_getElem? (i := 20) rfl)
theorem T_358 : Cond.instanceMethod yX7_part ∈ T0 := ax_c18 _ (List.mem_of_getElem? (i := 21) rfl)
theorem T_359 : Cond.selects RX7 yX7_part yX7_part ∈ T0 := ax_c18 _ (List.mem_of_getElem? (i := 22) rfl)
theorem T_360 : Cond.instanceMethod yX6_word ∈ T0 := ax_c18 _ (List.mem_of_getElem? (i := 23) rfl)
theorem T_361 : Cond.selects RX6 yX6_word yX6_word ∈ T0 := ax_c18 _ (List.mem_of_getElem? (i := 24) rfl)
theorem T_362 : Cond.instanceMethod yX7_word ∈ T0 := ax_c18 _ (List.mem_of_getElem? (i := 25) rfl)
theorem T_363 : Cond.selects RX7 yX7_word yX7_word ∈ T0 := ax_c18 _ (List.mem_of_getElem? (i := 26) rfl)
theorem T_364 : Cond.instanceMethod yX6_raced ∈ T0 := ax_c18 _ (List.mem_of_getElem? (i := 27) rfl)
theorem T_365 : Cond.selects RX6 yX6_raced yX6_raced ∈ T0 := ax_c18 _ (List.mem_of_getElem? (i := 28) rfl)
theorem T_366 : Cond.instanceMethod yX7_raced ∈ T0 := ax_c18 _ (List.mem_of_getElem? (i := 29) rfl)
theorem T_367 : Cond.selects RX7 yX7_raced yX7_raced ∈ T0 := ax_c18 _ (List.mem_of_getElem? (i := 30) rfl)
theorem T_368 : Cond.instanceMethod yX6_kept ∈ T0 := ax_c18 _ (List.mem_of_getElem? (i := 31) rfl)
theorem T_369 : Cond.selects RX6 yX6_kept yX6_kept ∈ T0 := ax_c18 _ (List.mem_of_getElem? (i := 32) rfl)
theorem T_370 : Cond.instanceMethod yX7_kept ∈ T0 := ax_c18 _ (List.mem_of_getElem? (i := 33) rfl)
theorem T_371 : Cond.selects RX7 yX7_kept yX7_kept ∈ T0 := ax_c18 _ (List.mem_of_getElem? (i := 34) rfl)
theorem T_372 : Cond.instanceMethod yX6_next ∈ T0 := ax_c18 _ (List.mem_of_getElem? (i := 35) rfl)
theorem T_373 : Cond.selects RX6 yX6_next yX6_next ∈ T0 := ax_c18 _ (List.mem_of_getElem? (i := 36) rfl)
theorem T_374 : Cond.instanceMethod yX7_next ∈ T0 := ax_c18 _ (List.mem_of_getElem? (i := 37) rfl)
theorem T_375 : Cond.selects RX7 yX7_next yX7_next ∈ T0 := ax_c18 _ (List.mem_of_getElem? (i := 38) rfl)
theorem T_376 : Cond.instanceMethod yX6_goes ∈ T0 := ax_c18 _ (List.mem_of_getElem? (i := 39) rfl)
theorem ax_c19 : ∀ w ∈ Tc19, w ∈ T0 := fun _ h => List.mem_append_left _ (List.mem_append_right _ (List.mem_append_right _ (List.mem_append_right _ (List.mem_append_right _ (List.mem_append_right _ (List.mem_append_right _ (List.mem_append_right _ (List.mem_append_right _ (List.mem_append_right _ (List.mem_append_right _ (List.mem_append_right _ (List.mem_append_right _ (List.mem_append_right _ (List.mem_append_right _ (List.mem_append_right _ (List.mem_append_right _ (List.mem_append_right _ (List.mem_append_right _ (List.mem_append_right _ (List.mem_append_left _ h))))))))))))))))))))
theorem T_377 : Cond.selects RX6 yX6_goes yX6_goes ∈ T0 := ax_c19 _ (List.mem_of_getElem? (i := 0) rfl)
theorem T_378 : Cond.instanceMethod yX7_goes ∈ T0 := ax_c19 _ (List.mem_of_getElem? (i := 1) rfl)
theorem T_379 : Cond.selects RX7 yX7_goes yX7_goes ∈ T0 := ax_c19 _ (List.mem_of_getElem? (i := 2) rfl)
theorem T_380 : Cond.instanceMethod yX6_later ∈ T0 := ax_c19 _ (List.mem_of_getElem? (i := 3) rfl)
theorem T_381 : Cond.selects RX6 yX6_later yX6_later ∈ T0 := ax_c19 _ (List.mem_of_getElem? (i := 4) rfl)
theorem T_382 : Cond.instanceMethod yX7_later ∈ T0 := ax_c19 _ (List.mem_of_getElem? (i := 5) rfl)
theorem T_383 : Cond.selects RX7 yX7_later yX7_later ∈ T0 := ax_c19 _ (List.mem_of_getElem? (i := 6) rfl)
theorem T_384 : Cond.instanceMethod yX6_by ∈ T0 := ax_c19 _ (List.mem_of_getElem? (i := 7) rfl)
theorem T_385 : Cond.selects RX6 yX6_by yX6_by ∈ T0 := ax_c19 _ (List.mem_of_getElem? (i := 8) rfl)
theorem T_386 : Cond.instanceMethod yX7_by ∈ T0 := ax_c19 _ (List.mem_of_getElem? (i := 9) rfl)
theorem T_387 : Cond.selects RX7 yX7_by yX7_by ∈ T0 := ax_c19 _ (List.mem_of_getElem? (i := 10) rfl)
theorem T_388 : Cond.instanceMethod yX6_skew ∈ T0 := ax_c19 _ (List.mem_of_getElem? (i := 11) rfl)
theorem T_389 : Cond.selects RX6 yX6_skew yX6_skew ∈ T0 := ax_c19 _ (List.mem_of_getElem? (i := 12) rfl)
theorem T_390 : Cond.instanceMethod yX7_skew ∈ T0 := ax_c19 _ (List.mem_of_getElem? (i := 13) rfl)
theorem T_391 : Cond.selects RX7 yX7_skew yX7_skew ∈ T0 := ax_c19 _ (List.mem_of_getElem? (i := 14) rfl)
theorem T_392 : Cond.instanceMethod yX6_alone ∈ T0 := ax_c19 _ (List.mem_of_getElem? (i := 15) rfl)
theorem T_393 : Cond.selects RX6 yX6_alone yX6_alone ∈ T0 := ax_c19 _ (List.mem_of_getElem? (i := 16) rfl)
theorem T_394 : Cond.instanceMethod yX7_alone ∈ T0 := ax_c19 _ (List.mem_of_getElem? (i := 17) rfl)
theorem T_395 : Cond.selects RX7 yX7_alone yX7_alone ∈ T0 := ax_c19 _ (List.mem_of_getElem? (i := 18) rfl)
theorem T_396 : Cond.instanceMethod yX6_agrees ∈ T0 := ax_c19 _ (List.mem_of_getElem? (i := 19) rfl)
theorem T_397 : Cond.selects RX6 yX6_agrees yX6_agrees ∈ T0 := ax_c19 _ (List.mem_of_getElem? (i := 20) rfl)
theorem T_398 : Cond.instanceMethod yX7_agrees ∈ T0 := ax_c19 _ (List.mem_of_getElem? (i := 21) rfl)
theorem T_399 : Cond.selects RX7 yX7_agrees yX7_agrees ∈ T0 := ax_c19 _ (List.mem_of_getElem? (i := 22) rfl)
theorem T_400 : Cond.instanceMethod yX6_likely ∈ T0 := ax_c19 _ (List.mem_of_getElem? (i := 23) rfl)
theorem T_401 : Cond.selects RX6 yX6_likely yX6_likely ∈ T0 := ax_c19 _ (List.mem_of_getElem? (i := 24) rfl)
theorem T_402 : Cond.instanceMethod yX7_likely ∈ T0 := ax_c19 _ (List.mem_of_getElem? (i := 25) rfl)
theorem T_403 : Cond.selects RX7 yX7_likely yX7_likely ∈ T0 := ax_c19 _ (List.mem_of_getElem? (i := 26) rfl)
theorem T_404 : Cond.instanceMethod yX6_tells ∈ T0 := ax_c19 _ (List.mem_of_getElem? (i := 27) rfl)
theorem T_405 : Cond.selects RX6 yX6_tells yX6_tells ∈ T0 := ax_c19 _ (List.mem_of_getElem? (i := 28) rfl)
theorem T_406 : Cond.instanceMethod yX7_tells ∈ T0 := ax_c19 _ (List.mem_of_getElem? (i := 29) rfl)
theorem T_407 : Cond.selects RX7 yX7_tells yX7_tells ∈ T0 := ax_c19 _ (List.mem_of_getElem? (i := 30) rfl)
theorem T_408 : Cond.instanceMethod yX6_cycles ∈ T0 := ax_c19 _ (List.mem_of_getElem? (i := 31) rfl)
theorem T_409 : Cond.selects RX6 yX6_cycles yX6_cycles ∈ T0 := ax_c19 _ (List.mem_of_getElem? (i := 32) rfl)
theorem T_410 : Cond.instanceMethod yX7_cycles ∈ T0 := ax_c19 _ (List.mem_of_getElem? (i := 33) rfl)
theorem T_411 : Cond.selects RX7 yX7_cycles yX7_cycles ∈ T0 := ax_c19 _ (List.mem_of_getElem? (i := 34) rfl)
theorem T_412 : Cond.instanceMethod yX6_poke ∈ T0 := ax_c19 _ (List.mem_of_getElem? (i := 35) rfl)
theorem T_413 : Cond.selects RX6 yX6_poke yX6_poke ∈ T0 := ax_c19 _ (List.mem_of_getElem? (i := 36) rfl)
theorem T_414 : Cond.instanceMethod yX7_poke ∈ T0 := ax_c19 _ (List.mem_of_getElem? (i := 37) rfl)
theorem T_415 : Cond.selects RX7 yX7_poke yX7_poke ∈ T0 := ax_c19 _ (List.mem_of_getElem? (i := 38) rfl)
theorem T_416 : Cond.instanceMethod yX6_set ∈ T0 := ax_c19 _ (List.mem_of_getElem? (i := 39) rfl)
theorem ax_c20 : ∀ w ∈ Tc20, w ∈ T0 := fun _ h => List.mem_append_left _ (List.mem_append_right _ (List.mem_append_right _ (List.mem_append_right _ (List.mem_append_right _ (List.mem_append_right _ (List.mem_append_right _ (List.mem_append_right _ (List.mem_append_right _ (List.mem_append_right _ (List.mem_append_right _ (List.mem_append_right _ (List.mem_append_right _ (List.mem_append_right _ (List.mem_append_right _ (List.mem_append_right _ (List.mem_append_right _ (List.mem_append_right _ (List.mem_append_right _ (List.mem_append_right _ (List.mem_append_right _ (List.mem_append_left _ h)))))))))))))))))))))
theorem T_417 : Cond.selects RX6 yX6_set yX6_set ∈ T0 := ax_c20 _ (List.mem_of_getElem? (i := 0) rfl)
theorem T_418 : Cond.instanceMethod yX7_set ∈ T0 := ax_c20 _ (List.mem_of_getElem? (i := 1) rfl)
theorem T_419 : Cond.selects RX7 yX7_set yX7_set ∈ T0 := ax_c20 _ (List.mem_of_getElem? (i := 2) rfl)
theorem T_420 : Cond.instanceMethod yX6_begin ∈ T0 := ax_c20 _ (List.mem_of_getElem? (i := 3) rfl)
theorem T_421 : Cond.selects RX6 yX6_begin yX6_begin ∈ T0 := ax_c20 _ (List.mem_of_getElem? (i := 4) rfl)
theorem T_422 : Cond.instanceMethod yX7_begin ∈ T0 := ax_c20 _ (List.mem_of_getElem? (i := 5) rfl)
theorem T_423 : Cond.selects RX7 yX7_begin yX7_begin ∈ T0 := ax_c20 _ (List.mem_of_getElem? (i := 6) rfl)
theorem T_424 : Cond.instanceMethod yX6_chance ∈ T0 := ax_c20 _ (List.mem_of_getElem? (i := 7) rfl)
theorem T_425 : Cond.selects RX6 yX6_chance yX6_chance ∈ T0 := ax_c20 _ (List.mem_of_getElem? (i := 8) rfl)
theorem T_426 : Cond.instanceMethod yX7_chance ∈ T0 := ax_c20 _ (List.mem_of_getElem? (i := 9) rfl)
theorem T_427 : Cond.selects RX7 yX7_chance yX7_chance ∈ T0 := ax_c20 _ (List.mem_of_getElem? (i := 10) rfl)
theorem T_428 : Cond.instanceMethod yX6_undo ∈ T0 := ax_c20 _ (List.mem_of_getElem? (i := 11) rfl)
theorem T_429 : Cond.selects RX6 yX6_undo yX6_undo ∈ T0 := ax_c20 _ (List.mem_of_getElem? (i := 12) rfl)
theorem T_430 : Cond.instanceMethod yX7_undo ∈ T0 := ax_c20 _ (List.mem_of_getElem? (i := 13) rfl)
theorem T_431 : Cond.selects RX7 yX7_undo yX7_undo ∈ T0 := ax_c20 _ (List.mem_of_getElem? (i := 14) rfl)
theorem T_432 : Cond.instanceMethod yX6_seed ∈ T0 := ax_c20 _ (List.mem_of_getElem? (i := 15) rfl)
theorem T_433 : Cond.selects RX6 yX6_seed yX6_seed ∈ T0 := ax_c20 _ (List.mem_of_getElem? (i := 16) rfl)
theorem T_434 : Cond.instanceMethod yX7_seed ∈ T0 := ax_c20 _ (List.mem_of_getElem? (i := 17) rfl)
theorem T_435 : Cond.selects RX7 yX7_seed yX7_seed ∈ T0 := ax_c20 _ (List.mem_of_getElem? (i := 18) rfl)
theorem T_436 : Cond.instanceMethod yX6_status ∈ T0 := ax_c20 _ (List.mem_of_getElem? (i := 19) rfl)
theorem T_437 : Cond.selects RX6 yX6_status yX6_status ∈ T0 := ax_c20 _ (List.mem_of_getElem? (i := 20) rfl)
theorem T_438 : Cond.instanceMethod yX7_status ∈ T0 := ax_c20 _ (List.mem_of_getElem? (i := 21) rfl)
theorem T_439 : Cond.selects RX7 yX7_status yX7_status ∈ T0 := ax_c20 _ (List.mem_of_getElem? (i := 22) rfl)
theorem T_440 : Cond.instantiable RX6 14 ∈ T0 := ax_c20 _ (List.mem_of_getElem? (i := 23) rfl)
theorem T_441 : Cond.instantiable RX7 34 ∈ T0 := ax_c20 _ (List.mem_of_getElem? (i := 24) rfl)
theorem T_442 : Cond.instanceMethod yX6_init ∈ T0 := ax_c20 _ (List.mem_of_getElem? (i := 25) rfl)
theorem T_443 : Cond.instanceMethod yX7_init ∈ T0 := ax_c20 _ (List.mem_of_getElem? (i := 26) rfl)
theorem T_444 : Cond.methodLink RJ0 492 yJ0_isLatin1_aae02 ∈ T0 := ax_c20 _ (List.mem_of_getElem? (i := 27) rfl)
theorem T_445 : Cond.initialized RJ0 ∈ T0 := ax_c20 _ (List.mem_of_getElem? (i := 28) rfl)
theorem T_447 : Cond.instanceMethod yJ0_isLatin1_aae02 ∈ T0 := ax_c20 _ (List.mem_of_getElem? (i := 29) rfl)
theorem T_448 : Cond.selects RJ0 yJ0_isLatin1_aae02 yJ0_isLatin1_aae02 ∈ T0 := ax_c20 _ (List.mem_of_getElem? (i := 30) rfl)
theorem T_449 : Cond.fieldLink RJ0 9 "java/lang/String" "value" "[B" ∈ T0 := ax_c20 _ (List.mem_of_getElem? (i := 31) rfl)
theorem T_450 : Cond.methodLink RJ0 495 yJ1_charAt_3b067 ∈ T0 := ax_c20 _ (List.mem_of_getElem? (i := 32) rfl)
theorem T_451 : Cond.initialized RJ1 ∈ T0 := ax_c20 _ (List.mem_of_getElem? (i := 33) rfl)
theorem T_453 : Cond.static yJ1_charAt_3b067 ∈ T0 := ax_c20 _ (List.mem_of_getElem? (i := 34) rfl)
theorem T_454 : Cond.methodLink RJ0 498 yJ2_charAt_3b067 ∈ T0 := ax_c20 _ (List.mem_of_getElem? (i := 35) rfl)
theorem T_455 : Cond.initialized RJ2 ∈ T0 := ax_c20 _ (List.mem_of_getElem? (i := 36) rfl)
theorem T_457 : Cond.static yJ2_charAt_3b067 ∈ T0 := ax_c20 _ (List.mem_of_getElem? (i := 37) rfl)
theorem T_458 : Cond.fieldLink RJ0 1053 "jdk/internal/util/Preconditions" "SIOOBE_FORMATTER" "Ljava/util/function/BiFunction;" ∈ T0 := ax_c20 _ (List.mem_of_getElem? (i := 38) rfl)
theorem T_459 : Cond.methodLink RJ0 1059 yJ3_checkIndex_8e157 ∈ T0 := ax_c20 _ (List.mem_of_getElem? (i := 39) rfl)
theorem ax_c21 : ∀ w ∈ Tc21, w ∈ T0 := fun _ h => List.mem_append_left _ (List.mem_append_right _ (List.mem_append_right _ (List.mem_append_right _ (List.mem_append_right _ (List.mem_append_right _ (List.mem_append_right _ (List.mem_append_right _ (List.mem_append_right _ (List.mem_append_right _ (List.mem_append_right _ (List.mem_append_right _ (List.mem_append_right _ (List.mem_append_right _ (List.mem_append_right _ (List.mem_append_right _ (List.mem_append_right _ (List.mem_append_right _ (List.mem_append_right _ (List.mem_append_right _ (List.mem_append_right _ (List.mem_append_right _ (List.mem_append_left _ h))))))))))))))))))))))
theorem T_460 : Cond.initialized RJ3 ∈ T0 := ax_c21 _ (List.mem_of_getElem? (i := 0) rfl)
theorem T_462 : Cond.static yJ3_checkIndex_8e157 ∈ T0 := ax_c21 _ (List.mem_of_getElem? (i := 1) rfl)
theorem T_463 : Cond.fieldLink RJ0 38 "java/lang/String" "COMPACT_STRINGS" "Z" ∈ T0 := ax_c21 _ (List.mem_of_getElem? (i := 2) rfl)
theorem T_464 : Cond.fieldLink RJ0 15 "java/lang/String" "coder" "B" ∈ T0 := ax_c21 _ (List.mem_of_getElem? (i := 3) rfl)
theorem T_465 : Cond.methodLink RJ0 335 yJ0_coder_7d493 ∈ T0 := ax_c21 _ (List.mem_of_getElem? (i := 4) rfl)
theorem T_467 : Cond.instanceMethod yJ0_coder_7d493 ∈ T0 := ax_c21 _ (List.mem_of_getElem? (i := 5) rfl)
theorem T_468 : Cond.selects RJ0 yJ0_coder_7d493 yJ0_coder_7d493 ∈ T0 := ax_c21 _ (List.mem_of_getElem? (i := 6) rfl)
theorem T_469 : Cond.methodLink RJ1 9 yJ0_checkIndex_df160 ∈ T0 := ax_c21 _ (List.mem_of_getElem? (i := 7) rfl)
theorem T_471 : Cond.static yJ0_checkIndex_df160 ∈ T0 := ax_c21 _ (List.mem_of_getElem? (i := 8) rfl)
theorem T_472 : Cond.methodLink RJ2 67 yJ2_checkIndex_2214a ∈ T0 := ax_c21 _ (List.mem_of_getElem? (i := 9) rfl)
theorem T_474 : Cond.static yJ2_checkIndex_2214a ∈ T0 := ax_c21 _ (List.mem_of_getElem? (i := 10) rfl)
theorem T_475 : Cond.methodLink RJ2 71 yJ2_getChar_3b067 ∈ T0 := ax_c21 _ (List.mem_of_getElem? (i := 11) rfl)
theorem T_477 : Cond.static yJ2_getChar_3b067 ∈ T0 := ax_c21 _ (List.mem_of_getElem? (i := 12) rfl)
theorem T_478 : Cond.methodLink RJ2 48 yJ2_length_9d52b ∈ T0 := ax_c21 _ (List.mem_of_getElem? (i := 13) rfl)
theorem T_480 : Cond.static yJ2_length_9d52b ∈ T0 := ax_c21 _ (List.mem_of_getElem? (i := 14) rfl)
theorem T_481 : Cond.methodLink RJ2 414 yJ0_checkIndex_df160 ∈ T0 := ax_c21 _ (List.mem_of_getElem? (i := 15) rfl)
theorem T_482 : Cond.fieldLink RJ2 44 "java/lang/StringUTF16" "$assertionsDisabled" "Z" ∈ T0 := ax_c21 _ (List.mem_of_getElem? (i := 16) rfl)
theorem T_483 : Cond.fieldLink RJ2 59 "java/lang/StringUTF16" "HI_BYTE_SHIFT" "I" ∈ T0 := ax_c21 _ (List.mem_of_getElem? (i := 17) rfl)
theorem T_484 : Cond.fieldLink RJ2 63 "java/lang/StringUTF16" "LO_BYTE_SHIFT" "I" ∈ T0 := ax_c21 _ (List.mem_of_getElem? (i := 18) rfl)
theorem T_485 : Cond.constant RJ6 265 (1431655765) ∈ T0 := ax_c21 _ (List.mem_of_getElem? (i := 19) rfl)
theorem T_486 : Cond.constant RJ6 266 (858993459) ∈ T0 := ax_c21 _ (List.mem_of_getElem? (i := 20) rfl)
theorem T_487 : Cond.constant RJ6 267 (252645135) ∈ T0 := ax_c21 _ (List.mem_of_getElem? (i := 21) rfl)
theorem T_488 : Cond.classLink RL 7 RX6 ∈ T0 := ax_c21 _ (List.mem_of_getElem? (i := 22) rfl)
theorem T_489 : Cond.methodLink RL 9 yX6_init ∈ T0 := ax_c21 _ (List.mem_of_getElem? (i := 23) rfl)
theorem T_490 : Cond.classLink RL 10 RX7 ∈ T0 := ax_c21 _ (List.mem_of_getElem? (i := 24) rfl)
theorem T_491 : Cond.methodLink RL 12 yX7_init ∈ T0 := ax_c21 _ (List.mem_of_getElem? (i := 25) rfl)
theorem T_492 : Cond.methodLink RL 13 yX6_feed ∈ T0 := ax_c21 _ (List.mem_of_getElem? (i := 26) rfl)
theorem T_493 : Cond.methodLink RL 17 yX7_feed ∈ T0 := ax_c21 _ (List.mem_of_getElem? (i := 27) rfl)
theorem T_494 : Cond.methodLink RL 18 yX6_end ∈ T0 := ax_c21 _ (List.mem_of_getElem? (i := 28) rfl)
theorem T_495 : Cond.methodLink RL 22 yX7_end ∈ T0 := ax_c21 _ (List.mem_of_getElem? (i := 29) rfl)
theorem T_496 : Cond.methodLink RL 23 yX6_program ∈ T0 := ax_c21 _ (List.mem_of_getElem? (i := 30) rfl)
theorem T_497 : Cond.methodLink RL 27 yX7_program ∈ T0 := ax_c21 _ (List.mem_of_getElem? (i := 31) rfl)
theorem T_498 : Cond.methodLink RL 28 yX6_fault ∈ T0 := ax_c21 _ (List.mem_of_getElem? (i := 32) rfl)
theorem T_499 : Cond.methodLink RL 32 yX7_fault ∈ T0 := ax_c21 _ (List.mem_of_getElem? (i := 33) rfl)
theorem T_500 : Cond.methodLink RL 33 yX6_has ∈ T0 := ax_c21 _ (List.mem_of_getElem? (i := 34) rfl)
theorem T_501 : Cond.methodLink RL 36 yX7_has ∈ T0 := ax_c21 _ (List.mem_of_getElem? (i := 35) rfl)
theorem T_502 : Cond.methodLink RL 37 yX6_line ∈ T0 := ax_c21 _ (List.mem_of_getElem? (i := 36) rfl)
theorem T_503 : Cond.methodLink RL 41 yX7_line ∈ T0 := ax_c21 _ (List.mem_of_getElem? (i := 37) rfl)
theorem T_504 : Cond.methodLink RL 42 yX6_lane ∈ T0 := ax_c21 _ (List.mem_of_getElem? (i := 38) rfl)
theorem T_505 : Cond.methodLink RL 46 yX7_lane ∈ T0 := ax_c21 _ (List.mem_of_getElem? (i := 39) rfl)
theorem ax_c22 : ∀ w ∈ Tc22, w ∈ T0 := fun _ h => List.mem_append_left _ (List.mem_append_right _ (List.mem_append_right _ (List.mem_append_right _ (List.mem_append_right _ (List.mem_append_right _ (List.mem_append_right _ (List.mem_append_right _ (List.mem_append_right _ (List.mem_append_right _ (List.mem_append_right _ (List.mem_append_right _ (List.mem_append_right _ (List.mem_append_right _ (List.mem_append_right _ (List.mem_append_right _ (List.mem_append_right _ (List.mem_append_right _ (List.mem_append_right _ (List.mem_append_right _ (List.mem_append_right _ (List.mem_append_right _ (List.mem_append_right _ (List.mem_append_left _ h)))))))))))))))))))))))
theorem T_506 : Cond.methodLink RL 47 yX6_warp ∈ T0 := ax_c22 _ (List.mem_of_getElem? (i := 0) rfl)
theorem T_507 : Cond.methodLink RL 50 yX7_warp ∈ T0 := ax_c22 _ (List.mem_of_getElem? (i := 1) rfl)
theorem T_508 : Cond.methodLink RL 51 yX6_part ∈ T0 := ax_c22 _ (List.mem_of_getElem? (i := 2) rfl)
theorem T_509 : Cond.methodLink RL 54 yX7_part ∈ T0 := ax_c22 _ (List.mem_of_getElem? (i := 3) rfl)
theorem T_510 : Cond.methodLink RL 55 yX6_word ∈ T0 := ax_c22 _ (List.mem_of_getElem? (i := 4) rfl)
theorem T_511 : Cond.methodLink RL 59 yX7_word ∈ T0 := ax_c22 _ (List.mem_of_getElem? (i := 5) rfl)
theorem T_512 : Cond.methodLink RL 60 yX6_raced ∈ T0 := ax_c22 _ (List.mem_of_getElem? (i := 6) rfl)
theorem T_513 : Cond.methodLink RL 63 yX7_raced ∈ T0 := ax_c22 _ (List.mem_of_getElem? (i := 7) rfl)
theorem T_514 : Cond.methodLink RL 64 yX6_kept ∈ T0 := ax_c22 _ (List.mem_of_getElem? (i := 8) rfl)
theorem T_515 : Cond.methodLink RL 67 yX7_kept ∈ T0 := ax_c22 _ (List.mem_of_getElem? (i := 9) rfl)
theorem T_516 : Cond.methodLink RL 68 yX6_next ∈ T0 := ax_c22 _ (List.mem_of_getElem? (i := 10) rfl)
theorem T_517 : Cond.methodLink RL 71 yX7_next ∈ T0 := ax_c22 _ (List.mem_of_getElem? (i := 11) rfl)
theorem T_518 : Cond.methodLink RL 72 yX6_goes ∈ T0 := ax_c22 _ (List.mem_of_getElem? (i := 12) rfl)
theorem T_519 : Cond.methodLink RL 75 yX7_goes ∈ T0 := ax_c22 _ (List.mem_of_getElem? (i := 13) rfl)
theorem T_520 : Cond.methodLink RL 76 yX6_later ∈ T0 := ax_c22 _ (List.mem_of_getElem? (i := 14) rfl)
theorem T_521 : Cond.methodLink RL 80 yX7_later ∈ T0 := ax_c22 _ (List.mem_of_getElem? (i := 15) rfl)
theorem T_522 : Cond.methodLink RL 81 yX6_by ∈ T0 := ax_c22 _ (List.mem_of_getElem? (i := 16) rfl)
theorem T_523 : Cond.methodLink RL 84 yX7_by ∈ T0 := ax_c22 _ (List.mem_of_getElem? (i := 17) rfl)
theorem T_524 : Cond.methodLink RL 85 yX6_skew ∈ T0 := ax_c22 _ (List.mem_of_getElem? (i := 18) rfl)
theorem T_525 : Cond.methodLink RL 88 yX7_skew ∈ T0 := ax_c22 _ (List.mem_of_getElem? (i := 19) rfl)
theorem T_526 : Cond.methodLink RL 89 yX6_alone ∈ T0 := ax_c22 _ (List.mem_of_getElem? (i := 20) rfl)
theorem T_527 : Cond.methodLink RL 92 yX7_alone ∈ T0 := ax_c22 _ (List.mem_of_getElem? (i := 21) rfl)
theorem T_528 : Cond.methodLink RL 93 yX6_agrees ∈ T0 := ax_c22 _ (List.mem_of_getElem? (i := 22) rfl)
theorem T_529 : Cond.methodLink RL 96 yX7_agrees ∈ T0 := ax_c22 _ (List.mem_of_getElem? (i := 23) rfl)
theorem T_530 : Cond.methodLink RL 97 yX6_likely ∈ T0 := ax_c22 _ (List.mem_of_getElem? (i := 24) rfl)
theorem T_531 : Cond.methodLink RL 100 yX7_likely ∈ T0 := ax_c22 _ (List.mem_of_getElem? (i := 25) rfl)
theorem T_532 : Cond.methodLink RL 101 yX6_tells ∈ T0 := ax_c22 _ (List.mem_of_getElem? (i := 26) rfl)
theorem T_533 : Cond.methodLink RL 104 yX7_tells ∈ T0 := ax_c22 _ (List.mem_of_getElem? (i := 27) rfl)
theorem T_534 : Cond.methodLink RL 105 yX6_cycles ∈ T0 := ax_c22 _ (List.mem_of_getElem? (i := 28) rfl)
theorem T_535 : Cond.methodLink RL 108 yX7_cycles ∈ T0 := ax_c22 _ (List.mem_of_getElem? (i := 29) rfl)
theorem T_536 : Cond.methodLink RL 109 yX6_poke ∈ T0 := ax_c22 _ (List.mem_of_getElem? (i := 30) rfl)
theorem T_537 : Cond.methodLink RL 113 yX7_poke ∈ T0 := ax_c22 _ (List.mem_of_getElem? (i := 31) rfl)
theorem T_538 : Cond.methodLink RL 114 yX6_set ∈ T0 := ax_c22 _ (List.mem_of_getElem? (i := 32) rfl)
theorem T_539 : Cond.methodLink RL 118 yX7_set ∈ T0 := ax_c22 _ (List.mem_of_getElem? (i := 33) rfl)
theorem T_540 : Cond.methodLink RL 119 yX6_begin ∈ T0 := ax_c22 _ (List.mem_of_getElem? (i := 34) rfl)
theorem T_541 : Cond.methodLink RL 123 yX7_begin ∈ T0 := ax_c22 _ (List.mem_of_getElem? (i := 35) rfl)
theorem T_542 : Cond.methodLink RL 124 yX6_chance ∈ T0 := ax_c22 _ (List.mem_of_getElem? (i := 36) rfl)
theorem T_543 : Cond.methodLink RL 127 yX7_chance ∈ T0 := ax_c22 _ (List.mem_of_getElem? (i := 37) rfl)
theorem T_544 : Cond.methodLink RL 128 yX6_undo ∈ T0 := ax_c22 _ (List.mem_of_getElem? (i := 38) rfl)
theorem T_545 : Cond.methodLink RL 131 yX7_undo ∈ T0 := ax_c22 _ (List.mem_of_getElem? (i := 39) rfl)
theorem ax_c23 : ∀ w ∈ Tc23, w ∈ T0 := fun _ h => List.mem_append_left _ (List.mem_append_right _ (List.mem_append_right _ (List.mem_append_right _ (List.mem_append_right _ (List.mem_append_right _ (List.mem_append_right _ (List.mem_append_right _ (List.mem_append_right _ (List.mem_append_right _ (List.mem_append_right _ (List.mem_append_right _ (List.mem_append_right _ (List.mem_append_right _ (List.mem_append_right _ (List.mem_append_right _ (List.mem_append_right _ (List.mem_append_right _ (List.mem_append_right _ (List.mem_append_right _ (List.mem_append_right _ (List.mem_append_right _ (List.mem_append_right _ (List.mem_append_right _ (List.mem_append_left _ h))))))))))))))))))))))))
theorem T_546 : Cond.methodLink RL 132 yX6_seed ∈ T0 := ax_c23 _ (List.mem_of_getElem? (i := 0) rfl)
theorem T_547 : Cond.methodLink RL 135 yX7_seed ∈ T0 := ax_c23 _ (List.mem_of_getElem? (i := 1) rfl)
theorem T_548 : Cond.methodLink RL 136 yX6_status ∈ T0 := ax_c23 _ (List.mem_of_getElem? (i := 2) rfl)
theorem T_549 : Cond.methodLink RL 139 yX7_status ∈ T0 := ax_c23 _ (List.mem_of_getElem? (i := 3) rfl)
theorem T_550 : Cond.methodLink RX0 78 yX4_lay ∈ T0 := ax_c23 _ (List.mem_of_getElem? (i := 4) rfl)
theorem T_552 : Cond.instanceMethod yX4_lay ∈ T0 := ax_c23 _ (List.mem_of_getElem? (i := 5) rfl)
theorem T_553 : Cond.selects RX4 yX4_lay yX4_lay ∈ T0 := ax_c23 _ (List.mem_of_getElem? (i := 6) rfl)
theorem T_554 : Cond.methodLink RX0 82 yX4_restart ∈ T0 := ax_c23 _ (List.mem_of_getElem? (i := 7) rfl)
theorem T_556 : Cond.instanceMethod yX4_restart ∈ T0 := ax_c23 _ (List.mem_of_getElem? (i := 8) rfl)
theorem T_557 : Cond.selects RX4 yX4_restart yX4_restart ∈ T0 := ax_c23 _ (List.mem_of_getElem? (i := 9) rfl)
theorem T_558 : Cond.methodLink RX0 70 yX4_copyFrom ∈ T0 := ax_c23 _ (List.mem_of_getElem? (i := 10) rfl)
theorem T_560 : Cond.instanceMethod yX4_copyFrom ∈ T0 := ax_c23 _ (List.mem_of_getElem? (i := 11) rfl)
theorem T_561 : Cond.selects RX4 yX4_copyFrom yX4_copyFrom ∈ T0 := ax_c23 _ (List.mem_of_getElem? (i := 12) rfl)
theorem T_562 : Cond.methodLink RX0 74 yX1_step ∈ T0 := ax_c23 _ (List.mem_of_getElem? (i := 13) rfl)
theorem T_564 : Cond.instanceMethod yX1_step ∈ T0 := ax_c23 _ (List.mem_of_getElem? (i := 14) rfl)
theorem T_565 : Cond.selects RX1 yX1_step yX1_step ∈ T0 := ax_c23 _ (List.mem_of_getElem? (i := 15) rfl)
theorem T_566 : Cond.methodLink RX0 85 yX0_cyclesToRest ∈ T0 := ax_c23 _ (List.mem_of_getElem? (i := 16) rfl)
theorem T_568 : Cond.instanceMethod yX0_cyclesToRest ∈ T0 := ax_c23 _ (List.mem_of_getElem? (i := 17) rfl)
theorem T_569 : Cond.selects RX0 yX0_cyclesToRest yX0_cyclesToRest ∈ T0 := ax_c23 _ (List.mem_of_getElem? (i := 18) rfl)
theorem T_570 : Cond.methodLink RX0 89 yX4_hasEnded ∈ T0 := ax_c23 _ (List.mem_of_getElem? (i := 19) rfl)
theorem T_572 : Cond.instanceMethod yX4_hasEnded ∈ T0 := ax_c23 _ (List.mem_of_getElem? (i := 20) rfl)
theorem T_573 : Cond.selects RX4 yX4_hasEnded yX4_hasEnded ∈ T0 := ax_c23 _ (List.mem_of_getElem? (i := 21) rfl)
theorem T_574 : Cond.methodLink RX0 93 yX0_roundFromHere ∈ T0 := ax_c23 _ (List.mem_of_getElem? (i := 22) rfl)
theorem T_576 : Cond.instanceMethod yX0_roundFromHere ∈ T0 := ax_c23 _ (List.mem_of_getElem? (i := 23) rfl)
theorem T_577 : Cond.selects RX0 yX0_roundFromHere yX0_roundFromHere ∈ T0 := ax_c23 _ (List.mem_of_getElem? (i := 24) rfl)
theorem T_578 : Cond.methodLink RX0 97 yX0_firstAgain ∈ T0 := ax_c23 _ (List.mem_of_getElem? (i := 25) rfl)
theorem T_580 : Cond.instanceMethod yX0_firstAgain ∈ T0 := ax_c23 _ (List.mem_of_getElem? (i := 26) rfl)
theorem T_581 : Cond.selects RX0 yX0_firstAgain yX0_firstAgain ∈ T0 := ax_c23 _ (List.mem_of_getElem? (i := 27) rfl)
theorem T_582 : Cond.methodLink RX0 101 yX4_hasNoneToGo ∈ T0 := ax_c23 _ (List.mem_of_getElem? (i := 28) rfl)
theorem T_584 : Cond.instanceMethod yX4_hasNoneToGo ∈ T0 := ax_c23 _ (List.mem_of_getElem? (i := 29) rfl)
theorem T_585 : Cond.selects RX4 yX4_hasNoneToGo yX4_hasNoneToGo ∈ T0 := ax_c23 _ (List.mem_of_getElem? (i := 30) rfl)
theorem T_586 : Cond.methodLink RX0 104 yX4_isLike ∈ T0 := ax_c23 _ (List.mem_of_getElem? (i := 31) rfl)
theorem T_588 : Cond.instanceMethod yX4_isLike ∈ T0 := ax_c23 _ (List.mem_of_getElem? (i := 32) rfl)
theorem T_589 : Cond.selects RX4 yX4_isLike yX4_isLike ∈ T0 := ax_c23 _ (List.mem_of_getElem? (i := 33) rfl)
theorem T_590 : Cond.constant RX0 60 (-65537) ∈ T0 := ax_c23 _ (List.mem_of_getElem? (i := 34) rfl)
theorem T_591 : Cond.fieldLink RX0 61 "LaneWarps$Forecast" "mode" "I" ∈ T0 := ax_c23 _ (List.mem_of_getElem? (i := 35) rfl)
theorem T_592 : Cond.fieldLink RX0 64 "LaneWarps$Forecast" "order" "I" ∈ T0 := ax_c23 _ (List.mem_of_getElem? (i := 36) rfl)
theorem T_593 : Cond.fieldLink RX0 67 "LaneWarps$Forecast" "skew" "I" ∈ T0 := ax_c23 _ (List.mem_of_getElem? (i := 37) rfl)
theorem T_594 : Cond.methodLink RX0 107 yX0_begun ∈ T0 := ax_c23 _ (List.mem_of_getElem? (i := 38) rfl)
theorem T_596 : Cond.instanceMethod yX0_begun ∈ T0 := ax_c23 _ (List.mem_of_getElem? (i := 39) rfl)
theorem ax_c24 : ∀ w ∈ Tc24, w ∈ T0 := fun _ h => List.mem_append_left _ (List.mem_append_right _ (List.mem_append_right _ (List.mem_append_right _ (List.mem_append_right _ (List.mem_append_right _ (List.mem_append_right _ (List.mem_append_right _ (List.mem_append_right _ (List.mem_append_right _ (List.mem_append_right _ (List.mem_append_right _ (List.mem_append_right _ (List.mem_append_right _ (List.mem_append_right _ (List.mem_append_right _ (List.mem_append_right _ (List.mem_append_right _ (List.mem_append_right _ (List.mem_append_right _ (List.mem_append_right _ (List.mem_append_right _ (List.mem_append_right _ (List.mem_append_right _ (List.mem_append_right _ (List.mem_append_left _ h)))))))))))))))))))))))))
theorem T_597 : Cond.selects RX0 yX0_begun yX0_begun ∈ T0 := ax_c24 _ (List.mem_of_getElem? (i := 0) rfl)
theorem T_598 : Cond.methodLink RX0 126 yX4_leaveAlone ∈ T0 := ax_c24 _ (List.mem_of_getElem? (i := 1) rfl)
theorem T_600 : Cond.instanceMethod yX4_leaveAlone ∈ T0 := ax_c24 _ (List.mem_of_getElem? (i := 2) rfl)
theorem T_601 : Cond.selects RX4 yX4_leaveAlone yX4_leaveAlone ∈ T0 := ax_c24 _ (List.mem_of_getElem? (i := 3) rfl)
theorem T_602 : Cond.constant RX0 138 (-1000000) ∈ T0 := ax_c24 _ (List.mem_of_getElem? (i := 4) rfl)
theorem T_603 : Cond.methodLink RX0 117 yX0_cyclesWith ∈ T0 := ax_c24 _ (List.mem_of_getElem? (i := 5) rfl)
theorem T_605 : Cond.instanceMethod yX0_cyclesWith ∈ T0 := ax_c24 _ (List.mem_of_getElem? (i := 6) rfl)
theorem T_606 : Cond.selects RX0 yX0_cyclesWith yX0_cyclesWith ∈ T0 := ax_c24 _ (List.mem_of_getElem? (i := 7) rfl)
theorem T_607 : Cond.fieldLink RX1 86 "LaneWarps$Machine" "row" "[I" ∈ T0 := ax_c24 _ (List.mem_of_getElem? (i := 8) rfl)
theorem T_608 : Cond.methodLink RX1 125 Lib.Math.max.name ∈ T0 := ax_c24 _ (List.mem_of_getElem? (i := 9) rfl)
theorem T_609 : Cond.static Lib.Math.max.name ∈ T0 := ax_c24 _ (List.mem_of_getElem? (i := 10) rfl)
theorem T_611 : Cond.fieldLink RX1 68 "LaneWarps$Machine" "state" "LLaneWarps$State;" ∈ T0 := ax_c24 _ (List.mem_of_getElem? (i := 11) rfl)
theorem T_612 : Cond.fieldLink RX1 29 "LaneWarps$Machine" "mover" "LLaneWarps$Warp;" ∈ T0 := ax_c24 _ (List.mem_of_getElem? (i := 12) rfl)
theorem T_613 : Cond.methodLink RX1 145 yX1_valueOf ∈ T0 := ax_c24 _ (List.mem_of_getElem? (i := 13) rfl)
theorem T_615 : Cond.instanceMethod yX1_valueOf ∈ T0 := ax_c24 _ (List.mem_of_getElem? (i := 14) rfl)
theorem T_616 : Cond.selects RX1 yX1_valueOf yX1_valueOf ∈ T0 := ax_c24 _ (List.mem_of_getElem? (i := 15) rfl)
theorem T_617 : Cond.fieldLink RX1 198 "LaneWarps$Machine" "loaded" "J" ∈ T0 := ax_c24 _ (List.mem_of_getElem? (i := 16) rfl)
theorem T_618 : Cond.fieldLink RX1 105 "LaneWarps$Machine" "warp" "I" ∈ T0 := ax_c24 _ (List.mem_of_getElem? (i := 17) rfl)
theorem T_619 : Cond.methodLink RX1 202 yX4_touch ∈ T0 := ax_c24 _ (List.mem_of_getElem? (i := 18) rfl)
theorem T_621 : Cond.instanceMethod yX4_touch ∈ T0 := ax_c24 _ (List.mem_of_getElem? (i := 19) rfl)
theorem T_622 : Cond.selects RX4 yX4_touch yX4_touch ∈ T0 := ax_c24 _ (List.mem_of_getElem? (i := 20) rfl)
theorem T_623 : Cond.methodLink RX1 189 Lib.Math.min.name ∈ T0 := ax_c24 _ (List.mem_of_getElem? (i := 21) rfl)
theorem T_624 : Cond.methodLink RX1 72 yX1_pickWarp ∈ T0 := ax_c24 _ (List.mem_of_getElem? (i := 22) rfl)
theorem T_626 : Cond.instanceMethod yX1_pickWarp ∈ T0 := ax_c24 _ (List.mem_of_getElem? (i := 23) rfl)
theorem T_627 : Cond.selects RX1 yX1_pickWarp yX1_pickWarp ∈ T0 := ax_c24 _ (List.mem_of_getElem? (i := 24) rfl)
theorem T_628 : Cond.methodLink RX1 76 yX1_pickLanes ∈ T0 := ax_c24 _ (List.mem_of_getElem? (i := 25) rfl)
theorem T_630 : Cond.instanceMethod yX1_pickLanes ∈ T0 := ax_c24 _ (List.mem_of_getElem? (i := 26) rfl)
theorem T_631 : Cond.selects RX1 yX1_pickLanes yX1_pickLanes ∈ T0 := ax_c24 _ (List.mem_of_getElem? (i := 27) rfl)
theorem T_632 : Cond.fieldLink RX1 79 "LaneWarps$Machine" "line" "I" ∈ T0 := ax_c24 _ (List.mem_of_getElem? (i := 28) rfl)
theorem T_633 : Cond.methodLink RX1 89 yX1_measure ∈ T0 := ax_c24 _ (List.mem_of_getElem? (i := 29) rfl)
theorem T_635 : Cond.instanceMethod yX1_measure ∈ T0 := ax_c24 _ (List.mem_of_getElem? (i := 30) rfl)
theorem T_636 : Cond.selects RX1 yX1_measure yX1_measure ∈ T0 := ax_c24 _ (List.mem_of_getElem? (i := 31) rfl)
theorem T_637 : Cond.methodLink RX1 142 yX1_goesNow ∈ T0 := ax_c24 _ (List.mem_of_getElem? (i := 32) rfl)
theorem T_639 : Cond.instanceMethod yX1_goesNow ∈ T0 := ax_c24 _ (List.mem_of_getElem? (i := 33) rfl)
theorem T_640 : Cond.selects RX1 yX1_goesNow yX1_goesNow ∈ T0 := ax_c24 _ (List.mem_of_getElem? (i := 34) rfl)
theorem T_641 : Cond.methodLink RX1 206 yX1_holds ∈ T0 := ax_c24 _ (List.mem_of_getElem? (i := 35) rfl)
theorem T_643 : Cond.instanceMethod yX1_holds ∈ T0 := ax_c24 _ (List.mem_of_getElem? (i := 36) rfl)
theorem T_644 : Cond.selects RX1 yX1_holds yX1_holds ∈ T0 := ax_c24 _ (List.mem_of_getElem? (i := 37) rfl)
theorem T_645 : Cond.fieldLink RX1 116 "LaneWarps$Machine" "lanes" "I" ∈ T0 := ax_c24 _ (List.mem_of_getElem? (i := 38) rfl)
theorem T_646 : Cond.fieldLink RX1 39 "LaneWarps$Machine" "takes" "I" ∈ T0 := ax_c24 _ (List.mem_of_getElem? (i := 39) rfl)
theorem ax_c25 : ∀ w ∈ Tc25, w ∈ T0 := fun _ h => List.mem_append_left _ (List.mem_append_right _ (List.mem_append_right _ (List.mem_append_right _ (List.mem_append_right _ (List.mem_append_right _ (List.mem_append_right _ (List.mem_append_right _ (List.mem_append_right _ (List.mem_append_right _ (List.mem_append_right _ (List.mem_append_right _ (List.mem_append_right _ (List.mem_append_right _ (List.mem_append_right _ (List.mem_append_right _ (List.mem_append_right _ (List.mem_append_right _ (List.mem_append_right _ (List.mem_append_right _ (List.mem_append_right _ (List.mem_append_right _ (List.mem_append_right _ (List.mem_append_right _ (List.mem_append_right _ (List.mem_append_right _ (List.mem_append_left _ h))))))))))))))))))))))))))
theorem T_647 : Cond.methodLink RX1 148 yJ9_floorMod_7cf53 ∈ T0 := ax_c25 _ (List.mem_of_getElem? (i := 0) rfl)
theorem T_648 : Cond.initialized RJ9 ∈ T0 := ax_c25 _ (List.mem_of_getElem? (i := 1) rfl)
theorem T_650 : Cond.static yJ9_floorMod_7cf53 ∈ T0 := ax_c25 _ (List.mem_of_getElem? (i := 2) rfl)
theorem T_651 : Cond.methodLink RX1 151 yJ6_bitCount_0f7a4 ∈ T0 := ax_c25 _ (List.mem_of_getElem? (i := 3) rfl)
theorem T_652 : Cond.initialized RJ6 ∈ T0 := ax_c25 _ (List.mem_of_getElem? (i := 4) rfl)
theorem T_654 : Cond.static yJ6_bitCount_0f7a4 ∈ T0 := ax_c25 _ (List.mem_of_getElem? (i := 5) rfl)
theorem T_655 : Cond.methodLink RX1 156 yX1_mostInOneBank ∈ T0 := ax_c25 _ (List.mem_of_getElem? (i := 6) rfl)
theorem T_657 : Cond.instanceMethod yX1_mostInOneBank ∈ T0 := ax_c25 _ (List.mem_of_getElem? (i := 7) rfl)
theorem T_658 : Cond.selects RX1 yX1_mostInOneBank yX1_mostInOneBank ∈ T0 := ax_c25 _ (List.mem_of_getElem? (i := 8) rfl)
theorem T_659 : Cond.methodLink RX1 160 yX1_segments ∈ T0 := ax_c25 _ (List.mem_of_getElem? (i := 9) rfl)
theorem T_661 : Cond.instanceMethod yX1_segments ∈ T0 := ax_c25 _ (List.mem_of_getElem? (i := 10) rfl)
theorem T_662 : Cond.selects RX1 yX1_segments yX1_segments ∈ T0 := ax_c25 _ (List.mem_of_getElem? (i := 11) rfl)
theorem T_663 : Cond.methodLink RX1 163 yJ7_fill_53178 ∈ T0 := ax_c25 _ (List.mem_of_getElem? (i := 12) rfl)
theorem T_664 : Cond.fieldLink RX1 134 "LaneWarps$Machine" "leader" "I" ∈ T0 := ax_c25 _ (List.mem_of_getElem? (i := 13) rfl)
theorem T_665 : Cond.methodLink RX1 212 yX1_goers ∈ T0 := ax_c25 _ (List.mem_of_getElem? (i := 14) rfl)
theorem T_667 : Cond.instanceMethod yX1_goers ∈ T0 := ax_c25 _ (List.mem_of_getElem? (i := 15) rfl)
theorem T_668 : Cond.selects RX1 yX1_goers yX1_goers ∈ T0 := ax_c25 _ (List.mem_of_getElem? (i := 16) rfl)
theorem T_669 : Cond.methodLink RX1 215 yX1_lineBehind ∈ T0 := ax_c25 _ (List.mem_of_getElem? (i := 17) rfl)
theorem T_671 : Cond.instanceMethod yX1_lineBehind ∈ T0 := ax_c25 _ (List.mem_of_getElem? (i := 18) rfl)
theorem T_672 : Cond.selects RX1 yX1_lineBehind yX1_lineBehind ∈ T0 := ax_c25 _ (List.mem_of_getElem? (i := 19) rfl)
theorem T_673 : Cond.methodLink RX1 230 yX5_moveLane ∈ T0 := ax_c25 _ (List.mem_of_getElem? (i := 20) rfl)
theorem T_675 : Cond.instanceMethod yX5_moveLane ∈ T0 := ax_c25 _ (List.mem_of_getElem? (i := 21) rfl)
theorem T_676 : Cond.selects RX5 yX5_moveLane yX5_moveLane ∈ T0 := ax_c25 _ (List.mem_of_getElem? (i := 22) rfl)
theorem T_677 : Cond.methodLink RX1 218 yX5_moveTop ∈ T0 := ax_c25 _ (List.mem_of_getElem? (i := 23) rfl)
theorem T_679 : Cond.instanceMethod yX5_moveTop ∈ T0 := ax_c25 _ (List.mem_of_getElem? (i := 24) rfl)
theorem T_680 : Cond.selects RX5 yX5_moveTop yX5_moveTop ∈ T0 := ax_c25 _ (List.mem_of_getElem? (i := 25) rfl)
theorem T_681 : Cond.methodLink RX1 220 yX5_splitTop ∈ T0 := ax_c25 _ (List.mem_of_getElem? (i := 26) rfl)
theorem T_683 : Cond.instanceMethod yX5_splitTop ∈ T0 := ax_c25 _ (List.mem_of_getElem? (i := 27) rfl)
theorem T_684 : Cond.selects RX5 yX5_splitTop yX5_splitTop ∈ T0 := ax_c25 _ (List.mem_of_getElem? (i := 28) rfl)
theorem T_685 : Cond.methodLink RX1 224 yX5_yieldTop ∈ T0 := ax_c25 _ (List.mem_of_getElem? (i := 29) rfl)
theorem T_687 : Cond.instanceMethod yX5_yieldTop ∈ T0 := ax_c25 _ (List.mem_of_getElem? (i := 30) rfl)
theorem T_688 : Cond.selects RX5 yX5_yieldTop yX5_yieldTop ∈ T0 := ax_c25 _ (List.mem_of_getElem? (i := 31) rfl)
theorem T_689 : Cond.methodLink RX1 227 yX5_settle ∈ T0 := ax_c25 _ (List.mem_of_getElem? (i := 32) rfl)
theorem T_691 : Cond.instanceMethod yX5_settle ∈ T0 := ax_c25 _ (List.mem_of_getElem? (i := 33) rfl)
theorem T_692 : Cond.selects RX5 yX5_settle yX5_settle ∈ T0 := ax_c25 _ (List.mem_of_getElem? (i := 34) rfl)
theorem T_693 : Cond.methodLink RX1 112 yX5_movable ∈ T0 := ax_c25 _ (List.mem_of_getElem? (i := 35) rfl)
theorem T_695 : Cond.instanceMethod yX5_movable ∈ T0 := ax_c25 _ (List.mem_of_getElem? (i := 36) rfl)
theorem T_696 : Cond.selects RX5 yX5_movable yX5_movable ∈ T0 := ax_c25 _ (List.mem_of_getElem? (i := 37) rfl)
theorem T_697 : Cond.methodLink RX1 101 yX4_canGo ∈ T0 := ax_c25 _ (List.mem_of_getElem? (i := 38) rfl)
theorem T_699 : Cond.instanceMethod yX4_canGo ∈ T0 := ax_c25 _ (List.mem_of_getElem? (i := 39) rfl)
theorem ax_c26 : ∀ w ∈ Tc26, w ∈ T0 := fun _ h => List.mem_append_left _ (List.mem_append_right _ (List.mem_append_right _ (List.mem_append_right _ (List.mem_append_right _ (List.mem_append_right _ (List.mem_append_right _ (List.mem_append_right _ (List.mem_append_right _ (List.mem_append_right _ (List.mem_append_right _ (List.mem_append_right _ (List.mem_append_right _ (List.mem_append_right _ (List.mem_append_right _ (List.mem_append_right _ (List.mem_append_right _ (List.mem_append_right _ (List.mem_append_right _ (List.mem_append_right _ (List.mem_append_right _ (List.mem_append_right _ (List.mem_append_right _ (List.mem_append_right _ (List.mem_append_right _ (List.mem_append_right _ (List.mem_append_right _ (List.mem_append_left _ h)))))))))))))))))))))))))))
theorem T_700 : Cond.selects RX4 yX4_canGo yX4_canGo ∈ T0 := ax_c26 _ (List.mem_of_getElem? (i := 0) rfl)
theorem T_701 : Cond.methodLink RX1 22 yX1_foresee ∈ T0 := ax_c26 _ (List.mem_of_getElem? (i := 1) rfl)
theorem T_703 : Cond.instanceMethod yX1_foresee ∈ T0 := ax_c26 _ (List.mem_of_getElem? (i := 2) rfl)
theorem T_704 : Cond.selects RX1 yX1_foresee yX1_foresee ∈ T0 := ax_c26 _ (List.mem_of_getElem? (i := 3) rfl)
theorem T_705 : Cond.methodLink RX1 26 yX1_keepLine ∈ T0 := ax_c26 _ (List.mem_of_getElem? (i := 4) rfl)
theorem T_707 : Cond.instanceMethod yX1_keepLine ∈ T0 := ax_c26 _ (List.mem_of_getElem? (i := 5) rfl)
theorem T_708 : Cond.selects RX1 yX1_keepLine yX1_keepLine ∈ T0 := ax_c26 _ (List.mem_of_getElem? (i := 6) rfl)
theorem T_709 : Cond.methodLink RX1 47 yX1_work ∈ T0 := ax_c26 _ (List.mem_of_getElem? (i := 7) rfl)
theorem T_711 : Cond.instanceMethod yX1_work ∈ T0 := ax_c26 _ (List.mem_of_getElem? (i := 8) rfl)
theorem T_712 : Cond.selects RX1 yX1_work yX1_work ∈ T0 := ax_c26 _ (List.mem_of_getElem? (i := 9) rfl)
theorem T_713 : Cond.methodLink RX1 53 yX1_moveTop ∈ T0 := ax_c26 _ (List.mem_of_getElem? (i := 10) rfl)
theorem T_715 : Cond.instanceMethod yX1_moveTop ∈ T0 := ax_c26 _ (List.mem_of_getElem? (i := 11) rfl)
theorem T_716 : Cond.selects RX1 yX1_moveTop yX1_moveTop ∈ T0 := ax_c26 _ (List.mem_of_getElem? (i := 12) rfl)
theorem T_717 : Cond.methodLink RX1 56 yX1_moveEach ∈ T0 := ax_c26 _ (List.mem_of_getElem? (i := 13) rfl)
theorem T_719 : Cond.instanceMethod yX1_moveEach ∈ T0 := ax_c26 _ (List.mem_of_getElem? (i := 14) rfl)
theorem T_720 : Cond.selects RX1 yX1_moveEach yX1_moveEach ∈ T0 := ax_c26 _ (List.mem_of_getElem? (i := 15) rfl)
theorem T_721 : Cond.methodLink RX1 64 yX4_passBarIfAllWait ∈ T0 := ax_c26 _ (List.mem_of_getElem? (i := 16) rfl)
theorem T_723 : Cond.instanceMethod yX4_passBarIfAllWait ∈ T0 := ax_c26 _ (List.mem_of_getElem? (i := 17) rfl)
theorem T_724 : Cond.selects RX4 yX4_passBarIfAllWait yX4_passBarIfAllWait ∈ T0 := ax_c26 _ (List.mem_of_getElem? (i := 18) rfl)
theorem T_725 : Cond.methodLink RX1 179 yX1_result ∈ T0 := ax_c26 _ (List.mem_of_getElem? (i := 19) rfl)
theorem T_727 : Cond.instanceMethod yX1_result ∈ T0 := ax_c26 _ (List.mem_of_getElem? (i := 20) rfl)
theorem T_728 : Cond.selects RX1 yX1_result yX1_result ∈ T0 := ax_c26 _ (List.mem_of_getElem? (i := 21) rfl)
theorem T_729 : Cond.methodLink RX1 182 yX1_bounded ∈ T0 := ax_c26 _ (List.mem_of_getElem? (i := 22) rfl)
theorem T_731 : Cond.static yX1_bounded ∈ T0 := ax_c26 _ (List.mem_of_getElem? (i := 23) rfl)
theorem T_732 : Cond.methodLink RX1 185 yX1_ask ∈ T0 := ax_c26 _ (List.mem_of_getElem? (i := 24) rfl)
theorem T_734 : Cond.instanceMethod yX1_ask ∈ T0 := ax_c26 _ (List.mem_of_getElem? (i := 25) rfl)
theorem T_735 : Cond.selects RX1 yX1_ask yX1_ask ∈ T0 := ax_c26 _ (List.mem_of_getElem? (i := 26) rfl)
theorem T_736 : Cond.constant RX2 43 (-1000000) ∈ T0 := ax_c26 _ (List.mem_of_getElem? (i := 27) rfl)
theorem T_737 : Cond.methodLink RX2 50 yX2_findPassed ∈ T0 := ax_c26 _ (List.mem_of_getElem? (i := 28) rfl)
theorem T_739 : Cond.instanceMethod yX2_findPassed ∈ T0 := ax_c26 _ (List.mem_of_getElem? (i := 29) rfl)
theorem T_740 : Cond.selects RX2 yX2_findPassed yX2_findPassed ∈ T0 := ax_c26 _ (List.mem_of_getElem? (i := 30) rfl)
theorem T_741 : Cond.methodLink RX2 53 yX2_meetOf ∈ T0 := ax_c26 _ (List.mem_of_getElem? (i := 31) rfl)
theorem T_743 : Cond.instanceMethod yX2_meetOf ∈ T0 := ax_c26 _ (List.mem_of_getElem? (i := 32) rfl)
theorem T_744 : Cond.selects RX2 yX2_meetOf yX2_meetOf ∈ T0 := ax_c26 _ (List.mem_of_getElem? (i := 33) rfl)
theorem T_745 : Cond.methodLink RX2 57 yJ7_fill_d0a16 ∈ T0 := ax_c26 _ (List.mem_of_getElem? (i := 34) rfl)
theorem T_747 : Cond.static yJ7_fill_d0a16 ∈ T0 := ax_c26 _ (List.mem_of_getElem? (i := 35) rfl)
theorem T_748 : Cond.methodLink RX2 60 yX2_passedBehind ∈ T0 := ax_c26 _ (List.mem_of_getElem? (i := 36) rfl)
theorem T_750 : Cond.instanceMethod yX2_passedBehind ∈ T0 := ax_c26 _ (List.mem_of_getElem? (i := 37) rfl)
theorem T_751 : Cond.selects RX2 yX2_passedBehind yX2_passedBehind ∈ T0 := ax_c26 _ (List.mem_of_getElem? (i := 38) rfl)
theorem T_752 : Cond.methodLink RX2 44 Lib.Math.max.name ∈ T0 := ax_c26 _ (List.mem_of_getElem? (i := 39) rfl)
theorem ax_c27 : ∀ w ∈ Tc27, w ∈ T0 := fun _ h => List.mem_append_left _ (List.mem_append_right _ (List.mem_append_right _ (List.mem_append_right _ (List.mem_append_right _ (List.mem_append_right _ (List.mem_append_right _ (List.mem_append_right _ (List.mem_append_right _ (List.mem_append_right _ (List.mem_append_right _ (List.mem_append_right _ (List.mem_append_right _ (List.mem_append_right _ (List.mem_append_right _ (List.mem_append_right _ (List.mem_append_right _ (List.mem_append_right _ (List.mem_append_right _ (List.mem_append_right _ (List.mem_append_right _ (List.mem_append_right _ (List.mem_append_right _ (List.mem_append_right _ (List.mem_append_right _ (List.mem_append_right _ (List.mem_append_right _ (List.mem_append_right _ (List.mem_append_left _ h))))))))))))))))))))))))))))
theorem T_753 : Cond.methodLink RX3 103 yX3_lineNamed ∈ T0 := ax_c27 _ (List.mem_of_getElem? (i := 0) rfl)
theorem T_755 : Cond.instanceMethod yX3_lineNamed ∈ T0 := ax_c27 _ (List.mem_of_getElem? (i := 1) rfl)
theorem T_756 : Cond.selects RX3 yX3_lineNamed yX3_lineNamed ∈ T0 := ax_c27 _ (List.mem_of_getElem? (i := 2) rfl)
theorem T_757 : Cond.methodLink RX3 100 yX3_readName ∈ T0 := ax_c27 _ (List.mem_of_getElem? (i := 3) rfl)
theorem T_759 : Cond.instanceMethod yX3_readName ∈ T0 := ax_c27 _ (List.mem_of_getElem? (i := 4) rfl)
theorem T_760 : Cond.selects RX3 yX3_readName yX3_readName ∈ T0 := ax_c27 _ (List.mem_of_getElem? (i := 5) rfl)
theorem T_761 : Cond.methodLink RX3 107 yX3_readSign ∈ T0 := ax_c27 _ (List.mem_of_getElem? (i := 6) rfl)
theorem T_763 : Cond.instanceMethod yX3_readSign ∈ T0 := ax_c27 _ (List.mem_of_getElem? (i := 7) rfl)
theorem T_764 : Cond.selects RX3 yX3_readSign yX3_readSign ∈ T0 := ax_c27 _ (List.mem_of_getElem? (i := 8) rfl)
theorem T_765 : Cond.methodLink RX3 110 yX2_addLine ∈ T0 := ax_c27 _ (List.mem_of_getElem? (i := 9) rfl)
theorem T_767 : Cond.instanceMethod yX2_addLine ∈ T0 := ax_c27 _ (List.mem_of_getElem? (i := 10) rfl)
theorem T_768 : Cond.selects RX2 yX2_addLine yX2_addLine ∈ T0 := ax_c27 _ (List.mem_of_getElem? (i := 11) rfl)
theorem T_769 : Cond.methodLink RX3 89 yJ0_length_8abf5 ∈ T0 := ax_c27 _ (List.mem_of_getElem? (i := 12) rfl)
theorem T_771 : Cond.instanceMethod yJ0_length_8abf5 ∈ T0 := ax_c27 _ (List.mem_of_getElem? (i := 13) rfl)
theorem T_772 : Cond.selects RJ0 yJ0_length_8abf5 yJ0_length_8abf5 ∈ T0 := ax_c27 _ (List.mem_of_getElem? (i := 14) rfl)
theorem T_773 : Cond.methodLink RX3 92 yJ0_charAt_5068e ∈ T0 := ax_c27 _ (List.mem_of_getElem? (i := 15) rfl)
theorem T_775 : Cond.instanceMethod yJ0_charAt_5068e ∈ T0 := ax_c27 _ (List.mem_of_getElem? (i := 16) rfl)
theorem T_776 : Cond.selects RJ0 yJ0_charAt_5068e yJ0_charAt_5068e ∈ T0 := ax_c27 _ (List.mem_of_getElem? (i := 17) rfl)
theorem T_777 : Cond.methodLink RX3 56 yX3_readStatement ∈ T0 := ax_c27 _ (List.mem_of_getElem? (i := 18) rfl)
theorem T_779 : Cond.instanceMethod yX3_readStatement ∈ T0 := ax_c27 _ (List.mem_of_getElem? (i := 19) rfl)
theorem T_780 : Cond.selects RX3 yX3_readStatement yX3_readStatement ∈ T0 := ax_c27 _ (List.mem_of_getElem? (i := 20) rfl)
theorem T_781 : Cond.methodLink RX3 67 yX3_aimAll ∈ T0 := ax_c27 _ (List.mem_of_getElem? (i := 21) rfl)
theorem T_783 : Cond.instanceMethod yX3_aimAll ∈ T0 := ax_c27 _ (List.mem_of_getElem? (i := 22) rfl)
theorem T_784 : Cond.selects RX3 yX3_aimAll yX3_aimAll ∈ T0 := ax_c27 _ (List.mem_of_getElem? (i := 23) rfl)
theorem T_785 : Cond.fieldLink RX3 169 "LaneWarps$Reader" "number" "I" ∈ T0 := ax_c27 _ (List.mem_of_getElem? (i := 24) rfl)
theorem T_786 : Cond.methodLink RX3 136 yX3_readNumber ∈ T0 := ax_c27 _ (List.mem_of_getElem? (i := 25) rfl)
theorem T_788 : Cond.instanceMethod yX3_readNumber ∈ T0 := ax_c27 _ (List.mem_of_getElem? (i := 26) rfl)
theorem T_789 : Cond.selects RX3 yX3_readNumber yX3_readNumber ∈ T0 := ax_c27 _ (List.mem_of_getElem? (i := 27) rfl)
theorem T_790 : Cond.fieldLink RX3 142 "LaneWarps$Reader" "address" "I" ∈ T0 := ax_c27 _ (List.mem_of_getElem? (i := 28) rfl)
theorem T_791 : Cond.methodLink RX3 148 Lib.Math.max.name ∈ T0 := ax_c27 _ (List.mem_of_getElem? (i := 29) rfl)
theorem T_792 : Cond.methodLink RX3 153 yX3_readOwn ∈ T0 := ax_c27 _ (List.mem_of_getElem? (i := 30) rfl)
theorem T_794 : Cond.instanceMethod yX3_readOwn ∈ T0 := ax_c27 _ (List.mem_of_getElem? (i := 31) rfl)
theorem T_795 : Cond.selects RX3 yX3_readOwn yX3_readOwn ∈ T0 := ax_c27 _ (List.mem_of_getElem? (i := 32) rfl)
theorem T_796 : Cond.methodLink RX3 162 yX2_latest ∈ T0 := ax_c27 _ (List.mem_of_getElem? (i := 33) rfl)
theorem T_798 : Cond.instanceMethod yX2_latest ∈ T0 := ax_c27 _ (List.mem_of_getElem? (i := 34) rfl)
theorem T_799 : Cond.selects RX2 yX2_latest yX2_latest ∈ T0 := ax_c27 _ (List.mem_of_getElem? (i := 35) rfl)
theorem T_800 : Cond.methodLink RX3 166 yX3_readComparison ∈ T0 := ax_c27 _ (List.mem_of_getElem? (i := 36) rfl)
theorem T_802 : Cond.instanceMethod yX3_readComparison ∈ T0 := ax_c27 _ (List.mem_of_getElem? (i := 37) rfl)
theorem T_803 : Cond.selects RX3 yX3_readComparison yX3_readComparison ∈ T0 := ax_c27 _ (List.mem_of_getElem? (i := 38) rfl)
theorem T_804 : Cond.methodLink RX3 77 yX3_openLine ∈ T0 := ax_c27 _ (List.mem_of_getElem? (i := 39) rfl)
theorem ax_c28 : ∀ w ∈ Tc28, w ∈ T0 := fun _ h => List.mem_append_left _ (List.mem_append_right _ (List.mem_append_right _ (List.mem_append_right _ (List.mem_append_right _ (List.mem_append_right _ (List.mem_append_right _ (List.mem_append_right _ (List.mem_append_right _ (List.mem_append_right _ (List.mem_append_right _ (List.mem_append_right _ (List.mem_append_right _ (List.mem_append_right _ (List.mem_append_right _ (List.mem_append_right _ (List.mem_append_right _ (List.mem_append_right _ (List.mem_append_right _ (List.mem_append_right _ (List.mem_append_right _ (List.mem_append_right _ (List.mem_append_right _ (List.mem_append_right _ (List.mem_append_right _ (List.mem_append_right _ (List.mem_append_right _ (List.mem_append_right _ (List.mem_append_right _ (List.mem_append_left _ h)))))))))))))))))))))))))))))
theorem T_806 : Cond.instanceMethod yX3_openLine ∈ T0 := ax_c28 _ (List.mem_of_getElem? (i := 0) rfl)
theorem T_807 : Cond.selects RX3 yX3_openLine yX3_openLine ∈ T0 := ax_c28 _ (List.mem_of_getElem? (i := 1) rfl)
theorem T_808 : Cond.methodLink RX3 80 yX3_piecesOf ∈ T0 := ax_c28 _ (List.mem_of_getElem? (i := 2) rfl)
theorem T_810 : Cond.static yX3_piecesOf ∈ T0 := ax_c28 _ (List.mem_of_getElem? (i := 3) rfl)
theorem T_811 : Cond.methodLink RX3 84 yJ0_isEmpty_aae02 ∈ T0 := ax_c28 _ (List.mem_of_getElem? (i := 4) rfl)
theorem T_813 : Cond.instanceMethod yJ0_isEmpty_aae02 ∈ T0 := ax_c28 _ (List.mem_of_getElem? (i := 5) rfl)
theorem T_814 : Cond.selects RJ0 yJ0_isEmpty_aae02 yJ0_isEmpty_aae02 ∈ T0 := ax_c28 _ (List.mem_of_getElem? (i := 6) rfl)
theorem T_815 : Cond.methodLink RX3 96 yX3_readPiece ∈ T0 := ax_c28 _ (List.mem_of_getElem? (i := 7) rfl)
theorem T_817 : Cond.instanceMethod yX3_readPiece ∈ T0 := ax_c28 _ (List.mem_of_getElem? (i := 8) rfl)
theorem T_818 : Cond.selects RX3 yX3_readPiece yX3_readPiece ∈ T0 := ax_c28 _ (List.mem_of_getElem? (i := 9) rfl)
theorem T_819 : Cond.methodLink RX3 176 yX3_isLetter ∈ T0 := ax_c28 _ (List.mem_of_getElem? (i := 10) rfl)
theorem T_821 : Cond.static yX3_isLetter ∈ T0 := ax_c28 _ (List.mem_of_getElem? (i := 11) rfl)
theorem T_822 : Cond.methodLink RX3 179 yX3_scanWord ∈ T0 := ax_c28 _ (List.mem_of_getElem? (i := 12) rfl)
theorem T_824 : Cond.instanceMethod yX3_scanWord ∈ T0 := ax_c28 _ (List.mem_of_getElem? (i := 13) rfl)
theorem T_825 : Cond.selects RX3 yX3_scanWord yX3_scanWord ∈ T0 := ax_c28 _ (List.mem_of_getElem? (i := 14) rfl)
theorem T_826 : Cond.methodLink RX3 182 yX3_ownWord ∈ T0 := ax_c28 _ (List.mem_of_getElem? (i := 15) rfl)
theorem T_828 : Cond.instanceMethod yX3_ownWord ∈ T0 := ax_c28 _ (List.mem_of_getElem? (i := 16) rfl)
theorem T_829 : Cond.selects RX3 yX3_ownWord yX3_ownWord ∈ T0 := ax_c28 _ (List.mem_of_getElem? (i := 17) rfl)
theorem T_830 : Cond.methodLink RX3 185 yX3_isDigit ∈ T0 := ax_c28 _ (List.mem_of_getElem? (i := 18) rfl)
theorem T_832 : Cond.static yX3_isDigit ∈ T0 := ax_c28 _ (List.mem_of_getElem? (i := 19) rfl)
theorem T_833 : Cond.methodLink RX3 188 yX3_scanNumber ∈ T0 := ax_c28 _ (List.mem_of_getElem? (i := 20) rfl)
theorem T_835 : Cond.instanceMethod yX3_scanNumber ∈ T0 := ax_c28 _ (List.mem_of_getElem? (i := 21) rfl)
theorem T_836 : Cond.selects RX3 yX3_scanNumber yX3_scanNumber ∈ T0 := ax_c28 _ (List.mem_of_getElem? (i := 22) rfl)
theorem T_837 : Cond.fieldLink RX4 70 "LaneWarps$State" "cycle" "I" ∈ T0 := ax_c28 _ (List.mem_of_getElem? (i := 23) rfl)
theorem T_838 : Cond.fieldLink RX4 41 "LaneWarps$State" "mode" "I" ∈ T0 := ax_c28 _ (List.mem_of_getElem? (i := 24) rfl)
theorem T_839 : Cond.methodLink RX4 114 yX5_movable ∈ T0 := ax_c28 _ (List.mem_of_getElem? (i := 25) rfl)
theorem T_840 : Cond.fieldLink RX4 54 "LaneWarps$State" "used" "I" ∈ T0 := ax_c28 _ (List.mem_of_getElem? (i := 26) rfl)
theorem T_841 : Cond.fieldLink RX4 44 "LaneWarps$State" "order" "I" ∈ T0 := ax_c28 _ (List.mem_of_getElem? (i := 27) rfl)
theorem T_842 : Cond.fieldLink RX4 47 "LaneWarps$State" "skew" "I" ∈ T0 := ax_c28 _ (List.mem_of_getElem? (i := 28) rfl)
theorem T_843 : Cond.methodLink RX4 86 yX4_lay ∈ T0 := ax_c28 _ (List.mem_of_getElem? (i := 29) rfl)
theorem T_844 : Cond.fieldLink RX4 73 "LaneWarps$State" "done" "I" ∈ T0 := ax_c28 _ (List.mem_of_getElem? (i := 30) rfl)
theorem T_845 : Cond.fieldLink RX4 76 "LaneWarps$State" "epochs" "I" ∈ T0 := ax_c28 _ (List.mem_of_getElem? (i := 31) rfl)
theorem T_846 : Cond.methodLink RX4 58 arraycopyName ∈ T0 := ax_c28 _ (List.mem_of_getElem? (i := 32) rfl)
theorem T_847 : Cond.native arraycopyName ∈ T0 := ax_c28 _ (List.mem_of_getElem? (i := 33) rfl)
theorem T_848 : Cond.static arraycopyName ∈ T0 := ax_c28 _ (List.mem_of_getElem? (i := 34) rfl)
theorem T_849 : Cond.initialized "java/lang/System" ∈ T0 := ax_c28 _ (List.mem_of_getElem? (i := 35) rfl)
theorem T_850 : Cond.methodLink RX4 89 yX5_copyFrom ∈ T0 := ax_c28 _ (List.mem_of_getElem? (i := 36) rfl)
theorem T_852 : Cond.instanceMethod yX5_copyFrom ∈ T0 := ax_c28 _ (List.mem_of_getElem? (i := 37) rfl)
theorem T_853 : Cond.selects RX5 yX5_copyFrom yX5_copyFrom ∈ T0 := ax_c28 _ (List.mem_of_getElem? (i := 38) rfl)
theorem T_854 : Cond.methodLink RX4 93 yX4_restOfReady ∈ T0 := ax_c28 _ (List.mem_of_getElem? (i := 39) rfl)
theorem ax_c29 : ∀ w ∈ Tc29, w ∈ T0 := fun _ h => List.mem_append_left _ (List.mem_append_right _ (List.mem_append_right _ (List.mem_append_right _ (List.mem_append_right _ (List.mem_append_right _ (List.mem_append_right _ (List.mem_append_right _ (List.mem_append_right _ (List.mem_append_right _ (List.mem_append_right _ (List.mem_append_right _ (List.mem_append_right _ (List.mem_append_right _ (List.mem_append_right _ (List.mem_append_right _ (List.mem_append_right _ (List.mem_append_right _ (List.mem_append_right _ (List.mem_append_right _ (List.mem_append_right _ (List.mem_append_right _ (List.mem_append_right _ (List.mem_append_right _ (List.mem_append_right _ (List.mem_append_right _ (List.mem_append_right _ (List.mem_append_right _ (List.mem_append_right _ (List.mem_append_right _ (List.mem_append_left _ h))))))))))))))))))))))))))))))
theorem T_856 : Cond.instanceMethod yX4_restOfReady ∈ T0 := ax_c29 _ (List.mem_of_getElem? (i := 0) rfl)
theorem T_857 : Cond.selects RX4 yX4_restOfReady yX4_restOfReady ∈ T0 := ax_c29 _ (List.mem_of_getElem? (i := 1) rfl)
theorem T_858 : Cond.methodLink RX4 97 yX5_isLike ∈ T0 := ax_c29 _ (List.mem_of_getElem? (i := 2) rfl)
theorem T_860 : Cond.instanceMethod yX5_isLike ∈ T0 := ax_c29 _ (List.mem_of_getElem? (i := 3) rfl)
theorem T_861 : Cond.selects RX5 yX5_isLike yX5_isLike ∈ T0 := ax_c29 _ (List.mem_of_getElem? (i := 4) rfl)
theorem T_863 : Cond.static yX6_areLike ∈ T0 := ax_c29 _ (List.mem_of_getElem? (i := 5) rfl)
theorem T_864 : Cond.methodLink RX4 82 yX5_restart ∈ T0 := ax_c29 _ (List.mem_of_getElem? (i := 6) rfl)
theorem T_866 : Cond.instanceMethod yX5_restart ∈ T0 := ax_c29 _ (List.mem_of_getElem? (i := 7) rfl)
theorem T_867 : Cond.selects RX5 yX5_restart yX5_restart ∈ T0 := ax_c29 _ (List.mem_of_getElem? (i := 8) rfl)
theorem T_868 : Cond.methodLink RX4 120 yJ6_bitCount_0f7a4 ∈ T0 := ax_c29 _ (List.mem_of_getElem? (i := 9) rfl)
theorem T_869 : Cond.methodLink RX4 128 yX5_passBar ∈ T0 := ax_c29 _ (List.mem_of_getElem? (i := 10) rfl)
theorem T_871 : Cond.instanceMethod yX5_passBar ∈ T0 := ax_c29 _ (List.mem_of_getElem? (i := 11) rfl)
theorem T_872 : Cond.selects RX5 yX5_passBar yX5_passBar ∈ T0 := ax_c29 _ (List.mem_of_getElem? (i := 12) rfl)
theorem T_873 : Cond.methodLink RX4 64 yJ7_fill_53178 ∈ T0 := ax_c29 _ (List.mem_of_getElem? (i := 13) rfl)
theorem T_874 : Cond.methodLink RX4 108 Lib.Math.max.name ∈ T0 := ax_c29 _ (List.mem_of_getElem? (i := 14) rfl)
theorem T_875 : Cond.methodLink RX5 56 arraycopyName ∈ T0 := ax_c29 _ (List.mem_of_getElem? (i := 15) rfl)
theorem T_876 : Cond.fieldLink RX5 49 "LaneWarps$Warp" "parts" "I" ∈ T0 := ax_c29 _ (List.mem_of_getElem? (i := 16) rfl)
theorem T_877 : Cond.fieldLink RX5 33 "LaneWarps$Warp" "lives" "I" ∈ T0 := ax_c29 _ (List.mem_of_getElem? (i := 17) rfl)
theorem T_878 : Cond.fieldLink RX5 37 "LaneWarps$Warp" "waits" "I" ∈ T0 := ax_c29 _ (List.mem_of_getElem? (i := 18) rfl)
theorem T_879 : Cond.fieldLink RX5 40 "LaneWarps$Warp" "ready" "I" ∈ T0 := ax_c29 _ (List.mem_of_getElem? (i := 19) rfl)
theorem T_880 : Cond.fieldLink RX5 43 "LaneWarps$Warp" "done" "I" ∈ T0 := ax_c29 _ (List.mem_of_getElem? (i := 20) rfl)
theorem T_881 : Cond.fieldLink RX5 46 "LaneWarps$Warp" "turn" "I" ∈ T0 := ax_c29 _ (List.mem_of_getElem? (i := 21) rfl)
theorem T_882 : Cond.methodLink RX5 66 yX5_moveTop ∈ T0 := ax_c29 _ (List.mem_of_getElem? (i := 22) rfl)
theorem T_883 : Cond.methodLink RX5 70 yX5_settle ∈ T0 := ax_c29 _ (List.mem_of_getElem? (i := 23) rfl)
theorem T_884 : Cond.methodLink RX5 73 yX5_moveLane ∈ T0 := ax_c29 _ (List.mem_of_getElem? (i := 24) rfl)
theorem T_885 : Cond.methodLink RX5 27 yJ7_fill_53178 ∈ T0 := ax_c29 _ (List.mem_of_getElem? (i := 25) rfl)
theorem T_886 : Cond.methodLink RX5 52 yX5_layPart ∈ T0 := ax_c29 _ (List.mem_of_getElem? (i := 26) rfl)
theorem T_888 : Cond.instanceMethod yX5_layPart ∈ T0 := ax_c29 _ (List.mem_of_getElem? (i := 27) rfl)
theorem T_889 : Cond.selects RX5 yX5_layPart yX5_layPart ∈ T0 := ax_c29 _ (List.mem_of_getElem? (i := 28) rfl)
theorem T_890 : Cond.methodLink RX6 261 yX0_tryBy ∈ T0 := ax_c29 _ (List.mem_of_getElem? (i := 29) rfl)
theorem T_892 : Cond.instanceMethod yX0_tryBy ∈ T0 := ax_c29 _ (List.mem_of_getElem? (i := 30) rfl)
theorem T_893 : Cond.selects RX0 yX0_tryBy yX0_tryBy ∈ T0 := ax_c29 _ (List.mem_of_getElem? (i := 31) rfl)
theorem T_894 : Cond.methodLink RX6 264 yX0_tryLane ∈ T0 := ax_c29 _ (List.mem_of_getElem? (i := 32) rfl)
theorem T_896 : Cond.instanceMethod yX0_tryLane ∈ T0 := ax_c29 _ (List.mem_of_getElem? (i := 33) rfl)
theorem T_897 : Cond.selects RX0 yX0_tryLane yX0_tryLane ∈ T0 := ax_c29 _ (List.mem_of_getElem? (i := 34) rfl)
theorem T_898 : Cond.methodLink RX6 271 yX6_isAsAlone ∈ T0 := ax_c29 _ (List.mem_of_getElem? (i := 35) rfl)
theorem T_900 : Cond.instanceMethod yX6_isAsAlone ∈ T0 := ax_c29 _ (List.mem_of_getElem? (i := 36) rfl)
theorem T_901 : Cond.selects RX6 yX6_isAsAlone yX6_isAsAlone ∈ T0 := ax_c29 _ (List.mem_of_getElem? (i := 37) rfl)
theorem T_902 : Cond.methodLink RX6 268 yX0_solo ∈ T0 := ax_c29 _ (List.mem_of_getElem? (i := 38) rfl)
theorem T_904 : Cond.instanceMethod yX0_solo ∈ T0 := ax_c29 _ (List.mem_of_getElem? (i := 39) rfl)
theorem ax_c30 : ∀ w ∈ Tc30, w ∈ T0 := fun _ h => List.mem_append_left _ (List.mem_append_right _ (List.mem_append_right _ (List.mem_append_right _ (List.mem_append_right _ (List.mem_append_right _ (List.mem_append_right _ (List.mem_append_right _ (List.mem_append_right _ (List.mem_append_right _ (List.mem_append_right _ (List.mem_append_right _ (List.mem_append_right _ (List.mem_append_right _ (List.mem_append_right _ (List.mem_append_right _ (List.mem_append_right _ (List.mem_append_right _ (List.mem_append_right _ (List.mem_append_right _ (List.mem_append_right _ (List.mem_append_right _ (List.mem_append_right _ (List.mem_append_right _ (List.mem_append_right _ (List.mem_append_right _ (List.mem_append_right _ (List.mem_append_right _ (List.mem_append_right _ (List.mem_append_right _ (List.mem_append_right _ (List.mem_append_left _ h)))))))))))))))))))))))))))))))
theorem T_905 : Cond.selects RX0 yX0_solo yX0_solo ∈ T0 := ax_c30 _ (List.mem_of_getElem? (i := 0) rfl)
theorem T_906 : Cond.methodLink RX6 283 yX6_keepForUndo ∈ T0 := ax_c30 _ (List.mem_of_getElem? (i := 1) rfl)
theorem T_908 : Cond.instanceMethod yX6_keepForUndo ∈ T0 := ax_c30 _ (List.mem_of_getElem? (i := 2) rfl)
theorem T_909 : Cond.selects RX6 yX6_keepForUndo yX6_keepForUndo ∈ T0 := ax_c30 _ (List.mem_of_getElem? (i := 3) rfl)
theorem T_910 : Cond.methodLink RX6 101 yX4_restart ∈ T0 := ax_c30 _ (List.mem_of_getElem? (i := 4) rfl)
theorem T_911 : Cond.methodLink RX6 247 yX6_isMode ∈ T0 := ax_c30 _ (List.mem_of_getElem? (i := 5) rfl)
theorem T_913 : Cond.static yX6_isMode ∈ T0 := ax_c30 _ (List.mem_of_getElem? (i := 6) rfl)
theorem T_914 : Cond.methodLink RX6 250 yX6_isOrder ∈ T0 := ax_c30 _ (List.mem_of_getElem? (i := 7) rfl)
theorem T_916 : Cond.static yX6_isOrder ∈ T0 := ax_c30 _ (List.mem_of_getElem? (i := 8) rfl)
theorem T_917 : Cond.methodLink RX6 253 yX0_begun ∈ T0 := ax_c30 _ (List.mem_of_getElem? (i := 9) rfl)
theorem T_918 : Cond.methodLink RX6 257 yX6_layout ∈ T0 := ax_c30 _ (List.mem_of_getElem? (i := 10) rfl)
theorem T_920 : Cond.static yX6_layout ∈ T0 := ax_c30 _ (List.mem_of_getElem? (i := 11) rfl)
theorem T_921 : Cond.methodLink RX6 239 yX0_course ∈ T0 := ax_c30 _ (List.mem_of_getElem? (i := 12) rfl)
theorem T_923 : Cond.instanceMethod yX0_course ∈ T0 := ax_c30 _ (List.mem_of_getElem? (i := 13) rfl)
theorem T_924 : Cond.selects RX0 yX0_course yX0_course ∈ T0 := ax_c30 _ (List.mem_of_getElem? (i := 14) rfl)
theorem T_925 : Cond.methodLink RX6 289 yX6_draw ∈ T0 := ax_c30 _ (List.mem_of_getElem? (i := 15) rfl)
theorem T_927 : Cond.instanceMethod yX6_draw ∈ T0 := ax_c30 _ (List.mem_of_getElem? (i := 16) rfl)
theorem T_928 : Cond.selects RX6 yX6_draw yX6_draw ∈ T0 := ax_c30 _ (List.mem_of_getElem? (i := 17) rfl)
theorem T_929 : Cond.methodLink RX6 286 yX6_run ∈ T0 := ax_c30 _ (List.mem_of_getElem? (i := 18) rfl)
theorem T_931 : Cond.instanceMethod yX6_run ∈ T0 := ax_c30 _ (List.mem_of_getElem? (i := 19) rfl)
theorem T_932 : Cond.selects RX6 yX6_run yX6_run ∈ T0 := ax_c30 _ (List.mem_of_getElem? (i := 20) rfl)
theorem T_933 : Cond.constantLong RX6 305 (1103515245) ∈ T0 := ax_c30 _ (List.mem_of_getElem? (i := 21) rfl)
theorem T_934 : Cond.constantLong RX6 307 (12345) ∈ T0 := ax_c30 _ (List.mem_of_getElem? (i := 22) rfl)
theorem T_935 : Cond.constantLong RX6 309 (2147483647) ∈ T0 := ax_c30 _ (List.mem_of_getElem? (i := 23) rfl)
theorem T_936 : Cond.constantLong RX6 311 (64) ∈ T0 := ax_c30 _ (List.mem_of_getElem? (i := 24) rfl)
theorem T_937 : Cond.methodLink RX6 125 yX4_living ∈ T0 := ax_c30 _ (List.mem_of_getElem? (i := 25) rfl)
theorem T_939 : Cond.instanceMethod yX4_living ∈ T0 := ax_c30 _ (List.mem_of_getElem? (i := 26) rfl)
theorem T_940 : Cond.selects RX4 yX4_living yX4_living ∈ T0 := ax_c30 _ (List.mem_of_getElem? (i := 27) rfl)
theorem T_941 : Cond.methodLink RX6 129 yX4_waiting ∈ T0 := ax_c30 _ (List.mem_of_getElem? (i := 28) rfl)
theorem T_943 : Cond.instanceMethod yX4_waiting ∈ T0 := ax_c30 _ (List.mem_of_getElem? (i := 29) rfl)
theorem T_944 : Cond.selects RX4 yX4_waiting yX4_waiting ∈ T0 := ax_c30 _ (List.mem_of_getElem? (i := 30) rfl)
theorem T_945 : Cond.methodLink RX6 132 yX4_racedWords ∈ T0 := ax_c30 _ (List.mem_of_getElem? (i := 31) rfl)
theorem T_947 : Cond.instanceMethod yX4_racedWords ∈ T0 := ax_c30 _ (List.mem_of_getElem? (i := 32) rfl)
theorem T_948 : Cond.selects RX4 yX4_racedWords yX4_racedWords ∈ T0 := ax_c30 _ (List.mem_of_getElem? (i := 33) rfl)
theorem T_949 : Cond.methodLink RX6 152 Lib.Math.max.name ∈ T0 := ax_c30 _ (List.mem_of_getElem? (i := 34) rfl)
theorem T_950 : Cond.fieldLink RX6 292 "LaneWarps" "oldestAct" "I" ∈ T0 := ax_c30 _ (List.mem_of_getElem? (i := 35) rfl)
theorem T_951 : Cond.methodLink RX6 295 yX4_copyFrom ∈ T0 := ax_c30 _ (List.mem_of_getElem? (i := 36) rfl)
theorem T_952 : Cond.methodLink RX6 299 yX0_forgetAhead ∈ T0 := ax_c30 _ (List.mem_of_getElem? (i := 37) rfl)
theorem T_954 : Cond.instanceMethod yX0_forgetAhead ∈ T0 := ax_c30 _ (List.mem_of_getElem? (i := 38) rfl)
theorem T_955 : Cond.selects RX0 yX0_forgetAhead yX0_forgetAhead ∈ T0 := ax_c30 _ (List.mem_of_getElem? (i := 39) rfl)
theorem ax_c31 : ∀ w ∈ Tc31, w ∈ T0 := fun _ h => List.mem_append_left _ (List.mem_append_right _ (List.mem_append_right _ (List.mem_append_right _ (List.mem_append_right _ (List.mem_append_right _ (List.mem_append_right _ (List.mem_append_right _ (List.mem_append_right _ (List.mem_append_right _ (List.mem_append_right _ (List.mem_append_right _ (List.mem_append_right _ (List.mem_append_right _ (List.mem_append_right _ (List.mem_append_right _ (List.mem_append_right _ (List.mem_append_right _ (List.mem_append_right _ (List.mem_append_right _ (List.mem_append_right _ (List.mem_append_right _ (List.mem_append_right _ (List.mem_append_right _ (List.mem_append_right _ (List.mem_append_right _ (List.mem_append_right _ (List.mem_append_right _ (List.mem_append_right _ (List.mem_append_right _ (List.mem_append_right _ (List.mem_append_right _ (List.mem_append_left _ h))))))))))))))))))))))))))))))))
theorem T_956 : Cond.methodLink RX6 175 yX5_lineOf ∈ T0 := ax_c31 _ (List.mem_of_getElem? (i := 0) rfl)
theorem T_958 : Cond.instanceMethod yX5_lineOf ∈ T0 := ax_c31 _ (List.mem_of_getElem? (i := 1) rfl)
theorem T_959 : Cond.selects RX5 yX5_lineOf yX5_lineOf ∈ T0 := ax_c31 _ (List.mem_of_getElem? (i := 2) rfl)
theorem T_960 : Cond.methodLink RX6 243 yX0_behind ∈ T0 := ax_c31 _ (List.mem_of_getElem? (i := 3) rfl)
theorem T_962 : Cond.instanceMethod yX0_behind ∈ T0 := ax_c31 _ (List.mem_of_getElem? (i := 4) rfl)
theorem T_963 : Cond.selects RX0 yX0_behind yX0_behind ∈ T0 := ax_c31 _ (List.mem_of_getElem? (i := 5) rfl)
theorem T_964 : Cond.methodLink RX6 274 yX0_tryWord ∈ T0 := ax_c31 _ (List.mem_of_getElem? (i := 6) rfl)
theorem T_966 : Cond.instanceMethod yX0_tryWord ∈ T0 := ax_c31 _ (List.mem_of_getElem? (i := 7) rfl)
theorem T_967 : Cond.selects RX0 yX0_tryWord yX0_tryWord ∈ T0 := ax_c31 _ (List.mem_of_getElem? (i := 8) rfl)
theorem T_968 : Cond.methodLink RX6 277 yX0_cyclesWith ∈ T0 := ax_c31 _ (List.mem_of_getElem? (i := 9) rfl)
theorem T_969 : Cond.methodLink RX6 223 yX1_foresee ∈ T0 := ax_c31 _ (List.mem_of_getElem? (i := 10) rfl)
theorem T_970 : Cond.methodLink RX6 84 yX2_findMeets ∈ T0 := ax_c31 _ (List.mem_of_getElem? (i := 11) rfl)
theorem T_972 : Cond.instanceMethod yX2_findMeets ∈ T0 := ax_c31 _ (List.mem_of_getElem? (i := 12) rfl)
theorem T_973 : Cond.selects RX2 yX2_findMeets yX2_findMeets ∈ T0 := ax_c31 _ (List.mem_of_getElem? (i := 13) rfl)
theorem T_974 : Cond.methodLink RX6 97 yX4_lay ∈ T0 := ax_c31 _ (List.mem_of_getElem? (i := 14) rfl)
theorem T_975 : Cond.methodLink RX6 302 yX1_step ∈ T0 := ax_c31 _ (List.mem_of_getElem? (i := 15) rfl)
theorem T_976 : Cond.methodLink RX6 280 yX0_unlike ∈ T0 := ax_c31 _ (List.mem_of_getElem? (i := 16) rfl)
theorem T_978 : Cond.instanceMethod yX0_unlike ∈ T0 := ax_c31 _ (List.mem_of_getElem? (i := 17) rfl)
theorem T_979 : Cond.selects RX0 yX0_unlike yX0_unlike ∈ T0 := ax_c31 _ (List.mem_of_getElem? (i := 18) rfl)
theorem T_980 : Cond.methodLink RX6 195 yX4_canGo ∈ T0 := ax_c31 _ (List.mem_of_getElem? (i := 19) rfl)
theorem T_981 : Cond.methodLink RX7 375 yX7_goer ∈ T0 := ax_c31 _ (List.mem_of_getElem? (i := 20) rfl)
theorem T_983 : Cond.instanceMethod yX7_goer ∈ T0 := ax_c31 _ (List.mem_of_getElem? (i := 21) rfl)
theorem T_984 : Cond.selects RX7 yX7_goer yX7_goer ∈ T0 := ax_c31 _ (List.mem_of_getElem? (i := 22) rfl)
theorem T_985 : Cond.methodLink RX7 378 yX7_goes0 ∈ T0 := ax_c31 _ (List.mem_of_getElem? (i := 23) rfl)
theorem T_987 : Cond.instanceMethod yX7_goes0 ∈ T0 := ax_c31 _ (List.mem_of_getElem? (i := 24) rfl)
theorem T_988 : Cond.selects RX7 yX7_goes0 yX7_goes0 ∈ T0 := ax_c31 _ (List.mem_of_getElem? (i := 25) rfl)
theorem T_989 : Cond.methodLink RX7 381 yX7_opensBar ∈ T0 := ax_c31 _ (List.mem_of_getElem? (i := 26) rfl)
theorem T_991 : Cond.instanceMethod yX7_opensBar ∈ T0 := ax_c31 _ (List.mem_of_getElem? (i := 27) rfl)
theorem T_992 : Cond.selects RX7 yX7_opensBar yX7_opensBar ∈ T0 := ax_c31 _ (List.mem_of_getElem? (i := 28) rfl)
theorem T_993 : Cond.methodLink RX7 255 yX7_warps ∈ T0 := ax_c31 _ (List.mem_of_getElem? (i := 29) rfl)
theorem T_995 : Cond.instanceMethod yX7_warps ∈ T0 := ax_c31 _ (List.mem_of_getElem? (i := 30) rfl)
theorem T_996 : Cond.selects RX7 yX7_warps yX7_warps ∈ T0 := ax_c31 _ (List.mem_of_getElem? (i := 31) rfl)
theorem T_997 : Cond.methodLink RX7 460 yX7_doesAgree ∈ T0 := ax_c31 _ (List.mem_of_getElem? (i := 32) rfl)
theorem T_999 : Cond.instanceMethod yX7_doesAgree ∈ T0 := ax_c31 _ (List.mem_of_getElem? (i := 33) rfl)
theorem T_1000 : Cond.selects RX7 yX7_doesAgree yX7_doesAgree ∈ T0 := ax_c31 _ (List.mem_of_getElem? (i := 34) rfl)
theorem T_1001 : Cond.methodLink RX7 192 yX7_flag ∈ T0 := ax_c31 _ (List.mem_of_getElem? (i := 35) rfl)
theorem T_1003 : Cond.static yX7_flag ∈ T0 := ax_c31 _ (List.mem_of_getElem? (i := 36) rfl)
theorem T_1004 : Cond.constantLong RX7 408 (4) ∈ T0 := ax_c31 _ (List.mem_of_getElem? (i := 37) rfl)
theorem T_1005 : Cond.methodLink RX7 457 yX7_isAlone ∈ T0 := ax_c31 _ (List.mem_of_getElem? (i := 38) rfl)
theorem T_1007 : Cond.instanceMethod yX7_isAlone ∈ T0 := ax_c31 _ (List.mem_of_getElem? (i := 39) rfl)
theorem ax_c32 : ∀ w ∈ Tc32, w ∈ T0 := fun _ h => List.mem_append_left _ (List.mem_append_right _ (List.mem_append_right _ (List.mem_append_right _ (List.mem_append_right _ (List.mem_append_right _ (List.mem_append_right _ (List.mem_append_right _ (List.mem_append_right _ (List.mem_append_right _ (List.mem_append_right _ (List.mem_append_right _ (List.mem_append_right _ (List.mem_append_right _ (List.mem_append_right _ (List.mem_append_right _ (List.mem_append_right _ (List.mem_append_right _ (List.mem_append_right _ (List.mem_append_right _ (List.mem_append_right _ (List.mem_append_right _ (List.mem_append_right _ (List.mem_append_right _ (List.mem_append_right _ (List.mem_append_right _ (List.mem_append_right _ (List.mem_append_right _ (List.mem_append_right _ (List.mem_append_right _ (List.mem_append_right _ (List.mem_append_right _ (List.mem_append_right _ (List.mem_append_left _ h)))))))))))))))))))))))))))))))))
theorem T_1008 : Cond.selects RX7 yX7_isAlone yX7_isAlone ∈ T0 := ax_c32 _ (List.mem_of_getElem? (i := 0) rfl)
theorem T_1009 : Cond.methodLink RX7 111 yX7_takesSign ∈ T0 := ax_c32 _ (List.mem_of_getElem? (i := 1) rfl)
theorem T_1011 : Cond.instanceMethod yX7_takesSign ∈ T0 := ax_c32 _ (List.mem_of_getElem? (i := 2) rfl)
theorem T_1012 : Cond.selects RX7 yX7_takesSign yX7_takesSign ∈ T0 := ax_c32 _ (List.mem_of_getElem? (i := 3) rfl)
theorem T_1013 : Cond.methodLink RX7 474 yX7_keeps ∈ T0 := ax_c32 _ (List.mem_of_getElem? (i := 4) rfl)
theorem T_1015 : Cond.instanceMethod yX7_keeps ∈ T0 := ax_c32 _ (List.mem_of_getElem? (i := 5) rfl)
theorem T_1016 : Cond.selects RX7 yX7_keeps yX7_keeps ∈ T0 := ax_c32 _ (List.mem_of_getElem? (i := 6) rfl)
theorem T_1017 : Cond.methodLink RX7 225 yX7_begins ∈ T0 := ax_c32 _ (List.mem_of_getElem? (i := 7) rfl)
theorem T_1019 : Cond.instanceMethod yX7_begins ∈ T0 := ax_c32 _ (List.mem_of_getElem? (i := 8) rfl)
theorem T_1020 : Cond.selects RX7 yX7_begins yX7_begins ∈ T0 := ax_c32 _ (List.mem_of_getElem? (i := 9) rfl)
theorem T_1021 : Cond.methodLink RX7 249 yX7_warpAt ∈ T0 := ax_c32 _ (List.mem_of_getElem? (i := 10) rfl)
theorem T_1023 : Cond.static yX7_warpAt ∈ T0 := ax_c32 _ (List.mem_of_getElem? (i := 11) rfl)
theorem T_1024 : Cond.methodLink RX7 258 yX7_nextAt ∈ T0 := ax_c32 _ (List.mem_of_getElem? (i := 12) rfl)
theorem T_1026 : Cond.static yX7_nextAt ∈ T0 := ax_c32 _ (List.mem_of_getElem? (i := 13) rfl)
theorem T_1027 : Cond.methodLink RX7 261 yX7_isOf ∈ T0 := ax_c32 _ (List.mem_of_getElem? (i := 14) rfl)
theorem T_1029 : Cond.static yX7_isOf ∈ T0 := ax_c32 _ (List.mem_of_getElem? (i := 15) rfl)
theorem T_1030 : Cond.methodLink RX7 212 yX7_lines ∈ T0 := ax_c32 _ (List.mem_of_getElem? (i := 16) rfl)
theorem T_1032 : Cond.instanceMethod yX7_lines ∈ T0 := ax_c32 _ (List.mem_of_getElem? (i := 17) rfl)
theorem T_1033 : Cond.selects RX7 yX7_lines yX7_lines ∈ T0 := ax_c32 _ (List.mem_of_getElem? (i := 18) rfl)
theorem T_1034 : Cond.methodLink RX7 264 yX7_pushes ∈ T0 := ax_c32 _ (List.mem_of_getElem? (i := 19) rfl)
theorem T_1036 : Cond.instanceMethod yX7_pushes ∈ T0 := ax_c32 _ (List.mem_of_getElem? (i := 20) rfl)
theorem T_1037 : Cond.selects RX7 yX7_pushes yX7_pushes ∈ T0 := ax_c32 _ (List.mem_of_getElem? (i := 21) rfl)
theorem T_1038 : Cond.constantLong RX7 290 (9999) ∈ T0 := ax_c32 _ (List.mem_of_getElem? (i := 22) rfl)
theorem T_1039 : Cond.constantLong RX7 292 (-9999) ∈ T0 := ax_c32 _ (List.mem_of_getElem? (i := 23) rfl)
theorem T_1040 : Cond.constantLong RX7 402 (2) ∈ T0 := ax_c32 _ (List.mem_of_getElem? (i := 24) rfl)
theorem T_1041 : Cond.methodLink RX7 440 yX7_putsAside ∈ T0 := ax_c32 _ (List.mem_of_getElem? (i := 25) rfl)
theorem T_1043 : Cond.instanceMethod yX7_putsAside ∈ T0 := ax_c32 _ (List.mem_of_getElem? (i := 26) rfl)
theorem T_1044 : Cond.selects RX7 yX7_putsAside yX7_putsAside ∈ T0 := ax_c32 _ (List.mem_of_getElem? (i := 27) rfl)
theorem T_1045 : Cond.methodLink RX7 443 yX7_goesOn ∈ T0 := ax_c32 _ (List.mem_of_getElem? (i := 28) rfl)
theorem T_1047 : Cond.instanceMethod yX7_goesOn ∈ T0 := ax_c32 _ (List.mem_of_getElem? (i := 29) rfl)
theorem T_1048 : Cond.selects RX7 yX7_goesOn yX7_goesOn ∈ T0 := ax_c32 _ (List.mem_of_getElem? (i := 30) rfl)
theorem T_1049 : Cond.methodLink RX7 446 yX7_takesBack ∈ T0 := ax_c32 _ (List.mem_of_getElem? (i := 31) rfl)
theorem T_1051 : Cond.instanceMethod yX7_takesBack ∈ T0 := ax_c32 _ (List.mem_of_getElem? (i := 32) rfl)
theorem T_1052 : Cond.selects RX7 yX7_takesBack yX7_takesBack ∈ T0 := ax_c32 _ (List.mem_of_getElem? (i := 33) rfl)
theorem T_1053 : Cond.methodLink RX7 449 yX7_told ∈ T0 := ax_c32 _ (List.mem_of_getElem? (i := 34) rfl)
theorem T_1055 : Cond.instanceMethod yX7_told ∈ T0 := ax_c32 _ (List.mem_of_getElem? (i := 35) rfl)
theorem T_1056 : Cond.selects RX7 yX7_told yX7_told ∈ T0 := ax_c32 _ (List.mem_of_getElem? (i := 36) rfl)
theorem T_1057 : Cond.methodLink RX7 252 yX7_its ∈ T0 := ax_c32 _ (List.mem_of_getElem? (i := 37) rfl)
theorem T_1059 : Cond.instanceMethod yX7_its ∈ T0 := ax_c32 _ (List.mem_of_getElem? (i := 38) rfl)
theorem T_1060 : Cond.selects RX7 yX7_its yX7_its ∈ T0 := ax_c32 _ (List.mem_of_getElem? (i := 39) rfl)
theorem ax_c33 : ∀ w ∈ Tc33, w ∈ T0 := fun _ h => List.mem_append_left _ (List.mem_append_right _ (List.mem_append_right _ (List.mem_append_right _ (List.mem_append_right _ (List.mem_append_right _ (List.mem_append_right _ (List.mem_append_right _ (List.mem_append_right _ (List.mem_append_right _ (List.mem_append_right _ (List.mem_append_right _ (List.mem_append_right _ (List.mem_append_right _ (List.mem_append_right _ (List.mem_append_right _ (List.mem_append_right _ (List.mem_append_right _ (List.mem_append_right _ (List.mem_append_right _ (List.mem_append_right _ (List.mem_append_right _ (List.mem_append_right _ (List.mem_append_right _ (List.mem_append_right _ (List.mem_append_right _ (List.mem_append_right _ (List.mem_append_right _ (List.mem_append_right _ (List.mem_append_right _ (List.mem_append_right _ (List.mem_append_right _ (List.mem_append_right _ (List.mem_append_right _ (List.mem_append_left _ h))))))))))))))))))))))))))))))))))
theorem T_1061 : Cond.methodLink RX7 281 yX7_together ∈ T0 := ax_c33 _ (List.mem_of_getElem? (i := 0) rfl)
theorem T_1063 : Cond.instanceMethod yX7_together ∈ T0 := ax_c33 _ (List.mem_of_getElem? (i := 1) rfl)
theorem T_1064 : Cond.selects RX7 yX7_together yX7_together ∈ T0 := ax_c33 _ (List.mem_of_getElem? (i := 2) rfl)
theorem T_1065 : Cond.constantLong RX7 485 (20) ∈ T0 := ax_c33 _ (List.mem_of_getElem? (i := 3) rfl)
theorem T_1066 : Cond.methodLink RX7 487 yX7_drawOf ∈ T0 := ax_c33 _ (List.mem_of_getElem? (i := 4) rfl)
theorem T_1068 : Cond.instanceMethod yX7_drawOf ∈ T0 := ax_c33 _ (List.mem_of_getElem? (i := 5) rfl)
theorem T_1069 : Cond.selects RX7 yX7_drawOf yX7_drawOf ∈ T0 := ax_c33 _ (List.mem_of_getElem? (i := 6) rfl)
theorem T_1070 : Cond.methodLink RX7 437 yX7_aCycle ∈ T0 := ax_c33 _ (List.mem_of_getElem? (i := 7) rfl)
theorem T_1072 : Cond.instanceMethod yX7_aCycle ∈ T0 := ax_c33 _ (List.mem_of_getElem? (i := 8) rfl)
theorem T_1073 : Cond.selects RX7 yX7_aCycle yX7_aCycle ∈ T0 := ax_c33 _ (List.mem_of_getElem? (i := 9) rfl)
theorem T_1074 : Cond.methodLink RX7 272 yX7_top ∈ T0 := ax_c33 _ (List.mem_of_getElem? (i := 10) rfl)
theorem T_1076 : Cond.instanceMethod yX7_top ∈ T0 := ax_c33 _ (List.mem_of_getElem? (i := 11) rfl)
theorem T_1077 : Cond.selects RX7 yX7_top yX7_top ∈ T0 := ax_c33 _ (List.mem_of_getElem? (i := 12) rfl)
theorem T_1078 : Cond.methodLink RX7 268 yX7_partAt ∈ T0 := ax_c33 _ (List.mem_of_getElem? (i := 13) rfl)
theorem T_1080 : Cond.static yX7_partAt ∈ T0 := ax_c33 _ (List.mem_of_getElem? (i := 14) rfl)
theorem T_1081 : Cond.methodLink RX7 304 yX7_bankOf ∈ T0 := ax_c33 _ (List.mem_of_getElem? (i := 15) rfl)
theorem T_1083 : Cond.instanceMethod yX7_bankOf ∈ T0 := ax_c33 _ (List.mem_of_getElem? (i := 16) rfl)
theorem T_1084 : Cond.selects RX7 yX7_bankOf yX7_bankOf ∈ T0 := ax_c33 _ (List.mem_of_getElem? (i := 17) rfl)
theorem T_1085 : Cond.methodLink RX7 307 yX7_isAsked ∈ T0 := ax_c33 _ (List.mem_of_getElem? (i := 18) rfl)
theorem T_1087 : Cond.instanceMethod yX7_isAsked ∈ T0 := ax_c33 _ (List.mem_of_getElem? (i := 19) rfl)
theorem T_1088 : Cond.selects RX7 yX7_isAsked yX7_isAsked ∈ T0 := ax_c33 _ (List.mem_of_getElem? (i := 20) rfl)
theorem T_1089 : Cond.methodLink RX7 278 yX7_endsTop ∈ T0 := ax_c33 _ (List.mem_of_getElem? (i := 21) rfl)
theorem T_1091 : Cond.instanceMethod yX7_endsTop ∈ T0 := ax_c33 _ (List.mem_of_getElem? (i := 22) rfl)
theorem T_1092 : Cond.selects RX7 yX7_endsTop yX7_endsTop ∈ T0 := ax_c33 _ (List.mem_of_getElem? (i := 23) rfl)
theorem T_1093 : Cond.fieldLink RX7 234 "LaneWarpsModel" "heapMany" "I" ∈ T0 := ax_c33 _ (List.mem_of_getElem? (i := 24) rfl)
theorem T_1094 : Cond.constantLong RX7 452 (400) ∈ T0 := ax_c33 _ (List.mem_of_getElem? (i := 25) rfl)
theorem T_1095 : Cond.methodLink RX7 287 yX7_registerAt ∈ T0 := ax_c33 _ (List.mem_of_getElem? (i := 26) rfl)
theorem T_1097 : Cond.static yX7_registerAt ∈ T0 := ax_c33 _ (List.mem_of_getElem? (i := 27) rfl)
theorem T_1098 : Cond.constantLong RX7 477 (1103515245) ∈ T0 := ax_c33 _ (List.mem_of_getElem? (i := 28) rfl)
theorem T_1099 : Cond.constantLong RX7 479 (12345) ∈ T0 := ax_c33 _ (List.mem_of_getElem? (i := 29) rfl)
theorem T_1100 : Cond.constantLong RX7 481 (2147483648) ∈ T0 := ax_c33 _ (List.mem_of_getElem? (i := 30) rfl)
theorem T_1101 : Cond.constantLong RX7 483 (64) ∈ T0 := ax_c33 _ (List.mem_of_getElem? (i := 31) rfl)
theorem T_1102 : Cond.methodLink RX7 410 yX7_isEnded ∈ T0 := ax_c33 _ (List.mem_of_getElem? (i := 32) rfl)
theorem T_1104 : Cond.instanceMethod yX7_isEnded ∈ T0 := ax_c33 _ (List.mem_of_getElem? (i := 33) rfl)
theorem T_1105 : Cond.selects RX7 yX7_isEnded yX7_isEnded ∈ T0 := ax_c33 _ (List.mem_of_getElem? (i := 34) rfl)
theorem T_1106 : Cond.methodLink RX7 275 yX7_dies ∈ T0 := ax_c33 _ (List.mem_of_getElem? (i := 35) rfl)
theorem T_1108 : Cond.instanceMethod yX7_dies ∈ T0 := ax_c33 _ (List.mem_of_getElem? (i := 36) rfl)
theorem T_1109 : Cond.selects RX7 yX7_dies yX7_dies ∈ T0 := ax_c33 _ (List.mem_of_getElem? (i := 37) rfl)
theorem T_1110 : Cond.methodLink RX7 158 yX7_name ∈ T0 := ax_c33 _ (List.mem_of_getElem? (i := 38) rfl)
theorem T_1112 : Cond.instanceMethod yX7_name ∈ T0 := ax_c33 _ (List.mem_of_getElem? (i := 39) rfl)
theorem ax_c34 : ∀ w ∈ Tc34, w ∈ T0 := fun _ h => List.mem_append_left _ (List.mem_append_right _ (List.mem_append_right _ (List.mem_append_right _ (List.mem_append_right _ (List.mem_append_right _ (List.mem_append_right _ (List.mem_append_right _ (List.mem_append_right _ (List.mem_append_right _ (List.mem_append_right _ (List.mem_append_right _ (List.mem_append_right _ (List.mem_append_right _ (List.mem_append_right _ (List.mem_append_right _ (List.mem_append_right _ (List.mem_append_right _ (List.mem_append_right _ (List.mem_append_right _ (List.mem_append_right _ (List.mem_append_right _ (List.mem_append_right _ (List.mem_append_right _ (List.mem_append_right _ (List.mem_append_right _ (List.mem_append_right _ (List.mem_append_right _ (List.mem_append_right _ (List.mem_append_right _ (List.mem_append_right _ (List.mem_append_right _ (List.mem_append_right _ (List.mem_append_right _ (List.mem_append_right _ (List.mem_append_left _ h)))))))))))))))))))))))))))))))))))
theorem T_1113 : Cond.selects RX7 yX7_name yX7_name ∈ T0 := ax_c34 _ (List.mem_of_getElem? (i := 0) rfl)
theorem T_1114 : Cond.fieldLink RX7 138 "LaneWarpsModel" "namePlace" "I" ∈ T0 := ax_c34 _ (List.mem_of_getElem? (i := 1) rfl)
theorem T_1115 : Cond.methodLink RX7 161 yX7_lays ∈ T0 := ax_c34 _ (List.mem_of_getElem? (i := 2) rfl)
theorem T_1117 : Cond.instanceMethod yX7_lays ∈ T0 := ax_c34 _ (List.mem_of_getElem? (i := 3) rfl)
theorem T_1118 : Cond.selects RX7 yX7_lays yX7_lays ∈ T0 := ax_c34 _ (List.mem_of_getElem? (i := 4) rfl)
theorem T_1119 : Cond.methodLink RX7 164 yX7_partTold ∈ T0 := ax_c34 _ (List.mem_of_getElem? (i := 5) rfl)
theorem T_1121 : Cond.instanceMethod yX7_partTold ∈ T0 := ax_c34 _ (List.mem_of_getElem? (i := 6) rfl)
theorem T_1122 : Cond.selects RX7 yX7_partTold yX7_partTold ∈ T0 := ax_c34 _ (List.mem_of_getElem? (i := 7) rfl)
theorem T_1123 : Cond.methodLink RX7 284 yX7_canGo ∈ T0 := ax_c34 _ (List.mem_of_getElem? (i := 8) rfl)
theorem T_1125 : Cond.instanceMethod yX7_canGo ∈ T0 := ax_c34 _ (List.mem_of_getElem? (i := 9) rfl)
theorem T_1126 : Cond.selects RX7 yX7_canGo yX7_canGo ∈ T0 := ax_c34 _ (List.mem_of_getElem? (i := 10) rfl)
theorem T_1127 : Cond.methodLink RX7 351 yX7_lineOf ∈ T0 := ax_c34 _ (List.mem_of_getElem? (i := 11) rfl)
theorem T_1129 : Cond.instanceMethod yX7_lineOf ∈ T0 := ax_c34 _ (List.mem_of_getElem? (i := 12) rfl)
theorem T_1130 : Cond.selects RX7 yX7_lineOf yX7_lineOf ∈ T0 := ax_c34 _ (List.mem_of_getElem? (i := 13) rfl)
theorem T_1131 : Cond.methodLink RX7 231 yX7_of ∈ T0 := ax_c34 _ (List.mem_of_getElem? (i := 14) rfl)
theorem T_1133 : Cond.instanceMethod yX7_of ∈ T0 := ax_c34 _ (List.mem_of_getElem? (i := 15) rfl)
theorem T_1134 : Cond.selects RX7 yX7_of yX7_of ∈ T0 := ax_c34 _ (List.mem_of_getElem? (i := 16) rfl)
theorem T_1135 : Cond.methodLink RX7 354 yX7_takes0 ∈ T0 := ax_c34 _ (List.mem_of_getElem? (i := 17) rfl)
theorem T_1137 : Cond.instanceMethod yX7_takes0 ∈ T0 := ax_c34 _ (List.mem_of_getElem? (i := 18) rfl)
theorem T_1138 : Cond.selects RX7 yX7_takes0 yX7_takes0 ∈ T0 := ax_c34 _ (List.mem_of_getElem? (i := 19) rfl)
theorem T_1139 : Cond.methodLink RX7 357 yX7_keepsLine ∈ T0 := ax_c34 _ (List.mem_of_getElem? (i := 20) rfl)
theorem T_1141 : Cond.instanceMethod yX7_keepsLine ∈ T0 := ax_c34 _ (List.mem_of_getElem? (i := 21) rfl)
theorem T_1142 : Cond.selects RX7 yX7_keepsLine yX7_keepsLine ∈ T0 := ax_c34 _ (List.mem_of_getElem? (i := 22) rfl)
theorem T_1143 : Cond.methodLink RX7 360 yX7_works ∈ T0 := ax_c34 _ (List.mem_of_getElem? (i := 23) rfl)
theorem T_1145 : Cond.instanceMethod yX7_works ∈ T0 := ax_c34 _ (List.mem_of_getElem? (i := 24) rfl)
theorem T_1146 : Cond.selects RX7 yX7_works yX7_works ∈ T0 := ax_c34 _ (List.mem_of_getElem? (i := 25) rfl)
theorem T_1147 : Cond.methodLink RX7 363 yX7_goesFair ∈ T0 := ax_c34 _ (List.mem_of_getElem? (i := 26) rfl)
theorem T_1149 : Cond.instanceMethod yX7_goesFair ∈ T0 := ax_c34 _ (List.mem_of_getElem? (i := 27) rfl)
theorem T_1150 : Cond.selects RX7 yX7_goesFair yX7_goesFair ∈ T0 := ax_c34 _ (List.mem_of_getElem? (i := 28) rfl)
theorem T_1151 : Cond.methodLink RX7 366 yX7_goesByStack ∈ T0 := ax_c34 _ (List.mem_of_getElem? (i := 29) rfl)
theorem T_1153 : Cond.instanceMethod yX7_goesByStack ∈ T0 := ax_c34 _ (List.mem_of_getElem? (i := 30) rfl)
theorem T_1154 : Cond.selects RX7 yX7_goesByStack yX7_goesByStack ∈ T0 := ax_c34 _ (List.mem_of_getElem? (i := 31) rfl)
theorem T_1155 : Cond.methodLink RX7 339 yX7_partsWays ∈ T0 := ax_c34 _ (List.mem_of_getElem? (i := 32) rfl)
theorem T_1157 : Cond.instanceMethod yX7_partsWays ∈ T0 := ax_c34 _ (List.mem_of_getElem? (i := 33) rfl)
theorem T_1158 : Cond.selects RX7 yX7_partsWays yX7_partsWays ∈ T0 := ax_c34 _ (List.mem_of_getElem? (i := 34) rfl)
theorem T_1159 : Cond.methodLink RX7 342 yX7_changesParts ∈ T0 := ax_c34 _ (List.mem_of_getElem? (i := 35) rfl)
theorem T_1161 : Cond.instanceMethod yX7_changesParts ∈ T0 := ax_c34 _ (List.mem_of_getElem? (i := 36) rfl)
theorem T_1162 : Cond.selects RX7 yX7_changesParts yX7_changesParts ∈ T0 := ax_c34 _ (List.mem_of_getElem? (i := 37) rfl)
theorem T_1163 : Cond.methodLink RX7 345 yX7_clears ∈ T0 := ax_c34 _ (List.mem_of_getElem? (i := 38) rfl)
theorem T_1165 : Cond.instanceMethod yX7_clears ∈ T0 := ax_c34 _ (List.mem_of_getElem? (i := 39) rfl)
theorem ax_c35 : ∀ w ∈ Tc35, w ∈ T0 := fun _ h => List.mem_append_left _ (List.mem_append_right _ (List.mem_append_right _ (List.mem_append_right _ (List.mem_append_right _ (List.mem_append_right _ (List.mem_append_right _ (List.mem_append_right _ (List.mem_append_right _ (List.mem_append_right _ (List.mem_append_right _ (List.mem_append_right _ (List.mem_append_right _ (List.mem_append_right _ (List.mem_append_right _ (List.mem_append_right _ (List.mem_append_right _ (List.mem_append_right _ (List.mem_append_right _ (List.mem_append_right _ (List.mem_append_right _ (List.mem_append_right _ (List.mem_append_right _ (List.mem_append_right _ (List.mem_append_right _ (List.mem_append_right _ (List.mem_append_right _ (List.mem_append_right _ (List.mem_append_right _ (List.mem_append_right _ (List.mem_append_right _ (List.mem_append_right _ (List.mem_append_right _ (List.mem_append_right _ (List.mem_append_right _ (List.mem_append_right _ (List.mem_append_left _ h))))))))))))))))))))))))))))))))))))
theorem T_1166 : Cond.selects RX7 yX7_clears yX7_clears ∈ T0 := ax_c35 _ (List.mem_of_getElem? (i := 0) rfl)
theorem T_1167 : Cond.methodLink RX7 333 yX7_holding ∈ T0 := ax_c35 _ (List.mem_of_getElem? (i := 1) rfl)
theorem T_1169 : Cond.instanceMethod yX7_holding ∈ T0 := ax_c35 _ (List.mem_of_getElem? (i := 2) rfl)
theorem T_1170 : Cond.selects RX7 yX7_holding yX7_holding ∈ T0 := ax_c35 _ (List.mem_of_getElem? (i := 3) rfl)
theorem T_1171 : Cond.methodLink RX7 348 yX7_nexts ∈ T0 := ax_c35 _ (List.mem_of_getElem? (i := 4) rfl)
theorem T_1173 : Cond.instanceMethod yX7_nexts ∈ T0 := ax_c35 _ (List.mem_of_getElem? (i := 5) rfl)
theorem T_1174 : Cond.selects RX7 yX7_nexts yX7_nexts ∈ T0 := ax_c35 _ (List.mem_of_getElem? (i := 6) rfl)
theorem T_1175 : Cond.methodLink RX7 237 yX7_comesTo ∈ T0 := ax_c35 _ (List.mem_of_getElem? (i := 7) rfl)
theorem T_1177 : Cond.instanceMethod yX7_comesTo ∈ T0 := ax_c35 _ (List.mem_of_getElem? (i := 8) rfl)
theorem T_1178 : Cond.selects RX7 yX7_comesTo yX7_comesTo ∈ T0 := ax_c35 _ (List.mem_of_getElem? (i := 9) rfl)
theorem T_1179 : Cond.methodLink RX7 219 yX7_isFork ∈ T0 := ax_c35 _ (List.mem_of_getElem? (i := 10) rfl)
theorem T_1181 : Cond.instanceMethod yX7_isFork ∈ T0 := ax_c35 _ (List.mem_of_getElem? (i := 11) rfl)
theorem T_1182 : Cond.selects RX7 yX7_isFork yX7_isFork ∈ T0 := ax_c35 _ (List.mem_of_getElem? (i := 12) rfl)
theorem T_1183 : Cond.fieldLink RX7 428 "LaneWarpsModel" "round" "I" ∈ T0 := ax_c35 _ (List.mem_of_getElem? (i := 13) rfl)
theorem T_1184 : Cond.fieldLink RX7 431 "LaneWarpsModel" "many" "I" ∈ T0 := ax_c35 _ (List.mem_of_getElem? (i := 14) rfl)
theorem T_1185 : Cond.methodLink RX7 434 yX7_isOver ∈ T0 := ax_c35 _ (List.mem_of_getElem? (i := 15) rfl)
theorem T_1187 : Cond.instanceMethod yX7_isOver ∈ T0 := ax_c35 _ (List.mem_of_getElem? (i := 16) rfl)
theorem T_1188 : Cond.selects RX7 yX7_isOver yX7_isOver ∈ T0 := ax_c35 _ (List.mem_of_getElem? (i := 17) rfl)
theorem T_1189 : Cond.methodLink RX7 372 yX7_sumOf ∈ T0 := ax_c35 _ (List.mem_of_getElem? (i := 18) rfl)
theorem T_1191 : Cond.instanceMethod yX7_sumOf ∈ T0 := ax_c35 _ (List.mem_of_getElem? (i := 19) rfl)
theorem T_1192 : Cond.selects RX7 yX7_sumOf yX7_sumOf ∈ T0 := ax_c35 _ (List.mem_of_getElem? (i := 20) rfl)
theorem T_1193 : Cond.methodLink RX7 386 yX7_racedMany ∈ T0 := ax_c35 _ (List.mem_of_getElem? (i := 21) rfl)
theorem T_1195 : Cond.instanceMethod yX7_racedMany ∈ T0 := ax_c35 _ (List.mem_of_getElem? (i := 22) rfl)
theorem T_1196 : Cond.selects RX7 yX7_racedMany yX7_racedMany ∈ T0 := ax_c35 _ (List.mem_of_getElem? (i := 23) rfl)
theorem T_1197 : Cond.methodLink RX7 173 yX7_partsOf ∈ T0 := ax_c35 _ (List.mem_of_getElem? (i := 24) rfl)
theorem T_1199 : Cond.static yX7_partsOf ∈ T0 := ax_c35 _ (List.mem_of_getElem? (i := 25) rfl)
theorem T_1200 : Cond.methodLink RX7 454 yX7_endsBehind ∈ T0 := ax_c35 _ (List.mem_of_getElem? (i := 26) rfl)
theorem T_1202 : Cond.instanceMethod yX7_endsBehind ∈ T0 := ax_c35 _ (List.mem_of_getElem? (i := 27) rfl)
theorem T_1203 : Cond.selects RX7 yX7_endsBehind yX7_endsBehind ∈ T0 := ax_c35 _ (List.mem_of_getElem? (i := 28) rfl)
theorem T_1204 : Cond.methodLink RX7 300 yX7_modulo ∈ T0 := ax_c35 _ (List.mem_of_getElem? (i := 29) rfl)
theorem T_1206 : Cond.static yX7_modulo ∈ T0 := ax_c35 _ (List.mem_of_getElem? (i := 30) rfl)
theorem T_1207 : Cond.methodLink RX7 240 yX7_goesFrom ∈ T0 := ax_c35 _ (List.mem_of_getElem? (i := 31) rfl)
theorem T_1209 : Cond.instanceMethod yX7_goesFrom ∈ T0 := ax_c35 _ (List.mem_of_getElem? (i := 32) rfl)
theorem T_1210 : Cond.selects RX7 yX7_goesFrom yX7_goesFrom ∈ T0 := ax_c35 _ (List.mem_of_getElem? (i := 33) rfl)
theorem T_1211 : Cond.methodLink RX7 243 yX7_isEndReached ∈ T0 := ax_c35 _ (List.mem_of_getElem? (i := 34) rfl)
theorem T_1213 : Cond.instanceMethod yX7_isEndReached ∈ T0 := ax_c35 _ (List.mem_of_getElem? (i := 35) rfl)
theorem T_1214 : Cond.selects RX7 yX7_isEndReached yX7_isEndReached ∈ T0 := ax_c35 _ (List.mem_of_getElem? (i := 36) rfl)
theorem T_1215 : Cond.constantLong RX7 394 (7) ∈ T0 := ax_c35 _ (List.mem_of_getElem? (i := 37) rfl)
theorem T_1216 : Cond.methodLink RX7 144 yX7_lineAt ∈ T0 := ax_c35 _ (List.mem_of_getElem? (i := 38) rfl)
theorem T_1218 : Cond.static yX7_lineAt ∈ T0 := ax_c35 _ (List.mem_of_getElem? (i := 39) rfl)
theorem ax_c36 : ∀ w ∈ Tc36, w ∈ T0 := fun _ h => List.mem_append_left _ (List.mem_append_right _ (List.mem_append_right _ (List.mem_append_right _ (List.mem_append_right _ (List.mem_append_right _ (List.mem_append_right _ (List.mem_append_right _ (List.mem_append_right _ (List.mem_append_right _ (List.mem_append_right _ (List.mem_append_right _ (List.mem_append_right _ (List.mem_append_right _ (List.mem_append_right _ (List.mem_append_right _ (List.mem_append_right _ (List.mem_append_right _ (List.mem_append_right _ (List.mem_append_right _ (List.mem_append_right _ (List.mem_append_right _ (List.mem_append_right _ (List.mem_append_right _ (List.mem_append_right _ (List.mem_append_right _ (List.mem_append_right _ (List.mem_append_right _ (List.mem_append_right _ (List.mem_append_right _ (List.mem_append_right _ (List.mem_append_right _ (List.mem_append_right _ (List.mem_append_right _ (List.mem_append_right _ (List.mem_append_right _ (List.mem_append_right _ (List.mem_append_left _ h)))))))))))))))))))))))))))))))))))))
theorem T_1219 : Cond.methodLink RX7 416 yX7_isStuck ∈ T0 := ax_c36 _ (List.mem_of_getElem? (i := 0) rfl)
theorem T_1221 : Cond.instanceMethod yX7_isStuck ∈ T0 := ax_c36 _ (List.mem_of_getElem? (i := 1) rfl)
theorem T_1222 : Cond.selects RX7 yX7_isStuck yX7_isStuck ∈ T0 := ax_c36 _ (List.mem_of_getElem? (i := 2) rfl)
theorem T_1223 : Cond.fieldLink RX7 419 "LaneWarpsModel" "how" "I" ∈ T0 := ax_c36 _ (List.mem_of_getElem? (i := 3) rfl)
theorem T_1224 : Cond.methodLink RX7 422 yX7_laysState ∈ T0 := ax_c36 _ (List.mem_of_getElem? (i := 4) rfl)
theorem T_1226 : Cond.instanceMethod yX7_laysState ∈ T0 := ax_c36 _ (List.mem_of_getElem? (i := 5) rfl)
theorem T_1227 : Cond.selects RX7 yX7_laysState yX7_laysState ∈ T0 := ax_c36 _ (List.mem_of_getElem? (i := 6) rfl)
theorem T_1228 : Cond.methodLink RX7 425 yX7_likeOf ∈ T0 := ax_c36 _ (List.mem_of_getElem? (i := 7) rfl)
theorem T_1230 : Cond.instanceMethod yX7_likeOf ∈ T0 := ax_c36 _ (List.mem_of_getElem? (i := 8) rfl)
theorem T_1231 : Cond.selects RX7 yX7_likeOf yX7_likeOf ∈ T0 := ax_c36 _ (List.mem_of_getElem? (i := 9) rfl)
theorem T_1232 : Cond.fieldLink RX7 471 "LaneWarpsModel" "newest" "I" ∈ T0 := ax_c36 _ (List.mem_of_getElem? (i := 10) rfl)
theorem T_1233 : Cond.constantLong RX7 389 (6) ∈ T0 := ax_c36 _ (List.mem_of_getElem? (i := 11) rfl)
theorem T_1234 : Cond.methodLink RX7 399 yX7_nextOf ∈ T0 := ax_c36 _ (List.mem_of_getElem? (i := 12) rfl)
theorem T_1236 : Cond.instanceMethod yX7_nextOf ∈ T0 := ax_c36 _ (List.mem_of_getElem? (i := 13) rfl)
theorem T_1237 : Cond.selects RX7 yX7_nextOf yX7_nextOf ∈ T0 := ax_c36 _ (List.mem_of_getElem? (i := 14) rfl)
theorem T_1238 : Cond.constantLong RX7 324 (3) ∈ T0 := ax_c36 _ (List.mem_of_getElem? (i := 15) rfl)
theorem T_1239 : Cond.methodLink RX7 413 yX7_areAlike ∈ T0 := ax_c36 _ (List.mem_of_getElem? (i := 16) rfl)
theorem T_1241 : Cond.instanceMethod yX7_areAlike ∈ T0 := ax_c36 _ (List.mem_of_getElem? (i := 17) rfl)
theorem T_1242 : Cond.selects RX7 yX7_areAlike yX7_areAlike ∈ T0 := ax_c36 _ (List.mem_of_getElem? (i := 18) rfl)
theorem T_1243 : Cond.constantLong RX7 463 (63) ∈ T0 := ax_c36 _ (List.mem_of_getElem? (i := 19) rfl)
theorem T_1244 : Cond.methodLink RX7 465 yX7_laysEnds ∈ T0 := ax_c36 _ (List.mem_of_getElem? (i := 20) rfl)
theorem T_1246 : Cond.instanceMethod yX7_laysEnds ∈ T0 := ax_c36 _ (List.mem_of_getElem? (i := 21) rfl)
theorem T_1247 : Cond.selects RX7 yX7_laysEnds yX7_laysEnds ∈ T0 := ax_c36 _ (List.mem_of_getElem? (i := 22) rfl)
theorem T_1248 : Cond.methodLink RX7 179 yX7_isNamed ∈ T0 := ax_c36 _ (List.mem_of_getElem? (i := 23) rfl)
theorem T_1250 : Cond.instanceMethod yX7_isNamed ∈ T0 := ax_c36 _ (List.mem_of_getElem? (i := 24) rfl)
theorem T_1251 : Cond.selects RX7 yX7_isNamed yX7_isNamed ∈ T0 := ax_c36 _ (List.mem_of_getElem? (i := 25) rfl)
theorem T_1252 : Cond.methodLink RX7 186 yX7_lineTold ∈ T0 := ax_c36 _ (List.mem_of_getElem? (i := 26) rfl)
theorem T_1254 : Cond.instanceMethod yX7_lineTold ∈ T0 := ax_c36 _ (List.mem_of_getElem? (i := 27) rfl)
theorem T_1255 : Cond.selects RX7 yX7_lineTold yX7_lineTold ∈ T0 := ax_c36 _ (List.mem_of_getElem? (i := 28) rfl)
theorem T_1256 : Cond.constantLong RX7 168 (15) ∈ T0 := ax_c36 _ (List.mem_of_getElem? (i := 29) rfl)
theorem T_1257 : Cond.methodLink RX7 132 yX7_passes ∈ T0 := ax_c36 _ (List.mem_of_getElem? (i := 30) rfl)
theorem T_1259 : Cond.instanceMethod yX7_passes ∈ T0 := ax_c36 _ (List.mem_of_getElem? (i := 31) rfl)
theorem T_1260 : Cond.selects RX7 yX7_passes yX7_passes ∈ T0 := ax_c36 _ (List.mem_of_getElem? (i := 32) rfl)
theorem T_1261 : Cond.methodLink RX7 170 yX7_hasRegister ∈ T0 := ax_c36 _ (List.mem_of_getElem? (i := 33) rfl)
theorem T_1263 : Cond.static yX7_hasRegister ∈ T0 := ax_c36 _ (List.mem_of_getElem? (i := 34) rfl)
theorem T_1264 : Cond.methodLink RX7 155 yX7_registerTold ∈ T0 := ax_c36 _ (List.mem_of_getElem? (i := 35) rfl)
theorem T_1266 : Cond.instanceMethod yX7_registerTold ∈ T0 := ax_c36 _ (List.mem_of_getElem? (i := 36) rfl)
theorem T_1267 : Cond.selects RX7 yX7_registerTold yX7_registerTold ∈ T0 := ax_c36 _ (List.mem_of_getElem? (i := 37) rfl)
theorem T_1268 : Cond.methodLink RX7 176 yX7_goTold ∈ T0 := ax_c36 _ (List.mem_of_getElem? (i := 38) rfl)
theorem T_1270 : Cond.instanceMethod yX7_goTold ∈ T0 := ax_c36 _ (List.mem_of_getElem? (i := 39) rfl)
theorem ax_c37 : ∀ w ∈ Tc37, w ∈ T0 := fun _ h => List.mem_append_left _ (List.mem_append_right _ (List.mem_append_right _ (List.mem_append_right _ (List.mem_append_right _ (List.mem_append_right _ (List.mem_append_right _ (List.mem_append_right _ (List.mem_append_right _ (List.mem_append_right _ (List.mem_append_right _ (List.mem_append_right _ (List.mem_append_right _ (List.mem_append_right _ (List.mem_append_right _ (List.mem_append_right _ (List.mem_append_right _ (List.mem_append_right _ (List.mem_append_right _ (List.mem_append_right _ (List.mem_append_right _ (List.mem_append_right _ (List.mem_append_right _ (List.mem_append_right _ (List.mem_append_right _ (List.mem_append_right _ (List.mem_append_right _ (List.mem_append_right _ (List.mem_append_right _ (List.mem_append_right _ (List.mem_append_right _ (List.mem_append_right _ (List.mem_append_right _ (List.mem_append_right _ (List.mem_append_right _ (List.mem_append_right _ (List.mem_append_right _ (List.mem_append_right _ (List.mem_append_left _ h))))))))))))))))))))))))))))))))))))))
theorem T_1271 : Cond.selects RX7 yX7_goTold yX7_goTold ∈ T0 := ax_c37 _ (List.mem_of_getElem? (i := 0) rfl)
theorem T_1272 : Cond.methodLink RX7 320 yX7_bounded ∈ T0 := ax_c37 _ (List.mem_of_getElem? (i := 1) rfl)
theorem T_1274 : Cond.static yX7_bounded ∈ T0 := ax_c37 _ (List.mem_of_getElem? (i := 2) rfl)
theorem T_1275 : Cond.methodLink RX7 246 yX7_isFirst ∈ T0 := ax_c37 _ (List.mem_of_getElem? (i := 3) rfl)
theorem T_1277 : Cond.instanceMethod yX7_isFirst ∈ T0 := ax_c37 _ (List.mem_of_getElem? (i := 4) rfl)
theorem T_1278 : Cond.selects RX7 yX7_isFirst yX7_isFirst ∈ T0 := ax_c37 _ (List.mem_of_getElem? (i := 5) rfl)
theorem T_1279 : Cond.methodLink RX7 118 yX7_isDigit ∈ T0 := ax_c37 _ (List.mem_of_getElem? (i := 6) rfl)
theorem T_1281 : Cond.static yX7_isDigit ∈ T0 := ax_c37 _ (List.mem_of_getElem? (i := 7) rfl)
theorem T_1282 : Cond.methodLink RX7 125 yX7_isLike ∈ T0 := ax_c37 _ (List.mem_of_getElem? (i := 8) rfl)
theorem T_1284 : Cond.instanceMethod yX7_isLike ∈ T0 := ax_c37 _ (List.mem_of_getElem? (i := 9) rfl)
theorem T_1285 : Cond.selects RX7 yX7_isLike yX7_isLike ∈ T0 := ax_c37 _ (List.mem_of_getElem? (i := 10) rfl)
theorem T_1286 : Cond.methodLink RX7 336 yX7_laysPart ∈ T0 := ax_c37 _ (List.mem_of_getElem? (i := 11) rfl)
theorem T_1288 : Cond.instanceMethod yX7_laysPart ∈ T0 := ax_c37 _ (List.mem_of_getElem? (i := 12) rfl)
theorem T_1289 : Cond.selects RX7 yX7_laysPart yX7_laysPart ∈ T0 := ax_c37 _ (List.mem_of_getElem? (i := 13) rfl)
theorem T_1290 : Cond.methodLink RX7 203 yX7_statementTold ∈ T0 := ax_c37 _ (List.mem_of_getElem? (i := 14) rfl)
theorem T_1292 : Cond.instanceMethod yX7_statementTold ∈ T0 := ax_c37 _ (List.mem_of_getElem? (i := 15) rfl)
theorem T_1293 : Cond.selects RX7 yX7_statementTold yX7_statementTold ∈ T0 := ax_c37 _ (List.mem_of_getElem? (i := 16) rfl)
theorem T_1294 : Cond.methodLink RX7 209 yX7_stands ∈ T0 := ax_c37 _ (List.mem_of_getElem? (i := 17) rfl)
theorem T_1296 : Cond.instanceMethod yX7_stands ∈ T0 := ax_c37 _ (List.mem_of_getElem? (i := 18) rfl)
theorem T_1297 : Cond.selects RX7 yX7_stands yX7_stands ∈ T0 := ax_c37 _ (List.mem_of_getElem? (i := 19) rfl)
theorem T_1298 : Cond.methodLink RX7 294 yX7_hasFirst ∈ T0 := ax_c37 _ (List.mem_of_getElem? (i := 20) rfl)
theorem T_1300 : Cond.static yX7_hasFirst ∈ T0 := ax_c37 _ (List.mem_of_getElem? (i := 21) rfl)
theorem T_1301 : Cond.methodLink RX7 297 yX7_partOf ∈ T0 := ax_c37 _ (List.mem_of_getElem? (i := 22) rfl)
theorem T_1303 : Cond.instanceMethod yX7_partOf ∈ T0 := ax_c37 _ (List.mem_of_getElem? (i := 23) rfl)
theorem T_1304 : Cond.selects RX7 yX7_partOf yX7_partOf ∈ T0 := ax_c37 _ (List.mem_of_getElem? (i := 24) rfl)
theorem T_1305 : Cond.constantLong RX7 148 (16) ∈ T0 := ax_c37 _ (List.mem_of_getElem? (i := 25) rfl)
theorem T_1306 : Cond.constantLong RX7 150 (19) ∈ T0 := ax_c37 _ (List.mem_of_getElem? (i := 26) rfl)
theorem T_1307 : Cond.methodLink RX7 222 yX7_meetOf ∈ T0 := ax_c37 _ (List.mem_of_getElem? (i := 27) rfl)
theorem T_1309 : Cond.instanceMethod yX7_meetOf ∈ T0 := ax_c37 _ (List.mem_of_getElem? (i := 28) rfl)
theorem T_1310 : Cond.selects RX7 yX7_meetOf yX7_meetOf ∈ T0 := ax_c37 _ (List.mem_of_getElem? (i := 29) rfl)
theorem T_1311 : Cond.methodLink RX7 199 yX7_lineBegins ∈ T0 := ax_c37 _ (List.mem_of_getElem? (i := 30) rfl)
theorem T_1313 : Cond.instanceMethod yX7_lineBegins ∈ T0 := ax_c37 _ (List.mem_of_getElem? (i := 31) rfl)
theorem T_1314 : Cond.selects RX7 yX7_lineBegins yX7_lineBegins ∈ T0 := ax_c37 _ (List.mem_of_getElem? (i := 32) rfl)
theorem T_1315 : Cond.methodLink RX7 369 yX7_count ∈ T0 := ax_c37 _ (List.mem_of_getElem? (i := 33) rfl)
theorem T_1317 : Cond.static yX7_count ∈ T0 := ax_c37 _ (List.mem_of_getElem? (i := 34) rfl)
theorem T_1318 : Cond.methodLink RX7 310 yX7_reads ∈ T0 := ax_c37 _ (List.mem_of_getElem? (i := 35) rfl)
theorem T_1320 : Cond.instanceMethod yX7_reads ∈ T0 := ax_c37 _ (List.mem_of_getElem? (i := 36) rfl)
theorem T_1321 : Cond.selects RX7 yX7_reads yX7_reads ∈ T0 := ax_c37 _ (List.mem_of_getElem? (i := 37) rfl)
theorem T_1322 : Cond.methodLink RX7 314 yX7_segments ∈ T0 := ax_c37 _ (List.mem_of_getElem? (i := 38) rfl)
theorem T_1324 : Cond.instanceMethod yX7_segments ∈ T0 := ax_c37 _ (List.mem_of_getElem? (i := 39) rfl)
theorem ax_c38 : ∀ w ∈ Tc38, w ∈ T0 := fun _ h => List.mem_append_left _ (List.mem_append_right _ (List.mem_append_right _ (List.mem_append_right _ (List.mem_append_right _ (List.mem_append_right _ (List.mem_append_right _ (List.mem_append_right _ (List.mem_append_right _ (List.mem_append_right _ (List.mem_append_right _ (List.mem_append_right _ (List.mem_append_right _ (List.mem_append_right _ (List.mem_append_right _ (List.mem_append_right _ (List.mem_append_right _ (List.mem_append_right _ (List.mem_append_right _ (List.mem_append_right _ (List.mem_append_right _ (List.mem_append_right _ (List.mem_append_right _ (List.mem_append_right _ (List.mem_append_right _ (List.mem_append_right _ (List.mem_append_right _ (List.mem_append_right _ (List.mem_append_right _ (List.mem_append_right _ (List.mem_append_right _ (List.mem_append_right _ (List.mem_append_right _ (List.mem_append_right _ (List.mem_append_right _ (List.mem_append_right _ (List.mem_append_right _ (List.mem_append_right _ (List.mem_append_right _ (h)))))))))))))))))))))))))))))))))))))))
theorem T_1325 : Cond.selects RX7 yX7_segments yX7_segments ∈ T0 := ax_c38 _ (List.mem_of_getElem? (i := 0) rfl)
theorem T_1326 : Cond.methodLink RX7 317 yX7_clashes ∈ T0 := ax_c38 _ (List.mem_of_getElem? (i := 1) rfl)
theorem T_1328 : Cond.instanceMethod yX7_clashes ∈ T0 := ax_c38 _ (List.mem_of_getElem? (i := 2) rfl)
theorem T_1329 : Cond.selects RX7 yX7_clashes yX7_clashes ∈ T0 := ax_c38 _ (List.mem_of_getElem? (i := 3) rfl)
theorem T_1330 : Cond.methodLink RX7 468 yX7_unlike ∈ T0 := ax_c38 _ (List.mem_of_getElem? (i := 4) rfl)
theorem T_1332 : Cond.instanceMethod yX7_unlike ∈ T0 := ax_c38 _ (List.mem_of_getElem? (i := 5) rfl)
theorem T_1333 : Cond.selects RX7 yX7_unlike yX7_unlike ∈ T0 := ax_c38 _ (List.mem_of_getElem? (i := 6) rfl)
theorem T_1334 : Cond.methodLink RX7 326 yX7_touches ∈ T0 := ax_c38 _ (List.mem_of_getElem? (i := 7) rfl)
theorem T_1336 : Cond.instanceMethod yX7_touches ∈ T0 := ax_c38 _ (List.mem_of_getElem? (i := 8) rfl)
theorem T_1337 : Cond.selects RX7 yX7_touches yX7_touches ∈ T0 := ax_c38 _ (List.mem_of_getElem? (i := 9) rfl)
theorem T_1338 : Cond.methodLink RX7 330 yX7_made ∈ T0 := ax_c38 _ (List.mem_of_getElem? (i := 10) rfl)
theorem T_1340 : Cond.static yX7_made ∈ T0 := ax_c38 _ (List.mem_of_getElem? (i := 11) rfl)
theorem inX0 : ∀ w ∈ wsX00, w ∈ T0 := fun _ h => List.mem_append_right _ (List.mem_append_left _ h)
theorem inX1 : ∀ w ∈ wsX10, w ∈ T0 := fun _ h => List.mem_append_right _ (List.mem_append_right _ (List.mem_append_left _ h))
theorem inX2 : ∀ w ∈ wsX20, w ∈ T0 := fun _ h => List.mem_append_right _ (List.mem_append_right _ (List.mem_append_right _ (List.mem_append_left _ h)))
theorem inX3 : ∀ w ∈ wsX30, w ∈ T0 := fun _ h => List.mem_append_right _ (List.mem_append_right _ (List.mem_append_right _ (List.mem_append_right _ (List.mem_append_left _ h))))
theorem inX4 : ∀ w ∈ wsX40, w ∈ T0 := fun _ h => List.mem_append_right _ (List.mem_append_right _ (List.mem_append_right _ (List.mem_append_right _ (List.mem_append_right _ (List.mem_append_left _ h)))))
theorem inX5 : ∀ w ∈ wsX50, w ∈ T0 := fun _ h => List.mem_append_right _ (List.mem_append_right _ (List.mem_append_right _ (List.mem_append_right _ (List.mem_append_right _ (List.mem_append_right _ (List.mem_append_left _ h))))))
theorem inX6 : ∀ w ∈ wsX60, w ∈ T0 := fun _ h => List.mem_append_right _ (List.mem_append_right _ (List.mem_append_right _ (List.mem_append_right _ (List.mem_append_right _ (List.mem_append_right _ (List.mem_append_right _ (List.mem_append_left _ h)))))))
theorem inX7 : ∀ w ∈ wsX70, w ∈ T0 := fun _ h => List.mem_append_right _ (List.mem_append_right _ (List.mem_append_right _ (List.mem_append_right _ (List.mem_append_right _ (List.mem_append_right _ (List.mem_append_right _ (List.mem_append_right _ (h))))))))
set_option maxRecDepth 20000 in
theorem ax_good : T0.all goodWord = true := by decide +kernel
set_option maxRecDepth 20000 in
theorem ax_lawc0 : GoodIn lw_tbl Tc0 := goodIn_p Tc0 [160, 276, 410, 269, 510, 165, 221, 458, 514, 570, 566, 589, 586, 593, 668, 582, 822, 818, 850, 804, 1302, 1310, 1338, 1341, 1334] rfl (by decide +kernel)
set_option maxRecDepth 20000 in
theorem ax_lawc1 : GoodIn lw_tbl Tc1 := goodIn_p Tc1 [1330, 1326, 1353, 1384, 1322, 1357, 1364, 1428, 1294, 1525, 1521, 1562, 562, 1290, 574, 1298, 578, 1318, 779, 1314, 783, 1496, 809, 1512, 814] rfl (by decide +kernel)
set_option maxRecDepth 20000 in
theorem ax_lawc2 : GoodIn lw_tbl Tc2 := goodIn_p Tc2 [1517, 830, 1541, 842, 1553, 846, 1558, 854, 1566, 858, 1570, 862, 1575, 906, 1622, 1041, 1738, 1049, 1743, 1068, 1747, 1072, 1755, 1094, 1763] rfl (by decide +kernel)
set_option maxRecDepth 20000 in
theorem ax_lawc3 : GoodIn lw_tbl Tc3 := goodIn_p Tc3 [1102, 1771, 1114, 1780, 1123, 1792, 1142, 1800, 1146, 1804, 1150, 1808, 1154, 1816, 1166, 1788, 1170, 1812, 1174, 1306, 157, 1179, 623, 626, 637] rfl (by decide +kernel)
set_option maxRecDepth 20000 in
theorem ax_lawc4 : GoodIn lw_tbl Tc4 := goodIn_p Tc4 [634, 613, 629, 640, 647, 643, 758, 762, 918, 932, 914, 1012, 1016, 1037, 928, 1020, 1059, 1085, 1110, 718, 889, 957, 870, 875, 881] rfl (by decide +kernel)
set_option maxRecDepth 20000 in
theorem ax_lawc5 : GoodIn lw_tbl Tc5 := goodIn_p Tc5 [885, 969, 892, 790, 897, 902, 965, 973, 997, 977, 981, 985, 989, 838, 834, 866, 937, 941, 961, 993, 1001, 945, 948, 953, 743] rfl (by decide +kernel)
set_option maxRecDepth 20000 in
theorem ax_lawc6 : GoodIn lw_tbl Tc6 := goodIn_p Tc6 [754, 746, 750, 680, 676, 684, 688, 609, 619, 664, 735, 715, 722, 726, 731, 672, 692, 707, 711, 596, 600, 604, 656, 660, 923] rfl (by decide +kernel)
set_option maxRecDepth 20000 in
theorem ax_lawc7 : GoodIn lw_tbl Tc7 := goodIn_p Tc7 [1024, 1029, 1032, 770, 1005, 775, 1076, 1080, 1098, 1090, 1127, 1052, 1055, 1064, 910, 1158, 1137, 787, 797, 801, 1132, 826, 1045, 1106, 739] rfl (by decide +kernel)
set_option maxRecDepth 20000 in
theorem ax_lawc8 : GoodIn lw_tbl Tc8 := goodIn_p Tc8 [1118, 1580, 1662, 1726, 1472, 1767, 1375, 1759, 1368, 1796, 1468, 1475, 1478, 1481, 1436, 1485, 1626, 1630, 1730, 1734, 1489, 1549, 1821, 1658, 1534] rfl (by decide +kernel)
set_option maxRecDepth 20000 in
theorem ax_lawc9 : GoodIn lw_tbl Tc9 := goodIn_p Tc9 [1492, 1614, 1618, 1722, 1537, 1638, 1698, 1388, 1404, 1420, 1545, 1584, 1444, 1588, 1666, 1670, 1686, 1702, 1706, 1714, 1718, 1690, 1694, 1460, 1440] rfl (by decide +kernel)
set_option maxRecDepth 20000 in
theorem ax_lawc10 : GoodIn lw_tbl Tc10 := goodIn_p Tc10 [1634, 1501, 1508, 1416, 1751, 1606, 1456, 1452, 1395, 1642, 1646, 1650, 1530, 1654, 1776, 1392, 1399, 1349, 1407, 1411, 1424, 1680, 1464, 1360, 1345] rfl (by decide +kernel)
set_option maxRecDepth 20000 in
theorem ax_lawc11 : GoodIn lw_tbl Tc11 := goodIn_p Tc11 [1710, 1372, 1432, 1595, 1599, 1448, 1380, 1504, 1592, 1603, 1610, 1784, 1674, 1677] rfl (by decide +kernel)
set_option maxRecDepth 20000 in
theorem ax_lawc12 : GoodIn lw_tbl Tc12 := ax_places Tc12 [277, 159, 216, 278, 282, 284, 287, 289, 270, 271, 334, 338, 342, 345, 346, 347, 349, 371, 273, 141, 275, 411, 412, 413, 414, 222, 223, 225, 229, 264, 232, 166, 167, 168, 169, 170, 182, 459, 460, 407] (by decide +kernel) (by decide +kernel)
set_option maxRecDepth 20000 in
theorem ax_lawc13 : GoodIn lw_tbl Tc13 := ax_places Tc13 [142, 409, 464, 462, 266, 140, 463, 268, 465, 466, 467, 468, 470, 472, 474, 515, 508, 509, 469, 471, 473, 158, 215, 516, 161, 162, 138, 164, 518, 217, 218, 139, 220, 519, 520, 265, 267, 522, 523, 406] (by decide +kernel) (by decide +kernel)
set_option maxRecDepth 20000 in
theorem ax_lawc14 : GoodIn lw_tbl Tc14 := ax_places Tc14 [526, 454, 455, 143, 457, 527, 528, 529, 507, 511, 512, 513, 517, 567, 569, 0, 137, 563, 565, 1, 145, 587, 588, 233, 239, 243, 246, 174, 176, 175, 172, 177, 180, 171, 173, 583, 584, 585, 590, 592] (by decide +kernel) (by decide +kernel)
set_option maxRecDepth 20000 in
theorem ax_lawc15 : GoodIn lw_tbl Tc15 := ax_places Tc15 [2, 665, 667, 3, 579, 580, 581, 521, 819, 821, 4, 810, 815, 817, 5, 847, 849, 6, 802, 803, 150, 525, 1180, 1182, 1190, 1191, 1285, 1192, 1194, 1195, 1196, 1286, 1199, 1200, 1202, 1203, 1204, 1205, 1181, 1206] (by decide +kernel) (by decide +kernel)
set_option maxRecDepth 20000 in
theorem ax_lawc16 : GoodIn lw_tbl Tc16 := ax_places Tc16 [1210, 1211, 1212, 1215, 1183, 1299, 1301, 7, 144, 1307, 1308, 1309, 1189, 1497, 1197, 1184, 1185, 1187, 1335, 1337, 8, 1339, 1340, 1331, 1333, 9, 1327, 1329, 10, 1188, 1323, 1325, 11, 1350, 1352, 12, 1381, 1383, 13, 1186] (by decide +kernel) (by decide +kernel)
set_option maxRecDepth 20000 in
theorem ax_lawc17 : GoodIn lw_tbl Tc17 := ax_places Tc17 [1319, 1321, 14, 1354, 1356, 15, 1361, 1363, 16, 1198, 1425, 1427, 17, 1291, 1293, 18, 1522, 1524, 19, 1400, 1518, 1520, 20, 1559, 1561, 21, 1213, 560, 561, 1288, 1289, 572, 573, 1296, 1297, 576, 577, 1316, 1317, 777] (by decide +kernel) (by decide +kernel)
set_option maxRecDepth 20000 in
theorem ax_lawc18 : GoodIn lw_tbl Tc18 := ax_places Tc18 [778, 1312, 1313, 781, 782, 1494, 1495, 807, 808, 1510, 1511, 812, 813, 1515, 1516, 828, 829, 1539, 1540, 840, 841, 1551, 1552, 844, 845, 1556, 1557, 852, 853, 1564, 1565, 856, 857, 1568, 1569, 860, 861, 1573, 1574, 904] (by decide +kernel) (by decide +kernel)
set_option maxRecDepth 20000 in
theorem ax_lawc19 : GoodIn lw_tbl Tc19 := ax_places Tc19 [905, 1620, 1621, 1039, 1040, 1736, 1737, 1047, 1048, 1741, 1742, 1066, 1067, 1745, 1746, 1070, 1071, 1753, 1754, 1092, 1093, 1761, 1762, 1100, 1101, 1769, 1770, 1112, 1113, 1778, 1779, 1121, 1122, 1790, 1791, 1140, 1141, 1798, 1799, 1144] (by decide +kernel) (by decide +kernel)
set_option maxRecDepth 20000 in
theorem ax_lawc20 : GoodIn lw_tbl Tc20 := ax_places Tc20 [1145, 1802, 1803, 1148, 1149, 1806, 1807, 1152, 1153, 1814, 1815, 1164, 1165, 1786, 1787, 1168, 1169, 1810, 1811, 1172, 1173, 1304, 1305, 154, 1176, 156, 1178, 620, 146, 621, 622, 1826, 624, 147, 625, 635, 149, 636, 630, 632] (by decide +kernel) (by decide +kernel)
set_option maxRecDepth 20000 in
theorem ax_lawc21 : GoodIn lw_tbl Tc21 := ax_places Tc21 [148, 633, 614, 1827, 610, 611, 612, 627, 628, 638, 639, 645, 646, 641, 642, 644, 648, 650, 652, 791, 792, 793, 153, 155, 1175, 1177, 559, 1287, 571, 1295, 575, 1315, 776, 1311, 780, 1493, 806, 1509, 811, 1514] (by decide +kernel) (by decide +kernel)
set_option maxRecDepth 20000 in
theorem ax_lawc22 : GoodIn lw_tbl Tc22 := ax_places Tc22 [827, 1538, 839, 1550, 843, 1555, 851, 1563, 855, 1567, 859, 1572, 903, 1619, 1038, 1735, 1046, 1740, 1065, 1744, 1069, 1752, 1091, 1760, 1099, 1768, 1111, 1777, 1120, 1789, 1139, 1797, 1143, 1801, 1147, 1805, 1151, 1813, 1163, 1785] (by decide +kernel) (by decide +kernel)
set_option maxRecDepth 20000 in
theorem ax_lawc23 : GoodIn lw_tbl Tc23 := ax_places Tc23 [1167, 1809, 1171, 1303, 1060, 756, 757, 1061, 760, 761, 915, 916, 917, 929, 930, 931, 911, 913, 22, 1009, 1010, 1011, 1013, 1015, 23, 1034, 1036, 24, 925, 926, 927, 1017, 1018, 1019, 1133, 475, 476, 477, 1081, 1057] (by decide +kernel) (by decide +kernel)
set_option maxRecDepth 20000 in
theorem ax_lawc24 : GoodIn lw_tbl Tc24 := ax_places Tc24 [1058, 1082, 1083, 1084, 1086, 1119, 1108, 1109, 417, 877, 717, 415, 416, 886, 888, 25, 428, 418, 954, 955, 956, 949, 867, 869, 26, 872, 874, 27, 420, 878, 880, 28, 882, 884, 29, 966, 968, 30, 422, 425] (by decide +kernel) (by decide +kernel)
set_option maxRecDepth 20000 in
theorem ax_lawc25 : GoodIn lw_tbl Tc25 := ax_places Tc25 [890, 150, 891, 893, 152, 789, 894, 896, 31, 899, 901, 32, 898, 424, 962, 964, 33, 970, 972, 34, 994, 995, 996, 974, 975, 976, 978, 979, 980, 982, 983, 984, 986, 987, 988, 876, 836, 837, 871, 832] (by decide +kernel) (by decide +kernel)
set_option maxRecDepth 20000 in
theorem ax_lawc26 : GoodIn lw_tbl Tc26 := ax_places Tc26 [833, 933, 864, 865, 934, 936, 35, 938, 940, 36, 958, 960, 37, 990, 992, 38, 998, 999, 1000, 942, 944, 39, 946, 947, 950, 952, 40, 689, 740, 742, 41, 751, 753, 42, 744, 745, 747, 749, 43, 727] (by decide +kernel) (by decide +kernel)
set_option maxRecDepth 20000 in
theorem ax_lawc27 : GoodIn lw_tbl Tc27 := ax_places Tc27 [677, 679, 44, 673, 675, 45, 681, 683, 46, 685, 686, 687, 606, 607, 608, 616, 617, 618, 661, 663, 47, 732, 734, 48, 178, 712, 714, 49, 179, 716, 719, 721, 50, 723, 724, 725, 728, 730, 51, 669] (by decide +kernel) (by decide +kernel)
set_option maxRecDepth 20000 in
theorem ax_lawc28 : GoodIn lw_tbl Tc28 := ax_places Tc28 [671, 52, 690, 691, 704, 705, 706, 708, 710, 53, 594, 595, 597, 599, 54, 601, 603, 55, 654, 655, 657, 659, 56, 364, 354, 835, 352, 357, 360, 919, 366, 369, 763, 765, 764, 151, 920, 921, 922, 1021] (by decide +kernel) (by decide +kernel)
set_option maxRecDepth 20000 in
theorem ax_lawc29 : GoodIn lw_tbl Tc29 := ax_places Tc29 [1023, 57, 1026, 1027, 1028, 1031, 767, 768, 769, 788, 1002, 1003, 1004, 766, 1025, 924, 291, 294, 297, 301, 305, 308, 1006, 1007, 1008, 771, 772, 774, 58, 1073, 1074, 1075, 1077, 1078, 1079, 1095, 1097, 59, 1087, 1088] (by decide +kernel) (by decide +kernel)
set_option maxRecDepth 20000 in
theorem ax_lawc30 : GoodIn lw_tbl Tc30 := ax_places Tc30 [1089, 1124, 1126, 60, 759, 1050, 1051, 1053, 1054, 1056, 1062, 1063, 907, 908, 909, 1155, 1157, 61, 1134, 1136, 62, 1159, 1160, 1161, 1162, 784, 785, 786, 794, 795, 796, 798, 799, 800, 805, 524, 1128, 1129, 1130, 1131] (by decide +kernel) (by decide +kernel)
set_option maxRecDepth 20000 in
theorem ax_lawc31 : GoodIn lw_tbl Tc31 := ax_places Tc31 [823, 824, 825, 1042, 1043, 1044, 1103, 1104, 1105, 1107, 863, 736, 737, 738, 755, 1138, 1115, 1116, 1117, 831, 1577, 1579, 63, 1659, 1661, 64, 1723, 1725, 65, 1469, 1471, 66, 1764, 1766, 67, 1373, 1374, 1571, 1756, 1758] (by decide +kernel) (by decide +kernel)
set_option maxRecDepth 20000 in
theorem ax_lawc32 : GoodIn lw_tbl Tc32 := ax_places Tc32 [68, 1365, 1367, 69, 1793, 1795, 70, 1465, 1467, 71, 1473, 1474, 1476, 1477, 1479, 1480, 1433, 1435, 72, 1482, 1484, 73, 1681, 1682, 1554, 1623, 1625, 74, 1627, 1629, 75, 1727, 1729, 76, 1731, 1733, 77, 1486, 1488, 78] (by decide +kernel) (by decide +kernel)
set_option maxRecDepth 20000 in
theorem ax_lawc33 : GoodIn lw_tbl Tc33 := ax_places Tc33 [1546, 1548, 79, 1817, 1818, 1820, 80, 1655, 1657, 81, 1531, 1533, 82, 1490, 1491, 1611, 1613, 83, 1615, 1617, 84, 1719, 1721, 85, 1201, 1739, 1535, 1536, 1822, 1823, 1824, 1825, 1635, 1637, 86, 1695, 1697, 87, 1385, 1387] (by decide +kernel) (by decide +kernel)
set_option maxRecDepth 20000 in
theorem ax_lawc34 : GoodIn lw_tbl Tc34 := ax_places Tc34 [88, 1193, 1401, 1403, 89, 1417, 1419, 90, 1542, 1544, 91, 1581, 1583, 92, 1441, 1443, 93, 1585, 1587, 94, 1663, 1665, 95, 1667, 1669, 96, 1683, 1685, 97, 1699, 1701, 98, 1703, 1705, 99, 1711, 1713, 100, 1715, 1717] (by decide +kernel) (by decide +kernel)
set_option maxRecDepth 20000 in
theorem ax_lawc35 : GoodIn lw_tbl Tc35 := ax_places Tc35 [101, 1687, 1689, 102, 1691, 1693, 103, 1457, 1459, 104, 1437, 1439, 105, 1209, 1208, 1631, 1633, 106, 1498, 1500, 107, 1505, 1507, 108, 1414, 1415, 1748, 1750, 109, 1604, 1605, 1453, 1455, 110, 1449, 1451, 111, 1526, 1393, 1394] (by decide +kernel) (by decide +kernel)
set_option maxRecDepth 20000 in
theorem ax_lawc36 : GoodIn lw_tbl Tc36 := ax_places Tc36 [1639, 1641, 112, 1207, 1643, 1645, 113, 1647, 1649, 114, 1214, 1513, 1527, 1529, 115, 1576, 1651, 1653, 116, 1772, 1773, 1775, 117, 1389, 1391, 118, 1396, 1398, 119, 1376, 1346, 1348, 120, 1405, 1406, 1408, 1410, 121, 1421, 1423] (by decide +kernel) (by decide +kernel)
set_option maxRecDepth 20000 in
theorem ax_lawc37 : GoodIn lw_tbl Tc37 := ax_places Tc37 [122, 1678, 1679, 1461, 1463, 123, 1358, 1359, 1342, 1344, 124, 1707, 1709, 125, 1369, 1371, 126, 1429, 1431, 127, 1593, 1594, 1596, 1598, 128, 1412, 1413, 1445, 1447, 129, 1377, 1379, 130, 1502, 1503, 1589, 1591, 131, 1600, 1602] (by decide +kernel) (by decide +kernel)
set_option maxRecDepth 20000 in
theorem ax_lawc38 : GoodIn lw_tbl Tc38 := ax_places Tc38 [132, 1607, 1609, 133, 1781, 1783, 134, 1671, 1673, 135, 1675, 1676] (by decide +kernel) (by decide +kernel)
theorem ax_lawc : GoodIn lw_tbl T0w := goodIn_ap ax_lawc0 (goodIn_ap ax_lawc1 (goodIn_ap ax_lawc2 (goodIn_ap ax_lawc3 (goodIn_ap ax_lawc4 (goodIn_ap ax_lawc5 (goodIn_ap ax_lawc6 (goodIn_ap ax_lawc7 (goodIn_ap ax_lawc8 (goodIn_ap ax_lawc9 (goodIn_ap ax_lawc10 (goodIn_ap ax_lawc11 (goodIn_ap ax_lawc12 (goodIn_ap ax_lawc13 (goodIn_ap ax_lawc14 (goodIn_ap ax_lawc15 (goodIn_ap ax_lawc16 (goodIn_ap ax_lawc17 (goodIn_ap ax_lawc18 (goodIn_ap ax_lawc19 (goodIn_ap ax_lawc20 (goodIn_ap ax_lawc21 (goodIn_ap ax_lawc22 (goodIn_ap ax_lawc23 (goodIn_ap ax_lawc24 (goodIn_ap ax_lawc25 (goodIn_ap ax_lawc26 (goodIn_ap ax_lawc27 (goodIn_ap ax_lawc28 (goodIn_ap ax_lawc29 (goodIn_ap ax_lawc30 (goodIn_ap ax_lawc31 (goodIn_ap ax_lawc32 (goodIn_ap ax_lawc33 (goodIn_ap ax_lawc34 (goodIn_ap ax_lawc35 (goodIn_ap ax_lawc36 (goodIn_ap ax_lawc37 ax_lawc38)))))))))))))))))))))))))))))))))))))
set_option maxRecDepth 20000 in
theorem ax_lawX0 : GoodIn lw_tbl wsX00 := goodIn_of _ (by decide +kernel)
set_option maxRecDepth 20000 in
theorem ax_lawX1 : GoodIn lw_tbl wsX10 := goodIn_of _ (by decide +kernel)
set_option maxRecDepth 20000 in
theorem ax_lawX2 : GoodIn lw_tbl wsX20 := goodIn_of _ (by decide +kernel)
set_option maxRecDepth 20000 in
theorem ax_lawX3 : GoodIn lw_tbl wsX30 := goodIn_of _ (by decide +kernel)
set_option maxRecDepth 20000 in
theorem ax_lawX4 : GoodIn lw_tbl wsX40 := goodIn_of _ (by decide +kernel)
set_option maxRecDepth 20000 in
theorem ax_lawX5 : GoodIn lw_tbl wsX50 := goodIn_of _ (by decide +kernel)
set_option maxRecDepth 20000 in
theorem ax_lawX6 : GoodIn lw_tbl wsX60 := goodIn_of _ (by decide +kernel)
set_option maxRecDepth 20000 in
theorem ax_lawX7 : GoodIn lw_tbl wsX70 := goodIn_of _ (by decide +kernel)
theorem ax_law : GoodIn lw_tbl T0 := goodIn_ap ax_lawc (goodIn_ap ax_lawX0 (goodIn_ap ax_lawX1 (goodIn_ap ax_lawX2 (goodIn_ap ax_lawX3 (goodIn_ap ax_lawX4 (goodIn_ap ax_lawX5 (goodIn_ap ax_lawX6 ax_lawX7)))))))
