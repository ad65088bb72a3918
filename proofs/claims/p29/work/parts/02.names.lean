theorem ax_places {big : List Cond} (ws : List Cond) (ps : List Nat) (hp : ws = ps.filterMap (fun i => big[i]?)) (h : ws.all goodWord = true) : GoodIn big ws := by
  intro w hw
  refine ⟨?_, good_of_word (List.all_eq_true.mp h w hw)⟩
  rw [hp] at hw
  obtain ⟨i, -, hi⟩ := List.mem_filterMap.mp hw
  exact List.mem_of_getElem? hi
theorem goodIn_ap {big a b : List Cond} (ha : GoodIn big a) (hb : GoodIn big b) : GoodIn big (a ++ b) := fun w h => (List.mem_append.mp h).elim (ha w) (hb w)
def RX0 : String := "LaneWarps$Forecast"
def TX0 : u_T := fun k => match k with
  | 0 => ("LaneWarps$Forecast", "machine", "LLaneWarps$Machine;", true)
  | 1 => ("LaneWarps$Forecast", "origin", "LLaneWarps$State;", true)
  | 2 => ("LaneWarps$Forecast", "scout", "LLaneWarps$State;", true)
  | 3 => ("LaneWarps$Forecast", "trail", "LLaneWarps$State;", true)
  | 4 => ("LaneWarps$Forecast", "courses", "[I", true)
  | 5 => ("LaneWarps$Forecast", "coursesKnown", "I", false)
  | 6 => ("LaneWarps$Forecast", "ends", "[I", true)
  | 7 => ("LaneWarps$Forecast", "endsKnown", "J", false)
  | 8 => ("LaneWarps$Forecast", "solos", "[I", true)
  | 9 => ("LaneWarps$Forecast", "solosKnown", "I", false)
  | 10 => ("LaneWarps$Forecast", "program", "LLaneWarps$Program;", false)
  | 11 => ("LaneWarps$Forecast", "mode", "I", false)
  | 12 => ("LaneWarps$Forecast", "order", "I", false)
  | _ => ("LaneWarps$Forecast", "skew", "I", false)
def tyX0 : Nat → FieldType := fun k => match k with
  | 0 => .object "LaneWarps$Machine"
  | 1 => .object "LaneWarps$State"
  | 2 => .object "LaneWarps$State"
  | 3 => .object "LaneWarps$State"
  | 4 => .array .int
  | 5 => .int
  | 6 => .array .int
  | 7 => .long
  | 8 => .array .int
  | 9 => .int
  | 10 => .object "LaneWarps$Program"
  | 11 => .int
  | 12 => .int
  | _ => .int
abbrev wsX00 : List Cond := u_ws RX0 TX0 14
theorem nmX0 : ∀ a, a < 14 → ∀ b, b < 14 → a ≠ b → (TX0 a).2.1 ≠ (TX0 b).2.1 := by decide +kernel
theorem tyX0_ok : ∀ k, k < 14 → parseFieldDescriptor (TX0 k).2.2.1 = some (tyX0 k) := by decide +kernel
theorem dvX0 : ∀ j, j < 14 → defaultValue (tyX0 j) = vp_V [.null, .null, .null, .null, .null, .int 0, .null, .long 0, .null, .int 0, .null, .int 0, .int 0, .int 0] j := fun j hj => by rcases (show j = 0 ∨ j = 1 ∨ j = 2 ∨ j = 3 ∨ j = 4 ∨ j = 5 ∨ j = 6 ∨ j = 7 ∨ j = 8 ∨ j = 9 ∨ j = 10 ∨ j = 11 ∨ j = 12 ∨ j = 13 by omega) with rfl | rfl | rfl | rfl | rfl | rfl | rfl | rfl | rfl | rfl | rfl | rfl | rfl | rfl <;> rfl
def RX1 : String := "LaneWarps$Machine"
def TX1 : u_T := fun k => match k with
  | 0 => ("LaneWarps$Machine", "addresses", "[I", true)
  | 1 => ("LaneWarps$Machine", "inBank", "[I", true)
  | 2 => ("LaneWarps$Machine", "program", "LLaneWarps$Program;", false)
  | 3 => ("LaneWarps$Machine", "state", "LLaneWarps$State;", false)
  | 4 => ("LaneWarps$Machine", "mover", "LLaneWarps$Warp;", false)
  | 5 => ("LaneWarps$Machine", "row", "[I", false)
  | 6 => ("LaneWarps$Machine", "warp", "I", false)
  | 7 => ("LaneWarps$Machine", "line", "I", false)
  | 8 => ("LaneWarps$Machine", "lanes", "I", false)
  | 9 => ("LaneWarps$Machine", "leader", "I", false)
  | 10 => ("LaneWarps$Machine", "takes", "I", false)
  | _ => ("LaneWarps$Machine", "loaded", "J", false)
def tyX1 : Nat → FieldType := fun k => match k with
  | 0 => .array .int
  | 1 => .array .int
  | 2 => .object "LaneWarps$Program"
  | 3 => .object "LaneWarps$State"
  | 4 => .object "LaneWarps$Warp"
  | 5 => .array .int
  | 6 => .int
  | 7 => .int
  | 8 => .int
  | 9 => .int
  | 10 => .int
  | _ => .long
abbrev wsX10 : List Cond := u_ws RX1 TX1 12
theorem nmX1 : ∀ a, a < 12 → ∀ b, b < 12 → a ≠ b → (TX1 a).2.1 ≠ (TX1 b).2.1 := by decide +kernel
theorem tyX1_ok : ∀ k, k < 12 → parseFieldDescriptor (TX1 k).2.2.1 = some (tyX1 k) := by decide +kernel
theorem dvX1 : ∀ j, j < 12 → defaultValue (tyX1 j) = vp_V [.null, .null, .null, .null, .null, .null, .int 0, .int 0, .int 0, .int 0, .int 0, .long 0] j := fun j hj => by rcases (show j = 0 ∨ j = 1 ∨ j = 2 ∨ j = 3 ∨ j = 4 ∨ j = 5 ∨ j = 6 ∨ j = 7 ∨ j = 8 ∨ j = 9 ∨ j = 10 ∨ j = 11 by omega) with rfl | rfl | rfl | rfl | rfl | rfl | rfl | rfl | rfl | rfl | rfl | rfl <;> rfl
def RX2 : String := "LaneWarps$Program"
def TX2 : u_T := fun k => match k with
  | 0 => ("LaneWarps$Program", "rows", "[[I", true)
  | 1 => ("LaneWarps$Program", "far", "[I", true)
  | 2 => ("LaneWarps$Program", "passed", "[J", true)
  | 3 => ("LaneWarps$Program", "lines", "I", false)
  | 4 => ("LaneWarps$Program", "warps", "I", false)
  | 5 => ("LaneWarps$Program", "mode", "I", false)
  | _ => ("LaneWarps$Program", "order", "I", false)
def tyX2 : Nat → FieldType := fun k => match k with
  | 0 => .array (.array .int)
  | 1 => .array .int
  | 2 => .array .long
  | 3 => .int
  | 4 => .int
  | 5 => .int
  | _ => .int
abbrev wsX20 : List Cond := u_ws RX2 TX2 7
theorem nmX2 : ∀ a, a < 7 → ∀ b, b < 7 → a ≠ b → (TX2 a).2.1 ≠ (TX2 b).2.1 := by decide +kernel
theorem tyX2_ok : ∀ k, k < 7 → parseFieldDescriptor (TX2 k).2.2.1 = some (tyX2 k) := by decide +kernel
theorem dvX2 : ∀ j, j < 7 → defaultValue (tyX2 j) = vp_V [.null, .null, .null, .int 0, .int 0, .int 0, .int 0] j := fun j hj => by rcases (show j = 0 ∨ j = 1 ∨ j = 2 ∨ j = 3 ∨ j = 4 ∨ j = 5 ∨ j = 6 by omega) with rfl | rfl | rfl | rfl | rfl | rfl | rfl <;> rfl
def RX3 : String := "LaneWarps$Reader"
def TX3 : u_T := fun k => match k with
  | 0 => ("LaneWarps$Reader", "nameAt", "[I", true)
  | 1 => ("LaneWarps$Reader", "nameEnd", "[I", true)
  | 2 => ("LaneWarps$Reader", "aimAt", "[I", true)
  | 3 => ("LaneWarps$Reader", "aimEnd", "[I", true)
  | 4 => ("LaneWarps$Reader", "text", "[B", false)
  | 5 => ("LaneWarps$Reader", "length", "I", false)
  | 6 => ("LaneWarps$Reader", "into", "LLaneWarps$Program;", false)
  | 7 => ("LaneWarps$Reader", "kind", "I", false)
  | 8 => ("LaneWarps$Reader", "from", "I", false)
  | 9 => ("LaneWarps$Reader", "to", "I", false)
  | 10 => ("LaneWarps$Reader", "own", "I", false)
  | 11 => ("LaneWarps$Reader", "number", "I", false)
  | 12 => ("LaneWarps$Reader", "address", "I", false)
  | 13 => ("LaneWarps$Reader", "fault", "I", false)
  | _ => ("LaneWarps$Reader", "place", "I", false)
def tyX3 : Nat → FieldType := fun k => match k with
  | 0 => .array .int
  | 1 => .array .int
  | 2 => .array .int
  | 3 => .array .int
  | 4 => .array .byte
  | 5 => .int
  | 6 => .object "LaneWarps$Program"
  | 7 => .int
  | 8 => .int
  | 9 => .int
  | 10 => .int
  | 11 => .int
  | 12 => .int
  | 13 => .int
  | _ => .int
abbrev wsX30 : List Cond := u_ws RX3 TX3 15
theorem nmX3 : ∀ a, a < 15 → ∀ b, b < 15 → a ≠ b → (TX3 a).2.1 ≠ (TX3 b).2.1 := by decide +kernel
theorem tyX3_ok : ∀ k, k < 15 → parseFieldDescriptor (TX3 k).2.2.1 = some (tyX3 k) := by decide +kernel
theorem dvX3 : ∀ j, j < 15 → defaultValue (tyX3 j) = vp_V [.null, .null, .null, .null, .null, .int 0, .null, .int 0, .int 0, .int 0, .int 0, .int 0, .int 0, .int 0, .int 0] j := fun j hj => by rcases (show j = 0 ∨ j = 1 ∨ j = 2 ∨ j = 3 ∨ j = 4 ∨ j = 5 ∨ j = 6 ∨ j = 7 ∨ j = 8 ∨ j = 9 ∨ j = 10 ∨ j = 11 ∨ j = 12 ∨ j = 13 ∨ j = 14 by omega) with rfl | rfl | rfl | rfl | rfl | rfl | rfl | rfl | rfl | rfl | rfl | rfl | rfl | rfl | rfl <;> rfl
def RX4 : String := "LaneWarps$State"
def TX4 : u_T := fun k => match k with
  | 0 => ("LaneWarps$State", "warps", "[LLaneWarps$Warp;", true)
  | 1 => ("LaneWarps$State", "far", "[I", true)
  | 2 => ("LaneWarps$State", "near", "[I", true)
  | 3 => ("LaneWarps$State", "touched", "[I", true)
  | 4 => ("LaneWarps$State", "wrote", "[I", true)
  | 5 => ("LaneWarps$State", "raced", "[I", true)
  | 6 => ("LaneWarps$State", "kept", "[I", true)
  | 7 => ("LaneWarps$State", "used", "I", false)
  | 8 => ("LaneWarps$State", "mode", "I", false)
  | 9 => ("LaneWarps$State", "order", "I", false)
  | 10 => ("LaneWarps$State", "skew", "I", false)
  | 11 => ("LaneWarps$State", "cycle", "I", false)
  | 12 => ("LaneWarps$State", "done", "I", false)
  | 13 => ("LaneWarps$State", "epochs", "I", false)
  | _ => ("LaneWarps$State", "last", "I", false)
def tyX4 : Nat → FieldType := fun k => match k with
  | 0 => .array (.object "LaneWarps$Warp")
  | 1 => .array .int
  | 2 => .array .int
  | 3 => .array .int
  | 4 => .array .int
  | 5 => .array .int
  | 6 => .array .int
  | 7 => .int
  | 8 => .int
  | 9 => .int
  | 10 => .int
  | 11 => .int
  | 12 => .int
  | 13 => .int
  | _ => .int
abbrev wsX40 : List Cond := u_ws RX4 TX4 15
theorem nmX4 : ∀ a, a < 15 → ∀ b, b < 15 → a ≠ b → (TX4 a).2.1 ≠ (TX4 b).2.1 := by decide +kernel
theorem tyX4_ok : ∀ k, k < 15 → parseFieldDescriptor (TX4 k).2.2.1 = some (tyX4 k) := by decide +kernel
theorem dvX4 : ∀ j, j < 15 → defaultValue (tyX4 j) = vp_V [.null, .null, .null, .null, .null, .null, .null, .int 0, .int 0, .int 0, .int 0, .int 0, .int 0, .int 0, .int 0] j := fun j hj => by rcases (show j = 0 ∨ j = 1 ∨ j = 2 ∨ j = 3 ∨ j = 4 ∨ j = 5 ∨ j = 6 ∨ j = 7 ∨ j = 8 ∨ j = 9 ∨ j = 10 ∨ j = 11 ∨ j = 12 ∨ j = 13 ∨ j = 14 by omega) with rfl | rfl | rfl | rfl | rfl | rfl | rfl | rfl | rfl | rfl | rfl | rfl | rfl | rfl | rfl <;> rfl
def RX5 : String := "LaneWarps$Warp"
def TX5 : u_T := fun k => match k with
  | 0 => ("LaneWarps$Warp", "registers", "[I", true)
  | 1 => ("LaneWarps$Warp", "lines", "[I", true)
  | 2 => ("LaneWarps$Warp", "partLine", "[I", true)
  | 3 => ("LaneWarps$Warp", "partMeets", "[I", true)
  | 4 => ("LaneWarps$Warp", "partLanes", "[I", true)
  | 5 => ("LaneWarps$Warp", "parts", "I", false)
  | 6 => ("LaneWarps$Warp", "lives", "I", false)
  | 7 => ("LaneWarps$Warp", "waits", "I", false)
  | 8 => ("LaneWarps$Warp", "ready", "I", false)
  | 9 => ("LaneWarps$Warp", "done", "I", false)
  | _ => ("LaneWarps$Warp", "turn", "I", false)
def tyX5 : Nat → FieldType := fun k => match k with
  | 0 => .array .int
  | 1 => .array .int
  | 2 => .array .int
  | 3 => .array .int
  | 4 => .array .int
  | 5 => .int
  | 6 => .int
  | 7 => .int
  | 8 => .int
  | 9 => .int
  | _ => .int
abbrev wsX50 : List Cond := u_ws RX5 TX5 11
theorem nmX5 : ∀ a, a < 11 → ∀ b, b < 11 → a ≠ b → (TX5 a).2.1 ≠ (TX5 b).2.1 := by decide +kernel
theorem tyX5_ok : ∀ k, k < 11 → parseFieldDescriptor (TX5 k).2.2.1 = some (tyX5 k) := by decide +kernel
theorem dvX5 : ∀ j, j < 11 → defaultValue (tyX5 j) = vp_V [.null, .null, .null, .null, .null, .int 0, .int 0, .int 0, .int 0, .int 0, .int 0] j := fun j hj => by rcases (show j = 0 ∨ j = 1 ∨ j = 2 ∨ j = 3 ∨ j = 4 ∨ j = 5 ∨ j = 6 ∨ j = 7 ∨ j = 8 ∨ j = 9 ∨ j = 10 by omega) with rfl | rfl | rfl | rfl | rfl | rfl | rfl | rfl | rfl | rfl | rfl <;> rfl
def RX6 : String := "LaneWarps"
def TX6 : u_T := fun k => match k with
  | 0 => ("LaneWarps", "tape", "[B", true)
  | 1 => ("LaneWarps", "bytes", "I", false)
  | 2 => ("LaneWarps", "reader", "LLaneWarps$Reader;", true)
  | 3 => ("LaneWarps", "current", "LLaneWarps$Program;", false)
  | 4 => ("LaneWarps", "spare", "LLaneWarps$Program;", false)
  | 5 => ("LaneWarps", "told", "Z", false)
  | 6 => ("LaneWarps", "now", "LLaneWarps$State;", true)
  | 7 => ("LaneWarps", "past", "[LLaneWarps$State;", true)
  | 8 => ("LaneWarps", "oldestAct", "I", false)
  | 9 => ("LaneWarps", "acts", "I", false)
  | 10 => ("LaneWarps", "machine", "LLaneWarps$Machine;", true)
  | 11 => ("LaneWarps", "forecast", "LLaneWarps$Forecast;", true)
  | 12 => ("LaneWarps", "refused", "[I", true)
  | _ => ("LaneWarps", "drawn", "J", false)
def tyX6 : Nat → FieldType := fun k => match k with
  | 0 => .array .byte
  | 1 => .int
  | 2 => .object "LaneWarps$Reader"
  | 3 => .object "LaneWarps$Program"
  | 4 => .object "LaneWarps$Program"
  | 5 => .boolean
  | 6 => .object "LaneWarps$State"
  | 7 => .array (.object "LaneWarps$State")
  | 8 => .int
  | 9 => .int
  | 10 => .object "LaneWarps$Machine"
  | 11 => .object "LaneWarps$Forecast"
  | 12 => .array .int
  | _ => .long
abbrev wsX60 : List Cond := u_ws RX6 TX6 14
theorem nmX6 : ∀ a, a < 14 → ∀ b, b < 14 → a ≠ b → (TX6 a).2.1 ≠ (TX6 b).2.1 := by decide +kernel
theorem tyX6_ok : ∀ k, k < 14 → parseFieldDescriptor (TX6 k).2.2.1 = some (tyX6 k) := by decide +kernel
theorem dvX6 : ∀ j, j < 14 → defaultValue (tyX6 j) = vp_V [.null, .int 0, .null, .null, .null, .int 0, .null, .null, .int 0, .int 0, .null, .null, .null, .long 0] j := fun j hj => by rcases (show j = 0 ∨ j = 1 ∨ j = 2 ∨ j = 3 ∨ j = 4 ∨ j = 5 ∨ j = 6 ∨ j = 7 ∨ j = 8 ∨ j = 9 ∨ j = 10 ∨ j = 11 ∨ j = 12 ∨ j = 13 by omega) with rfl | rfl | rfl | rfl | rfl | rfl | rfl | rfl | rfl | rfl | rfl | rfl | rfl | rfl <;> rfl
def RX7 : String := "LaneWarpsModel"
def TX7 : u_T := fun k => match k with
  | 0 => ("LaneWarpsModel", "tape", "[I", true)
  | 1 => ("LaneWarpsModel", "taped", "I", false)
  | 2 => ("LaneWarpsModel", "at", "I", false)
  | 3 => ("LaneWarpsModel", "end", "I", false)
  | 4 => ("LaneWarpsModel", "ended", "I", false)
  | 5 => ("LaneWarpsModel", "bad", "I", false)
  | 6 => ("LaneWarpsModel", "badPlace", "I", false)
  | 7 => ("LaneWarpsModel", "fault", "I", false)
  | 8 => ("LaneWarpsModel", "faultPlace", "I", false)
  | 9 => ("LaneWarpsModel", "refused", "[I", true)
  | 10 => ("LaneWarpsModel", "own", "[C", true)
  | 11 => ("LaneWarpsModel", "namePlace", "I", false)
  | 12 => ("LaneWarpsModel", "draft", "[I", true)
  | 13 => ("LaneWarpsModel", "program", "[I", true)
  | 14 => ("LaneWarpsModel", "goPlace", "[I", true)
  | 15 => ("LaneWarpsModel", "isTold", "Z", false)
  | 16 => ("LaneWarpsModel", "statements", "I", false)
  | 17 => ("LaneWarpsModel", "isCome", "[Z", true)
  | 18 => ("LaneWarpsModel", "heap", "[I", true)
  | 19 => ("LaneWarpsModel", "heapMany", "I", false)
  | 20 => ("LaneWarpsModel", "now", "[I", true)
  | 21 => ("LaneWarpsModel", "first", "[I", true)
  | 22 => ("LaneWarpsModel", "second", "[I", true)
  | 23 => ("LaneWarpsModel", "behind", "[I", true)
  | 24 => ("LaneWarpsModel", "states", "[I", true)
  | 25 => ("LaneWarpsModel", "how", "I", false)
  | 26 => ("LaneWarpsModel", "many", "I", false)
  | 27 => ("LaneWarpsModel", "round", "I", false)
  | 28 => ("LaneWarpsModel", "alone0", "[I", true)
  | 29 => ("LaneWarpsModel", "endsBy", "[I", true)
  | 30 => ("LaneWarpsModel", "kept0", "[I", true)
  | 31 => ("LaneWarpsModel", "undoable", "I", false)
  | 32 => ("LaneWarpsModel", "newest", "I", false)
  | _ => ("LaneWarpsModel", "seeded", "J", false)
def tyX7 : Nat → FieldType := fun k => match k with
  | 0 => .array .int
  | 1 => .int
  | 2 => .int
  | 3 => .int
  | 4 => .int
  | 5 => .int
  | 6 => .int
  | 7 => .int
  | 8 => .int
  | 9 => .array .int
  | 10 => .array .char
  | 11 => .int
  | 12 => .array .int
  | 13 => .array .int
  | 14 => .array .int
  | 15 => .boolean
  | 16 => .int
  | 17 => .array .boolean
  | 18 => .array .int
  | 19 => .int
  | 20 => .array .int
  | 21 => .array .int
  | 22 => .array .int
  | 23 => .array .int
  | 24 => .array .int
  | 25 => .int
  | 26 => .int
  | 27 => .int
  | 28 => .array .int
  | 29 => .array .int
  | 30 => .array .int
  | 31 => .int
  | 32 => .int
  | _ => .long
abbrev wsX70 : List Cond := u_ws RX7 TX7 34
theorem nmX7 : ∀ a, a < 34 → ∀ b, b < 34 → a ≠ b → (TX7 a).2.1 ≠ (TX7 b).2.1 := by decide +kernel
theorem tyX7_ok : ∀ k, k < 34 → parseFieldDescriptor (TX7 k).2.2.1 = some (tyX7 k) := by decide +kernel
theorem dvX7 : ∀ j, j < 34 → defaultValue (tyX7 j) = vp_V [.null, .int 0, .int 0, .int 0, .int 0, .int 0, .int 0, .int 0, .int 0, .null, .null, .int 0, .null, .null, .null, .int 0, .int 0, .null, .null, .int 0, .null, .null, .null, .null, .null, .int 0, .int 0, .int 0, .null, .null, .null, .int 0, .int 0, .long 0] j := fun j hj => by rcases (show j = 0 ∨ j = 1 ∨ j = 2 ∨ j = 3 ∨ j = 4 ∨ j = 5 ∨ j = 6 ∨ j = 7 ∨ j = 8 ∨ j = 9 ∨ j = 10 ∨ j = 11 ∨ j = 12 ∨ j = 13 ∨ j = 14 ∨ j = 15 ∨ j = 16 ∨ j = 17 ∨ j = 18 ∨ j = 19 ∨ j = 20 ∨ j = 21 ∨ j = 22 ∨ j = 23 ∨ j = 24 ∨ j = 25 ∨ j = 26 ∨ j = 27 ∨ j = 28 ∨ j = 29 ∨ j = 30 ∨ j = 31 ∨ j = 32 ∨ j = 33 by omega) with rfl | rfl | rfl | rfl | rfl | rfl | rfl | rfl | rfl | rfl | rfl | rfl | rfl | rfl | rfl | rfl | rfl | rfl | rfl | rfl | rfl | rfl | rfl | rfl | rfl | rfl | rfl | rfl | rfl | rfl | rfl | rfl | rfl | rfl <;> rfl
def RL : String := "LaneWarpsLaw"
abbrev cL_law : ByteArray := code
def RJ0 : String := "java/lang/String"
def RJ1 : String := "java/lang/StringLatin1"
def RJ3 : String := "jdk/internal/util/Preconditions"
def RJ6 : String := "java/lang/Integer"
def RJ7 : String := "java/util/Arrays"
def RJ9 : String := "java/lang/Math"
abbrev cJ0_charAt_5068e : ByteArray := prog_12_method_56_code
def yJ0_charAt_5068e : MethodName := ⟨RJ0, "charAt", "(I)C"⟩
abbrev cJ0_checkIndex_df160 : ByteArray := prog_12_method_155_code
def yJ0_checkIndex_df160 : MethodName := ⟨RJ0, "checkIndex", "(II)V"⟩
abbrev cJ0_coder_7d493 : ByteArray := prog_12_method_152_code
def yJ0_coder_7d493 : MethodName := ⟨RJ0, "coder", "()B"⟩
abbrev cJ0_isEmpty_aae02 : ByteArray := prog_12_method_55_code
def yJ0_isEmpty_aae02 : MethodName := ⟨RJ0, "isEmpty", "()Z"⟩
abbrev cJ0_isLatin1_aae02 : ByteArray := prog_12_method_154_code
def yJ0_isLatin1_aae02 : MethodName := ⟨RJ0, "isLatin1", "()Z"⟩
abbrev cJ0_length_8abf5 : ByteArray := prog_12_method_54_code
def yJ0_length_8abf5 : MethodName := ⟨RJ0, "length", "()I"⟩
abbrev cJ1_charAt_3b067 : ByteArray := prog_13_method_2_code
def yJ1_charAt_3b067 : MethodName := ⟨RJ1, "charAt", "([BI)C"⟩
abbrev cJ3_checkIndex_8e157 : ByteArray := prog_17_method_11_code
def yJ3_checkIndex_8e157 : MethodName := ⟨RJ3, "checkIndex", "(IILjava/util/function/BiFunction;)I"⟩
abbrev cJ6_bitCount_0f7a4 : ByteArray := prog_10_method_49_code
def yJ6_bitCount_0f7a4 : MethodName := ⟨RJ6, "bitCount", "(I)I"⟩
abbrev cJ7_fill_53178 : ByteArray := prog_16_method_103_code
def yJ7_fill_53178 : MethodName := ⟨RJ7, "fill", "([II)V"⟩
abbrev cJ9_floorMod_7cf53 : ByteArray := prog_11_method_50_code
def yJ9_floorMod_7cf53 : MethodName := ⟨RJ9, "floorMod", "(II)I"⟩
abbrev cX0_begun : ByteArray := prog_2_method_6_code
def yX0_begun : MethodName := ⟨RX0, "begun", "(III)LLaneWarps$State;"⟩
abbrev cX0_behind : ByteArray := prog_2_method_5_code
def yX0_behind : MethodName := ⟨RX0, "behind", "(LLaneWarps$State;I)LLaneWarps$State;"⟩
abbrev cX0_course : ByteArray := prog_2_method_7_code
def yX0_course : MethodName := ⟨RX0, "course", "(LLaneWarps$State;II)I"⟩
abbrev cX0_cyclesToRest : ByteArray := prog_2_method_8_code
def yX0_cyclesToRest : MethodName := ⟨RX0, "cyclesToRest", "(LLaneWarps$State;)I"⟩
abbrev cX0_cyclesWith : ByteArray := prog_2_method_12_code
def yX0_cyclesWith : MethodName := ⟨RX0, "cyclesWith", "(II)I"⟩
abbrev cX0_firstAgain : ByteArray := prog_2_method_10_code
def yX0_firstAgain : MethodName := ⟨RX0, "firstAgain", "(LLaneWarps$State;I)I"⟩
abbrev cX0_forgetAhead : ByteArray := prog_2_method_3_code
def yX0_forgetAhead : MethodName := ⟨RX0, "forgetAhead", "()V"⟩
abbrev cX0_roundFromHere : ByteArray := prog_2_method_9_code
def yX0_roundFromHere : MethodName := ⟨RX0, "roundFromHere", "()I"⟩
abbrev cX0_solo : ByteArray := prog_2_method_15_code
def yX0_solo : MethodName := ⟨RX0, "solo", "(III)I"⟩
abbrev cX0_take : ByteArray := prog_2_method_2_code
def yX0_take : MethodName := ⟨RX0, "take", "(LLaneWarps$Program;)V"⟩
abbrev cX0_tryBy : ByteArray := prog_2_method_4_code
def yX0_tryBy : MethodName := ⟨RX0, "tryBy", "(III)V"⟩
abbrev cX0_tryLane : ByteArray := prog_2_method_14_code
def yX0_tryLane : MethodName := ⟨RX0, "tryLane", "(II)V"⟩
abbrev cX0_tryWord : ByteArray := prog_2_method_11_code
def yX0_tryWord : MethodName := ⟨RX0, "tryWord", "(I)V"⟩
abbrev cX0_unlike : ByteArray := prog_2_method_13_code
def yX0_unlike : MethodName := ⟨RX0, "unlike", "(I)I"⟩
abbrev cX1_ask : ByteArray := prog_3_method_16_code
def yX1_ask : MethodName := ⟨RX1, "ask", "(II)V"⟩
abbrev cX1_bounded : ByteArray := prog_3_method_15_code
def yX1_bounded : MethodName := ⟨RX1, "bounded", "(I)I"⟩
abbrev cX1_foresee : ByteArray := prog_3_method_4_code
def yX1_foresee : MethodName := ⟨RX1, "foresee", "(LLaneWarps$State;)Z"⟩
abbrev cX1_goers : ByteArray := prog_3_method_17_code
def yX1_goers : MethodName := ⟨RX1, "goers", "()I"⟩
abbrev cX1_goesNow : ByteArray := prog_3_method_7_code
def yX1_goesNow : MethodName := ⟨RX1, "goesNow", "(I)Z"⟩
abbrev cX1_holds : ByteArray := prog_3_method_18_code
def yX1_holds : MethodName := ⟨RX1, "holds", "(I)Z"⟩
abbrev cX1_keepLine : ByteArray := prog_3_method_12_code
def yX1_keepLine : MethodName := ⟨RX1, "keepLine", "()V"⟩
abbrev cX1_lineBehind : ByteArray := prog_3_method_19_code
def yX1_lineBehind : MethodName := ⟨RX1, "lineBehind", "()I"⟩
abbrev cX1_measure : ByteArray := prog_3_method_9_code
def yX1_measure : MethodName := ⟨RX1, "measure", "()V"⟩
abbrev cX1_mostInOneBank : ByteArray := prog_3_method_11_code
def yX1_mostInOneBank : MethodName := ⟨RX1, "mostInOneBank", "()I"⟩
abbrev cX1_moveEach : ByteArray := prog_3_method_21_code
def yX1_moveEach : MethodName := ⟨RX1, "moveEach", "()V"⟩
abbrev cX1_moveTop : ByteArray := prog_3_method_20_code
def yX1_moveTop : MethodName := ⟨RX1, "moveTop", "()V"⟩
abbrev cX1_pickLanes : ByteArray := prog_3_method_6_code
def yX1_pickLanes : MethodName := ⟨RX1, "pickLanes", "()V"⟩
abbrev cX1_pickWarp : ByteArray := prog_3_method_5_code
def yX1_pickWarp : MethodName := ⟨RX1, "pickWarp", "()Z"⟩
abbrev cX1_result : ByteArray := prog_3_method_14_code
def yX1_result : MethodName := ⟨RX1, "result", "(II)I"⟩
abbrev cX1_segments : ByteArray := prog_3_method_10_code
def yX1_segments : MethodName := ⟨RX1, "segments", "()I"⟩
abbrev cX1_step : ByteArray := prog_3_method_3_code
def yX1_step : MethodName := ⟨RX1, "step", "(LLaneWarps$State;)Z"⟩
abbrev cX1_take : ByteArray := prog_3_method_2_code
def yX1_take : MethodName := ⟨RX1, "take", "(LLaneWarps$Program;)V"⟩
abbrev cX1_valueOf : ByteArray := prog_3_method_8_code
def yX1_valueOf : MethodName := ⟨RX1, "valueOf", "(II)I"⟩
abbrev cX1_work : ByteArray := prog_3_method_13_code
def yX1_work : MethodName := ⟨RX1, "work", "()V"⟩
abbrev cX2_addLine : ByteArray := prog_4_method_3_code
def yX2_addLine : MethodName := ⟨RX2, "addLine", "(I)V"⟩
abbrev cX2_clear : ByteArray := prog_4_method_2_code
def yX2_clear : MethodName := ⟨RX2, "clear", "()V"⟩
abbrev cX2_latest : ByteArray := prog_4_method_4_code
def yX2_latest : MethodName := ⟨RX2, "latest", "()[I"⟩
abbrev cX2_passedBehind : ByteArray := prog_4_method_7_code
def yX2_passedBehind : MethodName := ⟨RX2, "passedBehind", "(I)J"⟩
abbrev cX3_aimAll : ByteArray := prog_5_method_13_code
def yX3_aimAll : MethodName := ⟨RX3, "aimAll", "()Z"⟩
abbrev cX3_fail : ByteArray := prog_5_method_3_code
def yX3_fail : MethodName := ⟨RX3, "fail", "(II)Z"⟩
abbrev cX3_isDigit : ByteArray := prog_5_method_19_code
def yX3_isDigit : MethodName := ⟨RX3, "isDigit", "(I)Z"⟩
abbrev cX3_isLetter : ByteArray := prog_5_method_18_code
def yX3_isLetter : MethodName := ⟨RX3, "isLetter", "(I)Z"⟩
abbrev cX3_lineNamed : ByteArray := prog_5_method_14_code
def yX3_lineNamed : MethodName := ⟨RX3, "lineNamed", "(II)I"⟩
abbrev cX4_canGo : ByteArray := prog_6_method_8_code
def yX4_canGo : MethodName := ⟨RX4, "canGo", "(I)Z"⟩
abbrev cX4_copyFrom : ByteArray := prog_6_method_5_code
def yX4_copyFrom : MethodName := ⟨RX4, "copyFrom", "(LLaneWarps$State;)V"⟩
abbrev cX4_hasEnded : ByteArray := prog_6_method_9_code
def yX4_hasEnded : MethodName := ⟨RX4, "hasEnded", "()Z"⟩
abbrev cX4_hasNoneToGo : ByteArray := prog_6_method_10_code
def yX4_hasNoneToGo : MethodName := ⟨RX4, "hasNoneToGo", "()Z"⟩
abbrev cX4_isLike : ByteArray := prog_6_method_6_code
def yX4_isLike : MethodName := ⟨RX4, "isLike", "(LLaneWarps$State;)Z"⟩
abbrev cX4_lay : ByteArray := prog_6_method_2_code
def yX4_lay : MethodName := ⟨RX4, "lay", "(III)V"⟩
abbrev cX4_leaveAlone : ByteArray := prog_6_method_4_code
def yX4_leaveAlone : MethodName := ⟨RX4, "leaveAlone", "(III)V"⟩
abbrev cX4_living : ByteArray := prog_6_method_11_code
def yX4_living : MethodName := ⟨RX4, "living", "()I"⟩
abbrev cX4_passBarIfAllWait : ByteArray := prog_6_method_15_code
def yX4_passBarIfAllWait : MethodName := ⟨RX4, "passBarIfAllWait", "(I)V"⟩
abbrev cX4_racedWords : ByteArray := prog_6_method_13_code
def yX4_racedWords : MethodName := ⟨RX4, "racedWords", "()I"⟩
abbrev cX4_restOfReady : ByteArray := prog_6_method_7_code
def yX4_restOfReady : MethodName := ⟨RX4, "restOfReady", "(I)I"⟩
abbrev cX4_restart : ByteArray := prog_6_method_3_code
def yX4_restart : MethodName := ⟨RX4, "restart", "(LLaneWarps$Program;)V"⟩
abbrev cX4_touch : ByteArray := prog_6_method_14_code
def yX4_touch : MethodName := ⟨RX4, "touch", "(IIZ)V"⟩
abbrev cX4_waiting : ByteArray := prog_6_method_12_code
def yX4_waiting : MethodName := ⟨RX4, "waiting", "()I"⟩
abbrev cX5_copyFrom : ByteArray := prog_7_method_3_code
def yX5_copyFrom : MethodName := ⟨RX5, "copyFrom", "(LLaneWarps$Warp;)V"⟩
abbrev cX5_isLike : ByteArray := prog_7_method_4_code
def yX5_isLike : MethodName := ⟨RX5, "isLike", "(LLaneWarps$Warp;)Z"⟩
abbrev cX5_layPart : ByteArray := prog_7_method_7_code
def yX5_layPart : MethodName := ⟨RX5, "layPart", "(III)V"⟩
abbrev cX5_lineOf : ByteArray := prog_7_method_5_code
def yX5_lineOf : MethodName := ⟨RX5, "lineOf", "(II)I"⟩
abbrev cX5_movable : ByteArray := prog_7_method_6_code
def yX5_movable : MethodName := ⟨RX5, "movable", "(I)I"⟩
abbrev cX5_moveLane : ByteArray := prog_7_method_12_code
def yX5_moveLane : MethodName := ⟨RX5, "moveLane", "(III)V"⟩
abbrev cX5_moveTop : ByteArray := prog_7_method_8_code
def yX5_moveTop : MethodName := ⟨RX5, "moveTop", "(I)V"⟩
abbrev cX5_passBar : ByteArray := prog_7_method_13_code
def yX5_passBar : MethodName := ⟨RX5, "passBar", "(II)V"⟩
abbrev cX5_restart : ByteArray := prog_7_method_2_code
def yX5_restart : MethodName := ⟨RX5, "restart", "(III)V"⟩
abbrev cX5_settle : ByteArray := prog_7_method_11_code
def yX5_settle : MethodName := ⟨RX5, "settle", "(I)V"⟩
abbrev cX5_splitTop : ByteArray := prog_7_method_9_code
def yX5_splitTop : MethodName := ⟨RX5, "splitTop", "(IIIII)V"⟩
abbrev cX5_yieldTop : ByteArray := prog_7_method_10_code
def yX5_yieldTop : MethodName := ⟨RX5, "yieldTop", "()V"⟩
abbrev cX6_agrees : ByteArray := prog_1_method_20_code
def yX6_agrees : MethodName := ⟨RX6, "agrees", "()I"⟩
abbrev cX6_alone : ByteArray := prog_1_method_19_code
def yX6_alone : MethodName := ⟨RX6, "alone", "(III)I"⟩
abbrev cX6_areLike : ByteArray := prog_1_method_43_code
def yX6_areLike : MethodName := ⟨RX6, "areLike", "([I[I)Z"⟩
abbrev cX6_begin : ByteArray := prog_1_method_26_code
def yX6_begin : MethodName := ⟨RX6, "begin", "()Z"⟩
abbrev cX6_by : ByteArray := prog_1_method_17_code
def yX6_by : MethodName := ⟨RX6, "by", "(III)I"⟩
abbrev cX6_chance : ByteArray := prog_1_method_27_code
def yX6_chance : MethodName := ⟨RX6, "chance", "(I)I"⟩
abbrev cX6_cycles : ByteArray := prog_1_method_23_code
def yX6_cycles : MethodName := ⟨RX6, "cycles", "(I)I"⟩
abbrev cX6_draw : ByteArray := prog_1_method_42_code
def yX6_draw : MethodName := ⟨RX6, "draw", "(I)I"⟩
abbrev cX6_end : ByteArray := prog_1_method_3_code
def yX6_end : MethodName := ⟨RX6, "end", "(I)Z"⟩
abbrev cX6_fault : ByteArray := prog_1_method_5_code
def yX6_fault : MethodName := ⟨RX6, "fault", "(I)I"⟩
abbrev cX6_goes : ByteArray := prog_1_method_15_code
def yX6_goes : MethodName := ⟨RX6, "goes", "(I)I"⟩
abbrev cX6_has : ByteArray := prog_1_method_6_code
def yX6_has : MethodName := ⟨RX6, "has", "(I)I"⟩
abbrev cX6_hasLane : ByteArray := prog_1_method_34_code
def yX6_hasLane : MethodName := ⟨RX6, "hasLane", "(II)Z"⟩
abbrev cX6_hasWarp : ByteArray := prog_1_method_33_code
def yX6_hasWarp : MethodName := ⟨RX6, "hasWarp", "(I)Z"⟩
abbrev cX6_hasWord : ByteArray := prog_1_method_35_code
def yX6_hasWord : MethodName := ⟨RX6, "hasWord", "(ZI)Z"⟩
abbrev cX6_isAsAlone : ByteArray := prog_1_method_39_code
def yX6_isAsAlone : MethodName := ⟨RX6, "isAsAlone", "(II)Z"⟩
abbrev cX6_isMode : ByteArray := prog_1_method_37_code
def yX6_isMode : MethodName := ⟨RX6, "isMode", "(I)Z"⟩
abbrev cX6_isOrder : ByteArray := prog_1_method_38_code
def yX6_isOrder : MethodName := ⟨RX6, "isOrder", "(I)Z"⟩
abbrev cX6_keepForUndo : ByteArray := prog_1_method_40_code
def yX6_keepForUndo : MethodName := ⟨RX6, "keepForUndo", "()V"⟩
abbrev cX6_kept : ByteArray := prog_1_method_13_code
def yX6_kept : MethodName := ⟨RX6, "kept", "(II)I"⟩
abbrev cX6_lane : ByteArray := prog_1_method_8_code
def yX6_lane : MethodName := ⟨RX6, "lane", "(III)I"⟩
abbrev cX6_later : ByteArray := prog_1_method_16_code
def yX6_later : MethodName := ⟨RX6, "later", "(IIII)I"⟩
abbrev cX6_layout : ByteArray := prog_1_method_36_code
def yX6_layout : MethodName := ⟨RX6, "layout", "(III)I"⟩
abbrev cX6_likely : ByteArray := prog_1_method_21_code
def yX6_likely : MethodName := ⟨RX6, "likely", "(III)I"⟩
abbrev cX6_line : ByteArray := prog_1_method_7_code
def yX6_line : MethodName := ⟨RX6, "line", "(II)I"⟩
abbrev cX6_next : ByteArray := prog_1_method_14_code
def yX6_next : MethodName := ⟨RX6, "next", "(I)I"⟩
abbrev cX6_part : ByteArray := prog_1_method_10_code
def yX6_part : MethodName := ⟨RX6, "part", "(III)I"⟩
abbrev cX6_poke : ByteArray := prog_1_method_24_code
def yX6_poke : MethodName := ⟨RX6, "poke", "(ZII)I"⟩
abbrev cX6_raced : ByteArray := prog_1_method_12_code
def yX6_raced : MethodName := ⟨RX6, "raced", "(ZI)I"⟩
abbrev cX6_refuse : ByteArray := prog_1_method_31_code
def yX6_refuse : MethodName := ⟨RX6, "refuse", "(I)I"⟩
abbrev cX6_run : ByteArray := prog_1_method_41_code
def yX6_run : MethodName := ⟨RX6, "run", "(I)I"⟩
abbrev cX6_seed : ByteArray := prog_1_method_29_code
def yX6_seed : MethodName := ⟨RX6, "seed", "(I)Z"⟩
abbrev cX6_set : ByteArray := prog_1_method_25_code
def yX6_set : MethodName := ⟨RX6, "set", "(III)Z"⟩
abbrev cX6_skew : ByteArray := prog_1_method_18_code
def yX6_skew : MethodName := ⟨RX6, "skew", "(I)I"⟩
abbrev cX6_status : ByteArray := prog_1_method_30_code
def yX6_status : MethodName := ⟨RX6, "status", "(I)I"⟩
abbrev cX6_tells : ByteArray := prog_1_method_22_code
def yX6_tells : MethodName := ⟨RX6, "tells", "(I)I"⟩
abbrev cX6_undo : ByteArray := prog_1_method_28_code
def yX6_undo : MethodName := ⟨RX6, "undo", "()Z"⟩
abbrev cX6_warp : ByteArray := prog_1_method_9_code
def yX6_warp : MethodName := ⟨RX6, "warp", "(II)I"⟩
abbrev cX6_word : ByteArray := prog_1_method_11_code
def yX6_word : MethodName := ⟨RX6, "word", "(ZI)I"⟩
abbrev vwCl : List vw_C := [(RX0, TX0, 14), (RX1, TX1, 12), (RX2, TX2, 7), (RX3, TX3, 15), (RX4, TX4, 15), (RX5, TX5, 11), (RX6, TX6, 14), (RX7, TX7, 34)]
def Tc0 : List Cond := [Cond.code yX5_layPart cX5_layPart 4 none, Cond.code yX5_moveTop cX5_moveTop 2 none, Cond.code yX5_settle cX5_settle 6 none, Cond.code yX5_moveLane cX5_moveLane 4 none, Cond.code yJ7_fill_53178 cJ7_fill_53178 4 none, Cond.code yX6_areLike cX6_areLike 3 (some .boolean), Cond.code yX5_restart cX5_restart 4 none, Cond.code yX4_lay cX4_lay 4 none, Cond.code yX5_copyFrom cX5_copyFrom 2 none, Cond.code Lib.Math.max.name Lib.Math.max.code 2 (some .int), Cond.code yX4_restOfReady cX4_restOfReady 2 (some .int), Cond.code yX5_isLike cX5_isLike 3 (some .boolean), Cond.code yX5_movable cX5_movable 3 (some .int), Cond.code yJ6_bitCount_0f7a4 cJ6_bitCount_0f7a4 1 (some .int), Cond.code yX5_passBar cX5_passBar 5 none, Cond.code yX1_goesNow cX1_goesNow 2 (some .boolean), Cond.code yX4_canGo cX4_canGo 2 (some .boolean), Cond.code yX1_segments cX1_segments 3 (some .int), Cond.code yX1_mostInOneBank cX1_mostInOneBank 6 (some .int), Cond.code yX1_valueOf cX1_valueOf 3 (some .int), Cond.code yJ9_floorMod_7cf53 cJ9_floorMod_7cf53 3 (some .int), Cond.code yX1_holds cX1_holds 4 (some .boolean), Cond.code Lib.Math.min.name Lib.Math.min.code 2 (some .int), Cond.code yX1_goers cX1_goers 3 (some .int), Cond.code yX5_splitTop cX5_splitTop 7 none]
def Tc1 : List Cond := [Cond.code yX1_lineBehind cX1_lineBehind 1 (some .int), Cond.code yX5_yieldTop cX5_yieldTop 5 none, Cond.code yX1_take cX1_take 2 none, Cond.code yX0_cyclesWith cX0_cyclesWith 3 (some .int), Cond.code yX6_hasWarp cX6_hasWarp 2 (some .boolean), Cond.code yX6_refuse cX6_refuse 2 (some .int), Cond.code yX4_living cX4_living 3 (some .int), Cond.code yX4_waiting cX4_waiting 3 (some .int), Cond.code yX4_racedWords cX4_racedWords 3 (some .int), Cond.code yX6_hasLane cX6_hasLane 3 (some .boolean), Cond.code yX5_lineOf cX5_lineOf 5 (some .int), Cond.code yX6_hasWord cX6_hasWord 3 (some .boolean), Cond.code yX1_pickWarp cX1_pickWarp 4 (some .boolean), Cond.code yX1_pickLanes cX1_pickLanes 3 none, Cond.code yX1_measure cX1_measure 4 none, Cond.code yX4_touch cX4_touch 4 none, Cond.code yX1_ask cX1_ask 8 none, Cond.code yX1_result cX1_result 5 (some .int), Cond.code yX1_bounded cX1_bounded 1 (some .int), Cond.code yX1_foresee cX1_foresee 2 (some .boolean), Cond.code yX1_keepLine cX1_keepLine 2 none, Cond.code yX1_work cX1_work 3 none, Cond.code yX1_moveEach cX1_moveEach 4 none, Cond.code yX1_moveTop cX1_moveTop 2 none, Cond.code yX4_passBarIfAllWait cX4_passBarIfAllWait 5 none]
def Tc2 : List Cond := [Cond.code yX4_copyFrom cX4_copyFrom 3 none, Cond.code yX1_step cX1_step 3 (some .boolean), Cond.code yX4_restart cX4_restart 3 none, Cond.code yX4_hasNoneToGo cX4_hasNoneToGo 3 (some .boolean), Cond.code yX4_isLike cX4_isLike 3 (some .boolean), Cond.code yX0_cyclesToRest cX0_cyclesToRest 3 (some .int), Cond.code yX4_hasEnded cX4_hasEnded 3 (some .boolean), Cond.code yX0_roundFromHere cX0_roundFromHere 2 (some .int), Cond.code yX0_firstAgain cX0_firstAgain 4 (some .int), Cond.code yX0_begun cX0_begun 4 (some (.object "LaneWarps$State")), Cond.code yX4_leaveAlone cX4_leaveAlone 5 none, Cond.code yX0_course cX0_course 7 (some .int), Cond.code yX0_behind cX0_behind 4 (some (.object "LaneWarps$State")), Cond.code yX6_isMode cX6_isMode 1 (some .boolean), Cond.code yX6_isOrder cX6_isOrder 1 (some .boolean), Cond.code yX6_layout cX6_layout 3 (some .int), Cond.code yX0_tryBy cX0_tryBy 4 none, Cond.code yX0_tryLane cX0_tryLane 8 none, Cond.code yX0_solo cX0_solo 4 (some .int), Cond.code yX6_isAsAlone cX6_isAsAlone 4 (some .boolean), Cond.code yX0_tryWord cX0_tryWord 6 none, Cond.code yX0_unlike cX0_unlike 6 (some .int), Cond.code yX0_forgetAhead cX0_forgetAhead 1 none, Cond.code yX6_keepForUndo cX6_keepForUndo 1 none, Cond.code yX6_run cX6_run 4 (some .int)]
def Tc3 : List Cond := [Cond.code yX6_draw cX6_draw 2 (some .int), Cond.code yJ3_checkIndex_8e157 cJ3_checkIndex_8e157 3 (some .int), Cond.code yJ0_coder_7d493 cJ0_coder_7d493 1 (some .byte), Cond.code yJ0_checkIndex_df160 cJ0_checkIndex_df160 2 none, Cond.code yJ0_isLatin1_aae02 cJ0_isLatin1_aae02 1 (some .boolean), Cond.code yJ1_charAt_3b067 cJ1_charAt_3b067 2 (some .char), Cond.code yX3_lineNamed cX3_lineNamed 7 (some .int), Cond.code yX3_fail cX3_fail 3 (some .boolean)]
def Tc4 : List Cond := [Cond.constant RJ6 265 (1431655765), Cond.constant RJ6 266 (858993459), Cond.constant RJ6 267 (252645135), Cond.fieldLink RX5 33 "LaneWarps$Warp" "lives" "I", Cond.fieldLink RX5 37 "LaneWarps$Warp" "waits" "I", Cond.fieldLink RX5 49 "LaneWarps$Warp" "parts" "I", Cond.fieldLink RX5 24 "LaneWarps$Warp" "partLanes" "[I", Cond.fieldLink RX5 18 "LaneWarps$Warp" "partLine" "[I", Cond.fieldLink RX5 21 "LaneWarps$Warp" "partMeets" "[I", Cond.fieldLink RX5 15 "LaneWarps$Warp" "lines" "[I", Cond.initialized RX5, Cond.methodLink RX5 52 yX5_layPart, Cond.instanceMethod yX5_layPart, Cond.selects RX5 yX5_layPart yX5_layPart, Cond.methodLink RX5 66 yX5_moveTop, Cond.instanceMethod yX5_moveTop, Cond.selects RX5 yX5_moveTop yX5_moveTop, Cond.methodLink RX5 70 yX5_settle, Cond.instanceMethod yX5_settle, Cond.selects RX5 yX5_settle yX5_settle, Cond.methodLink RX5 73 yX5_moveLane, Cond.instanceMethod yX5_moveLane, Cond.selects RX5 yX5_moveLane yX5_moveLane, Cond.fieldLink RX5 9 "LaneWarps$Warp" "registers" "[I", Cond.initialized RJ7, Cond.methodLink RX5 27 yJ7_fill_53178, Cond.static yJ7_fill_53178, Cond.fieldLink RX5 40 "LaneWarps$Warp" "ready" "I", Cond.fieldLink RX5 43 "LaneWarps$Warp" "done" "I", Cond.fieldLink RX5 46 "LaneWarps$Warp" "turn" "I", Cond.methodLink RX5 56 arraycopyName, Cond.native arraycopyName, Cond.static arraycopyName, Cond.initialized "java/lang/System", Cond.initialized RX6, Cond.static yX6_areLike, Cond.fieldLink RX4 41 "LaneWarps$State" "mode" "I", Cond.fieldLink RX4 44 "LaneWarps$State" "order" "I", Cond.fieldLink RX4 47 "LaneWarps$State" "skew" "I", Cond.fieldLink RX4 54 "LaneWarps$State" "used" "I"]
def Tc5 : List Cond := [Cond.fieldLink RX4 17 "LaneWarps$State" "far" "[I", Cond.methodLink RX4 58 arraycopyName, Cond.fieldLink RX4 21 "LaneWarps$State" "near" "[I", Cond.methodLink RX4 64 yJ7_fill_53178, Cond.fieldLink RX4 24 "LaneWarps$State" "touched" "[I", Cond.fieldLink RX4 27 "LaneWarps$State" "wrote" "[I", Cond.fieldLink RX4 30 "LaneWarps$State" "raced" "[I", Cond.fieldLink RX4 70 "LaneWarps$State" "cycle" "I", Cond.fieldLink RX4 73 "LaneWarps$State" "done" "I", Cond.fieldLink RX4 76 "LaneWarps$State" "epochs" "I", Cond.fieldLink RX4 36 "LaneWarps$State" "last" "I", Cond.fieldLink RX4 11 "LaneWarps$State" "warps" "[LLaneWarps$Warp;", Cond.methodLink RX4 82 yX5_restart, Cond.instanceMethod yX5_restart, Cond.selects RX5 yX5_restart yX5_restart, Cond.initialized RX4, Cond.methodLink RX4 86 yX4_lay, Cond.instanceMethod yX4_lay, Cond.selects RX4 yX4_lay yX4_lay, Cond.fieldLink RX4 33 "LaneWarps$State" "kept" "[I", Cond.methodLink RX4 89 yX5_copyFrom, Cond.instanceMethod yX5_copyFrom, Cond.selects RX5 yX5_copyFrom yX5_copyFrom, Cond.methodLink RX4 108 Lib.Math.max.name, Cond.static Lib.Math.max.name, Cond.initialized "java/lang/Math", Cond.methodLink RX4 93 yX4_restOfReady, Cond.instanceMethod yX4_restOfReady, Cond.selects RX4 yX4_restOfReady yX4_restOfReady, Cond.methodLink RX4 97 yX5_isLike, Cond.instanceMethod yX5_isLike, Cond.selects RX5 yX5_isLike yX5_isLike, Cond.methodLink RX4 114 yX5_movable, Cond.instanceMethod yX5_movable, Cond.selects RX5 yX5_movable yX5_movable, Cond.initialized RJ6, Cond.methodLink RX4 120 yJ6_bitCount_0f7a4, Cond.static yJ6_bitCount_0f7a4, Cond.methodLink RX4 128 yX5_passBar, Cond.instanceMethod yX5_passBar]
def Tc6 : List Cond := [Cond.selects RX5 yX5_passBar yX5_passBar, Cond.fieldLink RX1 18 "LaneWarps$Machine" "program" "LLaneWarps$Program;", Cond.fieldLink RX1 116 "LaneWarps$Machine" "lanes" "I", Cond.methodLink RX1 151 yJ6_bitCount_0f7a4, Cond.initialized RX1, Cond.methodLink RX1 142 yX1_goesNow, Cond.instanceMethod yX1_goesNow, Cond.selects RX1 yX1_goesNow yX1_goesNow, Cond.fieldLink RX1 9 "LaneWarps$Machine" "addresses" "[I", Cond.fieldLink RX1 68 "LaneWarps$Machine" "state" "LLaneWarps$State;", Cond.methodLink RX1 101 yX4_canGo, Cond.instanceMethod yX4_canGo, Cond.selects RX4 yX4_canGo yX4_canGo, Cond.fieldLink RX1 105 "LaneWarps$Machine" "warp" "I", Cond.fieldLink RX1 29 "LaneWarps$Machine" "mover" "LLaneWarps$Warp;", Cond.methodLink RX1 112 yX5_movable, Cond.fieldLink RX1 134 "LaneWarps$Machine" "leader" "I", Cond.methodLink RX1 125 Lib.Math.max.name, Cond.fieldLink RX1 79 "LaneWarps$Machine" "line" "I", Cond.fieldLink RX1 15 "LaneWarps$Machine" "inBank" "[I", Cond.methodLink RX1 163 yJ7_fill_53178, Cond.fieldLink RX1 86 "LaneWarps$Machine" "row" "[I", Cond.fieldLink RX1 39 "LaneWarps$Machine" "takes" "I", Cond.methodLink RX1 160 yX1_segments, Cond.instanceMethod yX1_segments, Cond.selects RX1 yX1_segments yX1_segments, Cond.methodLink RX1 156 yX1_mostInOneBank, Cond.instanceMethod yX1_mostInOneBank, Cond.selects RX1 yX1_mostInOneBank yX1_mostInOneBank, Cond.methodLink RX1 145 yX1_valueOf, Cond.instanceMethod yX1_valueOf, Cond.selects RX1 yX1_valueOf yX1_valueOf, Cond.initialized RJ9, Cond.methodLink RX1 148 yJ9_floorMod_7cf53, Cond.static yJ9_floorMod_7cf53, Cond.methodLink RX1 206 yX1_holds, Cond.instanceMethod yX1_holds, Cond.selects RX1 yX1_holds yX1_holds, Cond.methodLink RX1 189 Lib.Math.min.name, Cond.static Lib.Math.min.name]
def Tc7 : List Cond := [Cond.methodLink RX1 212 yX1_goers, Cond.instanceMethod yX1_goers, Cond.selects RX1 yX1_goers yX1_goers, Cond.methodLink RX1 220 yX5_splitTop, Cond.instanceMethod yX5_splitTop, Cond.selects RX5 yX5_splitTop yX5_splitTop, Cond.methodLink RX1 218 yX5_moveTop, Cond.methodLink RX1 215 yX1_lineBehind, Cond.instanceMethod yX1_lineBehind, Cond.selects RX1 yX1_lineBehind yX1_lineBehind, Cond.methodLink RX1 224 yX5_yieldTop, Cond.instanceMethod yX5_yieldTop, Cond.selects RX5 yX5_yieldTop yX5_yieldTop, Cond.methodLink RX1 227 yX5_settle, Cond.methodLink RX1 230 yX5_moveLane, Cond.fieldLink RX2 16 "LaneWarps$Program" "far" "[I", Cond.methodLink RX2 24 yJ7_fill_53178, Cond.fieldLink RX2 30 "LaneWarps$Program" "lines" "I", Cond.fieldLink RX2 34 "LaneWarps$Program" "warps" "I", Cond.fieldLink RX2 37 "LaneWarps$Program" "mode" "I", Cond.fieldLink RX2 40 "LaneWarps$Program" "order" "I", Cond.fieldLink RX2 11 "LaneWarps$Program" "rows" "[[I", Cond.methodLink RX2 44 Lib.Math.max.name, Cond.fieldLink RX0 49 "LaneWarps$Forecast" "coursesKnown" "I", Cond.constant RX0 60 (-65537), Cond.fieldLink RX0 61 "LaneWarps$Forecast" "mode" "I", Cond.fieldLink RX0 64 "LaneWarps$Forecast" "order" "I", Cond.fieldLink RX0 67 "LaneWarps$Forecast" "skew" "I", Cond.fieldLink RX0 53 "LaneWarps$Forecast" "endsKnown" "J", Cond.fieldLink RX0 57 "LaneWarps$Forecast" "solosKnown" "I", Cond.fieldLink RX0 41 "LaneWarps$Forecast" "program" "LLaneWarps$Program;", Cond.fieldLink RX0 12 "LaneWarps$Forecast" "machine" "LLaneWarps$Machine;", Cond.methodLink RX0 45 yX1_take, Cond.instanceMethod yX1_take, Cond.selects RX1 yX1_take yX1_take, Cond.fieldLink RX0 35 "LaneWarps$Forecast" "ends" "[I", Cond.initialized RX0, Cond.methodLink RX0 117 yX0_cyclesWith, Cond.instanceMethod yX0_cyclesWith, Cond.selects RX0 yX0_cyclesWith yX0_cyclesWith]
def Tc8 : List Cond := [Cond.fieldLink RX0 38 "LaneWarps$Forecast" "solos" "[I", Cond.fieldLink RX6 55 "LaneWarps" "refused" "[I", Cond.fieldLink RX6 87 "LaneWarps" "told" "Z", Cond.fieldLink RX6 23 "LaneWarps" "current" "LLaneWarps$Program;", Cond.methodLink RX6 181 yX6_hasWarp, Cond.instanceMethod yX6_hasWarp, Cond.selects RX6 yX6_hasWarp yX6_hasWarp, Cond.fieldLink RX6 68 "LaneWarps" "bytes" "I", Cond.methodLink RX6 72 yX6_refuse, Cond.instanceMethod yX6_refuse, Cond.selects RX6 yX6_refuse yX6_refuse, Cond.fieldLink RX6 16 "LaneWarps" "reader" "LLaneWarps$Reader;", Cond.fieldLink RX6 33 "LaneWarps" "now" "LLaneWarps$State;", Cond.methodLink RX6 125 yX4_living, Cond.instanceMethod yX4_living, Cond.selects RX4 yX4_living yX4_living, Cond.methodLink RX6 129 yX4_waiting, Cond.instanceMethod yX4_waiting, Cond.selects RX4 yX4_waiting yX4_waiting, Cond.methodLink RX6 132 yX4_racedWords, Cond.instanceMethod yX4_racedWords, Cond.selects RX4 yX4_racedWords yX4_racedWords, Cond.methodLink RX6 135 Lib.Math.min.name, Cond.fieldLink RX6 104 "LaneWarps" "acts" "I", Cond.methodLink RX6 152 Lib.Math.max.name, Cond.constant RX6 155 (-1000000), Cond.methodLink RX6 160 yX6_hasLane, Cond.instanceMethod yX6_hasLane, Cond.selects RX6 yX6_hasLane yX6_hasLane, Cond.methodLink RX6 175 yX5_lineOf, Cond.instanceMethod yX5_lineOf, Cond.selects RX5 yX5_lineOf yX5_lineOf, Cond.methodLink RX6 195 yX4_canGo, Cond.methodLink RX6 207 yX6_hasWord, Cond.instanceMethod yX6_hasWord, Cond.selects RX6 yX6_hasWord yX6_hasWord, Cond.fieldLink RX6 59 "LaneWarps" "drawn" "J", Cond.methodLink RX1 72 yX1_pickWarp, Cond.instanceMethod yX1_pickWarp, Cond.selects RX1 yX1_pickWarp yX1_pickWarp]
def Tc9 : List Cond := [Cond.methodLink RX1 76 yX1_pickLanes, Cond.instanceMethod yX1_pickLanes, Cond.selects RX1 yX1_pickLanes yX1_pickLanes, Cond.methodLink RX1 89 yX1_measure, Cond.instanceMethod yX1_measure, Cond.selects RX1 yX1_measure yX1_measure, Cond.methodLink RX1 202 yX4_touch, Cond.instanceMethod yX4_touch, Cond.selects RX4 yX4_touch yX4_touch, Cond.fieldLink RX1 198 "LaneWarps$Machine" "loaded" "J", Cond.methodLink RX1 185 yX1_ask, Cond.instanceMethod yX1_ask, Cond.selects RX1 yX1_ask yX1_ask, Cond.methodLink RX1 179 yX1_result, Cond.instanceMethod yX1_result, Cond.selects RX1 yX1_result yX1_result, Cond.methodLink RX1 182 yX1_bounded, Cond.static yX1_bounded, Cond.methodLink RX1 22 yX1_foresee, Cond.instanceMethod yX1_foresee, Cond.selects RX1 yX1_foresee yX1_foresee, Cond.methodLink RX1 26 yX1_keepLine, Cond.instanceMethod yX1_keepLine, Cond.selects RX1 yX1_keepLine yX1_keepLine, Cond.methodLink RX1 47 yX1_work, Cond.instanceMethod yX1_work, Cond.selects RX1 yX1_work yX1_work, Cond.methodLink RX1 56 yX1_moveEach, Cond.instanceMethod yX1_moveEach, Cond.selects RX1 yX1_moveEach yX1_moveEach, Cond.methodLink RX1 53 yX1_moveTop, Cond.instanceMethod yX1_moveTop, Cond.selects RX1 yX1_moveTop yX1_moveTop, Cond.methodLink RX1 64 yX4_passBarIfAllWait, Cond.instanceMethod yX4_passBarIfAllWait, Cond.selects RX4 yX4_passBarIfAllWait yX4_passBarIfAllWait, Cond.fieldLink RX0 25 "LaneWarps$Forecast" "scout" "LLaneWarps$State;", Cond.methodLink RX0 70 yX4_copyFrom, Cond.instanceMethod yX4_copyFrom, Cond.selects RX4 yX4_copyFrom yX4_copyFrom]
def Tc10 : List Cond := [Cond.methodLink RX0 74 yX1_step, Cond.instanceMethod yX1_step, Cond.selects RX1 yX1_step yX1_step, Cond.fieldLink RX0 21 "LaneWarps$Forecast" "origin" "LLaneWarps$State;", Cond.methodLink RX0 78 yX4_lay, Cond.methodLink RX0 82 yX4_restart, Cond.instanceMethod yX4_restart, Cond.selects RX4 yX4_restart yX4_restart, Cond.methodLink RX0 101 yX4_hasNoneToGo, Cond.instanceMethod yX4_hasNoneToGo, Cond.selects RX4 yX4_hasNoneToGo yX4_hasNoneToGo, Cond.fieldLink RX0 28 "LaneWarps$Forecast" "trail" "LLaneWarps$State;", Cond.methodLink RX0 104 yX4_isLike, Cond.instanceMethod yX4_isLike, Cond.selects RX4 yX4_isLike yX4_isLike, Cond.methodLink RX0 85 yX0_cyclesToRest, Cond.instanceMethod yX0_cyclesToRest, Cond.selects RX0 yX0_cyclesToRest yX0_cyclesToRest, Cond.fieldLink RX0 31 "LaneWarps$Forecast" "courses" "[I", Cond.methodLink RX0 89 yX4_hasEnded, Cond.instanceMethod yX4_hasEnded, Cond.selects RX4 yX4_hasEnded yX4_hasEnded, Cond.methodLink RX0 93 yX0_roundFromHere, Cond.instanceMethod yX0_roundFromHere, Cond.selects RX0 yX0_roundFromHere yX0_roundFromHere, Cond.methodLink RX0 97 yX0_firstAgain, Cond.instanceMethod yX0_firstAgain, Cond.selects RX0 yX0_firstAgain yX0_firstAgain, Cond.methodLink RX0 107 yX0_begun, Cond.instanceMethod yX0_begun, Cond.selects RX0 yX0_begun yX0_begun, Cond.methodLink RX0 126 yX4_leaveAlone, Cond.instanceMethod yX4_leaveAlone, Cond.selects RX4 yX4_leaveAlone yX4_leaveAlone, Cond.constant RX0 138 (-1000000), Cond.fieldLink RX6 44 "LaneWarps" "machine" "LLaneWarps$Machine;", Cond.methodLink RX6 223 yX1_foresee, Cond.fieldLink RX6 51 "LaneWarps" "forecast" "LLaneWarps$Forecast;", Cond.methodLink RX6 239 yX0_course, Cond.instanceMethod yX0_course]
def Tc11 : List Cond := [Cond.selects RX0 yX0_course yX0_course, Cond.methodLink RX6 243 yX0_behind, Cond.instanceMethod yX0_behind, Cond.selects RX0 yX0_behind yX0_behind, Cond.methodLink RX6 247 yX6_isMode, Cond.static yX6_isMode, Cond.methodLink RX6 250 yX6_isOrder, Cond.static yX6_isOrder, Cond.methodLink RX6 253 yX0_begun, Cond.methodLink RX6 257 yX6_layout, Cond.static yX6_layout, Cond.methodLink RX6 261 yX0_tryBy, Cond.instanceMethod yX0_tryBy, Cond.selects RX0 yX0_tryBy yX0_tryBy, Cond.methodLink RX6 264 yX0_tryLane, Cond.instanceMethod yX0_tryLane, Cond.selects RX0 yX0_tryLane yX0_tryLane, Cond.methodLink RX6 268 yX0_solo, Cond.instanceMethod yX0_solo, Cond.selects RX0 yX0_solo yX0_solo, Cond.methodLink RX6 271 yX6_isAsAlone, Cond.instanceMethod yX6_isAsAlone, Cond.selects RX6 yX6_isAsAlone yX6_isAsAlone, Cond.methodLink RX6 274 yX0_tryWord, Cond.instanceMethod yX0_tryWord, Cond.selects RX0 yX0_tryWord yX0_tryWord, Cond.methodLink RX6 277 yX0_cyclesWith, Cond.methodLink RX6 280 yX0_unlike, Cond.instanceMethod yX0_unlike, Cond.selects RX0 yX0_unlike yX0_unlike, Cond.fieldLink RX6 292 "LaneWarps" "oldestAct" "I", Cond.fieldLink RX6 37 "LaneWarps" "past" "[LLaneWarps$State;", Cond.methodLink RX6 295 yX4_copyFrom, Cond.methodLink RX6 299 yX0_forgetAhead, Cond.instanceMethod yX0_forgetAhead, Cond.selects RX0 yX0_forgetAhead yX0_forgetAhead, Cond.methodLink RX6 302 yX1_step, Cond.constantLong RX6 305 (1103515245), Cond.constantLong RX6 307 (12345), Cond.constantLong RX6 309 (2147483647)]
def Tc12 : List Cond := [Cond.constantLong RX6 311 (64), Cond.methodLink RX6 283 yX6_keepForUndo, Cond.instanceMethod yX6_keepForUndo, Cond.selects RX6 yX6_keepForUndo yX6_keepForUndo, Cond.methodLink RX6 286 yX6_run, Cond.instanceMethod yX6_run, Cond.selects RX6 yX6_run yX6_run, Cond.methodLink RX6 97 yX4_lay, Cond.methodLink RX6 101 yX4_restart, Cond.methodLink RX6 289 yX6_draw, Cond.instanceMethod yX6_draw, Cond.selects RX6 yX6_draw yX6_draw, Cond.fieldLink RJ0 1053 "jdk/internal/util/Preconditions" "SIOOBE_FORMATTER" "Ljava/util/function/BiFunction;", Cond.initialized RJ3, Cond.methodLink RJ0 1059 yJ3_checkIndex_8e157, Cond.static yJ3_checkIndex_8e157, Cond.fieldLink RJ0 38 "java/lang/String" "COMPACT_STRINGS" "Z", Cond.fieldLink RJ0 15 "java/lang/String" "coder" "B", Cond.fieldLink RJ0 9 "java/lang/String" "value" "[B", Cond.initialized RJ0, Cond.methodLink RJ0 335 yJ0_coder_7d493, Cond.instanceMethod yJ0_coder_7d493, Cond.selects RJ0 yJ0_coder_7d493 yJ0_coder_7d493, Cond.methodLink RJ1 9 yJ0_checkIndex_df160, Cond.static yJ0_checkIndex_df160, Cond.methodLink RJ0 492 yJ0_isLatin1_aae02, Cond.instanceMethod yJ0_isLatin1_aae02, Cond.selects RJ0 yJ0_isLatin1_aae02 yJ0_isLatin1_aae02, Cond.initialized RJ1, Cond.methodLink RJ0 495 yJ1_charAt_3b067, Cond.static yJ1_charAt_3b067, Cond.fieldLink RX3 50 "LaneWarps$Reader" "fault" "I", Cond.fieldLink RX3 24 "LaneWarps$Reader" "place" "I", Cond.fieldLink RX3 35 "LaneWarps$Reader" "into" "LLaneWarps$Program;", Cond.fieldLink RX3 9 "LaneWarps$Reader" "nameAt" "[I", Cond.fieldLink RX3 15 "LaneWarps$Reader" "nameEnd" "[I", Cond.fieldLink RX3 28 "LaneWarps$Reader" "text" "[B", Cond.fieldLink RX3 18 "LaneWarps$Reader" "aimAt" "[I", Cond.fieldLink RX3 21 "LaneWarps$Reader" "aimEnd" "[I", Cond.initialized RX3]
def Tc13 : List Cond := [Cond.methodLink RX3 103 yX3_lineNamed, Cond.instanceMethod yX3_lineNamed, Cond.selects RX3 yX3_lineNamed yX3_lineNamed, Cond.methodLink RX3 63 yX3_fail, Cond.instanceMethod yX3_fail, Cond.selects RX3 yX3_fail yX3_fail, Cond.constant RX2 43 (-1000000), Cond.fieldLink RX2 20 "LaneWarps$Program" "passed" "[J"]
/-- the words that the walks need, one list for all -/
def T0w : List Cond := Tc0 ++ (Tc1 ++ (Tc2 ++ (Tc3 ++ (Tc4 ++ (Tc5 ++ (Tc6 ++ (Tc7 ++ (Tc8 ++ (Tc9 ++ (Tc10 ++ (Tc11 ++ (Tc12 ++ (Tc13)))))))))))))
def T0 : List Cond := T0w ++ (wsX00 ++ (wsX10 ++ (wsX20 ++ (wsX30 ++ (wsX40 ++ (wsX50 ++ (wsX60 ++ (wsX70))))))))
theorem ax_c0 : ∀ w ∈ Tc0, w ∈ T0 := fun _ h => List.mem_append_left _ (List.mem_append_left _ h)
theorem T_10 : Cond.code yX5_layPart cX5_layPart 4 none ∈ T0 := ax_c0 _ (List.mem_of_getElem? (i := 0) rfl)
theorem T_15 : Cond.code yX5_moveTop cX5_moveTop 2 none ∈ T0 := ax_c0 _ (List.mem_of_getElem? (i := 1) rfl)
theorem T_19 : Cond.code yX5_settle cX5_settle 6 none ∈ T0 := ax_c0 _ (List.mem_of_getElem? (i := 2) rfl)
theorem T_23 : Cond.code yX5_moveLane cX5_moveLane 4 none ∈ T0 := ax_c0 _ (List.mem_of_getElem? (i := 3) rfl)
theorem T_28 : Cond.code yJ7_fill_53178 cJ7_fill_53178 4 none ∈ T0 := ax_c0 _ (List.mem_of_getElem? (i := 4) rfl)
theorem T_39 : Cond.code yX6_areLike cX6_areLike 3 (some .boolean) ∈ T0 := ax_c0 _ (List.mem_of_getElem? (i := 5) rfl)
theorem T_58 : Cond.code yX5_restart cX5_restart 4 none ∈ T0 := ax_c0 _ (List.mem_of_getElem? (i := 6) rfl)
theorem T_62 : Cond.code yX4_lay cX4_lay 4 none ∈ T0 := ax_c0 _ (List.mem_of_getElem? (i := 7) rfl)
theorem T_68 : Cond.code yX5_copyFrom cX5_copyFrom 2 none ∈ T0 := ax_c0 _ (List.mem_of_getElem? (i := 8) rfl)
theorem T_75 : Cond.code Lib.Math.max.name Lib.Math.max.code 2 (some .int) ∈ T0 := ax_c0 _ (List.mem_of_getElem? (i := 9) rfl)
theorem T_76 : Cond.code yX4_restOfReady cX4_restOfReady 2 (some .int) ∈ T0 := ax_c0 _ (List.mem_of_getElem? (i := 10) rfl)
theorem T_80 : Cond.code yX5_isLike cX5_isLike 3 (some .boolean) ∈ T0 := ax_c0 _ (List.mem_of_getElem? (i := 11) rfl)
theorem T_84 : Cond.code yX5_movable cX5_movable 3 (some .int) ∈ T0 := ax_c0 _ (List.mem_of_getElem? (i := 12) rfl)
theorem T_88 : Cond.code yJ6_bitCount_0f7a4 cJ6_bitCount_0f7a4 1 (some .int) ∈ T0 := ax_c0 _ (List.mem_of_getElem? (i := 13) rfl)
theorem T_92 : Cond.code yX5_passBar cX5_passBar 5 none ∈ T0 := ax_c0 _ (List.mem_of_getElem? (i := 14) rfl)
theorem T_99 : Cond.code yX1_goesNow cX1_goesNow 2 (some .boolean) ∈ T0 := ax_c0 _ (List.mem_of_getElem? (i := 15) rfl)
theorem T_106 : Cond.code yX4_canGo cX4_canGo 2 (some .boolean) ∈ T0 := ax_c0 _ (List.mem_of_getElem? (i := 16) rfl)
theorem T_120 : Cond.code yX1_segments cX1_segments 3 (some .int) ∈ T0 := ax_c0 _ (List.mem_of_getElem? (i := 17) rfl)
theorem T_124 : Cond.code yX1_mostInOneBank cX1_mostInOneBank 6 (some .int) ∈ T0 := ax_c0 _ (List.mem_of_getElem? (i := 18) rfl)
theorem T_128 : Cond.code yX1_valueOf cX1_valueOf 3 (some .int) ∈ T0 := ax_c0 _ (List.mem_of_getElem? (i := 19) rfl)
theorem T_132 : Cond.code yJ9_floorMod_7cf53 cJ9_floorMod_7cf53 3 (some .int) ∈ T0 := ax_c0 _ (List.mem_of_getElem? (i := 20) rfl)
theorem T_136 : Cond.code yX1_holds cX1_holds 4 (some .boolean) ∈ T0 := ax_c0 _ (List.mem_of_getElem? (i := 21) rfl)
theorem T_142 : Cond.code Lib.Math.min.name Lib.Math.min.code 2 (some .int) ∈ T0 := ax_c0 _ (List.mem_of_getElem? (i := 22) rfl)
theorem T_143 : Cond.code yX1_goers cX1_goers 3 (some .int) ∈ T0 := ax_c0 _ (List.mem_of_getElem? (i := 23) rfl)
theorem T_147 : Cond.code yX5_splitTop cX5_splitTop 7 none ∈ T0 := ax_c0 _ (List.mem_of_getElem? (i := 24) rfl)
theorem ax_c1 : ∀ w ∈ Tc1, w ∈ T0 := fun _ h => List.mem_append_left _ (List.mem_append_right _ (List.mem_append_left _ h))
theorem T_152 : Cond.code yX1_lineBehind cX1_lineBehind 1 (some .int) ∈ T0 := ax_c1 _ (List.mem_of_getElem? (i := 0) rfl)
theorem T_156 : Cond.code yX5_yieldTop cX5_yieldTop 5 none ∈ T0 := ax_c1 _ (List.mem_of_getElem? (i := 1) rfl)
theorem T_179 : Cond.code yX1_take cX1_take 2 none ∈ T0 := ax_c1 _ (List.mem_of_getElem? (i := 2) rfl)
theorem T_184 : Cond.code yX0_cyclesWith cX0_cyclesWith 3 (some .int) ∈ T0 := ax_c1 _ (List.mem_of_getElem? (i := 3) rfl)
theorem T_193 : Cond.code yX6_hasWarp cX6_hasWarp 2 (some .boolean) ∈ T0 := ax_c1 _ (List.mem_of_getElem? (i := 4) rfl)
theorem T_198 : Cond.code yX6_refuse cX6_refuse 2 (some .int) ∈ T0 := ax_c1 _ (List.mem_of_getElem? (i := 5) rfl)
theorem T_204 : Cond.code yX4_living cX4_living 3 (some .int) ∈ T0 := ax_c1 _ (List.mem_of_getElem? (i := 6) rfl)
theorem T_208 : Cond.code yX4_waiting cX4_waiting 3 (some .int) ∈ T0 := ax_c1 _ (List.mem_of_getElem? (i := 7) rfl)
theorem T_212 : Cond.code yX4_racedWords cX4_racedWords 3 (some .int) ∈ T0 := ax_c1 _ (List.mem_of_getElem? (i := 8) rfl)
theorem T_220 : Cond.code yX6_hasLane cX6_hasLane 3 (some .boolean) ∈ T0 := ax_c1 _ (List.mem_of_getElem? (i := 9) rfl)
theorem T_224 : Cond.code yX5_lineOf cX5_lineOf 5 (some .int) ∈ T0 := ax_c1 _ (List.mem_of_getElem? (i := 10) rfl)
theorem T_229 : Cond.code yX6_hasWord cX6_hasWord 3 (some .boolean) ∈ T0 := ax_c1 _ (List.mem_of_getElem? (i := 11) rfl)
theorem T_234 : Cond.code yX1_pickWarp cX1_pickWarp 4 (some .boolean) ∈ T0 := ax_c1 _ (List.mem_of_getElem? (i := 12) rfl)
theorem T_238 : Cond.code yX1_pickLanes cX1_pickLanes 3 none ∈ T0 := ax_c1 _ (List.mem_of_getElem? (i := 13) rfl)
theorem T_242 : Cond.code yX1_measure cX1_measure 4 none ∈ T0 := ax_c1 _ (List.mem_of_getElem? (i := 14) rfl)
theorem T_246 : Cond.code yX4_touch cX4_touch 4 none ∈ T0 := ax_c1 _ (List.mem_of_getElem? (i := 15) rfl)
theorem T_251 : Cond.code yX1_ask cX1_ask 8 none ∈ T0 := ax_c1 _ (List.mem_of_getElem? (i := 16) rfl)
theorem T_255 : Cond.code yX1_result cX1_result 5 (some .int) ∈ T0 := ax_c1 _ (List.mem_of_getElem? (i := 17) rfl)
theorem T_259 : Cond.code yX1_bounded cX1_bounded 1 (some .int) ∈ T0 := ax_c1 _ (List.mem_of_getElem? (i := 18) rfl)
theorem T_262 : Cond.code yX1_foresee cX1_foresee 2 (some .boolean) ∈ T0 := ax_c1 _ (List.mem_of_getElem? (i := 19) rfl)
theorem T_266 : Cond.code yX1_keepLine cX1_keepLine 2 none ∈ T0 := ax_c1 _ (List.mem_of_getElem? (i := 20) rfl)
theorem T_270 : Cond.code yX1_work cX1_work 3 none ∈ T0 := ax_c1 _ (List.mem_of_getElem? (i := 21) rfl)
theorem T_274 : Cond.code yX1_moveEach cX1_moveEach 4 none ∈ T0 := ax_c1 _ (List.mem_of_getElem? (i := 22) rfl)
theorem T_278 : Cond.code yX1_moveTop cX1_moveTop 2 none ∈ T0 := ax_c1 _ (List.mem_of_getElem? (i := 23) rfl)
theorem T_282 : Cond.code yX4_passBarIfAllWait cX4_passBarIfAllWait 5 none ∈ T0 := ax_c1 _ (List.mem_of_getElem? (i := 24) rfl)
theorem ax_c2 : ∀ w ∈ Tc2, w ∈ T0 := fun _ h => List.mem_append_left _ (List.mem_append_right _ (List.mem_append_right _ (List.mem_append_left _ h)))
theorem T_287 : Cond.code yX4_copyFrom cX4_copyFrom 3 none ∈ T0 := ax_c2 _ (List.mem_of_getElem? (i := 0) rfl)
theorem T_291 : Cond.code yX1_step cX1_step 3 (some .boolean) ∈ T0 := ax_c2 _ (List.mem_of_getElem? (i := 1) rfl)
theorem T_297 : Cond.code yX4_restart cX4_restart 3 none ∈ T0 := ax_c2 _ (List.mem_of_getElem? (i := 2) rfl)
theorem T_301 : Cond.code yX4_hasNoneToGo cX4_hasNoneToGo 3 (some .boolean) ∈ T0 := ax_c2 _ (List.mem_of_getElem? (i := 3) rfl)
theorem T_306 : Cond.code yX4_isLike cX4_isLike 3 (some .boolean) ∈ T0 := ax_c2 _ (List.mem_of_getElem? (i := 4) rfl)
theorem T_310 : Cond.code yX0_cyclesToRest cX0_cyclesToRest 3 (some .int) ∈ T0 := ax_c2 _ (List.mem_of_getElem? (i := 5) rfl)
theorem T_315 : Cond.code yX4_hasEnded cX4_hasEnded 3 (some .boolean) ∈ T0 := ax_c2 _ (List.mem_of_getElem? (i := 6) rfl)
theorem T_319 : Cond.code yX0_roundFromHere cX0_roundFromHere 2 (some .int) ∈ T0 := ax_c2 _ (List.mem_of_getElem? (i := 7) rfl)
theorem T_323 : Cond.code yX0_firstAgain cX0_firstAgain 4 (some .int) ∈ T0 := ax_c2 _ (List.mem_of_getElem? (i := 8) rfl)
theorem T_327 : Cond.code yX0_begun cX0_begun 4 (some (.object "LaneWarps$State")) ∈ T0 := ax_c2 _ (List.mem_of_getElem? (i := 9) rfl)
theorem T_331 : Cond.code yX4_leaveAlone cX4_leaveAlone 5 none ∈ T0 := ax_c2 _ (List.mem_of_getElem? (i := 10) rfl)
theorem T_339 : Cond.code yX0_course cX0_course 7 (some .int) ∈ T0 := ax_c2 _ (List.mem_of_getElem? (i := 11) rfl)
theorem T_343 : Cond.code yX0_behind cX0_behind 4 (some (.object "LaneWarps$State")) ∈ T0 := ax_c2 _ (List.mem_of_getElem? (i := 12) rfl)
theorem T_347 : Cond.code yX6_isMode cX6_isMode 1 (some .boolean) ∈ T0 := ax_c2 _ (List.mem_of_getElem? (i := 13) rfl)
theorem T_350 : Cond.code yX6_isOrder cX6_isOrder 1 (some .boolean) ∈ T0 := ax_c2 _ (List.mem_of_getElem? (i := 14) rfl)
theorem T_354 : Cond.code yX6_layout cX6_layout 3 (some .int) ∈ T0 := ax_c2 _ (List.mem_of_getElem? (i := 15) rfl)
theorem T_357 : Cond.code yX0_tryBy cX0_tryBy 4 none ∈ T0 := ax_c2 _ (List.mem_of_getElem? (i := 16) rfl)
theorem T_361 : Cond.code yX0_tryLane cX0_tryLane 8 none ∈ T0 := ax_c2 _ (List.mem_of_getElem? (i := 17) rfl)
theorem T_365 : Cond.code yX0_solo cX0_solo 4 (some .int) ∈ T0 := ax_c2 _ (List.mem_of_getElem? (i := 18) rfl)
theorem T_369 : Cond.code yX6_isAsAlone cX6_isAsAlone 4 (some .boolean) ∈ T0 := ax_c2 _ (List.mem_of_getElem? (i := 19) rfl)
theorem T_373 : Cond.code yX0_tryWord cX0_tryWord 6 none ∈ T0 := ax_c2 _ (List.mem_of_getElem? (i := 20) rfl)
theorem T_378 : Cond.code yX0_unlike cX0_unlike 6 (some .int) ∈ T0 := ax_c2 _ (List.mem_of_getElem? (i := 21) rfl)
theorem T_385 : Cond.code yX0_forgetAhead cX0_forgetAhead 1 none ∈ T0 := ax_c2 _ (List.mem_of_getElem? (i := 22) rfl)
theorem T_394 : Cond.code yX6_keepForUndo cX6_keepForUndo 1 none ∈ T0 := ax_c2 _ (List.mem_of_getElem? (i := 23) rfl)
theorem T_398 : Cond.code yX6_run cX6_run 4 (some .int) ∈ T0 := ax_c2 _ (List.mem_of_getElem? (i := 24) rfl)
theorem ax_c3 : ∀ w ∈ Tc3, w ∈ T0 := fun _ h => List.mem_append_left _ (List.mem_append_right _ (List.mem_append_right _ (List.mem_append_right _ (List.mem_append_left _ h))))
theorem T_404 : Cond.code yX6_draw cX6_draw 2 (some .int) ∈ T0 := ax_c3 _ (List.mem_of_getElem? (i := 0) rfl)
theorem T_409 : Cond.code yJ3_checkIndex_8e157 cJ3_checkIndex_8e157 3 (some .int) ∈ T0 := ax_c3 _ (List.mem_of_getElem? (i := 1) rfl)
theorem T_416 : Cond.code yJ0_coder_7d493 cJ0_coder_7d493 1 (some .byte) ∈ T0 := ax_c3 _ (List.mem_of_getElem? (i := 2) rfl)
theorem T_421 : Cond.code yJ0_checkIndex_df160 cJ0_checkIndex_df160 2 none ∈ T0 := ax_c3 _ (List.mem_of_getElem? (i := 3) rfl)
theorem T_424 : Cond.code yJ0_isLatin1_aae02 cJ0_isLatin1_aae02 1 (some .boolean) ∈ T0 := ax_c3 _ (List.mem_of_getElem? (i := 4) rfl)
theorem T_428 : Cond.code yJ1_charAt_3b067 cJ1_charAt_3b067 2 (some .char) ∈ T0 := ax_c3 _ (List.mem_of_getElem? (i := 5) rfl)
theorem T_440 : Cond.code yX3_lineNamed cX3_lineNamed 7 (some .int) ∈ T0 := ax_c3 _ (List.mem_of_getElem? (i := 6) rfl)
theorem T_445 : Cond.code yX3_fail cX3_fail 3 (some .boolean) ∈ T0 := ax_c3 _ (List.mem_of_getElem? (i := 7) rfl)
theorem ax_c4 : ∀ w ∈ Tc4, w ∈ T0 := fun _ h => List.mem_append_left _ (List.mem_append_right _ (List.mem_append_right _ (List.mem_append_right _ (List.mem_append_right _ (List.mem_append_left _ h)))))
theorem T_0 : Cond.constant RJ6 265 (1431655765) ∈ T0 := ax_c4 _ (List.mem_of_getElem? (i := 0) rfl)
theorem T_1 : Cond.constant RJ6 266 (858993459) ∈ T0 := ax_c4 _ (List.mem_of_getElem? (i := 1) rfl)
theorem T_2 : Cond.constant RJ6 267 (252645135) ∈ T0 := ax_c4 _ (List.mem_of_getElem? (i := 2) rfl)
theorem T_3 : Cond.fieldLink RX5 33 "LaneWarps$Warp" "lives" "I" ∈ T0 := ax_c4 _ (List.mem_of_getElem? (i := 3) rfl)
theorem T_4 : Cond.fieldLink RX5 37 "LaneWarps$Warp" "waits" "I" ∈ T0 := ax_c4 _ (List.mem_of_getElem? (i := 4) rfl)
theorem T_5 : Cond.fieldLink RX5 49 "LaneWarps$Warp" "parts" "I" ∈ T0 := ax_c4 _ (List.mem_of_getElem? (i := 5) rfl)
theorem T_6 : Cond.fieldLink RX5 24 "LaneWarps$Warp" "partLanes" "[I" ∈ T0 := ax_c4 _ (List.mem_of_getElem? (i := 6) rfl)
theorem T_7 : Cond.fieldLink RX5 18 "LaneWarps$Warp" "partLine" "[I" ∈ T0 := ax_c4 _ (List.mem_of_getElem? (i := 7) rfl)
theorem T_8 : Cond.fieldLink RX5 21 "LaneWarps$Warp" "partMeets" "[I" ∈ T0 := ax_c4 _ (List.mem_of_getElem? (i := 8) rfl)
theorem T_9 : Cond.fieldLink RX5 15 "LaneWarps$Warp" "lines" "[I" ∈ T0 := ax_c4 _ (List.mem_of_getElem? (i := 9) rfl)
theorem T_11 : Cond.initialized RX5 ∈ T0 := ax_c4 _ (List.mem_of_getElem? (i := 10) rfl)
theorem T_12 : Cond.methodLink RX5 52 yX5_layPart ∈ T0 := ax_c4 _ (List.mem_of_getElem? (i := 11) rfl)
theorem T_13 : Cond.instanceMethod yX5_layPart ∈ T0 := ax_c4 _ (List.mem_of_getElem? (i := 12) rfl)
theorem T_14 : Cond.selects RX5 yX5_layPart yX5_layPart ∈ T0 := ax_c4 _ (List.mem_of_getElem? (i := 13) rfl)
theorem T_16 : Cond.methodLink RX5 66 yX5_moveTop ∈ T0 := ax_c4 _ (List.mem_of_getElem? (i := 14) rfl)
theorem T_17 : Cond.instanceMethod yX5_moveTop ∈ T0 := ax_c4 _ (List.mem_of_getElem? (i := 15) rfl)
theorem T_18 : Cond.selects RX5 yX5_moveTop yX5_moveTop ∈ T0 := ax_c4 _ (List.mem_of_getElem? (i := 16) rfl)
theorem T_20 : Cond.methodLink RX5 70 yX5_settle ∈ T0 := ax_c4 _ (List.mem_of_getElem? (i := 17) rfl)
theorem T_21 : Cond.instanceMethod yX5_settle ∈ T0 := ax_c4 _ (List.mem_of_getElem? (i := 18) rfl)
theorem T_22 : Cond.selects RX5 yX5_settle yX5_settle ∈ T0 := ax_c4 _ (List.mem_of_getElem? (i := 19) rfl)
theorem T_24 : Cond.methodLink RX5 73 yX5_moveLane ∈ T0 := ax_c4 _ (List.mem_of_getElem? (i := 20) rfl)
theorem T_25 : Cond.instanceMethod yX5_moveLane ∈ T0 := ax_c4 _ (List.mem_of_getElem? (i := 21) rfl)
theorem T_26 : Cond.selects RX5 yX5_moveLane yX5_moveLane ∈ T0 := ax_c4 _ (List.mem_of_getElem? (i := 22) rfl)
theorem T_27 : Cond.fieldLink RX5 9 "LaneWarps$Warp" "registers" "[I" ∈ T0 := ax_c4 _ (List.mem_of_getElem? (i := 23) rfl)
theorem T_29 : Cond.initialized RJ7 ∈ T0 := ax_c4 _ (List.mem_of_getElem? (i := 24) rfl)
theorem T_30 : Cond.methodLink RX5 27 yJ7_fill_53178 ∈ T0 := ax_c4 _ (List.mem_of_getElem? (i := 25) rfl)
theorem T_31 : Cond.static yJ7_fill_53178 ∈ T0 := ax_c4 _ (List.mem_of_getElem? (i := 26) rfl)
theorem T_32 : Cond.fieldLink RX5 40 "LaneWarps$Warp" "ready" "I" ∈ T0 := ax_c4 _ (List.mem_of_getElem? (i := 27) rfl)
theorem T_33 : Cond.fieldLink RX5 43 "LaneWarps$Warp" "done" "I" ∈ T0 := ax_c4 _ (List.mem_of_getElem? (i := 28) rfl)
theorem T_34 : Cond.fieldLink RX5 46 "LaneWarps$Warp" "turn" "I" ∈ T0 := ax_c4 _ (List.mem_of_getElem? (i := 29) rfl)
theorem T_35 : Cond.methodLink RX5 56 arraycopyName ∈ T0 := ax_c4 _ (List.mem_of_getElem? (i := 30) rfl)
theorem T_36 : Cond.native arraycopyName ∈ T0 := ax_c4 _ (List.mem_of_getElem? (i := 31) rfl)
theorem T_37 : Cond.static arraycopyName ∈ T0 := ax_c4 _ (List.mem_of_getElem? (i := 32) rfl)
theorem T_38 : Cond.initialized "java/lang/System" ∈ T0 := ax_c4 _ (List.mem_of_getElem? (i := 33) rfl)
theorem T_40 : Cond.initialized RX6 ∈ T0 := ax_c4 _ (List.mem_of_getElem? (i := 34) rfl)
theorem T_41 : Cond.static yX6_areLike ∈ T0 := ax_c4 _ (List.mem_of_getElem? (i := 35) rfl)
theorem T_42 : Cond.fieldLink RX4 41 "LaneWarps$State" "mode" "I" ∈ T0 := ax_c4 _ (List.mem_of_getElem? (i := 36) rfl)
theorem T_43 : Cond.fieldLink RX4 44 "LaneWarps$State" "order" "I" ∈ T0 := ax_c4 _ (List.mem_of_getElem? (i := 37) rfl)
theorem T_44 : Cond.fieldLink RX4 47 "LaneWarps$State" "skew" "I" ∈ T0 := ax_c4 _ (List.mem_of_getElem? (i := 38) rfl)
theorem T_45 : Cond.fieldLink RX4 54 "LaneWarps$State" "used" "I" ∈ T0 := ax_c4 _ (List.mem_of_getElem? (i := 39) rfl)
theorem ax_c5 : ∀ w ∈ Tc5, w ∈ T0 := fun _ h => List.mem_append_left _ (List.mem_append_right _ (List.mem_append_right _ (List.mem_append_right _ (List.mem_append_right _ (List.mem_append_right _ (List.mem_append_left _ h))))))
theorem T_46 : Cond.fieldLink RX4 17 "LaneWarps$State" "far" "[I" ∈ T0 := ax_c5 _ (List.mem_of_getElem? (i := 0) rfl)
theorem T_47 : Cond.methodLink RX4 58 arraycopyName ∈ T0 := ax_c5 _ (List.mem_of_getElem? (i := 1) rfl)
theorem T_48 : Cond.fieldLink RX4 21 "LaneWarps$State" "near" "[I" ∈ T0 := ax_c5 _ (List.mem_of_getElem? (i := 2) rfl)
theorem T_49 : Cond.methodLink RX4 64 yJ7_fill_53178 ∈ T0 := ax_c5 _ (List.mem_of_getElem? (i := 3) rfl)
theorem T_50 : Cond.fieldLink RX4 24 "LaneWarps$State" "touched" "[I" ∈ T0 := ax_c5 _ (List.mem_of_getElem? (i := 4) rfl)
theorem T_51 : Cond.fieldLink RX4 27 "LaneWarps$State" "wrote" "[I" ∈ T0 := ax_c5 _ (List.mem_of_getElem? (i := 5) rfl)
theorem T_52 : Cond.fieldLink RX4 30 "LaneWarps$State" "raced" "[I" ∈ T0 := ax_c5 _ (List.mem_of_getElem? (i := 6) rfl)
theorem T_53 : Cond.fieldLink RX4 70 "LaneWarps$State" "cycle" "I" ∈ T0 := ax_c5 _ (List.mem_of_getElem? (i := 7) rfl)
theorem T_54 : Cond.fieldLink RX4 73 "LaneWarps$State" "done" "I" ∈ T0 := ax_c5 _ (List.mem_of_getElem? (i := 8) rfl)
theorem T_55 : Cond.fieldLink RX4 76 "LaneWarps$State" "epochs" "I" ∈ T0 := ax_c5 _ (List.mem_of_getElem? (i := 9) rfl)
theorem T_56 : Cond.fieldLink RX4 36 "LaneWarps$State" "last" "I" ∈ T0 := ax_c5 _ (List.mem_of_getElem? (i := 10) rfl)
theorem T_57 : Cond.fieldLink RX4 11 "LaneWarps$State" "warps" "[LLaneWarps$Warp;" ∈ T0 := ax_c5 _ (List.mem_of_getElem? (i := 11) rfl)
theorem T_59 : Cond.methodLink RX4 82 yX5_restart ∈ T0 := ax_c5 _ (List.mem_of_getElem? (i := 12) rfl)
theorem T_60 : Cond.instanceMethod yX5_restart ∈ T0 := ax_c5 _ (List.mem_of_getElem? (i := 13) rfl)
theorem T_61 : Cond.selects RX5 yX5_restart yX5_restart ∈ T0 := ax_c5 _ (List.mem_of_getElem? (i := 14) rfl)
theorem T_63 : Cond.initialized RX4 ∈ T0 := ax_c5 _ (List.mem_of_getElem? (i := 15) rfl)
theorem T_64 : Cond.methodLink RX4 86 yX4_lay ∈ T0 := ax_c5 _ (List.mem_of_getElem? (i := 16) rfl)
theorem T_65 : Cond.instanceMethod yX4_lay ∈ T0 := ax_c5 _ (List.mem_of_getElem? (i := 17) rfl)
theorem T_66 : Cond.selects RX4 yX4_lay yX4_lay ∈ T0 := ax_c5 _ (List.mem_of_getElem? (i := 18) rfl)
theorem T_67 : Cond.fieldLink RX4 33 "LaneWarps$State" "kept" "[I" ∈ T0 := ax_c5 _ (List.mem_of_getElem? (i := 19) rfl)
theorem T_69 : Cond.methodLink RX4 89 yX5_copyFrom ∈ T0 := ax_c5 _ (List.mem_of_getElem? (i := 20) rfl)
theorem T_70 : Cond.instanceMethod yX5_copyFrom ∈ T0 := ax_c5 _ (List.mem_of_getElem? (i := 21) rfl)
theorem T_71 : Cond.selects RX5 yX5_copyFrom yX5_copyFrom ∈ T0 := ax_c5 _ (List.mem_of_getElem? (i := 22) rfl)
theorem T_72 : Cond.methodLink RX4 108 Lib.Math.max.name ∈ T0 := ax_c5 _ (List.mem_of_getElem? (i := 23) rfl)
theorem T_73 : Cond.static Lib.Math.max.name ∈ T0 := ax_c5 _ (List.mem_of_getElem? (i := 24) rfl)
theorem T_74 : Cond.initialized "java/lang/Math" ∈ T0 := ax_c5 _ (List.mem_of_getElem? (i := 25) rfl)
theorem T_77 : Cond.methodLink RX4 93 yX4_restOfReady ∈ T0 := ax_c5 _ (List.mem_of_getElem? (i := 26) rfl)
theorem T_78 : Cond.instanceMethod yX4_restOfReady ∈ T0 := ax_c5 _ (List.mem_of_getElem? (i := 27) rfl)
theorem T_79 : Cond.selects RX4 yX4_restOfReady yX4_restOfReady ∈ T0 := ax_c5 _ (List.mem_of_getElem? (i := 28) rfl)
theorem T_81 : Cond.methodLink RX4 97 yX5_isLike ∈ T0 := ax_c5 _ (List.mem_of_getElem? (i := 29) rfl)
theorem T_82 : Cond.instanceMethod yX5_isLike ∈ T0 := ax_c5 _ (List.mem_of_getElem? (i := 30) rfl)
theorem T_83 : Cond.selects RX5 yX5_isLike yX5_isLike ∈ T0 := ax_c5 _ (List.mem_of_getElem? (i := 31) rfl)
theorem T_85 : Cond.methodLink RX4 114 yX5_movable ∈ T0 := ax_c5 _ (List.mem_of_getElem? (i := 32) rfl)
theorem T_86 : Cond.instanceMethod yX5_movable ∈ T0 := ax_c5 _ (List.mem_of_getElem? (i := 33) rfl)
theorem T_87 : Cond.selects RX5 yX5_movable yX5_movable ∈ T0 := ax_c5 _ (List.mem_of_getElem? (i := 34) rfl)
theorem T_89 : Cond.initialized RJ6 ∈ T0 := ax_c5 _ (List.mem_of_getElem? (i := 35) rfl)
theorem T_90 : Cond.methodLink RX4 120 yJ6_bitCount_0f7a4 ∈ T0 := ax_c5 _ (List.mem_of_getElem? (i := 36) rfl)
theorem T_91 : Cond.static yJ6_bitCount_0f7a4 ∈ T0 := ax_c5 _ (List.mem_of_getElem? (i := 37) rfl)
theorem T_93 : Cond.methodLink RX4 128 yX5_passBar ∈ T0 := ax_c5 _ (List.mem_of_getElem? (i := 38) rfl)
theorem T_94 : Cond.instanceMethod yX5_passBar ∈ T0 := ax_c5 _ (List.mem_of_getElem? (i := 39) rfl)
theorem ax_c6 : ∀ w ∈ Tc6, w ∈ T0 := fun _ h => List.mem_append_left _ (List.mem_append_right _ (List.mem_append_right _ (List.mem_append_right _ (List.mem_append_right _ (List.mem_append_right _ (List.mem_append_right _ (List.mem_append_left _ h)))))))
theorem T_95 : Cond.selects RX5 yX5_passBar yX5_passBar ∈ T0 := ax_c6 _ (List.mem_of_getElem? (i := 0) rfl)
theorem T_96 : Cond.fieldLink RX1 18 "LaneWarps$Machine" "program" "LLaneWarps$Program;" ∈ T0 := ax_c6 _ (List.mem_of_getElem? (i := 1) rfl)
theorem T_97 : Cond.fieldLink RX1 116 "LaneWarps$Machine" "lanes" "I" ∈ T0 := ax_c6 _ (List.mem_of_getElem? (i := 2) rfl)
theorem T_98 : Cond.methodLink RX1 151 yJ6_bitCount_0f7a4 ∈ T0 := ax_c6 _ (List.mem_of_getElem? (i := 3) rfl)
theorem T_100 : Cond.initialized RX1 ∈ T0 := ax_c6 _ (List.mem_of_getElem? (i := 4) rfl)
theorem T_101 : Cond.methodLink RX1 142 yX1_goesNow ∈ T0 := ax_c6 _ (List.mem_of_getElem? (i := 5) rfl)
theorem T_102 : Cond.instanceMethod yX1_goesNow ∈ T0 := ax_c6 _ (List.mem_of_getElem? (i := 6) rfl)
theorem T_103 : Cond.selects RX1 yX1_goesNow yX1_goesNow ∈ T0 := ax_c6 _ (List.mem_of_getElem? (i := 7) rfl)
theorem T_104 : Cond.fieldLink RX1 9 "LaneWarps$Machine" "addresses" "[I" ∈ T0 := ax_c6 _ (List.mem_of_getElem? (i := 8) rfl)
theorem T_105 : Cond.fieldLink RX1 68 "LaneWarps$Machine" "state" "LLaneWarps$State;" ∈ T0 := ax_c6 _ (List.mem_of_getElem? (i := 9) rfl)
theorem T_107 : Cond.methodLink RX1 101 yX4_canGo ∈ T0 := ax_c6 _ (List.mem_of_getElem? (i := 10) rfl)
theorem T_108 : Cond.instanceMethod yX4_canGo ∈ T0 := ax_c6 _ (List.mem_of_getElem? (i := 11) rfl)
theorem T_109 : Cond.selects RX4 yX4_canGo yX4_canGo ∈ T0 := ax_c6 _ (List.mem_of_getElem? (i := 12) rfl)
theorem T_110 : Cond.fieldLink RX1 105 "LaneWarps$Machine" "warp" "I" ∈ T0 := ax_c6 _ (List.mem_of_getElem? (i := 13) rfl)
theorem T_111 : Cond.fieldLink RX1 29 "LaneWarps$Machine" "mover" "LLaneWarps$Warp;" ∈ T0 := ax_c6 _ (List.mem_of_getElem? (i := 14) rfl)
theorem T_112 : Cond.methodLink RX1 112 yX5_movable ∈ T0 := ax_c6 _ (List.mem_of_getElem? (i := 15) rfl)
theorem T_113 : Cond.fieldLink RX1 134 "LaneWarps$Machine" "leader" "I" ∈ T0 := ax_c6 _ (List.mem_of_getElem? (i := 16) rfl)
theorem T_114 : Cond.methodLink RX1 125 Lib.Math.max.name ∈ T0 := ax_c6 _ (List.mem_of_getElem? (i := 17) rfl)
theorem T_115 : Cond.fieldLink RX1 79 "LaneWarps$Machine" "line" "I" ∈ T0 := ax_c6 _ (List.mem_of_getElem? (i := 18) rfl)
theorem T_116 : Cond.fieldLink RX1 15 "LaneWarps$Machine" "inBank" "[I" ∈ T0 := ax_c6 _ (List.mem_of_getElem? (i := 19) rfl)
theorem T_117 : Cond.methodLink RX1 163 yJ7_fill_53178 ∈ T0 := ax_c6 _ (List.mem_of_getElem? (i := 20) rfl)
theorem T_118 : Cond.fieldLink RX1 86 "LaneWarps$Machine" "row" "[I" ∈ T0 := ax_c6 _ (List.mem_of_getElem? (i := 21) rfl)
theorem T_119 : Cond.fieldLink RX1 39 "LaneWarps$Machine" "takes" "I" ∈ T0 := ax_c6 _ (List.mem_of_getElem? (i := 22) rfl)
theorem T_121 : Cond.methodLink RX1 160 yX1_segments ∈ T0 := ax_c6 _ (List.mem_of_getElem? (i := 23) rfl)
theorem T_122 : Cond.instanceMethod yX1_segments ∈ T0 := ax_c6 _ (List.mem_of_getElem? (i := 24) rfl)
theorem T_123 : Cond.selects RX1 yX1_segments yX1_segments ∈ T0 := ax_c6 _ (List.mem_of_getElem? (i := 25) rfl)
theorem T_125 : Cond.methodLink RX1 156 yX1_mostInOneBank ∈ T0 := ax_c6 _ (List.mem_of_getElem? (i := 26) rfl)
theorem T_126 : Cond.instanceMethod yX1_mostInOneBank ∈ T0 := ax_c6 _ (List.mem_of_getElem? (i := 27) rfl)
theorem T_127 : Cond.selects RX1 yX1_mostInOneBank yX1_mostInOneBank ∈ T0 := ax_c6 _ (List.mem_of_getElem? (i := 28) rfl)
theorem T_129 : Cond.methodLink RX1 145 yX1_valueOf ∈ T0 := ax_c6 _ (List.mem_of_getElem? (i := 29) rfl)
theorem T_130 : Cond.instanceMethod yX1_valueOf ∈ T0 := ax_c6 _ (List.mem_of_getElem? (i := 30) rfl)
theorem T_131 : Cond.selects RX1 yX1_valueOf yX1_valueOf ∈ T0 := ax_c6 _ (List.mem_of_getElem? (i := 31) rfl)
theorem T_133 : Cond.initialized RJ9 ∈ T0 := ax_c6 _ (List.mem_of_getElem? (i := 32) rfl)
theorem T_134 : Cond.methodLink RX1 148 yJ9_floorMod_7cf53 ∈ T0 := ax_c6 _ (List.mem_of_getElem? (i := 33) rfl)
theorem T_135 : Cond.static yJ9_floorMod_7cf53 ∈ T0 := ax_c6 _ (List.mem_of_getElem? (i := 34) rfl)
theorem T_137 : Cond.methodLink RX1 206 yX1_holds ∈ T0 := ax_c6 _ (List.mem_of_getElem? (i := 35) rfl)
theorem T_138 : Cond.instanceMethod yX1_holds ∈ T0 := ax_c6 _ (List.mem_of_getElem? (i := 36) rfl)
theorem T_139 : Cond.selects RX1 yX1_holds yX1_holds ∈ T0 := ax_c6 _ (List.mem_of_getElem? (i := 37) rfl)
theorem T_140 : Cond.methodLink RX1 189 Lib.Math.min.name ∈ T0 := ax_c6 _ (List.mem_of_getElem? (i := 38) rfl)
theorem T_141 : Cond.static Lib.Math.min.name ∈ T0 := ax_c6 _ (List.mem_of_getElem? (i := 39) rfl)
theorem ax_c7 : ∀ w ∈ Tc7, w ∈ T0 := fun _ h => List.mem_append_left _ (List.mem_append_right _ (List.mem_append_right _ (List.mem_append_right _ (List.mem_append_right _ (List.mem_append_right _ (List.mem_append_right _ (List.mem_append_right _ (List.mem_append_left _ h))))))))
theorem T_144 : Cond.methodLink RX1 212 yX1_goers ∈ T0 := ax_c7 _ (List.mem_of_getElem? (i := 0) rfl)
theorem T_145 : Cond.instanceMethod yX1_goers ∈ T0 := ax_c7 _ (List.mem_of_getElem? (i := 1) rfl)
theorem T_146 : Cond.selects RX1 yX1_goers yX1_goers ∈ T0 := ax_c7 _ (List.mem_of_getElem? (i := 2) rfl)
theorem T_148 : Cond.methodLink RX1 220 yX5_splitTop ∈ T0 := ax_c7 _ (List.mem_of_getElem? (i := 3) rfl)
theorem T_149 : Cond.instanceMethod yX5_splitTop ∈ T0 := ax_c7 _ (List.mem_of_getElem? (i := 4) rfl)
theorem T_150 : Cond.selects RX5 yX5_splitTop yX5_splitTop ∈ T0 := ax_c7 _ (List.mem_of_getElem? (i := 5) rfl)
theorem T_151 : Cond.methodLink RX1 218 yX5_moveTop ∈ T0 := ax_c7 _ (List.mem_of_getElem? (i := 6) rfl)
theorem T_153 : Cond.methodLink RX1 215 yX1_lineBehind ∈ T0 := ax_c7 _ (List.mem_of_getElem? (i := 7) rfl)
theorem T_154 : Cond.instanceMethod yX1_lineBehind ∈ T0 := ax_c7 _ (List.mem_of_getElem? (i := 8) rfl)
theorem T_155 : Cond.selects RX1 yX1_lineBehind yX1_lineBehind ∈ T0 := ax_c7 _ (List.mem_of_getElem? (i := 9) rfl)
theorem T_157 : Cond.methodLink RX1 224 yX5_yieldTop ∈ T0 := ax_c7 _ (List.mem_of_getElem? (i := 10) rfl)
theorem T_158 : Cond.instanceMethod yX5_yieldTop ∈ T0 := ax_c7 _ (List.mem_of_getElem? (i := 11) rfl)
theorem T_159 : Cond.selects RX5 yX5_yieldTop yX5_yieldTop ∈ T0 := ax_c7 _ (List.mem_of_getElem? (i := 12) rfl)
theorem T_160 : Cond.methodLink RX1 227 yX5_settle ∈ T0 := ax_c7 _ (List.mem_of_getElem? (i := 13) rfl)
theorem T_161 : Cond.methodLink RX1 230 yX5_moveLane ∈ T0 := ax_c7 _ (List.mem_of_getElem? (i := 14) rfl)
theorem T_162 : Cond.fieldLink RX2 16 "LaneWarps$Program" "far" "[I" ∈ T0 := ax_c7 _ (List.mem_of_getElem? (i := 15) rfl)
theorem T_163 : Cond.methodLink RX2 24 yJ7_fill_53178 ∈ T0 := ax_c7 _ (List.mem_of_getElem? (i := 16) rfl)
theorem T_164 : Cond.fieldLink RX2 30 "LaneWarps$Program" "lines" "I" ∈ T0 := ax_c7 _ (List.mem_of_getElem? (i := 17) rfl)
theorem T_165 : Cond.fieldLink RX2 34 "LaneWarps$Program" "warps" "I" ∈ T0 := ax_c7 _ (List.mem_of_getElem? (i := 18) rfl)
theorem T_166 : Cond.fieldLink RX2 37 "LaneWarps$Program" "mode" "I" ∈ T0 := ax_c7 _ (List.mem_of_getElem? (i := 19) rfl)
theorem T_167 : Cond.fieldLink RX2 40 "LaneWarps$Program" "order" "I" ∈ T0 := ax_c7 _ (List.mem_of_getElem? (i := 20) rfl)
theorem T_168 : Cond.fieldLink RX2 11 "LaneWarps$Program" "rows" "[[I" ∈ T0 := ax_c7 _ (List.mem_of_getElem? (i := 21) rfl)
theorem T_169 : Cond.methodLink RX2 44 Lib.Math.max.name ∈ T0 := ax_c7 _ (List.mem_of_getElem? (i := 22) rfl)
theorem T_170 : Cond.fieldLink RX0 49 "LaneWarps$Forecast" "coursesKnown" "I" ∈ T0 := ax_c7 _ (List.mem_of_getElem? (i := 23) rfl)
theorem T_171 : Cond.constant RX0 60 (-65537) ∈ T0 := ax_c7 _ (List.mem_of_getElem? (i := 24) rfl)
theorem T_172 : Cond.fieldLink RX0 61 "LaneWarps$Forecast" "mode" "I" ∈ T0 := ax_c7 _ (List.mem_of_getElem? (i := 25) rfl)
theorem T_173 : Cond.fieldLink RX0 64 "LaneWarps$Forecast" "order" "I" ∈ T0 := ax_c7 _ (List.mem_of_getElem? (i := 26) rfl)
theorem T_174 : Cond.fieldLink RX0 67 "LaneWarps$Forecast" "skew" "I" ∈ T0 := ax_c7 _ (List.mem_of_getElem? (i := 27) rfl)
theorem T_175 : Cond.fieldLink RX0 53 "LaneWarps$Forecast" "endsKnown" "J" ∈ T0 := ax_c7 _ (List.mem_of_getElem? (i := 28) rfl)
theorem T_176 : Cond.fieldLink RX0 57 "LaneWarps$Forecast" "solosKnown" "I" ∈ T0 := ax_c7 _ (List.mem_of_getElem? (i := 29) rfl)
theorem T_177 : Cond.fieldLink RX0 41 "LaneWarps$Forecast" "program" "LLaneWarps$Program;" ∈ T0 := ax_c7 _ (List.mem_of_getElem? (i := 30) rfl)
theorem T_178 : Cond.fieldLink RX0 12 "LaneWarps$Forecast" "machine" "LLaneWarps$Machine;" ∈ T0 := ax_c7 _ (List.mem_of_getElem? (i := 31) rfl)
theorem T_180 : Cond.methodLink RX0 45 yX1_take ∈ T0 := ax_c7 _ (List.mem_of_getElem? (i := 32) rfl)
theorem T_181 : Cond.instanceMethod yX1_take ∈ T0 := ax_c7 _ (List.mem_of_getElem? (i := 33) rfl)
theorem T_182 : Cond.selects RX1 yX1_take yX1_take ∈ T0 := ax_c7 _ (List.mem_of_getElem? (i := 34) rfl)
theorem T_183 : Cond.fieldLink RX0 35 "LaneWarps$Forecast" "ends" "[I" ∈ T0 := ax_c7 _ (List.mem_of_getElem? (i := 35) rfl)
theorem T_185 : Cond.initialized RX0 ∈ T0 := ax_c7 _ (List.mem_of_getElem? (i := 36) rfl)
theorem T_186 : Cond.methodLink RX0 117 yX0_cyclesWith ∈ T0 := ax_c7 _ (List.mem_of_getElem? (i := 37) rfl)
theorem T_187 : Cond.instanceMethod yX0_cyclesWith ∈ T0 := ax_c7 _ (List.mem_of_getElem? (i := 38) rfl)
theorem T_188 : Cond.selects RX0 yX0_cyclesWith yX0_cyclesWith ∈ T0 := ax_c7 _ (List.mem_of_getElem? (i := 39) rfl)
theorem ax_c8 : ∀ w ∈ Tc8, w ∈ T0 := fun _ h => List.mem_append_left _ (List.mem_append_right _ (List.mem_append_right _ (List.mem_append_right _ (List.mem_append_right _ (List.mem_append_right _ (List.mem_append_right _ (List.mem_append_right _ (List.mem_append_right _ (List.mem_append_left _ h)))))))))
theorem T_189 : Cond.fieldLink RX0 38 "LaneWarps$Forecast" "solos" "[I" ∈ T0 := ax_c8 _ (List.mem_of_getElem? (i := 0) rfl)
theorem T_190 : Cond.fieldLink RX6 55 "LaneWarps" "refused" "[I" ∈ T0 := ax_c8 _ (List.mem_of_getElem? (i := 1) rfl)
theorem T_191 : Cond.fieldLink RX6 87 "LaneWarps" "told" "Z" ∈ T0 := ax_c8 _ (List.mem_of_getElem? (i := 2) rfl)
theorem T_192 : Cond.fieldLink RX6 23 "LaneWarps" "current" "LLaneWarps$Program;" ∈ T0 := ax_c8 _ (List.mem_of_getElem? (i := 3) rfl)
theorem T_194 : Cond.methodLink RX6 181 yX6_hasWarp ∈ T0 := ax_c8 _ (List.mem_of_getElem? (i := 4) rfl)
theorem T_195 : Cond.instanceMethod yX6_hasWarp ∈ T0 := ax_c8 _ (List.mem_of_getElem? (i := 5) rfl)
theorem T_196 : Cond.selects RX6 yX6_hasWarp yX6_hasWarp ∈ T0 := ax_c8 _ (List.mem_of_getElem? (i := 6) rfl)
theorem T_197 : Cond.fieldLink RX6 68 "LaneWarps" "bytes" "I" ∈ T0 := ax_c8 _ (List.mem_of_getElem? (i := 7) rfl)
theorem T_199 : Cond.methodLink RX6 72 yX6_refuse ∈ T0 := ax_c8 _ (List.mem_of_getElem? (i := 8) rfl)
theorem T_200 : Cond.instanceMethod yX6_refuse ∈ T0 := ax_c8 _ (List.mem_of_getElem? (i := 9) rfl)
theorem T_201 : Cond.selects RX6 yX6_refuse yX6_refuse ∈ T0 := ax_c8 _ (List.mem_of_getElem? (i := 10) rfl)
theorem T_202 : Cond.fieldLink RX6 16 "LaneWarps" "reader" "LLaneWarps$Reader;" ∈ T0 := ax_c8 _ (List.mem_of_getElem? (i := 11) rfl)
theorem T_203 : Cond.fieldLink RX6 33 "LaneWarps" "now" "LLaneWarps$State;" ∈ T0 := ax_c8 _ (List.mem_of_getElem? (i := 12) rfl)
theorem T_205 : Cond.methodLink RX6 125 yX4_living ∈ T0 := ax_c8 _ (List.mem_of_getElem? (i := 13) rfl)
theorem T_206 : Cond.instanceMethod yX4_living ∈ T0 := ax_c8 _ (List.mem_of_getElem? (i := 14) rfl)
theorem T_207 : Cond.selects RX4 yX4_living yX4_living ∈ T0 := ax_c8 _ (List.mem_of_getElem? (i := 15) rfl)
theorem T_209 : Cond.methodLink RX6 129 yX4_waiting ∈ T0 := ax_c8 _ (List.mem_of_getElem? (i := 16) rfl)
theorem T_210 : Cond.instanceMethod yX4_waiting ∈ T0 := ax_c8 _ (List.mem_of_getElem? (i := 17) rfl)
theorem T_211 : Cond.selects RX4 yX4_waiting yX4_waiting ∈ T0 := ax_c8 _ (List.mem_of_getElem? (i := 18) rfl)
theorem T_213 : Cond.methodLink RX6 132 yX4_racedWords ∈ T0 := ax_c8 _ (List.mem_of_getElem? (i := 19) rfl)
theorem T_214 : Cond.instanceMethod yX4_racedWords ∈ T0 := ax_c8 _ (List.mem_of_getElem? (i := 20) rfl)
theorem T_215 : Cond.selects RX4 yX4_racedWords yX4_racedWords ∈ T0 := ax_c8 _ (List.mem_of_getElem? (i := 21) rfl)
theorem T_216 : Cond.methodLink RX6 135 Lib.Math.min.name ∈ T0 := ax_c8 _ (List.mem_of_getElem? (i := 22) rfl)
theorem T_217 : Cond.fieldLink RX6 104 "LaneWarps" "acts" "I" ∈ T0 := ax_c8 _ (List.mem_of_getElem? (i := 23) rfl)
theorem T_218 : Cond.methodLink RX6 152 Lib.Math.max.name ∈ T0 := ax_c8 _ (List.mem_of_getElem? (i := 24) rfl)
theorem T_219 : Cond.constant RX6 155 (-1000000) ∈ T0 := ax_c8 _ (List.mem_of_getElem? (i := 25) rfl)
theorem T_221 : Cond.methodLink RX6 160 yX6_hasLane ∈ T0 := ax_c8 _ (List.mem_of_getElem? (i := 26) rfl)
theorem T_222 : Cond.instanceMethod yX6_hasLane ∈ T0 := ax_c8 _ (List.mem_of_getElem? (i := 27) rfl)
theorem T_223 : Cond.selects RX6 yX6_hasLane yX6_hasLane ∈ T0 := ax_c8 _ (List.mem_of_getElem? (i := 28) rfl)
theorem T_225 : Cond.methodLink RX6 175 yX5_lineOf ∈ T0 := ax_c8 _ (List.mem_of_getElem? (i := 29) rfl)
theorem T_226 : Cond.instanceMethod yX5_lineOf ∈ T0 := ax_c8 _ (List.mem_of_getElem? (i := 30) rfl)
theorem T_227 : Cond.selects RX5 yX5_lineOf yX5_lineOf ∈ T0 := ax_c8 _ (List.mem_of_getElem? (i := 31) rfl)
theorem T_228 : Cond.methodLink RX6 195 yX4_canGo ∈ T0 := ax_c8 _ (List.mem_of_getElem? (i := 32) rfl)
theorem T_230 : Cond.methodLink RX6 207 yX6_hasWord ∈ T0 := ax_c8 _ (List.mem_of_getElem? (i := 33) rfl)
theorem T_231 : Cond.instanceMethod yX6_hasWord ∈ T0 := ax_c8 _ (List.mem_of_getElem? (i := 34) rfl)
theorem T_232 : Cond.selects RX6 yX6_hasWord yX6_hasWord ∈ T0 := ax_c8 _ (List.mem_of_getElem? (i := 35) rfl)
theorem T_233 : Cond.fieldLink RX6 59 "LaneWarps" "drawn" "J" ∈ T0 := ax_c8 _ (List.mem_of_getElem? (i := 36) rfl)
theorem T_235 : Cond.methodLink RX1 72 yX1_pickWarp ∈ T0 := ax_c8 _ (List.mem_of_getElem? (i := 37) rfl)
theorem T_236 : Cond.instanceMethod yX1_pickWarp ∈ T0 := ax_c8 _ (List.mem_of_getElem? (i := 38) rfl)
theorem T_237 : Cond.selects RX1 yX1_pickWarp yX1_pickWarp ∈ T0 := ax_c8 _ (List.mem_of_getElem? (i := 39) rfl)
theorem ax_c9 : ∀ w ∈ Tc9, w ∈ T0 := fun _ h => List.mem_append_left _ (List.mem_append_right _ (List.mem_append_right _ (List.mem_append_right _ (List.mem_append_right _ (List.mem_append_right _ (List.mem_append_right _ (List.mem_append_right _ (List.mem_append_right _ (List.mem_append_right _ (List.mem_append_left _ h))))))))))
theorem T_239 : Cond.methodLink RX1 76 yX1_pickLanes ∈ T0 := ax_c9 _ (List.mem_of_getElem? (i := 0) rfl)
theorem T_240 : Cond.instanceMethod yX1_pickLanes ∈ T0 := ax_c9 _ (List.mem_of_getElem? (i := 1) rfl)
theorem T_241 : Cond.selects RX1 yX1_pickLanes yX1_pickLanes ∈ T0 := ax_c9 _ (List.mem_of_getElem? (i := 2) rfl)
theorem T_243 : Cond.methodLink RX1 89 yX1_measure ∈ T0 := ax_c9 _ (List.mem_of_getElem? (i := 3) rfl)
theorem T_244 : Cond.instanceMethod yX1_measure ∈ T0 := ax_c9 _ (List.mem_of_getElem? (i := 4) rfl)
theorem T_245 : Cond.selects RX1 yX1_measure yX1_measure ∈ T0 := ax_c9 _ (List.mem_of_getElem? (i := 5) rfl)
theorem T_247 : Cond.methodLink RX1 202 yX4_touch ∈ T0 := ax_c9 _ (List.mem_of_getElem? (i := 6) rfl)
theorem T_248 : Cond.instanceMethod yX4_touch ∈ T0 := ax_c9 _ (List.mem_of_getElem? (i := 7) rfl)
theorem T_249 : Cond.selects RX4 yX4_touch yX4_touch ∈ T0 := ax_c9 _ (List.mem_of_getElem? (i := 8) rfl)
theorem T_250 : Cond.fieldLink RX1 198 "LaneWarps$Machine" "loaded" "J" ∈ T0 := ax_c9 _ (List.mem_of_getElem? (i := 9) rfl)
theorem T_252 : Cond.methodLink RX1 185 yX1_ask ∈ T0 := ax_c9 _ (List.mem_of_getElem? (i := 10) rfl)
theorem T_253 : Cond.instanceMethod yX1_ask ∈ T0 := ax_c9 _ (List.mem_of_getElem? (i := 11) rfl)
theorem T_254 : Cond.selects RX1 yX1_ask yX1_ask ∈ T0 := ax_c9 _ (List.mem_of_getElem? (i := 12) rfl)
theorem T_256 : Cond.methodLink RX1 179 yX1_result ∈ T0 := ax_c9 _ (List.mem_of_getElem? (i := 13) rfl)
theorem T_257 : Cond.instanceMethod yX1_result ∈ T0 := ax_c9 _ (List.mem_of_getElem? (i := 14) rfl)
theorem T_258 : Cond.selects RX1 yX1_result yX1_result ∈ T0 := ax_c9 _ (List.mem_of_getElem? (i := 15) rfl)
theorem T_260 : Cond.methodLink RX1 182 yX1_bounded ∈ T0 := ax_c9 _ (List.mem_of_getElem? (i := 16) rfl)
theorem T_261 : Cond.static yX1_bounded ∈ T0 := ax_c9 _ (List.mem_of_getElem? (i := 17) rfl)
theorem T_263 : Cond.methodLink RX1 22 yX1_foresee ∈ T0 := ax_c9 _ (List.mem_of_getElem? (i := 18) rfl)
theorem T_264 : Cond.instanceMethod yX1_foresee ∈ T0 := ax_c9 _ (List.mem_of_getElem? (i := 19) rfl)
theorem T_265 : Cond.selects RX1 yX1_foresee yX1_foresee ∈ T0 := ax_c9 _ (List.mem_of_getElem? (i := 20) rfl)
theorem T_267 : Cond.methodLink RX1 26 yX1_keepLine ∈ T0 := ax_c9 _ (List.mem_of_getElem? (i := 21) rfl)
theorem T_268 : Cond.instanceMethod yX1_keepLine ∈ T0 := ax_c9 _ (List.mem_of_getElem? (i := 22) rfl)
theorem T_269 : Cond.selects RX1 yX1_keepLine yX1_keepLine ∈ T0 := ax_c9 _ (List.mem_of_getElem? (i := 23) rfl)
theorem T_271 : Cond.methodLink RX1 47 yX1_work ∈ T0 := ax_c9 _ (List.mem_of_getElem? (i := 24) rfl)
theorem T_272 : Cond.instanceMethod yX1_work ∈ T0 := ax_c9 _ (List.mem_of_getElem? (i := 25) rfl)
theorem T_273 : Cond.selects RX1 yX1_work yX1_work ∈ T0 := ax_c9 _ (List.mem_of_getElem? (i := 26) rfl)
theorem T_275 : Cond.methodLink RX1 56 yX1_moveEach ∈ T0 := ax_c9 _ (List.mem_of_getElem? (i := 27) rfl)
theorem T_276 : Cond.instanceMethod yX1_moveEach ∈ T0 := ax_c9 _ (List.mem_of_getElem? (i := 28) rfl)
theorem T_277 : Cond.selects RX1 yX1_moveEach yX1_moveEach ∈ T0 := ax_c9 _ (List.mem_of_getElem? (i := 29) rfl)
theorem T_279 : Cond.methodLink RX1 53 yX1_moveTop ∈ T0 := ax_c9 _ (List.mem_of_getElem? (i := 30) rfl)
theorem T_280 : Cond.instanceMethod yX1_moveTop ∈ T0 := ax_c9 _ (List.mem_of_getElem? (i := 31) rfl)
theorem T_281 : Cond.selects RX1 yX1_moveTop yX1_moveTop ∈ T0 := ax_c9 _ (List.mem_of_getElem? (i := 32) rfl)
theorem T_283 : Cond.methodLink RX1 64 yX4_passBarIfAllWait ∈ T0 := ax_c9 _ (List.mem_of_getElem? (i := 33) rfl)
theorem T_284 : Cond.instanceMethod yX4_passBarIfAllWait ∈ T0 := ax_c9 _ (List.mem_of_getElem? (i := 34) rfl)
theorem T_285 : Cond.selects RX4 yX4_passBarIfAllWait yX4_passBarIfAllWait ∈ T0 := ax_c9 _ (List.mem_of_getElem? (i := 35) rfl)
theorem T_286 : Cond.fieldLink RX0 25 "LaneWarps$Forecast" "scout" "LLaneWarps$State;" ∈ T0 := ax_c9 _ (List.mem_of_getElem? (i := 36) rfl)
theorem T_288 : Cond.methodLink RX0 70 yX4_copyFrom ∈ T0 := ax_c9 _ (List.mem_of_getElem? (i := 37) rfl)
theorem T_289 : Cond.instanceMethod yX4_copyFrom ∈ T0 := ax_c9 _ (List.mem_of_getElem? (i := 38) rfl)
theorem T_290 : Cond.selects RX4 yX4_copyFrom yX4_copyFrom ∈ T0 := ax_c9 _ (List.mem_of_getElem? (i := 39) rfl)
theorem ax_c10 : ∀ w ∈ Tc10, w ∈ T0 := fun _ h => List.mem_append_left _ (List.mem_append_right _ (List.mem_append_right _ (List.mem_append_right _ (List.mem_append_right _ (List.mem_append_right _ (List.mem_append_right _ (List.mem_append_right _ (List.mem_append_right _ (List.mem_append_right _ (List.mem_append_right _ (List.mem_append_left _ h)))))))))))
theorem T_292 : Cond.methodLink RX0 74 yX1_step ∈ T0 := ax_c10 _ (List.mem_of_getElem? (i := 0) rfl)
theorem T_293 : Cond.instanceMethod yX1_step ∈ T0 := ax_c10 _ (List.mem_of_getElem? (i := 1) rfl)
theorem T_294 : Cond.selects RX1 yX1_step yX1_step ∈ T0 := ax_c10 _ (List.mem_of_getElem? (i := 2) rfl)
theorem T_295 : Cond.fieldLink RX0 21 "LaneWarps$Forecast" "origin" "LLaneWarps$State;" ∈ T0 := ax_c10 _ (List.mem_of_getElem? (i := 3) rfl)
theorem T_296 : Cond.methodLink RX0 78 yX4_lay ∈ T0 := ax_c10 _ (List.mem_of_getElem? (i := 4) rfl)
theorem T_298 : Cond.methodLink RX0 82 yX4_restart ∈ T0 := ax_c10 _ (List.mem_of_getElem? (i := 5) rfl)
theorem T_299 : Cond.instanceMethod yX4_restart ∈ T0 := ax_c10 _ (List.mem_of_getElem? (i := 6) rfl)
theorem T_300 : Cond.selects RX4 yX4_restart yX4_restart ∈ T0 := ax_c10 _ (List.mem_of_getElem? (i := 7) rfl)
theorem T_302 : Cond.methodLink RX0 101 yX4_hasNoneToGo ∈ T0 := ax_c10 _ (List.mem_of_getElem? (i := 8) rfl)
theorem T_303 : Cond.instanceMethod yX4_hasNoneToGo ∈ T0 := ax_c10 _ (List.mem_of_getElem? (i := 9) rfl)
theorem T_304 : Cond.selects RX4 yX4_hasNoneToGo yX4_hasNoneToGo ∈ T0 := ax_c10 _ (List.mem_of_getElem? (i := 10) rfl)
theorem T_305 : Cond.fieldLink RX0 28 "LaneWarps$Forecast" "trail" "LLaneWarps$State;" ∈ T0 := ax_c10 _ (List.mem_of_getElem? (i := 11) rfl)
theorem T_307 : Cond.methodLink RX0 104 yX4_isLike ∈ T0 := ax_c10 _ (List.mem_of_getElem? (i := 12) rfl)
theorem T_308 : Cond.instanceMethod yX4_isLike ∈ T0 := ax_c10 _ (List.mem_of_getElem? (i := 13) rfl)
theorem T_309 : Cond.selects RX4 yX4_isLike yX4_isLike ∈ T0 := ax_c10 _ (List.mem_of_getElem? (i := 14) rfl)
theorem T_311 : Cond.methodLink RX0 85 yX0_cyclesToRest ∈ T0 := ax_c10 _ (List.mem_of_getElem? (i := 15) rfl)
theorem T_312 : Cond.instanceMethod yX0_cyclesToRest ∈ T0 := ax_c10 _ (List.mem_of_getElem? (i := 16) rfl)
theorem T_313 : Cond.selects RX0 yX0_cyclesToRest yX0_cyclesToRest ∈ T0 := ax_c10 _ (List.mem_of_getElem? (i := 17) rfl)
theorem T_314 : Cond.fieldLink RX0 31 "LaneWarps$Forecast" "courses" "[I" ∈ T0 := ax_c10 _ (List.mem_of_getElem? (i := 18) rfl)
theorem T_316 : Cond.methodLink RX0 89 yX4_hasEnded ∈ T0 := ax_c10 _ (List.mem_of_getElem? (i := 19) rfl)
theorem T_317 : Cond.instanceMethod yX4_hasEnded ∈ T0 := ax_c10 _ (List.mem_of_getElem? (i := 20) rfl)
theorem T_318 : Cond.selects RX4 yX4_hasEnded yX4_hasEnded ∈ T0 := ax_c10 _ (List.mem_of_getElem? (i := 21) rfl)
theorem T_320 : Cond.methodLink RX0 93 yX0_roundFromHere ∈ T0 := ax_c10 _ (List.mem_of_getElem? (i := 22) rfl)
theorem T_321 : Cond.instanceMethod yX0_roundFromHere ∈ T0 := ax_c10 _ (List.mem_of_getElem? (i := 23) rfl)
theorem T_322 : Cond.selects RX0 yX0_roundFromHere yX0_roundFromHere ∈ T0 := ax_c10 _ (List.mem_of_getElem? (i := 24) rfl)
theorem T_324 : Cond.methodLink RX0 97 yX0_firstAgain ∈ T0 := ax_c10 _ (List.mem_of_getElem? (i := 25) rfl)
theorem T_325 : Cond.instanceMethod yX0_firstAgain ∈ T0 := ax_c10 _ (List.mem_of_getElem? (i := 26) rfl)
theorem T_326 : Cond.selects RX0 yX0_firstAgain yX0_firstAgain ∈ T0 := ax_c10 _ (List.mem_of_getElem? (i := 27) rfl)
theorem T_328 : Cond.methodLink RX0 107 yX0_begun ∈ T0 := ax_c10 _ (List.mem_of_getElem? (i := 28) rfl)
theorem T_329 : Cond.instanceMethod yX0_begun ∈ T0 := ax_c10 _ (List.mem_of_getElem? (i := 29) rfl)
theorem T_330 : Cond.selects RX0 yX0_begun yX0_begun ∈ T0 := ax_c10 _ (List.mem_of_getElem? (i := 30) rfl)
theorem T_332 : Cond.methodLink RX0 126 yX4_leaveAlone ∈ T0 := ax_c10 _ (List.mem_of_getElem? (i := 31) rfl)
theorem T_333 : Cond.instanceMethod yX4_leaveAlone ∈ T0 := ax_c10 _ (List.mem_of_getElem? (i := 32) rfl)
theorem T_334 : Cond.selects RX4 yX4_leaveAlone yX4_leaveAlone ∈ T0 := ax_c10 _ (List.mem_of_getElem? (i := 33) rfl)
theorem T_335 : Cond.constant RX0 138 (-1000000) ∈ T0 := ax_c10 _ (List.mem_of_getElem? (i := 34) rfl)
theorem T_336 : Cond.fieldLink RX6 44 "LaneWarps" "machine" "LLaneWarps$Machine;" ∈ T0 := ax_c10 _ (List.mem_of_getElem? (i := 35) rfl)
theorem T_337 : Cond.methodLink RX6 223 yX1_foresee ∈ T0 := ax_c10 _ (List.mem_of_getElem? (i := 36) rfl)
theorem T_338 : Cond.fieldLink RX6 51 "LaneWarps" "forecast" "LLaneWarps$Forecast;" ∈ T0 := ax_c10 _ (List.mem_of_getElem? (i := 37) rfl)
theorem T_340 : Cond.methodLink RX6 239 yX0_course ∈ T0 := ax_c10 _ (List.mem_of_getElem? (i := 38) rfl)
theorem T_341 : Cond.instanceMethod yX0_course ∈ T0 := ax_c10 _ (List.mem_of_getElem? (i := 39) rfl)
theorem ax_c11 : ∀ w ∈ Tc11, w ∈ T0 := fun _ h => List.mem_append_left _ (List.mem_append_right _ (List.mem_append_right _ (List.mem_append_right _ (List.mem_append_right _ (List.mem_append_right _ (List.mem_append_right _ (List.mem_append_right _ (List.mem_append_right _ (List.mem_append_right _ (List.mem_append_right _ (List.mem_append_right _ (List.mem_append_left _ h))))))))))))
theorem T_342 : Cond.selects RX0 yX0_course yX0_course ∈ T0 := ax_c11 _ (List.mem_of_getElem? (i := 0) rfl)
theorem T_344 : Cond.methodLink RX6 243 yX0_behind ∈ T0 := ax_c11 _ (List.mem_of_getElem? (i := 1) rfl)
theorem T_345 : Cond.instanceMethod yX0_behind ∈ T0 := ax_c11 _ (List.mem_of_getElem? (i := 2) rfl)
theorem T_346 : Cond.selects RX0 yX0_behind yX0_behind ∈ T0 := ax_c11 _ (List.mem_of_getElem? (i := 3) rfl)
theorem T_348 : Cond.methodLink RX6 247 yX6_isMode ∈ T0 := ax_c11 _ (List.mem_of_getElem? (i := 4) rfl)
theorem T_349 : Cond.static yX6_isMode ∈ T0 := ax_c11 _ (List.mem_of_getElem? (i := 5) rfl)
theorem T_351 : Cond.methodLink RX6 250 yX6_isOrder ∈ T0 := ax_c11 _ (List.mem_of_getElem? (i := 6) rfl)
theorem T_352 : Cond.static yX6_isOrder ∈ T0 := ax_c11 _ (List.mem_of_getElem? (i := 7) rfl)
theorem T_353 : Cond.methodLink RX6 253 yX0_begun ∈ T0 := ax_c11 _ (List.mem_of_getElem? (i := 8) rfl)
theorem T_355 : Cond.methodLink RX6 257 yX6_layout ∈ T0 := ax_c11 _ (List.mem_of_getElem? (i := 9) rfl)
theorem T_356 : Cond.static yX6_layout ∈ T0 := ax_c11 _ (List.mem_of_getElem? (i := 10) rfl)
theorem T_358 : Cond.methodLink RX6 261 yX0_tryBy ∈ T0 := ax_c11 _ (List.mem_of_getElem? (i := 11) rfl)
theorem T_359 : Cond.instanceMethod yX0_tryBy ∈ T0 := ax_c11 _ (List.mem_of_getElem? (i := 12) rfl)
theorem T_360 : Cond.selects RX0 yX0_tryBy yX0_tryBy ∈ T0 := ax_c11 _ (List.mem_of_getElem? (i := 13) rfl)
theorem T_362 : Cond.methodLink RX6 264 yX0_tryLane ∈ T0 := ax_c11 _ (List.mem_of_getElem? (i := 14) rfl)
theorem T_363 : Cond.instanceMethod yX0_tryLane ∈ T0 := ax_c11 _ (List.mem_of_getElem? (i := 15) rfl)
theorem T_364 : Cond.selects RX0 yX0_tryLane yX0_tryLane ∈ T0 := ax_c11 _ (List.mem_of_getElem? (i := 16) rfl)
theorem T_366 : Cond.methodLink RX6 268 yX0_solo ∈ T0 := ax_c11 _ (List.mem_of_getElem? (i := 17) rfl)
theorem T_367 : Cond.instanceMethod yX0_solo ∈ T0 := ax_c11 _ (List.mem_of_getElem? (i := 18) rfl)
theorem T_368 : Cond.selects RX0 yX0_solo yX0_solo ∈ T0 := ax_c11 _ (List.mem_of_getElem? (i := 19) rfl)
theorem T_370 : Cond.methodLink RX6 271 yX6_isAsAlone ∈ T0 := ax_c11 _ (List.mem_of_getElem? (i := 20) rfl)
theorem T_371 : Cond.instanceMethod yX6_isAsAlone ∈ T0 := ax_c11 _ (List.mem_of_getElem? (i := 21) rfl)
theorem T_372 : Cond.selects RX6 yX6_isAsAlone yX6_isAsAlone ∈ T0 := ax_c11 _ (List.mem_of_getElem? (i := 22) rfl)
theorem T_374 : Cond.methodLink RX6 274 yX0_tryWord ∈ T0 := ax_c11 _ (List.mem_of_getElem? (i := 23) rfl)
theorem T_375 : Cond.instanceMethod yX0_tryWord ∈ T0 := ax_c11 _ (List.mem_of_getElem? (i := 24) rfl)
theorem T_376 : Cond.selects RX0 yX0_tryWord yX0_tryWord ∈ T0 := ax_c11 _ (List.mem_of_getElem? (i := 25) rfl)
theorem T_377 : Cond.methodLink RX6 277 yX0_cyclesWith ∈ T0 := ax_c11 _ (List.mem_of_getElem? (i := 26) rfl)
theorem T_379 : Cond.methodLink RX6 280 yX0_unlike ∈ T0 := ax_c11 _ (List.mem_of_getElem? (i := 27) rfl)
theorem T_380 : Cond.instanceMethod yX0_unlike ∈ T0 := ax_c11 _ (List.mem_of_getElem? (i := 28) rfl)
theorem T_381 : Cond.selects RX0 yX0_unlike yX0_unlike ∈ T0 := ax_c11 _ (List.mem_of_getElem? (i := 29) rfl)
theorem T_382 : Cond.fieldLink RX6 292 "LaneWarps" "oldestAct" "I" ∈ T0 := ax_c11 _ (List.mem_of_getElem? (i := 30) rfl)
theorem T_383 : Cond.fieldLink RX6 37 "LaneWarps" "past" "[LLaneWarps$State;" ∈ T0 := ax_c11 _ (List.mem_of_getElem? (i := 31) rfl)
theorem T_384 : Cond.methodLink RX6 295 yX4_copyFrom ∈ T0 := ax_c11 _ (List.mem_of_getElem? (i := 32) rfl)
theorem T_386 : Cond.methodLink RX6 299 yX0_forgetAhead ∈ T0 := ax_c11 _ (List.mem_of_getElem? (i := 33) rfl)
theorem T_387 : Cond.instanceMethod yX0_forgetAhead ∈ T0 := ax_c11 _ (List.mem_of_getElem? (i := 34) rfl)
theorem T_388 : Cond.selects RX0 yX0_forgetAhead yX0_forgetAhead ∈ T0 := ax_c11 _ (List.mem_of_getElem? (i := 35) rfl)
theorem T_389 : Cond.methodLink RX6 302 yX1_step ∈ T0 := ax_c11 _ (List.mem_of_getElem? (i := 36) rfl)
theorem T_390 : Cond.constantLong RX6 305 (1103515245) ∈ T0 := ax_c11 _ (List.mem_of_getElem? (i := 37) rfl)
theorem T_391 : Cond.constantLong RX6 307 (12345) ∈ T0 := ax_c11 _ (List.mem_of_getElem? (i := 38) rfl)
theorem T_392 : Cond.constantLong RX6 309 (2147483647) ∈ T0 := ax_c11 _ (List.mem_of_getElem? (i := 39) rfl)
theorem ax_c12 : ∀ w ∈ Tc12, w ∈ T0 := fun _ h => List.mem_append_left _ (List.mem_append_right _ (List.mem_append_right _ (List.mem_append_right _ (List.mem_append_right _ (List.mem_append_right _ (List.mem_append_right _ (List.mem_append_right _ (List.mem_append_right _ (List.mem_append_right _ (List.mem_append_right _ (List.mem_append_right _ (List.mem_append_right _ (List.mem_append_left _ h)))))))))))))
theorem T_393 : Cond.constantLong RX6 311 (64) ∈ T0 := ax_c12 _ (List.mem_of_getElem? (i := 0) rfl)
theorem T_395 : Cond.methodLink RX6 283 yX6_keepForUndo ∈ T0 := ax_c12 _ (List.mem_of_getElem? (i := 1) rfl)
theorem T_396 : Cond.instanceMethod yX6_keepForUndo ∈ T0 := ax_c12 _ (List.mem_of_getElem? (i := 2) rfl)
theorem T_397 : Cond.selects RX6 yX6_keepForUndo yX6_keepForUndo ∈ T0 := ax_c12 _ (List.mem_of_getElem? (i := 3) rfl)
theorem T_399 : Cond.methodLink RX6 286 yX6_run ∈ T0 := ax_c12 _ (List.mem_of_getElem? (i := 4) rfl)
theorem T_400 : Cond.instanceMethod yX6_run ∈ T0 := ax_c12 _ (List.mem_of_getElem? (i := 5) rfl)
theorem T_401 : Cond.selects RX6 yX6_run yX6_run ∈ T0 := ax_c12 _ (List.mem_of_getElem? (i := 6) rfl)
theorem T_402 : Cond.methodLink RX6 97 yX4_lay ∈ T0 := ax_c12 _ (List.mem_of_getElem? (i := 7) rfl)
theorem T_403 : Cond.methodLink RX6 101 yX4_restart ∈ T0 := ax_c12 _ (List.mem_of_getElem? (i := 8) rfl)
theorem T_405 : Cond.methodLink RX6 289 yX6_draw ∈ T0 := ax_c12 _ (List.mem_of_getElem? (i := 9) rfl)
theorem T_406 : Cond.instanceMethod yX6_draw ∈ T0 := ax_c12 _ (List.mem_of_getElem? (i := 10) rfl)
theorem T_407 : Cond.selects RX6 yX6_draw yX6_draw ∈ T0 := ax_c12 _ (List.mem_of_getElem? (i := 11) rfl)
theorem T_408 : Cond.fieldLink RJ0 1053 "jdk/internal/util/Preconditions" "SIOOBE_FORMATTER" "Ljava/util/function/BiFunction;" ∈ T0 := ax_c12 _ (List.mem_of_getElem? (i := 12) rfl)
theorem T_410 : Cond.initialized RJ3 ∈ T0 := ax_c12 _ (List.mem_of_getElem? (i := 13) rfl)
theorem T_411 : Cond.methodLink RJ0 1059 yJ3_checkIndex_8e157 ∈ T0 := ax_c12 _ (List.mem_of_getElem? (i := 14) rfl)
theorem T_412 : Cond.static yJ3_checkIndex_8e157 ∈ T0 := ax_c12 _ (List.mem_of_getElem? (i := 15) rfl)
theorem T_413 : Cond.fieldLink RJ0 38 "java/lang/String" "COMPACT_STRINGS" "Z" ∈ T0 := ax_c12 _ (List.mem_of_getElem? (i := 16) rfl)
theorem T_414 : Cond.fieldLink RJ0 15 "java/lang/String" "coder" "B" ∈ T0 := ax_c12 _ (List.mem_of_getElem? (i := 17) rfl)
theorem T_415 : Cond.fieldLink RJ0 9 "java/lang/String" "value" "[B" ∈ T0 := ax_c12 _ (List.mem_of_getElem? (i := 18) rfl)
theorem T_417 : Cond.initialized RJ0 ∈ T0 := ax_c12 _ (List.mem_of_getElem? (i := 19) rfl)
theorem T_418 : Cond.methodLink RJ0 335 yJ0_coder_7d493 ∈ T0 := ax_c12 _ (List.mem_of_getElem? (i := 20) rfl)
theorem T_419 : Cond.instanceMethod yJ0_coder_7d493 ∈ T0 := ax_c12 _ (List.mem_of_getElem? (i := 21) rfl)
theorem T_420 : Cond.selects RJ0 yJ0_coder_7d493 yJ0_coder_7d493 ∈ T0 := ax_c12 _ (List.mem_of_getElem? (i := 22) rfl)
theorem T_422 : Cond.methodLink RJ1 9 yJ0_checkIndex_df160 ∈ T0 := ax_c12 _ (List.mem_of_getElem? (i := 23) rfl)
theorem T_423 : Cond.static yJ0_checkIndex_df160 ∈ T0 := ax_c12 _ (List.mem_of_getElem? (i := 24) rfl)
theorem T_425 : Cond.methodLink RJ0 492 yJ0_isLatin1_aae02 ∈ T0 := ax_c12 _ (List.mem_of_getElem? (i := 25) rfl)
theorem T_426 : Cond.instanceMethod yJ0_isLatin1_aae02 ∈ T0 := ax_c12 _ (List.mem_of_getElem? (i := 26) rfl)
theorem T_427 : Cond.selects RJ0 yJ0_isLatin1_aae02 yJ0_isLatin1_aae02 ∈ T0 := ax_c12 _ (List.mem_of_getElem? (i := 27) rfl)
theorem T_429 : Cond.initialized RJ1 ∈ T0 := ax_c12 _ (List.mem_of_getElem? (i := 28) rfl)
theorem T_430 : Cond.methodLink RJ0 495 yJ1_charAt_3b067 ∈ T0 := ax_c12 _ (List.mem_of_getElem? (i := 29) rfl)
theorem T_431 : Cond.static yJ1_charAt_3b067 ∈ T0 := ax_c12 _ (List.mem_of_getElem? (i := 30) rfl)
theorem T_432 : Cond.fieldLink RX3 50 "LaneWarps$Reader" "fault" "I" ∈ T0 := ax_c12 _ (List.mem_of_getElem? (i := 31) rfl)
theorem T_433 : Cond.fieldLink RX3 24 "LaneWarps$Reader" "place" "I" ∈ T0 := ax_c12 _ (List.mem_of_getElem? (i := 32) rfl)
theorem T_434 : Cond.fieldLink RX3 35 "LaneWarps$Reader" "into" "LLaneWarps$Program;" ∈ T0 := ax_c12 _ (List.mem_of_getElem? (i := 33) rfl)
theorem T_435 : Cond.fieldLink RX3 9 "LaneWarps$Reader" "nameAt" "[I" ∈ T0 := ax_c12 _ (List.mem_of_getElem? (i := 34) rfl)
theorem T_436 : Cond.fieldLink RX3 15 "LaneWarps$Reader" "nameEnd" "[I" ∈ T0 := ax_c12 _ (List.mem_of_getElem? (i := 35) rfl)
theorem T_437 : Cond.fieldLink RX3 28 "LaneWarps$Reader" "text" "[B" ∈ T0 := ax_c12 _ (List.mem_of_getElem? (i := 36) rfl)
theorem T_438 : Cond.fieldLink RX3 18 "LaneWarps$Reader" "aimAt" "[I" ∈ T0 := ax_c12 _ (List.mem_of_getElem? (i := 37) rfl)
theorem T_439 : Cond.fieldLink RX3 21 "LaneWarps$Reader" "aimEnd" "[I" ∈ T0 := ax_c12 _ (List.mem_of_getElem? (i := 38) rfl)
theorem T_441 : Cond.initialized RX3 ∈ T0 := ax_c12 _ (List.mem_of_getElem? (i := 39) rfl)
theorem ax_c13 : ∀ w ∈ Tc13, w ∈ T0 := fun _ h => List.mem_append_left _ (List.mem_append_right _ (List.mem_append_right _ (List.mem_append_right _ (List.mem_append_right _ (List.mem_append_right _ (List.mem_append_right _ (List.mem_append_right _ (List.mem_append_right _ (List.mem_append_right _ (List.mem_append_right _ (List.mem_append_right _ (List.mem_append_right _ (List.mem_append_right _ (h))))))))))))))
theorem T_442 : Cond.methodLink RX3 103 yX3_lineNamed ∈ T0 := ax_c13 _ (List.mem_of_getElem? (i := 0) rfl)
theorem T_443 : Cond.instanceMethod yX3_lineNamed ∈ T0 := ax_c13 _ (List.mem_of_getElem? (i := 1) rfl)
theorem T_444 : Cond.selects RX3 yX3_lineNamed yX3_lineNamed ∈ T0 := ax_c13 _ (List.mem_of_getElem? (i := 2) rfl)
theorem T_446 : Cond.methodLink RX3 63 yX3_fail ∈ T0 := ax_c13 _ (List.mem_of_getElem? (i := 3) rfl)
theorem T_447 : Cond.instanceMethod yX3_fail ∈ T0 := ax_c13 _ (List.mem_of_getElem? (i := 4) rfl)
theorem T_448 : Cond.selects RX3 yX3_fail yX3_fail ∈ T0 := ax_c13 _ (List.mem_of_getElem? (i := 5) rfl)
theorem T_449 : Cond.constant RX2 43 (-1000000) ∈ T0 := ax_c13 _ (List.mem_of_getElem? (i := 6) rfl)
theorem T_450 : Cond.fieldLink RX2 20 "LaneWarps$Program" "passed" "[J" ∈ T0 := ax_c13 _ (List.mem_of_getElem? (i := 7) rfl)
theorem inX0 : ∀ w ∈ wsX00, w ∈ T0 := fun _ h => List.mem_append_right _ (List.mem_append_left _ h)
theorem inX1 : ∀ w ∈ wsX10, w ∈ T0 := fun _ h => List.mem_append_right _ (List.mem_append_right _ (List.mem_append_left _ h))
theorem inX2 : ∀ w ∈ wsX20, w ∈ T0 := fun _ h => List.mem_append_right _ (List.mem_append_right _ (List.mem_append_right _ (List.mem_append_left _ h)))
theorem inX3 : ∀ w ∈ wsX30, w ∈ T0 := fun _ h => List.mem_append_right _ (List.mem_append_right _ (List.mem_append_right _ (List.mem_append_right _ (List.mem_append_left _ h))))
theorem inX4 : ∀ w ∈ wsX40, w ∈ T0 := fun _ h => List.mem_append_right _ (List.mem_append_right _ (List.mem_append_right _ (List.mem_append_right _ (List.mem_append_right _ (List.mem_append_left _ h)))))
theorem inX5 : ∀ w ∈ wsX50, w ∈ T0 := fun _ h => List.mem_append_right _ (List.mem_append_right _ (List.mem_append_right _ (List.mem_append_right _ (List.mem_append_right _ (List.mem_append_right _ (List.mem_append_left _ h))))))
theorem inX6 : ∀ w ∈ wsX60, w ∈ T0 := fun _ h => List.mem_append_right _ (List.mem_append_right _ (List.mem_append_right _ (List.mem_append_right _ (List.mem_append_right _ (List.mem_append_right _ (List.mem_append_right _ (List.mem_append_left _ h)))))))
theorem inX7 : ∀ w ∈ wsX70, w ∈ T0 := fun _ h => List.mem_append_right _ (List.mem_append_right _ (List.mem_append_right _ (List.mem_append_right _ (List.mem_append_right _ (List.mem_append_right _ (List.mem_append_right _ (List.mem_append_right _ (h))))))))
set_option maxRecDepth 20000 in
theorem ax_good : T0.all goodWord = true := by decide +kernel
set_option maxRecDepth 20000 in
theorem ax_lawc0 : GoodIn lw_tbl Tc0 := goodIn_p Tc0 [670, 872, 884, 892, 484, 927, 665, 653, 818, 613, 919, 924, 733, 685, 900, 780, 729, 797, 792, 784, 787, 864, 699, 860, 876] rfl (by decide +kernel)
set_option maxRecDepth 20000 in
theorem ax_lawc1 : GoodIn lw_tbl Tc1 := goodIn_p Tc1 [868, 880, 405, 1005, 717, 461, 682, 692, 696, 713, 721, 745, 765, 770, 776, 852, 848, 840, 843, 761, 832, 836, 888, 856, 896] rfl (by decide +kernel)
set_option maxRecDepth 20000 in
theorem ax_lawc2 : GoodIn lw_tbl Tc2 := goodIn_p Tc2 [813, 827, 657, 823, 915, 809, 907, 911, 932, 954, 980, 805, 940, 947, 950, 959, 971, 975, 985, 993, 1001, 1013, 1027, 1022, 1032] rfl (by decide +kernel)
set_option maxRecDepth 20000 in
theorem ax_lawc3 : GoodIn lw_tbl Tc3 := goodIn_p Tc3 [1053, 529, 508, 524, 518, 521, 575, 563] rfl (by decide +kernel)
set_option maxRecDepth 20000 in
theorem ax_lawc4 : GoodIn lw_tbl Tc4 := ax_places Tc4 [686, 687, 688, 189, 192, 186, 184, 179, 182, 177, 36, 667, 669, 0, 901, 870, 871, 902, 882, 883, 903, 890, 891, 173, 40, 666, 483, 196, 200, 203, 819, 660, 659, 46, 32, 926, 249, 252, 255, 247] (by decide +kernel) (by decide +kernel)
set_option maxRecDepth 20000 in
theorem ax_lawc5 : GoodIn lw_tbl Tc5 := ax_places Tc5 [233, 658, 237, 661, 240, 241, 242, 259, 261, 264, 266, 229, 662, 663, 664, 35, 814, 651, 652, 244, 815, 816, 817, 920, 612, 45, 916, 918, 1, 921, 922, 923, 730, 731, 732, 47, 683, 684, 897, 898] (by decide +kernel) (by decide +kernel)
set_option maxRecDepth 20000 in
theorem ax_lawc6 : GoodIn lw_tbl Tc6 := ax_places Tc6 [899, 309, 317, 788, 37, 777, 779, 2, 307, 310, 766, 727, 728, 313, 311, 771, 319, 772, 315, 308, 793, 312, 320, 794, 796, 3, 789, 791, 4, 781, 783, 5, 45, 785, 786, 861, 863, 6, 844, 698] (by decide +kernel) (by decide +kernel)
set_option maxRecDepth 20000 in
theorem ax_lawc7 : GoodIn lw_tbl Tc7 := ax_places Tc7 [857, 859, 7, 873, 874, 875, 869, 865, 867, 8, 877, 878, 879, 881, 889, 124, 482, 128, 134, 138, 141, 120, 622, 364, 1028, 370, 371, 372, 366, 368, 369, 359, 410, 403, 404, 365, 38, 1014, 1003, 1004] (by decide +kernel) (by decide +kernel)
set_option maxRecDepth 20000 in
theorem ax_lawc8 : GoodIn lw_tbl Tc8 := ax_places Tc8 [367, 423, 416, 414, 714, 716, 9, 412, 458, 460, 10, 413, 417, 679, 680, 681, 689, 690, 691, 693, 694, 695, 697, 420, 700, 705, 710, 712, 11, 718, 719, 720, 726, 742, 744, 12, 424, 762, 764, 13] (by decide +kernel) (by decide +kernel)
set_option maxRecDepth 20000 in
theorem ax_lawc9 : GoodIn lw_tbl Tc9 := ax_places Tc9 [767, 769, 14, 773, 775, 15, 849, 850, 851, 323, 845, 847, 16, 837, 839, 17, 841, 842, 828, 759, 760, 829, 831, 18, 833, 835, 19, 885, 887, 20, 853, 855, 21, 893, 894, 895, 361, 810, 811, 812] (by decide +kernel) (by decide +kernel)
set_option maxRecDepth 20000 in
theorem ax_lawc10 : GoodIn lw_tbl Tc10 := ax_places Tc10 [824, 825, 826, 360, 955, 956, 655, 656, 820, 821, 822, 362, 912, 913, 914, 806, 808, 22, 363, 904, 905, 906, 908, 910, 23, 929, 931, 24, 976, 952, 953, 977, 978, 979, 981, 421, 758, 422, 802, 803] (by decide +kernel) (by decide +kernel)
set_option maxRecDepth 20000 in
theorem ax_lawc11 : GoodIn lw_tbl Tc11 := ax_places Tc11 [804, 937, 938, 939, 945, 946, 948, 949, 951, 957, 958, 968, 969, 970, 972, 973, 974, 982, 983, 984, 990, 992, 25, 998, 999, 1000, 1002, 1010, 1011, 1012, 419, 418, 1023, 1024, 1025, 1026, 1033, 1054, 1055, 1056] (by decide +kernel) (by decide +kernel)
set_option maxRecDepth 20000 in
theorem ax_lawc12 : GoodIn lw_tbl Tc12 := ax_places Tc12 [1057, 1019, 1021, 26, 1029, 1031, 27, 650, 654, 1050, 1052, 28, 525, 43, 527, 528, 509, 1722, 1721, 41, 505, 506, 507, 522, 523, 515, 516, 517, 42, 519, 520, 75, 77, 68, 62, 63, 66, 64, 65, 33] (by decide +kernel) (by decide +kernel)
set_option maxRecDepth 20000 in
theorem ax_lawc13 : GoodIn lw_tbl Tc13 := ax_places Tc13 [572, 574, 29, 560, 562, 30, 584, 127] (by decide +kernel) (by decide +kernel)
theorem ax_lawc : GoodIn lw_tbl T0w := goodIn_ap ax_lawc0 (goodIn_ap ax_lawc1 (goodIn_ap ax_lawc2 (goodIn_ap ax_lawc3 (goodIn_ap ax_lawc4 (goodIn_ap ax_lawc5 (goodIn_ap ax_lawc6 (goodIn_ap ax_lawc7 (goodIn_ap ax_lawc8 (goodIn_ap ax_lawc9 (goodIn_ap ax_lawc10 (goodIn_ap ax_lawc11 (goodIn_ap ax_lawc12 ax_lawc13))))))))))))
set_option maxRecDepth 20000 in
theorem ax_lawX0 : GoodIn lw_tbl wsX00 := goodIn_of _ (by decide +kernel)
set_option maxRecDepth 20000 in
theorem ax_lawX1 : GoodIn lw_tbl wsX10 := goodIn_of _ (by decide +kernel)
set_option maxRecDepth 20000 in
theorem ax_lawX2 : GoodIn lw_tbl wsX20 := goodIn_of _ (by decide +kernel)
set_option maxRecDepth 20000 in
theorem ax_lawX3 : GoodIn lw_tbl wsX30 := goodIn_of _ (by decide +kernel)
set_option maxRecDepth 20000 in
theorem ax_lawX4 : GoodIn lw_tbl wsX40 := goodIn_of _ (by decide +kernel)
set_option maxRecDepth 20000 in
theorem ax_lawX5 : GoodIn lw_tbl wsX50 := goodIn_of _ (by decide +kernel)
set_option maxRecDepth 20000 in
theorem ax_lawX6 : GoodIn lw_tbl wsX60 := goodIn_of _ (by decide +kernel)
set_option maxRecDepth 20000 in
theorem ax_lawX7 : GoodIn lw_tbl wsX70 := goodIn_of _ (by decide +kernel)
theorem ax_law : GoodIn lw_tbl T0 := goodIn_ap ax_lawc (goodIn_ap ax_lawX0 (goodIn_ap ax_lawX1 (goodIn_ap ax_lawX2 (goodIn_ap ax_lawX3 (goodIn_ap ax_lawX4 (goodIn_ap ax_lawX5 (goodIn_ap ax_lawX6 ax_lawX7)))))))
