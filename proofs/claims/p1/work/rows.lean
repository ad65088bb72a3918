section
/-- a private method of a class that the tables say can be made, by its rows of tables_1 -/
def lw_okq (q : MethodName × Nat) : Prop := (q.1.cls ≠ "java/lang/invoke/MethodHandle" ∧ q.1.cls ≠ "java/lang/invoke/VarHandle") ∧ Cond.instantiable q.1.cls q.2 ∈ tables_1 ∧ Cond.privateMethod q.1 ∈ tables_1 ∧ Cond.instanceMethod q.1 ∈ tables_1
theorem lw_p0 : lw_okq (⟨"LaneWarps", "layBytes", "(I)V"⟩, 14) := ⟨⟨by decide +kernel, by decide +kernel⟩, List.mem_of_getElem? (i := 18) (by decide +kernel), List.mem_of_getElem? (i := 432) (by decide +kernel), List.mem_of_getElem? (i := 433) (by decide +kernel)⟩
theorem lw_p1 : lw_okq (⟨"LaneWarps", "refuse", "(I)I"⟩, 14) := ⟨⟨by decide +kernel, by decide +kernel⟩, List.mem_of_getElem? (i := 18) (by decide +kernel), List.mem_of_getElem? (i := 428) (by decide +kernel), List.mem_of_getElem? (i := 429) (by decide +kernel)⟩
theorem lw_p2 : lw_okq (⟨"LaneWarps$Reader", "scan", "()V"⟩, 15) := ⟨⟨by decide +kernel, by decide +kernel⟩, List.mem_of_getElem? (i := 26) (by decide +kernel), List.mem_of_getElem? (i := 455) (by decide +kernel), List.mem_of_getElem? (i := 456) (by decide +kernel)⟩
theorem lw_p3 : lw_okq (⟨"LaneWarps$Reader", "fail", "(II)Z"⟩, 15) := ⟨⟨by decide +kernel, by decide +kernel⟩, List.mem_of_getElem? (i := 26) (by decide +kernel), List.mem_of_getElem? (i := 530) (by decide +kernel), List.mem_of_getElem? (i := 531) (by decide +kernel)⟩
theorem lw_p4 : lw_okq (⟨"LaneWarps", "hasWarp", "(I)Z"⟩, 14) := ⟨⟨by decide +kernel, by decide +kernel⟩, List.mem_of_getElem? (i := 18) (by decide +kernel), List.mem_of_getElem? (i := 684) (by decide +kernel), List.mem_of_getElem? (i := 685) (by decide +kernel)⟩
theorem lw_p5 : lw_okq (⟨"LaneWarps", "hasLane", "(II)Z"⟩, 14) := ⟨⟨by decide +kernel, by decide +kernel⟩, List.mem_of_getElem? (i := 18) (by decide +kernel), List.mem_of_getElem? (i := 680) (by decide +kernel), List.mem_of_getElem? (i := 681) (by decide +kernel)⟩
theorem lw_p6 : lw_okq (⟨"LaneWarps", "hasWord", "(ZI)Z"⟩, 14) := ⟨⟨by decide +kernel, by decide +kernel⟩, List.mem_of_getElem? (i := 18) (by decide +kernel), List.mem_of_getElem? (i := 712) (by decide +kernel), List.mem_of_getElem? (i := 713) (by decide +kernel)⟩
def lw_privs : List (MethodName × Nat) := [(⟨"LaneWarps", "layBytes", "(I)V"⟩, 14), (⟨"LaneWarps", "refuse", "(I)I"⟩, 14), (⟨"LaneWarps$Reader", "scan", "()V"⟩, 15), (⟨"LaneWarps$Reader", "fail", "(II)Z"⟩, 15), (⟨"LaneWarps", "hasWarp", "(I)Z"⟩, 14), (⟨"LaneWarps", "hasLane", "(II)Z"⟩, 14), (⟨"LaneWarps", "hasWord", "(ZI)Z"⟩, 14)]
def lw_tbl : List Cond := k2_sels lw_privs ++ tables_1
theorem lw_privs_ok : ∀ q ∈ lw_privs, lw_okq q := List.forall_mem_cons.mpr ⟨lw_p0, List.forall_mem_cons.mpr ⟨lw_p1, List.forall_mem_cons.mpr ⟨lw_p2, List.forall_mem_cons.mpr ⟨lw_p3, List.forall_mem_cons.mpr ⟨lw_p4, List.forall_mem_cons.mpr ⟨lw_p5, List.forall_mem_cons.mpr ⟨lw_p6, fun _ h => absurd h List.not_mem_nil⟩⟩⟩⟩⟩⟩⟩
end
section
theorem goodIn_ap {big a b : List Cond} (ha : GoodIn big a) (hb : GoodIn big b) : GoodIn big (a ++ b) := fun w h => (List.mem_append.mp h).elim (ha w) (hb w)
def RX0 : String := "LaneWarps$Forecast"
def TX0 : u_T := fun k => match k with
  | 0 => ("LaneWarps$Forecast", "machine", "LLaneWarps$Machine;", true)
  | 1 => ("LaneWarps$Forecast", "origin", "LLaneWarps$State;", true)
  | 2 => ("LaneWarps$Forecast", "scout", "LLaneWarps$State;", true)
  | 3 => ("LaneWarps$Forecast", "trail", "LLaneWarps$State;", true)
  | 4 => ("LaneWarps$Forecast", "courses", "[I", true)
  | 5 => ("LaneWarps$Forecast", "coursesKnown", "I", false)
  | 6 => ("LaneWarps$Forecast", "ends", "[I", true)
  | 7 => ("LaneWarps$Forecast", "endsKnown", "J", false)
  | 8 => ("LaneWarps$Forecast", "solos", "[I", true)
  | 9 => ("LaneWarps$Forecast", "solosKnown", "I", false)
  | 10 => ("LaneWarps$Forecast", "program", "LLaneWarps$Program;", false)
  | 11 => ("LaneWarps$Forecast", "mode", "I", false)
  | 12 => ("LaneWarps$Forecast", "order", "I", false)
  | _ => ("LaneWarps$Forecast", "skew", "I", false)
def tyX0 : Nat → FieldType := fun k => match k with
  | 0 => .object "LaneWarps$Machine"
  | 1 => .object "LaneWarps$State"
  | 2 => .object "LaneWarps$State"
  | 3 => .object "LaneWarps$State"
  | 4 => .array .int
  | 5 => .int
  | 6 => .array .int
  | 7 => .long
  | 8 => .array .int
  | 9 => .int
  | 10 => .object "LaneWarps$Program"
  | 11 => .int
  | 12 => .int
  | _ => .int
abbrev wsX00 : List Cond := u_ws RX0 TX0 14
theorem nmX0 : ∀ a, a < 14 → ∀ b, b < 14 → a ≠ b → (TX0 a).2.1 ≠ (TX0 b).2.1 := by decide +kernel
theorem tyX0_ok : ∀ k, k < 14 → parseFieldDescriptor (TX0 k).2.2.1 = some (tyX0 k) := by decide +kernel
theorem dvX0 : ∀ j, j < 14 → defaultValue (tyX0 j) = vp_V [.null, .null, .null, .null, .null, .int 0, .null, .long 0, .null, .int 0, .null, .int 0, .int 0, .int 0] j := fun j hj => by rcases (show j = 0 ∨ j = 1 ∨ j = 2 ∨ j = 3 ∨ j = 4 ∨ j = 5 ∨ j = 6 ∨ j = 7 ∨ j = 8 ∨ j = 9 ∨ j = 10 ∨ j = 11 ∨ j = 12 ∨ j = 13 by omega) with rfl | rfl | rfl | rfl | rfl | rfl | rfl | rfl | rfl | rfl | rfl | rfl | rfl | rfl <;> rfl
def RX1 : String := "LaneWarps$Machine"
def TX1 : u_T := fun k => match k with
  | 0 => ("LaneWarps$Machine", "addresses", "[I", true)
  | 1 => ("LaneWarps$Machine", "inBank", "[I", true)
  | 2 => ("LaneWarps$Machine", "program", "LLaneWarps$Program;", false)
  | 3 => ("LaneWarps$Machine", "state", "LLaneWarps$State;", false)
  | 4 => ("LaneWarps$Machine", "mover", "LLaneWarps$Warp;", false)
  | 5 => ("LaneWarps$Machine", "row", "[I", false)
  | 6 => ("LaneWarps$Machine", "warp", "I", false)
  | 7 => ("LaneWarps$Machine", "line", "I", false)
  | 8 => ("LaneWarps$Machine", "lanes", "I", false)
  | 9 => ("LaneWarps$Machine", "leader", "I", false)
  | 10 => ("LaneWarps$Machine", "takes", "I", false)
  | _ => ("LaneWarps$Machine", "loaded", "J", false)
def tyX1 : Nat → FieldType := fun k => match k with
  | 0 => .array .int
  | 1 => .array .int
  | 2 => .object "LaneWarps$Program"
  | 3 => .object "LaneWarps$State"
  | 4 => .object "LaneWarps$Warp"
  | 5 => .array .int
  | 6 => .int
  | 7 => .int
  | 8 => .int
  | 9 => .int
  | 10 => .int
  | _ => .long
abbrev wsX10 : List Cond := u_ws RX1 TX1 12
theorem nmX1 : ∀ a, a < 12 → ∀ b, b < 12 → a ≠ b → (TX1 a).2.1 ≠ (TX1 b).2.1 := by decide +kernel
theorem tyX1_ok : ∀ k, k < 12 → parseFieldDescriptor (TX1 k).2.2.1 = some (tyX1 k) := by decide +kernel
theorem dvX1 : ∀ j, j < 12 → defaultValue (tyX1 j) = vp_V [.null, .null, .null, .null, .null, .null, .int 0, .int 0, .int 0, .int 0, .int 0, .long 0] j := fun j hj => by rcases (show j = 0 ∨ j = 1 ∨ j = 2 ∨ j = 3 ∨ j = 4 ∨ j = 5 ∨ j = 6 ∨ j = 7 ∨ j = 8 ∨ j = 9 ∨ j = 10 ∨ j = 11 by omega) with rfl | rfl | rfl | rfl | rfl | rfl | rfl | rfl | rfl | rfl | rfl | rfl <;> rfl
def RX2 : String := "LaneWarps$Program"
def TX2 : u_T := fun k => match k with
  | 0 => ("LaneWarps$Program", "rows", "[[I", true)
  | 1 => ("LaneWarps$Program", "far", "[I", true)
  | 2 => ("LaneWarps$Program", "passed", "[J", true)
  | 3 => ("LaneWarps$Program", "lines", "I", false)
  | 4 => ("LaneWarps$Program", "warps", "I", false)
  | 5 => ("LaneWarps$Program", "mode", "I", false)
  | _ => ("LaneWarps$Program", "order", "I", false)
def tyX2 : Nat → FieldType := fun k => match k with
  | 0 => .array (.array .int)
  | 1 => .array .int
  | 2 => .array .long
  | 3 => .int
  | 4 => .int
  | 5 => .int
  | _ => .int
abbrev wsX20 : List Cond := u_ws RX2 TX2 7
theorem nmX2 : ∀ a, a < 7 → ∀ b, b < 7 → a ≠ b → (TX2 a).2.1 ≠ (TX2 b).2.1 := by decide +kernel
theorem tyX2_ok : ∀ k, k < 7 → parseFieldDescriptor (TX2 k).2.2.1 = some (tyX2 k) := by decide +kernel
theorem dvX2 : ∀ j, j < 7 → defaultValue (tyX2 j) = vp_V [.null, .null, .null, .int 0, .int 0, .int 0, .int 0] j := fun j hj => by rcases (show j = 0 ∨ j = 1 ∨ j = 2 ∨ j = 3 ∨ j = 4 ∨ j = 5 ∨ j = 6 by omega) with rfl | rfl | rfl | rfl | rfl | rfl | rfl <;> rfl
def RX3 : String := "LaneWarps$Reader"
def TX3 : u_T := fun k => match k with
  | 0 => ("LaneWarps$Reader", "nameAt", "[I", true)
  | 1 => ("LaneWarps$Reader", "nameEnd", "[I", true)
  | 2 => ("LaneWarps$Reader", "aimAt", "[I", true)
  | 3 => ("LaneWarps$Reader", "aimEnd", "[I", true)
  | 4 => ("LaneWarps$Reader", "text", "[B", false)
  | 5 => ("LaneWarps$Reader", "length", "I", false)
  | 6 => ("LaneWarps$Reader", "into", "LLaneWarps$Program;", false)
  | 7 => ("LaneWarps$Reader", "kind", "I", false)
  | 8 => ("LaneWarps$Reader", "from", "I", false)
  | 9 => ("LaneWarps$Reader", "to", "I", false)
  | 10 => ("LaneWarps$Reader", "own", "I", false)
  | 11 => ("LaneWarps$Reader", "number", "I", false)
  | 12 => ("LaneWarps$Reader", "address", "I", false)
  | 13 => ("LaneWarps$Reader", "fault", "I", false)
  | _ => ("LaneWarps$Reader", "place", "I", false)
def tyX3 : Nat → FieldType := fun k => match k with
  | 0 => .array .int
  | 1 => .array .int
  | 2 => .array .int
  | 3 => .array .int
  | 4 => .array .byte
  | 5 => .int
  | 6 => .object "LaneWarps$Program"
  | 7 => .int
  | 8 => .int
  | 9 => .int
  | 10 => .int
  | 11 => .int
  | 12 => .int
  | 13 => .int
  | _ => .int
abbrev wsX30 : List Cond := u_ws RX3 TX3 15
theorem nmX3 : ∀ a, a < 15 → ∀ b, b < 15 → a ≠ b → (TX3 a).2.1 ≠ (TX3 b).2.1 := by decide +kernel
theorem tyX3_ok : ∀ k, k < 15 → parseFieldDescriptor (TX3 k).2.2.1 = some (tyX3 k) := by decide +kernel
theorem dvX3 : ∀ j, j < 15 → defaultValue (tyX3 j) = vp_V [.null, .null, .null, .null, .null, .int 0, .null, .int 0, .int 0, .int 0, .int 0, .int 0, .int 0, .int 0, .int 0] j := fun j hj => by rcases (show j = 0 ∨ j = 1 ∨ j = 2 ∨ j = 3 ∨ j = 4 ∨ j = 5 ∨ j = 6 ∨ j = 7 ∨ j = 8 ∨ j = 9 ∨ j = 10 ∨ j = 11 ∨ j = 12 ∨ j = 13 ∨ j = 14 by omega) with rfl | rfl | rfl | rfl | rfl | rfl | rfl | rfl | rfl | rfl | rfl | rfl | rfl | rfl | rfl <;> rfl
def RX4 : String := "LaneWarps$State"
def TX4 : u_T := fun k => match k with
  | 0 => ("LaneWarps$State", "warps", "[LLaneWarps$Warp;", true)
  | 1 => ("LaneWarps$State", "far", "[I", true)
  | 2 => ("LaneWarps$State", "near", "[I", true)
  | 3 => ("LaneWarps$State", "touched", "[I", true)
  | 4 => ("LaneWarps$State", "wrote", "[I", true)
  | 5 => ("LaneWarps$State", "raced", "[I", true)
  | 6 => ("LaneWarps$State", "kept", "[I", true)
  | 7 => ("LaneWarps$State", "used", "I", false)
  | 8 => ("LaneWarps$State", "mode", "I", false)
  | 9 => ("LaneWarps$State", "order", "I", false)
  | 10 => ("LaneWarps$State", "skew", "I", false)
  | 11 => ("LaneWarps$State", "cycle", "I", false)
  | 12 => ("LaneWarps$State", "done", "I", false)
  | 13 => ("LaneWarps$State", "epochs", "I", false)
  | _ => ("LaneWarps$State", "last", "I", false)
def tyX4 : Nat → FieldType := fun k => match k with
  | 0 => .array (.object "LaneWarps$Warp")
  | 1 => .array .int
  | 2 => .array .int
  | 3 => .array .int
  | 4 => .array .int
  | 5 => .array .int
  | 6 => .array .int
  | 7 => .int
  | 8 => .int
  | 9 => .int
  | 10 => .int
  | 11 => .int
  | 12 => .int
  | 13 => .int
  | _ => .int
abbrev wsX40 : List Cond := u_ws RX4 TX4 15
theorem nmX4 : ∀ a, a < 15 → ∀ b, b < 15 → a ≠ b → (TX4 a).2.1 ≠ (TX4 b).2.1 := by decide +kernel
theorem tyX4_ok : ∀ k, k < 15 → parseFieldDescriptor (TX4 k).2.2.1 = some (tyX4 k) := by decide +kernel
theorem dvX4 : ∀ j, j < 15 → defaultValue (tyX4 j) = vp_V [.null, .null, .null, .null, .null, .null, .null, .int 0, .int 0, .int 0, .int 0, .int 0, .int 0, .int 0, .int 0] j := fun j hj => by rcases (show j = 0 ∨ j = 1 ∨ j = 2 ∨ j = 3 ∨ j = 4 ∨ j = 5 ∨ j = 6 ∨ j = 7 ∨ j = 8 ∨ j = 9 ∨ j = 10 ∨ j = 11 ∨ j = 12 ∨ j = 13 ∨ j = 14 by omega) with rfl | rfl | rfl | rfl | rfl | rfl | rfl | rfl | rfl | rfl | rfl | rfl | rfl | rfl | rfl <;> rfl
def RX5 : String := "LaneWarps$Warp"
def TX5 : u_T := fun k => match k with
  | 0 => ("LaneWarps$Warp", "registers", "[I", true)
  | 1 => ("LaneWarps$Warp", "lines", "[I", true)
  | 2 => ("LaneWarps$Warp", "partLine", "[I", true)
  | 3 => ("LaneWarps$Warp", "partMeets", "[I", true)
  | 4 => ("LaneWarps$Warp", "partLanes", "[I", true)
  | 5 => ("LaneWarps$Warp", "parts", "I", false)
  | 6 => ("LaneWarps$Warp", "lives", "I", false)
  | 7 => ("LaneWarps$Warp", "waits", "I", false)
  | 8 => ("LaneWarps$Warp", "ready", "I", false)
  | 9 => ("LaneWarps$Warp", "done", "I", false)
  | _ => ("LaneWarps$Warp", "turn", "I", false)
def tyX5 : Nat → FieldType := fun k => match k with
  | 0 => .array .int
  | 1 => .array .int
  | 2 => .array .int
  | 3 => .array .int
  | 4 => .array .int
  | 5 => .int
  | 6 => .int
  | 7 => .int
  | 8 => .int
  | 9 => .int
  | _ => .int
abbrev wsX50 : List Cond := u_ws RX5 TX5 11
theorem nmX5 : ∀ a, a < 11 → ∀ b, b < 11 → a ≠ b → (TX5 a).2.1 ≠ (TX5 b).2.1 := by decide +kernel
theorem tyX5_ok : ∀ k, k < 11 → parseFieldDescriptor (TX5 k).2.2.1 = some (tyX5 k) := by decide +kernel
theorem dvX5 : ∀ j, j < 11 → defaultValue (tyX5 j) = vp_V [.null, .null, .null, .null, .null, .int 0, .int 0, .int 0, .int 0, .int 0, .int 0] j := fun j hj => by rcases (show j = 0 ∨ j = 1 ∨ j = 2 ∨ j = 3 ∨ j = 4 ∨ j = 5 ∨ j = 6 ∨ j = 7 ∨ j = 8 ∨ j = 9 ∨ j = 10 by omega) with rfl | rfl | rfl | rfl | rfl | rfl | rfl | rfl | rfl | rfl | rfl <;> rfl
def RX6 : String := "LaneWarps"
def TX6 : u_T := fun k => match k with
  | 0 => ("LaneWarps", "tape", "[B", true)
  | 1 => ("LaneWarps", "bytes", "I", false)
  | 2 => ("LaneWarps", "reader", "LLaneWarps$Reader;", true)
  | 3 => ("LaneWarps", "current", "LLaneWarps$Program;", false)
  | 4 => ("LaneWarps", "spare", "LLaneWarps$Program;", false)
  | 5 => ("LaneWarps", "told", "Z", false)
  | 6 => ("LaneWarps", "now", "LLaneWarps$State;", true)
  | 7 => ("LaneWarps", "past", "[LLaneWarps$State;", true)
  | 8 => ("LaneWarps", "oldestAct", "I", false)
  | 9 => ("LaneWarps", "acts", "I", false)
  | 10 => ("LaneWarps", "machine", "LLaneWarps$Machine;", true)
  | 11 => ("LaneWarps", "forecast", "LLaneWarps$Forecast;", true)
  | 12 => ("LaneWarps", "refused", "[I", true)
  | _ => ("LaneWarps", "drawn", "J", false)
def tyX6 : Nat → FieldType := fun k => match k with
  | 0 => .array .byte
  | 1 => .int
  | 2 => .object "LaneWarps$Reader"
  | 3 => .object "LaneWarps$Program"
  | 4 => .object "LaneWarps$Program"
  | 5 => .boolean
  | 6 => .object "LaneWarps$State"
  | 7 => .array (.object "LaneWarps$State")
  | 8 => .int
  | 9 => .int
  | 10 => .object "LaneWarps$Machine"
  | 11 => .object "LaneWarps$Forecast"
  | 12 => .array .int
  | _ => .long
abbrev wsX60 : List Cond := u_ws RX6 TX6 14
theorem nmX6 : ∀ a, a < 14 → ∀ b, b < 14 → a ≠ b → (TX6 a).2.1 ≠ (TX6 b).2.1 := by decide +kernel
theorem tyX6_ok : ∀ k, k < 14 → parseFieldDescriptor (TX6 k).2.2.1 = some (tyX6 k) := by decide +kernel
theorem dvX6 : ∀ j, j < 14 → defaultValue (tyX6 j) = vp_V [.null, .int 0, .null, .null, .null, .int 0, .null, .null, .int 0, .int 0, .null, .null, .null, .long 0] j := fun j hj => by rcases (show j = 0 ∨ j = 1 ∨ j = 2 ∨ j = 3 ∨ j = 4 ∨ j = 5 ∨ j = 6 ∨ j = 7 ∨ j = 8 ∨ j = 9 ∨ j = 10 ∨ j = 11 ∨ j = 12 ∨ j = 13 by omega) with rfl | rfl | rfl | rfl | rfl | rfl | rfl | rfl | rfl | rfl | rfl | rfl | rfl | rfl <;> rfl
def RX7 : String := "LaneWarpsModel"
def TX7 : u_T := fun k => match k with
  | 0 => ("LaneWarpsModel", "tape", "[I", true)
  | 1 => ("LaneWarpsModel", "taped", "I", false)
  | 2 => ("LaneWarpsModel", "at", "I", false)
  | 3 => ("LaneWarpsModel", "end", "I", false)
  | 4 => ("LaneWarpsModel", "ended", "I", false)
  | 5 => ("LaneWarpsModel", "bad", "I", false)
  | 6 => ("LaneWarpsModel", "badPlace", "I", false)
  | 7 => ("LaneWarpsModel", "fault", "I", false)
  | 8 => ("LaneWarpsModel", "faultPlace", "I", false)
  | 9 => ("LaneWarpsModel", "refused", "[I", true)
  | 10 => ("LaneWarpsModel", "own", "[C", true)
  | 11 => ("LaneWarpsModel", "namePlace", "I", false)
  | 12 => ("LaneWarpsModel", "draft", "[I", true)
  | 13 => ("LaneWarpsModel", "program", "[I", true)
  | 14 => ("LaneWarpsModel", "goPlace", "[I", true)
  | 15 => ("LaneWarpsModel", "isTold", "Z", false)
  | 16 => ("LaneWarpsModel", "statements", "I", false)
  | 17 => ("LaneWarpsModel", "isCome", "[Z", true)
  | 18 => ("LaneWarpsModel", "heap", "[I", true)
  | 19 => ("LaneWarpsModel", "heapMany", "I", false)
  | 20 => ("LaneWarpsModel", "now", "[I", true)
  | 21 => ("LaneWarpsModel", "first", "[I", true)
  | 22 => ("LaneWarpsModel", "second", "[I", true)
  | 23 => ("LaneWarpsModel", "behind", "[I", true)
  | 24 => ("LaneWarpsModel", "states", "[I", true)
  | 25 => ("LaneWarpsModel", "how", "I", false)
  | 26 => ("LaneWarpsModel", "many", "I", false)
  | 27 => ("LaneWarpsModel", "round", "I", false)
  | 28 => ("LaneWarpsModel", "alone0", "[I", true)
  | 29 => ("LaneWarpsModel", "endsBy", "[I", true)
  | 30 => ("LaneWarpsModel", "kept0", "[I", true)
  | 31 => ("LaneWarpsModel", "undoable", "I", false)
  | 32 => ("LaneWarpsModel", "newest", "I", false)
  | _ => ("LaneWarpsModel", "seeded", "J", false)
def tyX7 : Nat → FieldType := fun k => match k with
  | 0 => .array .int
  | 1 => .int
  | 2 => .int
  | 3 => .int
  | 4 => .int
  | 5 => .int
  | 6 => .int
  | 7 => .int
  | 8 => .int
  | 9 => .array .int
  | 10 => .array .char
  | 11 => .int
  | 12 => .array .int
  | 13 => .array .int
  | 14 => .array .int
  | 15 => .boolean
  | 16 => .int
  | 17 => .array .boolean
  | 18 => .array .int
  | 19 => .int
  | 20 => .array .int
  | 21 => .array .int
  | 22 => .array .int
  | 23 => .array .int
  | 24 => .array .int
  | 25 => .int
  | 26 => .int
  | 27 => .int
  | 28 => .array .int
  | 29 => .array .int
  | 30 => .array .int
  | 31 => .int
  | 32 => .int
  | _ => .long
abbrev wsX70 : List Cond := u_ws RX7 TX7 34
theorem nmX7 : ∀ a, a < 34 → ∀ b, b < 34 → a ≠ b → (TX7 a).2.1 ≠ (TX7 b).2.1 := by decide +kernel
theorem tyX7_ok : ∀ k, k < 34 → parseFieldDescriptor (TX7 k).2.2.1 = some (tyX7 k) := by decide +kernel
theorem dvX7 : ∀ j, j < 34 → defaultValue (tyX7 j) = vp_V [.null, .int 0, .int 0, .int 0, .int 0, .int 0, .int 0, .int 0, .int 0, .null, .null, .int 0, .null, .null, .null, .int 0, .int 0, .null, .null, .int 0, .null, .null, .null, .null, .null, .int 0, .int 0, .int 0, .null, .null, .null, .int 0, .int 0, .long 0] j := fun j hj => by rcases (show j = 0 ∨ j = 1 ∨ j = 2 ∨ j = 3 ∨ j = 4 ∨ j = 5 ∨ j = 6 ∨ j = 7 ∨ j = 8 ∨ j = 9 ∨ j = 10 ∨ j = 11 ∨ j = 12 ∨ j = 13 ∨ j = 14 ∨ j = 15 ∨ j = 16 ∨ j = 17 ∨ j = 18 ∨ j = 19 ∨ j = 20 ∨ j = 21 ∨ j = 22 ∨ j = 23 ∨ j = 24 ∨ j = 25 ∨ j = 26 ∨ j = 27 ∨ j = 28 ∨ j = 29 ∨ j = 30 ∨ j = 31 ∨ j = 32 ∨ j = 33 by omega) with rfl | rfl | rfl | rfl | rfl | rfl | rfl | rfl | rfl | rfl | rfl | rfl | rfl | rfl | rfl | rfl | rfl | rfl | rfl | rfl | rfl | rfl | rfl | rfl | rfl | rfl | rfl | rfl | rfl | rfl | rfl | rfl | rfl | rfl <;> rfl
def RL : String := "LaneWarpsLaw"
abbrev cL_law : ByteArray := code
def RJ7 : String := "java/util/Arrays"
abbrev cJ7_fill_53178 : ByteArray := prog_16_method_103_code
def yJ7_fill_53178 : MethodName := ⟨RJ7, "fill", "([II)V"⟩
abbrev cX0_init : ByteArray := prog_2_method_1_code
def yX0_init : MethodName := ⟨RX0, "<init>", "()V"⟩
abbrev cX0_take : ByteArray := prog_2_method_2_code
def yX0_take : MethodName := ⟨RX0, "take", "(LLaneWarps$Program;)V"⟩
abbrev cX1_init : ByteArray := prog_3_method_1_code
def yX1_init : MethodName := ⟨RX1, "<init>", "()V"⟩
abbrev cX1_take : ByteArray := prog_3_method_2_code
def yX1_take : MethodName := ⟨RX1, "take", "(LLaneWarps$Program;)V"⟩
abbrev cX2_clear : ByteArray := prog_4_method_2_code
def yX2_clear : MethodName := ⟨RX2, "clear", "()V"⟩
abbrev cX2_init : ByteArray := prog_4_method_1_code
def yX2_init : MethodName := ⟨RX2, "<init>", "()V"⟩
abbrev cX3_fail : ByteArray := prog_5_method_3_code
def yX3_fail : MethodName := ⟨RX3, "fail", "(II)Z"⟩
abbrev cX3_init : ByteArray := prog_5_method_1_code
def yX3_init : MethodName := ⟨RX3, "<init>", "()V"⟩
abbrev cX3_read : ByteArray := prog_5_method_2_code
def yX3_read : MethodName := ⟨RX3, "read", "([BILLaneWarps$Program;)Z"⟩
abbrev cX3_scan : ByteArray := prog_5_method_15_code
def yX3_scan : MethodName := ⟨RX3, "scan", "()V"⟩
abbrev cX4_init : ByteArray := prog_6_method_1_code
def yX4_init : MethodName := ⟨RX4, "<init>", "()V"⟩
abbrev cX5_init : ByteArray := prog_7_method_1_code
def yX5_init : MethodName := ⟨RX5, "<init>", "()V"⟩
abbrev cX6_agrees : ByteArray := prog_1_method_20_code
def yX6_agrees : MethodName := ⟨RX6, "agrees", "()I"⟩
abbrev cX6_alone : ByteArray := prog_1_method_19_code
def yX6_alone : MethodName := ⟨RX6, "alone", "(III)I"⟩
abbrev cX6_begin : ByteArray := prog_1_method_26_code
def yX6_begin : MethodName := ⟨RX6, "begin", "()Z"⟩
abbrev cX6_by : ByteArray := prog_1_method_17_code
def yX6_by : MethodName := ⟨RX6, "by", "(III)I"⟩
abbrev cX6_chance : ByteArray := prog_1_method_27_code
def yX6_chance : MethodName := ⟨RX6, "chance", "(I)I"⟩
abbrev cX6_cycles : ByteArray := prog_1_method_23_code
def yX6_cycles : MethodName := ⟨RX6, "cycles", "(I)I"⟩
abbrev cX6_end : ByteArray := prog_1_method_3_code
def yX6_end : MethodName := ⟨RX6, "end", "(I)Z"⟩
abbrev cX6_fault : ByteArray := prog_1_method_5_code
def yX6_fault : MethodName := ⟨RX6, "fault", "(I)I"⟩
abbrev cX6_feed : ByteArray := prog_1_method_2_code
def yX6_feed : MethodName := ⟨RX6, "feed", "(IIIII)I"⟩
abbrev cX6_goes : ByteArray := prog_1_method_15_code
def yX6_goes : MethodName := ⟨RX6, "goes", "(I)I"⟩
abbrev cX6_has : ByteArray := prog_1_method_6_code
def yX6_has : MethodName := ⟨RX6, "has", "(I)I"⟩
abbrev cX6_hasLane : ByteArray := prog_1_method_34_code
def yX6_hasLane : MethodName := ⟨RX6, "hasLane", "(II)Z"⟩
abbrev cX6_hasWarp : ByteArray := prog_1_method_33_code
def yX6_hasWarp : MethodName := ⟨RX6, "hasWarp", "(I)Z"⟩
abbrev cX6_hasWord : ByteArray := prog_1_method_35_code
def yX6_hasWord : MethodName := ⟨RX6, "hasWord", "(ZI)Z"⟩
abbrev cX6_init : ByteArray := prog_1_method_1_code
def yX6_init : MethodName := ⟨RX6, "<init>", "()V"⟩
abbrev cX6_kept : ByteArray := prog_1_method_13_code
def yX6_kept : MethodName := ⟨RX6, "kept", "(II)I"⟩
abbrev cX6_lane : ByteArray := prog_1_method_8_code
def yX6_lane : MethodName := ⟨RX6, "lane", "(III)I"⟩
abbrev cX6_later : ByteArray := prog_1_method_16_code
def yX6_later : MethodName := ⟨RX6, "later", "(IIII)I"⟩
abbrev cX6_layBytes : ByteArray := prog_1_method_32_code
def yX6_layBytes : MethodName := ⟨RX6, "layBytes", "(I)V"⟩
abbrev cX6_likely : ByteArray := prog_1_method_21_code
def yX6_likely : MethodName := ⟨RX6, "likely", "(III)I"⟩
abbrev cX6_line : ByteArray := prog_1_method_7_code
def yX6_line : MethodName := ⟨RX6, "line", "(II)I"⟩
abbrev cX6_next : ByteArray := prog_1_method_14_code
def yX6_next : MethodName := ⟨RX6, "next", "(I)I"⟩
abbrev cX6_part : ByteArray := prog_1_method_10_code
def yX6_part : MethodName := ⟨RX6, "part", "(III)I"⟩
abbrev cX6_poke : ByteArray := prog_1_method_24_code
def yX6_poke : MethodName := ⟨RX6, "poke", "(ZII)I"⟩
abbrev cX6_program : ByteArray := prog_1_method_4_code
def yX6_program : MethodName := ⟨RX6, "program", "()I"⟩
abbrev cX6_raced : ByteArray := prog_1_method_12_code
def yX6_raced : MethodName := ⟨RX6, "raced", "(ZI)I"⟩
abbrev cX6_refuse : ByteArray := prog_1_method_31_code
def yX6_refuse : MethodName := ⟨RX6, "refuse", "(I)I"⟩
abbrev cX6_seed : ByteArray := prog_1_method_29_code
def yX6_seed : MethodName := ⟨RX6, "seed", "(I)Z"⟩
abbrev cX6_set : ByteArray := prog_1_method_25_code
def yX6_set : MethodName := ⟨RX6, "set", "(III)Z"⟩
abbrev cX6_skew : ByteArray := prog_1_method_18_code
def yX6_skew : MethodName := ⟨RX6, "skew", "(I)I"⟩
abbrev cX6_status : ByteArray := prog_1_method_30_code
def yX6_status : MethodName := ⟨RX6, "status", "(I)I"⟩
abbrev cX6_tells : ByteArray := prog_1_method_22_code
def yX6_tells : MethodName := ⟨RX6, "tells", "(I)I"⟩
abbrev cX6_undo : ByteArray := prog_1_method_28_code
def yX6_undo : MethodName := ⟨RX6, "undo", "()Z"⟩
abbrev cX6_warp : ByteArray := prog_1_method_9_code
def yX6_warp : MethodName := ⟨RX6, "warp", "(II)I"⟩
abbrev cX6_word : ByteArray := prog_1_method_11_code
def yX6_word : MethodName := ⟨RX6, "word", "(ZI)I"⟩
abbrev vwCl : List vw_C := [(RX0, TX0, 14), (RX1, TX1, 12), (RX2, TX2, 7), (RX3, TX3, 15), (RX4, TX4, 15), (RX5, TX5, 11), (RX6, TX6, 14), (RX7, TX7, 34)]
/-- the words that the walks need, one list for all -/
def T0w : List Cond := [Cond.methodLink RX5 3 objectInit, Cond.instanceMethod objectInit, Cond.code objectInit ⟨#[0xb1]⟩ 1 none, Cond.arrayClass .int, Cond.fieldLink RX5 9 "LaneWarps$Warp" "registers" "[I", Cond.fieldLink RX5 15 "LaneWarps$Warp" "lines" "[I", Cond.fieldLink RX5 18 "LaneWarps$Warp" "partLine" "[I", Cond.fieldLink RX5 21 "LaneWarps$Warp" "partMeets" "[I", Cond.fieldLink RX5 24 "LaneWarps$Warp" "partLanes" "[I", Cond.methodLink RX4 3 objectInit, Cond.classLink RX4 9 RX5, Cond.fieldLink RX4 11 "LaneWarps$State" "warps" "[LLaneWarps$Warp;", Cond.fieldLink RX4 17 "LaneWarps$State" "far" "[I", Cond.fieldLink RX4 21 "LaneWarps$State" "near" "[I", Cond.fieldLink RX4 24 "LaneWarps$State" "touched" "[I", Cond.fieldLink RX4 27 "LaneWarps$State" "wrote" "[I", Cond.fieldLink RX4 30 "LaneWarps$State" "raced" "[I", Cond.fieldLink RX4 33 "LaneWarps$State" "kept" "[I", Cond.fieldLink RX4 36 "LaneWarps$State" "last" "I", Cond.instantiable RX5 11, Cond.initialized RX5, Cond.code yX5_init cX5_init 1 none, Cond.instanceMethod yX5_init, Cond.methodLink RX1 3 objectInit, Cond.fieldLink RX1 9 "LaneWarps$Machine" "addresses" "[I", Cond.fieldLink RX1 15 "LaneWarps$Machine" "inBank" "[I", Cond.fieldLink RX1 18 "LaneWarps$Machine" "program" "LLaneWarps$Program;", Cond.methodLink RX2 3 objectInit, Cond.classLink RX2 9 "[[I", Cond.fieldLink RX2 11 "LaneWarps$Program" "rows" "[[I", Cond.fieldLink RX2 16 "LaneWarps$Program" "far" "[I", Cond.arrayClass .long, Cond.fieldLink RX2 20 "LaneWarps$Program" "passed" "[J", Cond.methodLink RX3 3 objectInit, Cond.fieldLink RX3 9 "LaneWarps$Reader" "nameAt" "[I", Cond.fieldLink RX3 15 "LaneWarps$Reader" "nameEnd" "[I", Cond.fieldLink RX3 18 "LaneWarps$Reader" "aimAt" "[I", Cond.fieldLink RX3 21 "LaneWarps$Reader" "aimEnd" "[I", Cond.fieldLink RX3 24 "LaneWarps$Reader" "place" "I", Cond.methodLink RX0 3 objectInit, Cond.classLink RX0 9 RX1, Cond.instantiable RX1 12, Cond.initialized RX1, Cond.code yX1_init cX1_init 1 none, Cond.instanceMethod yX1_init, Cond.fieldLink RX0 12 "LaneWarps$Forecast" "machine" "LLaneWarps$Machine;", Cond.classLink RX0 18 RX4, Cond.instantiable RX4 15, Cond.initialized RX4, Cond.code yX4_init cX4_init 2 none, Cond.methodLink RX0 20 yX4_init, Cond.instanceMethod yX4_init, Cond.fieldLink RX0 21 "LaneWarps$Forecast" "origin" "LLaneWarps$State;", Cond.fieldLink RX0 25 "LaneWarps$Forecast" "scout" "LLaneWarps$State;", Cond.fieldLink RX0 28 "LaneWarps$Forecast" "trail" "LLaneWarps$State;", Cond.fieldLink RX0 31 "LaneWarps$Forecast" "courses" "[I", Cond.fieldLink RX0 35 "LaneWarps$Forecast" "ends" "[I", Cond.fieldLink RX0 38 "LaneWarps$Forecast" "solos" "[I", Cond.fieldLink RX0 41 "LaneWarps$Forecast" "program" "LLaneWarps$Program;", Cond.code yX1_take cX1_take 2 none, Cond.methodLink RX0 45 yX1_take, Cond.instanceMethod yX1_take, Cond.selects RX1 yX1_take yX1_take, Cond.fieldLink RX0 49 "LaneWarps$Forecast" "coursesKnown" "I", Cond.fieldLink RX0 53 "LaneWarps$Forecast" "endsKnown" "J", Cond.fieldLink RX0 57 "LaneWarps$Forecast" "solosKnown" "I", Cond.methodLink RX6 3 objectInit, Cond.arrayClass .byte, Cond.fieldLink RX6 9 "LaneWarps" "tape" "[B", Cond.classLink RX6 13 RX3, Cond.instantiable RX3 15, Cond.initialized RX3, Cond.code yX3_init cX3_init 1 none, Cond.instanceMethod yX3_init, Cond.fieldLink RX6 16 "LaneWarps" "reader" "LLaneWarps$Reader;", Cond.classLink RX6 20 RX2, Cond.instantiable RX2 7, Cond.initialized RX2, Cond.code yX2_init cX2_init 1 none, Cond.instanceMethod yX2_init, Cond.fieldLink RX6 23 "LaneWarps" "current" "LLaneWarps$Program;", Cond.fieldLink RX6 27 "LaneWarps" "spare" "LLaneWarps$Program;", Cond.classLink RX6 30 RX4, Cond.methodLink RX6 32 yX4_init, Cond.fieldLink RX6 33 "LaneWarps" "now" "LLaneWarps$State;", Cond.fieldLink RX6 37 "LaneWarps" "past" "[LLaneWarps$State;", Cond.classLink RX6 41 RX1, Cond.fieldLink RX6 44 "LaneWarps" "machine" "LLaneWarps$Machine;", Cond.classLink RX6 48 RX0, Cond.instantiable RX0 14, Cond.initialized RX0, Cond.code yX0_init cX0_init 1 none, Cond.instanceMethod yX0_init, Cond.fieldLink RX6 51 "LaneWarps" "forecast" "LLaneWarps$Forecast;", Cond.fieldLink RX6 55 "LaneWarps" "refused" "[I", Cond.fieldLink RX6 59 "LaneWarps" "drawn" "J", Cond.methodLink RX6 63 yX1_take, Cond.code yX0_take cX0_take 2 none, Cond.methodLink RX6 67 yX0_take, Cond.instanceMethod yX0_take, Cond.selects RX0 yX0_take yX0_take, Cond.fieldLink RX6 68 "LaneWarps" "bytes" "I", Cond.code yX6_layBytes cX6_layBytes 3 none, Cond.methodLink RX6 76 yX6_layBytes, Cond.instanceMethod yX6_layBytes, Cond.selects RX6 yX6_layBytes yX6_layBytes, Cond.initialized RX6, Cond.code yX6_refuse cX6_refuse 2 (some .int), Cond.methodLink RX6 72 yX6_refuse, Cond.instanceMethod yX6_refuse, Cond.selects RX6 yX6_refuse yX6_refuse, Cond.code yJ7_fill_53178 cJ7_fill_53178 4 none, Cond.initialized RJ7, Cond.methodLink RX2 24 yJ7_fill_53178, Cond.static yJ7_fill_53178, Cond.fieldLink RX2 30 "LaneWarps$Program" "lines" "I", Cond.fieldLink RX2 34 "LaneWarps$Program" "warps" "I", Cond.fieldLink RX2 37 "LaneWarps$Program" "mode" "I", Cond.fieldLink RX2 40 "LaneWarps$Program" "order" "I", Cond.fieldLink RX3 44 "LaneWarps$Reader" "kind" "I", Cond.fieldLink RX3 47 "LaneWarps$Reader" "to" "I", Cond.fieldLink RX3 71 "LaneWarps$Reader" "from" "I", Cond.fieldLink RX3 32 "LaneWarps$Reader" "length" "I", Cond.fieldLink RX3 74 "LaneWarps$Reader" "own" "I", Cond.fieldLink RX3 50 "LaneWarps$Reader" "fault" "I", Cond.fieldLink RX3 28 "LaneWarps$Reader" "text" "[B", Cond.fieldLink RX3 35 "LaneWarps$Reader" "into" "LLaneWarps$Program;", Cond.code yX2_clear cX2_clear 1 none, Cond.methodLink RX3 39 yX2_clear, Cond.instanceMethod yX2_clear, Cond.selects RX2 yX2_clear yX2_clear, Cond.code yX3_scan cX3_scan 3 none, Cond.methodLink RX3 53 yX3_scan, Cond.instanceMethod yX3_scan, Cond.selects RX3 yX3_scan yX3_scan, Cond.code yX3_fail cX3_fail 3 (some .boolean), Cond.methodLink RX3 63 yX3_fail, Cond.instanceMethod yX3_fail, Cond.selects RX3 yX3_fail yX3_fail, Cond.code yX3_read cX3_read 6 (some .boolean), Cond.methodLink RX6 80 yX3_read, Cond.instanceMethod yX3_read, Cond.selects RX3 yX3_read yX3_read, Cond.fieldLink RX6 87 "LaneWarps" "told" "Z", Cond.code yX6_hasWarp cX6_hasWarp 2 (some .boolean), Cond.methodLink RX6 181 yX6_hasWarp, Cond.instanceMethod yX6_hasWarp, Cond.selects RX6 yX6_hasWarp yX6_hasWarp, Cond.constant RX6 155 (-1000000), Cond.code yX6_hasLane cX6_hasLane 3 (some .boolean), Cond.methodLink RX6 160 yX6_hasLane, Cond.instanceMethod yX6_hasLane, Cond.selects RX6 yX6_hasLane yX6_hasLane, Cond.code yX6_hasWord cX6_hasWord 3 (some .boolean), Cond.methodLink RX6 207 yX6_hasWord, Cond.instanceMethod yX6_hasWord, Cond.selects RX6 yX6_hasWord yX6_hasWord, Cond.methodLink RX6 135 Lib.Math.min.name, Cond.static Lib.Math.min.name, Cond.initialized "java/lang/Math", Cond.code Lib.Math.min.name Lib.Math.min.code 2 (some .int), Cond.fieldLink RX6 104 "LaneWarps" "acts" "I"]
def T0 : List Cond := T0w ++ (wsX00 ++ (wsX10 ++ (wsX20 ++ (wsX30 ++ (wsX40 ++ (wsX50 ++ (wsX60 ++ (wsX70))))))))
theorem T_0 : Cond.methodLink RX5 3 objectInit ∈ T0 := List.mem_append_left _ (List.mem_of_getElem? (i := 0) rfl)
theorem T_1 : Cond.instanceMethod objectInit ∈ T0 := List.mem_append_left _ (List.mem_of_getElem? (i := 1) rfl)
theorem T_2 : Cond.code objectInit ⟨#[0xb1]⟩ 1 none ∈ T0 := List.mem_append_left _ (List.mem_of_getElem? (i := 2) rfl)
theorem T_3 : Cond.arrayClass .int ∈ T0 := List.mem_append_left _ (List.mem_of_getElem? (i := 3) rfl)
theorem T_4 : Cond.fieldLink RX5 9 "LaneWarps$Warp" "registers" "[I" ∈ T0 := List.mem_append_left _ (List.mem_of_getElem? (i := 4) rfl)
theorem T_5 : Cond.fieldLink RX5 15 "LaneWarps$Warp" "lines" "[I" ∈ T0 := List.mem_append_left _ (List.mem_of_getElem? (i := 5) rfl)
theorem T_6 : Cond.fieldLink RX5 18 "LaneWarps$Warp" "partLine" "[I" ∈ T0 := List.mem_append_left _ (List.mem_of_getElem? (i := 6) rfl)
theorem T_7 : Cond.fieldLink RX5 21 "LaneWarps$Warp" "partMeets" "[I" ∈ T0 := List.mem_append_left _ (List.mem_of_getElem? (i := 7) rfl)
theorem T_8 : Cond.fieldLink RX5 24 "LaneWarps$Warp" "partLanes" "[I" ∈ T0 := List.mem_append_left _ (List.mem_of_getElem? (i := 8) rfl)
theorem T_9 : Cond.methodLink RX4 3 objectInit ∈ T0 := List.mem_append_left _ (List.mem_of_getElem? (i := 9) rfl)
theorem T_10 : Cond.classLink RX4 9 RX5 ∈ T0 := List.mem_append_left _ (List.mem_of_getElem? (i := 10) rfl)
theorem T_11 : Cond.fieldLink RX4 11 "LaneWarps$State" "warps" "[LLaneWarps$Warp;" ∈ T0 := List.mem_append_left _ (List.mem_of_getElem? (i := 11) rfl)
theorem T_12 : Cond.fieldLink RX4 17 "LaneWarps$State" "far" "[I" ∈ T0 := List.mem_append_left _ (List.mem_of_getElem? (i := 12) rfl)
theorem T_13 : Cond.fieldLink RX4 21 "LaneWarps$State" "near" "[I" ∈ T0 := List.mem_append_left _ (List.mem_of_getElem? (i := 13) rfl)
theorem T_14 : Cond.fieldLink RX4 24 "LaneWarps$State" "touched" "[I" ∈ T0 := List.mem_append_left _ (List.mem_of_getElem? (i := 14) rfl)
theorem T_15 : Cond.fieldLink RX4 27 "LaneWarps$State" "wrote" "[I" ∈ T0 := List.mem_append_left _ (List.mem_of_getElem? (i := 15) rfl)
theorem T_16 : Cond.fieldLink RX4 30 "LaneWarps$State" "raced" "[I" ∈ T0 := List.mem_append_left _ (List.mem_of_getElem? (i := 16) rfl)
theorem T_17 : Cond.fieldLink RX4 33 "LaneWarps$State" "kept" "[I" ∈ T0 := List.mem_append_left _ (List.mem_of_getElem? (i := 17) rfl)
theorem T_18 : Cond.fieldLink RX4 36 "LaneWarps$State" "last" "I" ∈ T0 := List.mem_append_left _ (List.mem_of_getElem? (i := 18) rfl)
theorem T_19 : Cond.instantiable RX5 11 ∈ T0 := List.mem_append_left _ (List.mem_of_getElem? (i := 19) rfl)
theorem T_20 : Cond.initialized RX5 ∈ T0 := List.mem_append_left _ (List.mem_of_getElem? (i := 20) rfl)
theorem T_21 : Cond.code yX5_init cX5_init 1 none ∈ T0 := List.mem_append_left _ (List.mem_of_getElem? (i := 21) rfl)
theorem T_22 : Cond.instanceMethod yX5_init ∈ T0 := List.mem_append_left _ (List.mem_of_getElem? (i := 22) rfl)
theorem T_23 : Cond.methodLink RX1 3 objectInit ∈ T0 := List.mem_append_left _ (List.mem_of_getElem? (i := 23) rfl)
theorem T_24 : Cond.fieldLink RX1 9 "LaneWarps$Machine" "addresses" "[I" ∈ T0 := List.mem_append_left _ (List.mem_of_getElem? (i := 24) rfl)
theorem T_25 : Cond.fieldLink RX1 15 "LaneWarps$Machine" "inBank" "[I" ∈ T0 := List.mem_append_left _ (List.mem_of_getElem? (i := 25) rfl)
theorem T_26 : Cond.fieldLink RX1 18 "LaneWarps$Machine" "program" "LLaneWarps$Program;" ∈ T0 := List.mem_append_left _ (List.mem_of_getElem? (i := 26) rfl)
theorem T_27 : Cond.methodLink RX2 3 objectInit ∈ T0 := List.mem_append_left _ (List.mem_of_getElem? (i := 27) rfl)
theorem T_28 : Cond.classLink RX2 9 "[[I" ∈ T0 := List.mem_append_left _ (List.mem_of_getElem? (i := 28) rfl)
theorem T_29 : Cond.fieldLink RX2 11 "LaneWarps$Program" "rows" "[[I" ∈ T0 := List.mem_append_left _ (List.mem_of_getElem? (i := 29) rfl)
theorem T_30 : Cond.fieldLink RX2 16 "LaneWarps$Program" "far" "[I" ∈ T0 := List.mem_append_left _ (List.mem_of_getElem? (i := 30) rfl)
theorem T_31 : Cond.arrayClass .long ∈ T0 := List.mem_append_left _ (List.mem_of_getElem? (i := 31) rfl)
theorem T_32 : Cond.fieldLink RX2 20 "LaneWarps$Program" "passed" "[J" ∈ T0 := List.mem_append_left _ (List.mem_of_getElem? (i := 32) rfl)
theorem T_33 : Cond.methodLink RX3 3 objectInit ∈ T0 := List.mem_append_left _ (List.mem_of_getElem? (i := 33) rfl)
theorem T_34 : Cond.fieldLink RX3 9 "LaneWarps$Reader" "nameAt" "[I" ∈ T0 := List.mem_append_left _ (List.mem_of_getElem? (i := 34) rfl)
theorem T_35 : Cond.fieldLink RX3 15 "LaneWarps$Reader" "nameEnd" "[I" ∈ T0 := List.mem_append_left _ (List.mem_of_getElem? (i := 35) rfl)
theorem T_36 : Cond.fieldLink RX3 18 "LaneWarps$Reader" "aimAt" "[I" ∈ T0 := List.mem_append_left _ (List.mem_of_getElem? (i := 36) rfl)
theorem T_37 : Cond.fieldLink RX3 21 "LaneWarps$Reader" "aimEnd" "[I" ∈ T0 := List.mem_append_left _ (List.mem_of_getElem? (i := 37) rfl)
theorem T_38 : Cond.fieldLink RX3 24 "LaneWarps$Reader" "place" "I" ∈ T0 := List.mem_append_left _ (List.mem_of_getElem? (i := 38) rfl)
theorem T_39 : Cond.methodLink RX0 3 objectInit ∈ T0 := List.mem_append_left _ (List.mem_of_getElem? (i := 39) rfl)
theorem T_40 : Cond.classLink RX0 9 RX1 ∈ T0 := List.mem_append_left _ (List.mem_of_getElem? (i := 40) rfl)
theorem T_41 : Cond.instantiable RX1 12 ∈ T0 := List.mem_append_left _ (List.mem_of_getElem? (i := 41) rfl)
theorem T_42 : Cond.initialized RX1 ∈ T0 := List.mem_append_left _ (List.mem_of_getElem? (i := 42) rfl)
theorem T_43 : Cond.code yX1_init cX1_init 1 none ∈ T0 := List.mem_append_left _ (List.mem_of_getElem? (i := 43) rfl)
theorem T_44 : Cond.instanceMethod yX1_init ∈ T0 := List.mem_append_left _ (List.mem_of_getElem? (i := 44) rfl)
theorem T_45 : Cond.fieldLink RX0 12 "LaneWarps$Forecast" "machine" "LLaneWarps$Machine;" ∈ T0 := List.mem_append_left _ (List.mem_of_getElem? (i := 45) rfl)
theorem T_46 : Cond.classLink RX0 18 RX4 ∈ T0 := List.mem_append_left _ (List.mem_of_getElem? (i := 46) rfl)
theorem T_47 : Cond.instantiable RX4 15 ∈ T0 := List.mem_append_left _ (List.mem_of_getElem? (i := 47) rfl)
theorem T_48 : Cond.initialized RX4 ∈ T0 := List.mem_append_left _ (List.mem_of_getElem? (i := 48) rfl)
theorem T_49 : Cond.code yX4_init cX4_init 2 none ∈ T0 := List.mem_append_left _ (List.mem_of_getElem? (i := 49) rfl)
theorem T_50 : Cond.methodLink RX0 20 yX4_init ∈ T0 := List.mem_append_left _ (List.mem_of_getElem? (i := 50) rfl)
theorem T_51 : Cond.instanceMethod yX4_init ∈ T0 := List.mem_append_left _ (List.mem_of_getElem? (i := 51) rfl)
theorem T_52 : Cond.fieldLink RX0 21 "LaneWarps$Forecast" "origin" "LLaneWarps$State;" ∈ T0 := List.mem_append_left _ (List.mem_of_getElem? (i := 52) rfl)
theorem T_53 : Cond.fieldLink RX0 25 "LaneWarps$Forecast" "scout" "LLaneWarps$State;" ∈ T0 := List.mem_append_left _ (List.mem_of_getElem? (i := 53) rfl)
theorem T_54 : Cond.fieldLink RX0 28 "LaneWarps$Forecast" "trail" "LLaneWarps$State;" ∈ T0 := List.mem_append_left _ (List.mem_of_getElem? (i := 54) rfl)
theorem T_55 : Cond.fieldLink RX0 31 "LaneWarps$Forecast" "courses" "[I" ∈ T0 := List.mem_append_left _ (List.mem_of_getElem? (i := 55) rfl)
theorem T_56 : Cond.fieldLink RX0 35 "LaneWarps$Forecast" "ends" "[I" ∈ T0 := List.mem_append_left _ (List.mem_of_getElem? (i := 56) rfl)
theorem T_57 : Cond.fieldLink RX0 38 "LaneWarps$Forecast" "solos" "[I" ∈ T0 := List.mem_append_left _ (List.mem_of_getElem? (i := 57) rfl)
theorem T_58 : Cond.fieldLink RX0 41 "LaneWarps$Forecast" "program" "LLaneWarps$Program;" ∈ T0 := List.mem_append_left _ (List.mem_of_getElem? (i := 58) rfl)
theorem T_59 : Cond.code yX1_take cX1_take 2 none ∈ T0 := List.mem_append_left _ (List.mem_of_getElem? (i := 59) rfl)
theorem T_60 : Cond.methodLink RX0 45 yX1_take ∈ T0 := List.mem_append_left _ (List.mem_of_getElem? (i := 60) rfl)
theorem T_61 : Cond.instanceMethod yX1_take ∈ T0 := List.mem_append_left _ (List.mem_of_getElem? (i := 61) rfl)
theorem T_62 : Cond.selects RX1 yX1_take yX1_take ∈ T0 := List.mem_append_left _ (List.mem_of_getElem? (i := 62) rfl)
theorem T_63 : Cond.fieldLink RX0 49 "LaneWarps$Forecast" "coursesKnown" "I" ∈ T0 := List.mem_append_left _ (List.mem_of_getElem? (i := 63) rfl)
theorem T_64 : Cond.fieldLink RX0 53 "LaneWarps$Forecast" "endsKnown" "J" ∈ T0 := List.mem_append_left _ (List.mem_of_getElem? (i := 64) rfl)
theorem T_65 : Cond.fieldLink RX0 57 "LaneWarps$Forecast" "solosKnown" "I" ∈ T0 := List.mem_append_left _ (List.mem_of_getElem? (i := 65) rfl)
theorem T_66 : Cond.methodLink RX6 3 objectInit ∈ T0 := List.mem_append_left _ (List.mem_of_getElem? (i := 66) rfl)
theorem T_67 : Cond.arrayClass .byte ∈ T0 := List.mem_append_left _ (List.mem_of_getElem? (i := 67) rfl)
theorem T_68 : Cond.fieldLink RX6 9 "LaneWarps" "tape" "[B" ∈ T0 := List.mem_append_left _ (List.mem_of_getElem? (i := 68) rfl)
theorem T_69 : Cond.classLink RX6 13 RX3 ∈ T0 := List.mem_append_left _ (List.mem_of_getElem? (i := 69) rfl)
theorem T_70 : Cond.instantiable RX3 15 ∈ T0 := List.mem_append_left _ (List.mem_of_getElem? (i := 70) rfl)
theorem T_71 : Cond.initialized RX3 ∈ T0 := List.mem_append_left _ (List.mem_of_getElem? (i := 71) rfl)
theorem T_72 : Cond.code yX3_init cX3_init 1 none ∈ T0 := List.mem_append_left _ (List.mem_of_getElem? (i := 72) rfl)
theorem T_73 : Cond.instanceMethod yX3_init ∈ T0 := List.mem_append_left _ (List.mem_of_getElem? (i := 73) rfl)
theorem T_74 : Cond.fieldLink RX6 16 "LaneWarps" "reader" "LLaneWarps$Reader;" ∈ T0 := List.mem_append_left _ (List.mem_of_getElem? (i := 74) rfl)
theorem T_75 : Cond.classLink RX6 20 RX2 ∈ T0 := List.mem_append_left _ (List.mem_of_getElem? (i := 75) rfl)
theorem T_76 : Cond.instantiable RX2 7 ∈ T0 := List.mem_append_left _ (List.mem_of_getElem? (i := 76) rfl)
theorem T_77 : Cond.initialized RX2 ∈ T0 := List.mem_append_left _ (List.mem_of_getElem? (i := 77) rfl)
theorem T_78 : Cond.code yX2_init cX2_init 1 none ∈ T0 := List.mem_append_left _ (List.mem_of_getElem? (i := 78) rfl)
theorem T_79 : Cond.instanceMethod yX2_init ∈ T0 := List.mem_append_left _ (List.mem_of_getElem? (i := 79) rfl)
theorem T_80 : Cond.fieldLink RX6 23 "LaneWarps" "current" "LLaneWarps$Program;" ∈ T0 := List.mem_append_left _ (List.mem_of_getElem? (i := 80) rfl)
theorem T_81 : Cond.fieldLink RX6 27 "LaneWarps" "spare" "LLaneWarps$Program;" ∈ T0 := List.mem_append_left _ (List.mem_of_getElem? (i := 81) rfl)
theorem T_82 : Cond.classLink RX6 30 RX4 ∈ T0 := List.mem_append_left _ (List.mem_of_getElem? (i := 82) rfl)
theorem T_83 : Cond.methodLink RX6 32 yX4_init ∈ T0 := List.mem_append_left _ (List.mem_of_getElem? (i := 83) rfl)
theorem T_84 : Cond.fieldLink RX6 33 "LaneWarps" "now" "LLaneWarps$State;" ∈ T0 := List.mem_append_left _ (List.mem_of_getElem? (i := 84) rfl)
theorem T_85 : Cond.fieldLink RX6 37 "LaneWarps" "past" "[LLaneWarps$State;" ∈ T0 := List.mem_append_left _ (List.mem_of_getElem? (i := 85) rfl)
theorem T_86 : Cond.classLink RX6 41 RX1 ∈ T0 := List.mem_append_left _ (List.mem_of_getElem? (i := 86) rfl)
theorem T_87 : Cond.fieldLink RX6 44 "LaneWarps" "machine" "LLaneWarps$Machine;" ∈ T0 := List.mem_append_left _ (List.mem_of_getElem? (i := 87) rfl)
theorem T_88 : Cond.classLink RX6 48 RX0 ∈ T0 := List.mem_append_left _ (List.mem_of_getElem? (i := 88) rfl)
theorem T_89 : Cond.instantiable RX0 14 ∈ T0 := List.mem_append_left _ (List.mem_of_getElem? (i := 89) rfl)
theorem T_90 : Cond.initialized RX0 ∈ T0 := List.mem_append_left _ (List.mem_of_getElem? (i := 90) rfl)
theorem T_91 : Cond.code yX0_init cX0_init 1 none ∈ T0 := List.mem_append_left _ (List.mem_of_getElem? (i := 91) rfl)
theorem T_92 : Cond.instanceMethod yX0_init ∈ T0 := List.mem_append_left _ (List.mem_of_getElem? (i := 92) rfl)
theorem T_93 : Cond.fieldLink RX6 51 "LaneWarps" "forecast" "LLaneWarps$Forecast;" ∈ T0 := List.mem_append_left _ (List.mem_of_getElem? (i := 93) rfl)
theorem T_94 : Cond.fieldLink RX6 55 "LaneWarps" "refused" "[I" ∈ T0 := List.mem_append_left _ (List.mem_of_getElem? (i := 94) rfl)
theorem T_95 : Cond.fieldLink RX6 59 "LaneWarps" "drawn" "J" ∈ T0 := List.mem_append_left _ (List.mem_of_getElem? (i := 95) rfl)
theorem T_96 : Cond.methodLink RX6 63 yX1_take ∈ T0 := List.mem_append_left _ (List.mem_of_getElem? (i := 96) rfl)
theorem T_97 : Cond.code yX0_take cX0_take 2 none ∈ T0 := List.mem_append_left _ (List.mem_of_getElem? (i := 97) rfl)
theorem T_98 : Cond.methodLink RX6 67 yX0_take ∈ T0 := List.mem_append_left _ (List.mem_of_getElem? (i := 98) rfl)
theorem T_99 : Cond.instanceMethod yX0_take ∈ T0 := List.mem_append_left _ (List.mem_of_getElem? (i := 99) rfl)
theorem T_100 : Cond.selects RX0 yX0_take yX0_take ∈ T0 := List.mem_append_left _ (List.mem_of_getElem? (i := 100) rfl)
theorem T_101 : Cond.fieldLink RX6 68 "LaneWarps" "bytes" "I" ∈ T0 := List.mem_append_left _ (List.mem_of_getElem? (i := 101) rfl)
theorem T_102 : Cond.code yX6_layBytes cX6_layBytes 3 none ∈ T0 := List.mem_append_left _ (List.mem_of_getElem? (i := 102) rfl)
theorem T_103 : Cond.methodLink RX6 76 yX6_layBytes ∈ T0 := List.mem_append_left _ (List.mem_of_getElem? (i := 103) rfl)
theorem T_104 : Cond.instanceMethod yX6_layBytes ∈ T0 := List.mem_append_left _ (List.mem_of_getElem? (i := 104) rfl)
theorem T_105 : Cond.selects RX6 yX6_layBytes yX6_layBytes ∈ T0 := List.mem_append_left _ (List.mem_of_getElem? (i := 105) rfl)
theorem T_106 : Cond.initialized RX6 ∈ T0 := List.mem_append_left _ (List.mem_of_getElem? (i := 106) rfl)
theorem T_107 : Cond.code yX6_refuse cX6_refuse 2 (some .int) ∈ T0 := List.mem_append_left _ (List.mem_of_getElem? (i := 107) rfl)
theorem T_108 : Cond.methodLink RX6 72 yX6_refuse ∈ T0 := List.mem_append_left _ (List.mem_of_getElem? (i := 108) rfl)
theorem T_109 : Cond.instanceMethod yX6_refuse ∈ T0 := List.mem_append_left _ (List.mem_of_getElem? (i := 109) rfl)
theorem T_110 : Cond.selects RX6 yX6_refuse yX6_refuse ∈ T0 := List.mem_append_left _ (List.mem_of_getElem? (i := 110) rfl)
theorem T_111 : Cond.code yJ7_fill_53178 cJ7_fill_53178 4 none ∈ T0 := List.mem_append_left _ (List.mem_of_getElem? (i := 111) rfl)
theorem T_112 : Cond.initialized RJ7 ∈ T0 := List.mem_append_left _ (List.mem_of_getElem? (i := 112) rfl)
theorem T_113 : Cond.methodLink RX2 24 yJ7_fill_53178 ∈ T0 := List.mem_append_left _ (List.mem_of_getElem? (i := 113) rfl)
theorem T_114 : Cond.static yJ7_fill_53178 ∈ T0 := List.mem_append_left _ (List.mem_of_getElem? (i := 114) rfl)
theorem T_115 : Cond.fieldLink RX2 30 "LaneWarps$Program" "lines" "I" ∈ T0 := List.mem_append_left _ (List.mem_of_getElem? (i := 115) rfl)
theorem T_116 : Cond.fieldLink RX2 34 "LaneWarps$Program" "warps" "I" ∈ T0 := List.mem_append_left _ (List.mem_of_getElem? (i := 116) rfl)
theorem T_117 : Cond.fieldLink RX2 37 "LaneWarps$Program" "mode" "I" ∈ T0 := List.mem_append_left _ (List.mem_of_getElem? (i := 117) rfl)
theorem T_118 : Cond.fieldLink RX2 40 "LaneWarps$Program" "order" "I" ∈ T0 := List.mem_append_left _ (List.mem_of_getElem? (i := 118) rfl)
theorem T_119 : Cond.fieldLink RX3 44 "LaneWarps$Reader" "kind" "I" ∈ T0 := List.mem_append_left _ (List.mem_of_getElem? (i := 119) rfl)
theorem T_120 : Cond.fieldLink RX3 47 "LaneWarps$Reader" "to" "I" ∈ T0 := List.mem_append_left _ (List.mem_of_getElem? (i := 120) rfl)
theorem T_121 : Cond.fieldLink RX3 71 "LaneWarps$Reader" "from" "I" ∈ T0 := List.mem_append_left _ (List.mem_of_getElem? (i := 121) rfl)
theorem T_122 : Cond.fieldLink RX3 32 "LaneWarps$Reader" "length" "I" ∈ T0 := List.mem_append_left _ (List.mem_of_getElem? (i := 122) rfl)
theorem T_123 : Cond.fieldLink RX3 74 "LaneWarps$Reader" "own" "I" ∈ T0 := List.mem_append_left _ (List.mem_of_getElem? (i := 123) rfl)
theorem T_124 : Cond.fieldLink RX3 50 "LaneWarps$Reader" "fault" "I" ∈ T0 := List.mem_append_left _ (List.mem_of_getElem? (i := 124) rfl)
theorem T_125 : Cond.fieldLink RX3 28 "LaneWarps$Reader" "text" "[B" ∈ T0 := List.mem_append_left _ (List.mem_of_getElem? (i := 125) rfl)
theorem T_126 : Cond.fieldLink RX3 35 "LaneWarps$Reader" "into" "LLaneWarps$Program;" ∈ T0 := List.mem_append_left _ (List.mem_of_getElem? (i := 126) rfl)
theorem T_127 : Cond.code yX2_clear cX2_clear 1 none ∈ T0 := List.mem_append_left _ (List.mem_of_getElem? (i := 127) rfl)
theorem T_128 : Cond.methodLink RX3 39 yX2_clear ∈ T0 := List.mem_append_left _ (List.mem_of_getElem? (i := 128) rfl)
theorem T_129 : Cond.instanceMethod yX2_clear ∈ T0 := List.mem_append_left _ (List.mem_of_getElem? (i := 129) rfl)
theorem T_130 : Cond.selects RX2 yX2_clear yX2_clear ∈ T0 := List.mem_append_left _ (List.mem_of_getElem? (i := 130) rfl)
theorem T_131 : Cond.code yX3_scan cX3_scan 3 none ∈ T0 := List.mem_append_left _ (List.mem_of_getElem? (i := 131) rfl)
theorem T_132 : Cond.methodLink RX3 53 yX3_scan ∈ T0 := List.mem_append_left _ (List.mem_of_getElem? (i := 132) rfl)
theorem T_133 : Cond.instanceMethod yX3_scan ∈ T0 := List.mem_append_left _ (List.mem_of_getElem? (i := 133) rfl)
theorem T_134 : Cond.selects RX3 yX3_scan yX3_scan ∈ T0 := List.mem_append_left _ (List.mem_of_getElem? (i := 134) rfl)
theorem T_135 : Cond.code yX3_fail cX3_fail 3 (some .boolean) ∈ T0 := List.mem_append_left _ (List.mem_of_getElem? (i := 135) rfl)
theorem T_136 : Cond.methodLink RX3 63 yX3_fail ∈ T0 := List.mem_append_left _ (List.mem_of_getElem? (i := 136) rfl)
theorem T_137 : Cond.instanceMethod yX3_fail ∈ T0 := List.mem_append_left _ (List.mem_of_getElem? (i := 137) rfl)
theorem T_138 : Cond.selects RX3 yX3_fail yX3_fail ∈ T0 := List.mem_append_left _ (List.mem_of_getElem? (i := 138) rfl)
theorem T_139 : Cond.code yX3_read cX3_read 6 (some .boolean) ∈ T0 := List.mem_append_left _ (List.mem_of_getElem? (i := 139) rfl)
theorem T_140 : Cond.methodLink RX6 80 yX3_read ∈ T0 := List.mem_append_left _ (List.mem_of_getElem? (i := 140) rfl)
theorem T_141 : Cond.instanceMethod yX3_read ∈ T0 := List.mem_append_left _ (List.mem_of_getElem? (i := 141) rfl)
theorem T_142 : Cond.selects RX3 yX3_read yX3_read ∈ T0 := List.mem_append_left _ (List.mem_of_getElem? (i := 142) rfl)
theorem T_143 : Cond.fieldLink RX6 87 "LaneWarps" "told" "Z" ∈ T0 := List.mem_append_left _ (List.mem_of_getElem? (i := 143) rfl)
theorem T_144 : Cond.code yX6_hasWarp cX6_hasWarp 2 (some .boolean) ∈ T0 := List.mem_append_left _ (List.mem_of_getElem? (i := 144) rfl)
theorem T_145 : Cond.methodLink RX6 181 yX6_hasWarp ∈ T0 := List.mem_append_left _ (List.mem_of_getElem? (i := 145) rfl)
theorem T_146 : Cond.instanceMethod yX6_hasWarp ∈ T0 := List.mem_append_left _ (List.mem_of_getElem? (i := 146) rfl)
theorem T_147 : Cond.selects RX6 yX6_hasWarp yX6_hasWarp ∈ T0 := List.mem_append_left _ (List.mem_of_getElem? (i := 147) rfl)
theorem T_148 : Cond.constant RX6 155 (-1000000) ∈ T0 := List.mem_append_left _ (List.mem_of_getElem? (i := 148) rfl)
theorem T_149 : Cond.code yX6_hasLane cX6_hasLane 3 (some .boolean) ∈ T0 := List.mem_append_left _ (List.mem_of_getElem? (i := 149) rfl)
theorem T_150 : Cond.methodLink RX6 160 yX6_hasLane ∈ T0 := List.mem_append_left _ (List.mem_of_getElem? (i := 150) rfl)
theorem T_151 : Cond.instanceMethod yX6_hasLane ∈ T0 := List.mem_append_left _ (List.mem_of_getElem? (i := 151) rfl)
theorem T_152 : Cond.selects RX6 yX6_hasLane yX6_hasLane ∈ T0 := List.mem_append_left _ (List.mem_of_getElem? (i := 152) rfl)
theorem T_153 : Cond.code yX6_hasWord cX6_hasWord 3 (some .boolean) ∈ T0 := List.mem_append_left _ (List.mem_of_getElem? (i := 153) rfl)
theorem T_154 : Cond.methodLink RX6 207 yX6_hasWord ∈ T0 := List.mem_append_left _ (List.mem_of_getElem? (i := 154) rfl)
theorem T_155 : Cond.instanceMethod yX6_hasWord ∈ T0 := List.mem_append_left _ (List.mem_of_getElem? (i := 155) rfl)
theorem T_156 : Cond.selects RX6 yX6_hasWord yX6_hasWord ∈ T0 := List.mem_append_left _ (List.mem_of_getElem? (i := 156) rfl)
theorem T_157 : Cond.methodLink RX6 135 Lib.Math.min.name ∈ T0 := List.mem_append_left _ (List.mem_of_getElem? (i := 157) rfl)
theorem T_158 : Cond.static Lib.Math.min.name ∈ T0 := List.mem_append_left _ (List.mem_of_getElem? (i := 158) rfl)
theorem T_159 : Cond.initialized "java/lang/Math" ∈ T0 := List.mem_append_left _ (List.mem_of_getElem? (i := 159) rfl)
theorem T_160 : Cond.code Lib.Math.min.name Lib.Math.min.code 2 (some .int) ∈ T0 := List.mem_append_left _ (List.mem_of_getElem? (i := 160) rfl)
theorem T_161 : Cond.fieldLink RX6 104 "LaneWarps" "acts" "I" ∈ T0 := List.mem_append_left _ (List.mem_of_getElem? (i := 161) rfl)
theorem inX0 : ∀ w ∈ wsX00, w ∈ T0 := fun _ h => List.mem_append_right _ (List.mem_append_left _ h)
theorem inX1 : ∀ w ∈ wsX10, w ∈ T0 := fun _ h => List.mem_append_right _ (List.mem_append_right _ (List.mem_append_left _ h))
theorem inX2 : ∀ w ∈ wsX20, w ∈ T0 := fun _ h => List.mem_append_right _ (List.mem_append_right _ (List.mem_append_right _ (List.mem_append_left _ h)))
theorem inX3 : ∀ w ∈ wsX30, w ∈ T0 := fun _ h => List.mem_append_right _ (List.mem_append_right _ (List.mem_append_right _ (List.mem_append_right _ (List.mem_append_left _ h))))
theorem inX4 : ∀ w ∈ wsX40, w ∈ T0 := fun _ h => List.mem_append_right _ (List.mem_append_right _ (List.mem_append_right _ (List.mem_append_right _ (List.mem_append_right _ (List.mem_append_left _ h)))))
theorem inX5 : ∀ w ∈ wsX50, w ∈ T0 := fun _ h => List.mem_append_right _ (List.mem_append_right _ (List.mem_append_right _ (List.mem_append_right _ (List.mem_append_right _ (List.mem_append_right _ (List.mem_append_left _ h))))))
theorem inX6 : ∀ w ∈ wsX60, w ∈ T0 := fun _ h => List.mem_append_right _ (List.mem_append_right _ (List.mem_append_right _ (List.mem_append_right _ (List.mem_append_right _ (List.mem_append_right _ (List.mem_append_right _ (List.mem_append_left _ h)))))))
theorem inX7 : ∀ w ∈ wsX70, w ∈ T0 := fun _ h => List.mem_append_right _ (List.mem_append_right _ (List.mem_append_right _ (List.mem_append_right _ (List.mem_append_right _ (List.mem_append_right _ (List.mem_append_right _ (List.mem_append_right _ (h))))))))
set_option maxRecDepth 20000 in
theorem ax_good : T0.all goodWord = true := by decide +kernel
set_option maxRecDepth 20000 in
theorem ax_lawc : GoodIn lw_tbl T0w := goodIn_p T0w [31, 147, 281, 140, 381, 36, 92, 329, 385, 441, 437, 460, 457, 464, 539, 453, 693, 689, 721, 675] rfl (by decide +kernel)
set_option maxRecDepth 20000 in
theorem ax_lawX0 : GoodIn lw_tbl wsX00 := goodIn_of _ (by decide +kernel)
set_option maxRecDepth 20000 in
theorem ax_lawX1 : GoodIn lw_tbl wsX10 := goodIn_of _ (by decide +kernel)
set_option maxRecDepth 20000 in
theorem ax_lawX2 : GoodIn lw_tbl wsX20 := goodIn_of _ (by decide +kernel)
set_option maxRecDepth 20000 in
theorem ax_lawX3 : GoodIn lw_tbl wsX30 := goodIn_of _ (by decide +kernel)
set_option maxRecDepth 20000 in
theorem ax_lawX4 : GoodIn lw_tbl wsX40 := goodIn_of _ (by decide +kernel)
set_option maxRecDepth 20000 in
theorem ax_lawX5 : GoodIn lw_tbl wsX50 := goodIn_of _ (by decide +kernel)
set_option maxRecDepth 20000 in
theorem ax_lawX6 : GoodIn lw_tbl wsX60 := goodIn_of _ (by decide +kernel)
set_option maxRecDepth 20000 in
theorem ax_lawX7 : GoodIn lw_tbl wsX70 := goodIn_of _ (by decide +kernel)
theorem ax_law : GoodIn lw_tbl T0 := goodIn_ap ax_lawc (goodIn_ap ax_lawX0 (goodIn_ap ax_lawX1 (goodIn_ap ax_lawX2 (goodIn_ap ax_lawX3 (goodIn_ap ax_lawX4 (goodIn_ap ax_lawX5 (goodIn_ap ax_lawX6 ax_lawX7)))))))
end
section
/-- what the tables say of nest mates and of arrays of references, carried along -/
def ax_N (U : State) : Prop := va_AO RX5 U ∧ va_Nw (Cond.methodLinkNest RX4 40 yX5_init "LaneWarps") U ∧ (Cond.arrayOver (.array .int)).before #[] U = true ∧ va_Nw (Cond.methodLinkNest RX0 11 yX1_init "LaneWarps") U ∧ va_Nw (Cond.methodLinkNest RX6 15 yX3_init "LaneWarps") U ∧ va_Nw (Cond.methodLinkNest RX6 22 yX2_init "LaneWarps") U ∧ va_AO RX4 U ∧ va_Nw (Cond.methodLinkNest RX6 43 yX1_init "LaneWarps") U ∧ va_Nw (Cond.methodLinkNest RX6 50 yX0_init "LaneWarps") U ∧ va_Nw (Cond.fieldLinkNest RX3 60 "LaneWarps$Program" "lines" "I" "LaneWarps") U ∧ va_Nw (Cond.fieldLinkNest RX6 113 "LaneWarps$Reader" "place" "I" "LaneWarps") U ∧ va_Nw (Cond.fieldLinkNest RX6 110 "LaneWarps$Reader" "fault" "I" "LaneWarps") U ∧ va_Nw (Cond.fieldLinkNest RX6 122 "LaneWarps$State" "done" "I" "LaneWarps") U
theorem ax_Nmoved {s U : State} (hW : s.WarmedH U.vm) (h : ax_N s) : ax_N U := ⟨va_AO.moved hW.alike h.1, va_Nw.warmM hW h.2.1, Jvm.Stand.arrayOver_alikeB hW.alike h.2.2.1, va_Nw.warmM hW h.2.2.2.1, va_Nw.warmM hW h.2.2.2.2.1, va_Nw.warmM hW h.2.2.2.2.2.1, va_AO.moved hW.alike h.2.2.2.2.2.2.1, va_Nw.warmM hW h.2.2.2.2.2.2.2.1, va_Nw.warmM hW h.2.2.2.2.2.2.2.2.1, va_Nw.warmF hW h.2.2.2.2.2.2.2.2.2.1, va_Nw.warmF hW h.2.2.2.2.2.2.2.2.2.2.1, va_Nw.warmF hW h.2.2.2.2.2.2.2.2.2.2.2.1, va_Nw.warmF hW h.2.2.2.2.2.2.2.2.2.2.2.2⟩
theorem ax_Nsame {u U : State} (e : u.vm = U.vm) (h : ax_N u) : ax_N U := ⟨va_AO.moved (by rw [e]; exact Vm.Alike.refl _) h.1, va_Nw.same rfl e h.2.1, Jvm.Stand.arrayOver_alikeB (by rw [e]; exact Vm.Alike.refl _) h.2.2.1, va_Nw.same rfl e h.2.2.2.1, va_Nw.same rfl e h.2.2.2.2.1, va_Nw.same rfl e h.2.2.2.2.2.1, va_AO.moved (by rw [e]; exact Vm.Alike.refl _) h.2.2.2.2.2.2.1, va_Nw.same rfl e h.2.2.2.2.2.2.2.1, va_Nw.same rfl e h.2.2.2.2.2.2.2.2.1, va_Nw.same rfl e h.2.2.2.2.2.2.2.2.2.1, va_Nw.same rfl e h.2.2.2.2.2.2.2.2.2.2.1, va_Nw.same rfl e h.2.2.2.2.2.2.2.2.2.2.2.1, va_Nw.same rfl e h.2.2.2.2.2.2.2.2.2.2.2.2⟩
theorem ax_Nlaw {A : Array Value} {s : State} (hts : ∀ w ∈ lw_tbl, w.before A s = true) : ax_N s := ⟨va_AO.of (hts (Cond.arrayOver (.object RX5)) (List.mem_of_getElem? (i := 143) (by decide +kernel))), va_Nw.of rfl (hts (Cond.methodLinkNest RX4 40 yX5_init "LaneWarps") (List.mem_of_getElem? (i := 145) (by decide +kernel))), hts (Cond.arrayOver (.array .int)) (List.mem_of_getElem? (i := 95) (by decide +kernel)), va_Nw.of rfl (hts (Cond.methodLinkNest RX0 11 yX1_init "LaneWarps") (List.mem_of_getElem? (i := 332) (by decide +kernel))), va_Nw.of rfl (hts (Cond.methodLinkNest RX6 15 yX3_init "LaneWarps") (List.mem_of_getElem? (i := 34) (by decide +kernel))), va_Nw.of rfl (hts (Cond.methodLinkNest RX6 22 yX2_init "LaneWarps") (List.mem_of_getElem? (i := 90) (by decide +kernel))), va_AO.of (hts (Cond.arrayOver (.object RX4)) (List.mem_of_getElem? (i := 276) (by decide +kernel))), va_Nw.of rfl (hts (Cond.methodLinkNest RX6 43 yX1_init "LaneWarps") (List.mem_of_getElem? (i := 279) (by decide +kernel))), va_Nw.of rfl (hts (Cond.methodLinkNest RX6 50 yX0_init "LaneWarps") (List.mem_of_getElem? (i := 327) (by decide +kernel))), va_Nw.of rfl (hts (Cond.fieldLinkNest RX3 60 "LaneWarps$Program" "lines" "I" "LaneWarps") (List.mem_of_getElem? (i := 105) (by decide +kernel))), va_Nw.of rfl (hts (Cond.fieldLinkNest RX6 113 "LaneWarps$Reader" "place" "I" "LaneWarps") (List.mem_of_getElem? (i := 54) (by decide +kernel))), va_Nw.of rfl (hts (Cond.fieldLinkNest RX6 110 "LaneWarps$Reader" "fault" "I" "LaneWarps") (List.mem_of_getElem? (i := 52) (by decide +kernel))), va_Nw.of rfl (hts (Cond.fieldLinkNest RX6 122 "LaneWarps$State" "done" "I" "LaneWarps") (List.mem_of_getElem? (i := 238) (by decide +kernel)))⟩
/-- a method's start: the size of the heap, the cells, the tables -/
def ax_W (dC : Nat → ClassId) (dI : Nat → Nat → Nat) (sz : Nat) (ws : va_W) (tys : List (ClassId × FieldType)) (U : State) : Prop := U.heap.size = sz ∧ va_P (dC, dI) vwCl ws U.heap ∧ va_K (dC, dI) vwCl tys U ∧ va_D (fun _ => True) ws ∧ ax_N U
theorem ax_pc {dC : Nat → ClassId} {dI : Nat → Nat → Nat} {sz : Nat} {ws : va_W} {tys : List (ClassId × FieldType)} {U U' : State} (h1 : U'.heap = U.heap) (h2 : U.vm = U'.vm) (q : ax_W dC dI sz ws tys U) : ax_W dC dI sz ws tys U' := by
  obtain ⟨a, b, c, d, e⟩ := q
  exact ⟨by rw [h1]; exact a, by rw [h1]; exact b, va_K.moved (by rw [h2]; exact Vm.Alike.refl _) c, d, ax_Nsame h2 e⟩
theorem ax_pw {dC : Nat → ClassId} {dI : Nat → Nat → Nat} {ws : va_W} {tys : List (ClassId × FieldType)} {s U : State} {H : Heap} {A : Nat → Prop} (hU : U.heap = H) (hW : s.WarmedH U.vm) (hP : va_P (dC, dI) vwCl ws H) (hK : va_K (dC, dI) vwCl tys s) (hD : va_D A ws) (hN : ax_N s) : ax_W dC dI H.size ws tys U :=
  ⟨by rw [hU], by rw [hU]; exact hP, va_K.moved hW.alike hK, hD.weaken (fun _ _ _ _ => trivial), ax_Nmoved hW hN⟩
theorem ax_gT {c1 : Cond} (h : c1 ∈ T0) : GoodIn T0 (c1 :: T0) := fun w hw => (List.mem_cons.mp hw).elim (fun e => by rw [e]; exact ⟨h, good_of_word (List.all_eq_true.mp ax_good _ h)⟩) (fun q => ⟨q, good_of_word (List.all_eq_true.mp ax_good _ q)⟩)
theorem ax_gA {ws : List Cond} (h : ∀ w ∈ ws, w ∈ T0) : GoodIn T0 ws := fun w hw => ⟨h w hw, good_of_word (List.all_eq_true.mp ax_good _ (h w hw))⟩
theorem ax_gV {own : String} {idx : Nat} {C : String} {y : MethodName} {c1 : Cond} (h1 : Cond.methodLink own idx y ∈ T0) (h2 : Cond.instanceMethod y ∈ T0) (h3 : Cond.selects C y y ∈ T0) (h4 : Cond.initialized C ∈ T0) (h5 : c1 ∈ T0) : GoodIn T0 (wsV own idx C y (c1 :: T0)) := ax_gA (fun w hw => by
  unfold wsV at hw
  simp only [List.cons_append, List.nil_append, List.mem_cons] at hw
  rcases hw with rfl | rfl | rfl | rfl | rfl | hw
  · exact h1
  · exact h2
  · exact h3
  · exact h4
  · exact h5
  · exact hw)
theorem ax_gS {own : String} {idx : Nat} {y : MethodName} {c1 : Cond} (h1 : Cond.methodLink own idx y ∈ T0) (h2 : Cond.static y ∈ T0) (h4 : Cond.initialized own ∈ T0) (h5 : c1 ∈ T0) : GoodIn T0 (wsS own idx y (c1 :: T0)) := ax_gA (fun w hw => by
  unfold wsS at hw
  simp only [List.cons_append, List.nil_append, List.mem_cons] at hw
  rcases hw with rfl | rfl | rfl | rfl | hw
  · exact h1
  · exact h2
  · exact h4
  · exact h5
  · exact hw)
theorem ax_in {i : Int32} {n : Nat} (h : ¬ (i < 0 ∨ n ≤ i.toNatClampNeg)) : vp_in i n := h
theorem ax_upd0 {k : Nat} : upd (fun _ => (0 : Int32)) k 0 = fun _ => 0 := by
  funext j
  simp [upd]
theorem ax_lt {x k : Int32} {n : Int} (hk : k.toInt = n) : x < k ↔ x.toInt < n := by rw [Int32.lt_iff_toInt_lt, hk]
theorem ax_gt {x k : Int32} {n : Int} (hk : k.toInt = n) : k < x ↔ n < x.toInt := by rw [Int32.lt_iff_toInt_lt, hk]
theorem ax_le {x k : Int32} {n : Int} (hk : k.toInt = n) : x ≤ k ↔ x.toInt ≤ n := by rw [Int32.le_iff_toInt_le, hk]
theorem ax_ge {x k : Int32} {n : Int} (hk : k.toInt = n) : k ≤ x ↔ n ≤ x.toInt := by rw [Int32.le_iff_toInt_le, hk]
theorem ax_eq {x k : Int32} {n : Int} (hk : k.toInt = n) : x = k ↔ x.toInt = n := by rw [← Int32.toInt_inj, hk]
/-- what the reference's isIn answers -/
def a_isIn (v a b : Int64) : Int32 := if v.toInt < a.toInt ∨ b.toInt < v.toInt then 0 else 1
theorem ax_isIn {r x : Int32} {a b : Int64} {m n : Int} (ha : a.toInt = m) (hb : b.toInt = n) (e : r = a_isIn x.toInt64 a b) : r = 0 ↔ (x.toInt < m ∨ n < x.toInt) := by
  rw [e]
  unfold a_isIn
  rw [ha, hb, Int32.toInt_toInt64]
  by_cases h : x.toInt < m ∨ n < x.toInt
  · rw [if_pos h]
    exact ⟨fun _ => h, fun _ => rfl⟩
  · rw [if_neg h]
    exact ⟨fun q => absurd q (by decide), fun q => absurd q h⟩
/-- what the first call of has, status, fault, end, seed answers -/
def a_has (x : Int32) : Int32 := if x.toInt < 0 ∨ 13 < x.toInt then -1 else 0
def a_status (x : Int32) : Int32 := if x.toInt < 0 ∨ 5 < x.toInt then -1 else 0
def a_fault (x : Int32) : Int32 := if x.toInt = 0 then 0 else -1
def a_end (x : Int32) : Int32 := if x.toInt < 0 ∨ 0 < x.toInt then 0 else 1
def a_seed (x : Int32) : Int32 := if x.toInt < 0 then 0 else 1
theorem ax_in6 {i : Int32} {L k : Nat} (h : i = nI k ∧ k < 6) (hL : L = 6) : vp_in i L := by
  obtain ⟨rfl, h⟩ := h
  subst hL
  exact vp_in_nI h (by decide)
section AXW
variable {p : Program} {l : Launch} {e : Env} {R : Room} {s : State} {m : MethodId} {args : Array Value} {below : List Frame} {meth : Method} {c : Code} {H : Heap} {locs : List Loc} {cells slots : Nat} {Q : State → Prop}
variable {cc : ByteArray} {pc : Nat} {ls : Array Slot} {rest : List Value} {D : va_G} {cl : List vw_C} {A : Nat → Prop} {ws : va_W} {H0 : Heap}
theorem ax_eqi {x y : Int32} (h : x = y) (k : W p l e R s m args below meth c H locs cells slots Q (F0 m pc ls (.int y :: rest))) : W p l e R s m args below meth c H locs cells slots Q (F0 m pc ls (.int x :: rest)) := by
  subst h
  exact k
theorem ax_gen {g : JFrame} (hP : va_P D cl ws H) (hD : va_D A ws) (hS : va_S A H0 H locs) (kk : ∀ (H1 : Heap) (locs1 : List Loc), va_P D cl ws H1 → va_D A ws → va_S A H0 H1 locs1 → W p l e R s m args below meth c H1 locs1 cells slots Q g) : W p l e R s m args below meth c H locs cells slots Q g := kk H locs hP hD hS
/-- new int[n][k]: what comes is forgotten, what was there stays -/
theorem ax_mna (hexec : p.tables.exec = Jvm.exec) (hb : c.code = cc) {own : String} {index : Nat} {ty : FieldType} (hown : s.vm.findClass own = some m.cls) (hclink : (Cond.classLink own index ("[" ++ (FieldType.array ty).toString)).before args s = true) (hover : (Cond.arrayOver (.array ty)).before #[] s = true) (harr : (Cond.arrayClass ty).before args s = true)
    (hP : va_P D cl ws H) (hD : va_D A ws) (hS : va_S A H0 H locs) (hA : ∀ q, H0.size ≤ q → A q) {n k : Int32} {N' K' : Nat} (hn : ¬ n < 0) (hk : ¬ k < 0) (hN : n.toNatClampNeg = N') (hM : k.toNatClampNeg = K')
    (hb1 : N' * 4 ≤ 536870912) (hb2 : K' * componentBytes ty ≤ 536870912) (hb3 : K' ≤ 536870912) (hdf : fits ty (defaultValue ty) = true) (hdd : (defaultValue ty).isDefault = true) (hcells : cells + (1 + N') ≤ R.cells) (hslots : slots + (N' + N' * K') ≤ R.slots) (hdg : decode cc pc = .ok (.multianewarray index 2, 4))
    (kk : ∀ (q : Nat) (H1 : Heap), va_P D cl ws H1 → va_D A ws → va_S A H0 H1 locs → W p l e R s m args below meth c H1 locs (cells + 1 + N') (slots + N' + N' * K') Q (F0 m (pc + 4) ls (.ref q :: rest))) : W p l e R s m args below meth c H locs cells slots Q (F0 m pc ls (.int k :: .int n :: rest)) := by
  subst hN
  subst hM
  intro T hT Xs
  have hover2 : (Cond.arrayOver (.array ty)).before args s = true := hover
  obtain ⟨vm₁, cA, comp, -, fA, fC, hO, -, X', step⟩ := Xs.multianewarray2F hexec hown hclink hover2 harr (g := F0 m pc ls (.int k :: .int n :: rest)) rfl (by rw [hb]; exact hdg) rfl hn hk hb1 hb2 hb3 hdf hdd hcells hslots
  generalize hF : Jvm.Free.Multi.fill (T.setVm vm₁) cA comp n.toNatClampNeg k.toNatClampNeg (defaultValue ty) n.toNatClampNeg = F at X' step
  have hTh : (T.setVm vm₁).heap = H := hT
  obtain ⟨f1, f2, -, -⟩ := Jvm.Free.Multi.fill_facts (T.setVm vm₁) cA comp n.toNatClampNeg k.toNatClampNeg (defaultValue ty) n.toNatClampNeg
  rw [hF, hTh] at f1 f2
  have hold : ∀ x : Nat, x < H.size → F.heap[x]? = H[x]? := fun x hx => by
    have := Jvm.Free.Multi.fill_old (T.setVm vm₁) cA comp n.toNatClampNeg k.toNatClampNeg (defaultValue ty) (a := x) (by rw [hTh]; exact hx) n.toNatClampNeg
    rw [hF, hTh] at this
    exact this
  have hP0 : va_P D cl ws F.heap := hP.kept (fun k9 x hx => hold x.1 ((hP k9 x hx).lt))
  obtain ⟨t, a1, b1⟩ := kk T.heap.size F.heap hP0 hD ⟨by rw [f1]; have := hS.1; omega, fun x h1 h2 => (hold x (Nat.lt_of_lt_of_le h1 hS.1)).trans (hS.2.1 x h1 h2), hS.2.2⟩ F rfl X'
  exact ⟨t, step t a1, b1⟩
end AXW
end
section
theorem dJ7_fill_53178_0 : decode cJ7_fill_53178 0 = .ok (.iconst 0, 1) := by decide +kernel
theorem dJ7_fill_53178_1 : decode cJ7_fill_53178 1 = .ok (.istore_n 2, 1) := by decide +kernel
theorem dJ7_fill_53178_2 : decode cJ7_fill_53178 2 = .ok (.aload_n 0, 1) := by decide +kernel
theorem dJ7_fill_53178_3 : decode cJ7_fill_53178 3 = .ok (.arraylength, 1) := by decide +kernel
theorem dJ7_fill_53178_4 : decode cJ7_fill_53178 4 = .ok (.istore_n 3, 1) := by decide +kernel
theorem dJ7_fill_53178_5 : decode cJ7_fill_53178 5 = .ok (.iload_n 2, 1) := by decide +kernel
theorem dJ7_fill_53178_6 : decode cJ7_fill_53178 6 = .ok (.iload_n 3, 1) := by decide +kernel
theorem dJ7_fill_53178_7 : decode cJ7_fill_53178 7 = .ok (.if_icmp .ge 13, 3) := by decide +kernel
theorem dJ7_fill_53178_10 : decode cJ7_fill_53178 10 = .ok (.aload_n 0, 1) := by decide +kernel
theorem dJ7_fill_53178_11 : decode cJ7_fill_53178 11 = .ok (.iload_n 2, 1) := by decide +kernel
theorem dJ7_fill_53178_12 : decode cJ7_fill_53178 12 = .ok (.iload_n 1, 1) := by decide +kernel
theorem dJ7_fill_53178_13 : decode cJ7_fill_53178 13 = .ok (.iastore, 1) := by decide +kernel
theorem dJ7_fill_53178_14 : decode cJ7_fill_53178 14 = .ok (.iinc 2 1, 3) := by decide +kernel
theorem dJ7_fill_53178_17 : decode cJ7_fill_53178 17 = .ok (.goto (-12), 3) := by decide +kernel
theorem dJ7_fill_53178_20 : decode cJ7_fill_53178 20 = .ok (.return_, 1) := by decide +kernel
theorem dX0_init_0 : decode cX0_init 0 = .ok (.aload_n 0, 1) := by decide +kernel
theorem dX0_init_1 : decode cX0_init 1 = .ok (.invokespecial 3, 3) := by decide +kernel
theorem dX0_init_4 : decode cX0_init 4 = .ok (.aload_n 0, 1) := by decide +kernel
theorem dX0_init_5 : decode cX0_init 5 = .ok (.new 9, 3) := by decide +kernel
theorem dX0_init_8 : decode cX0_init 8 = .ok (.dup, 1) := by decide +kernel
theorem dX0_init_9 : decode cX0_init 9 = .ok (.invokespecial 11, 3) := by decide +kernel
theorem dX0_init_12 : decode cX0_init 12 = .ok (.putfield 12, 3) := by decide +kernel
theorem dX0_init_15 : decode cX0_init 15 = .ok (.aload_n 0, 1) := by decide +kernel
theorem dX0_init_16 : decode cX0_init 16 = .ok (.new 18, 3) := by decide +kernel
theorem dX0_init_19 : decode cX0_init 19 = .ok (.dup, 1) := by decide +kernel
theorem dX0_init_20 : decode cX0_init 20 = .ok (.invokespecial 20, 3) := by decide +kernel
theorem dX0_init_23 : decode cX0_init 23 = .ok (.putfield 21, 3) := by decide +kernel
theorem dX0_init_26 : decode cX0_init 26 = .ok (.aload_n 0, 1) := by decide +kernel
theorem dX0_init_27 : decode cX0_init 27 = .ok (.new 18, 3) := by decide +kernel
theorem dX0_init_30 : decode cX0_init 30 = .ok (.dup, 1) := by decide +kernel
theorem dX0_init_31 : decode cX0_init 31 = .ok (.invokespecial 20, 3) := by decide +kernel
theorem dX0_init_34 : decode cX0_init 34 = .ok (.putfield 25, 3) := by decide +kernel
theorem dX0_init_37 : decode cX0_init 37 = .ok (.aload_n 0, 1) := by decide +kernel
theorem dX0_init_38 : decode cX0_init 38 = .ok (.new 18, 3) := by decide +kernel
theorem dX0_init_41 : decode cX0_init 41 = .ok (.dup, 1) := by decide +kernel
theorem dX0_init_42 : decode cX0_init 42 = .ok (.invokespecial 20, 3) := by decide +kernel
theorem dX0_init_45 : decode cX0_init 45 = .ok (.putfield 28, 3) := by decide +kernel
theorem dX0_init_48 : decode cX0_init 48 = .ok (.aload_n 0, 1) := by decide +kernel
theorem dX0_init_49 : decode cX0_init 49 = .ok (.bipush 51, 2) := by decide +kernel
theorem dX0_init_51 : decode cX0_init 51 = .ok (.newarray .int, 2) := by decide +kernel
theorem dX0_init_53 : decode cX0_init 53 = .ok (.putfield 31, 3) := by decide +kernel
theorem dX0_init_56 : decode cX0_init 56 = .ok (.aload_n 0, 1) := by decide +kernel
theorem dX0_init_57 : decode cX0_init 57 = .ok (.sipush 1024, 3) := by decide +kernel
theorem dX0_init_60 : decode cX0_init 60 = .ok (.newarray .int, 2) := by decide +kernel
theorem dX0_init_62 : decode cX0_init 62 = .ok (.putfield 35, 3) := by decide +kernel
theorem dX0_init_65 : decode cX0_init 65 = .ok (.aload_n 0, 1) := by decide +kernel
theorem dX0_init_66 : decode cX0_init 66 = .ok (.sipush 160, 3) := by decide +kernel
theorem dX0_init_69 : decode cX0_init 69 = .ok (.newarray .int, 2) := by decide +kernel
theorem dX0_init_71 : decode cX0_init 71 = .ok (.putfield 38, 3) := by decide +kernel
theorem dX0_init_74 : decode cX0_init 74 = .ok (.return_, 1) := by decide +kernel
theorem dX0_take_0 : decode cX0_take 0 = .ok (.aload_n 0, 1) := by decide +kernel
theorem dX0_take_1 : decode cX0_take 1 = .ok (.aload_n 1, 1) := by decide +kernel
theorem dX0_take_2 : decode cX0_take 2 = .ok (.putfield 41, 3) := by decide +kernel
theorem dX0_take_5 : decode cX0_take 5 = .ok (.aload_n 0, 1) := by decide +kernel
theorem dX0_take_6 : decode cX0_take 6 = .ok (.getfield 12, 3) := by decide +kernel
theorem dX0_take_9 : decode cX0_take 9 = .ok (.aload_n 1, 1) := by decide +kernel
theorem dX0_take_10 : decode cX0_take 10 = .ok (.invokevirtual 45, 3) := by decide +kernel
theorem dX0_take_13 : decode cX0_take 13 = .ok (.aload_n 0, 1) := by decide +kernel
theorem dX0_take_14 : decode cX0_take 14 = .ok (.iconst 0, 1) := by decide +kernel
theorem dX0_take_15 : decode cX0_take 15 = .ok (.putfield 49, 3) := by decide +kernel
theorem dX0_take_18 : decode cX0_take 18 = .ok (.aload_n 0, 1) := by decide +kernel
theorem dX0_take_19 : decode cX0_take 19 = .ok (.lconst 0, 1) := by decide +kernel
theorem dX0_take_20 : decode cX0_take 20 = .ok (.putfield 53, 3) := by decide +kernel
theorem dX0_take_23 : decode cX0_take 23 = .ok (.aload_n 0, 1) := by decide +kernel
theorem dX0_take_24 : decode cX0_take 24 = .ok (.iconst 0, 1) := by decide +kernel
theorem dX0_take_25 : decode cX0_take 25 = .ok (.putfield 57, 3) := by decide +kernel
theorem dX0_take_28 : decode cX0_take 28 = .ok (.return_, 1) := by decide +kernel
theorem dX1_init_0 : decode cX1_init 0 = .ok (.aload_n 0, 1) := by decide +kernel
theorem dX1_init_1 : decode cX1_init 1 = .ok (.invokespecial 3, 3) := by decide +kernel
theorem dX1_init_4 : decode cX1_init 4 = .ok (.aload_n 0, 1) := by decide +kernel
theorem dX1_init_5 : decode cX1_init 5 = .ok (.bipush 8, 2) := by decide +kernel
theorem dX1_init_7 : decode cX1_init 7 = .ok (.newarray .int, 2) := by decide +kernel
theorem dX1_init_9 : decode cX1_init 9 = .ok (.putfield 9, 3) := by decide +kernel
theorem dX1_init_12 : decode cX1_init 12 = .ok (.aload_n 0, 1) := by decide +kernel
theorem dX1_init_13 : decode cX1_init 13 = .ok (.iconst 4, 1) := by decide +kernel
theorem dX1_init_14 : decode cX1_init 14 = .ok (.newarray .int, 2) := by decide +kernel
theorem dX1_init_16 : decode cX1_init 16 = .ok (.putfield 15, 3) := by decide +kernel
theorem dX1_init_19 : decode cX1_init 19 = .ok (.return_, 1) := by decide +kernel
theorem dX1_take_0 : decode cX1_take 0 = .ok (.aload_n 0, 1) := by decide +kernel
theorem dX1_take_1 : decode cX1_take 1 = .ok (.aload_n 1, 1) := by decide +kernel
theorem dX1_take_2 : decode cX1_take 2 = .ok (.putfield 18, 3) := by decide +kernel
theorem dX1_take_5 : decode cX1_take 5 = .ok (.return_, 1) := by decide +kernel
theorem dX2_clear_0 : decode cX2_clear 0 = .ok (.aload_n 0, 1) := by decide +kernel
theorem dX2_clear_1 : decode cX2_clear 1 = .ok (.getfield 16, 3) := by decide +kernel
theorem dX2_clear_4 : decode cX2_clear 4 = .ok (.iconst 0, 1) := by decide +kernel
theorem dX2_clear_5 : decode cX2_clear 5 = .ok (.invokestatic 24, 3) := by decide +kernel
theorem dX2_clear_8 : decode cX2_clear 8 = .ok (.aload_n 0, 1) := by decide +kernel
theorem dX2_clear_9 : decode cX2_clear 9 = .ok (.iconst 0, 1) := by decide +kernel
theorem dX2_clear_10 : decode cX2_clear 10 = .ok (.putfield 30, 3) := by decide +kernel
theorem dX2_clear_13 : decode cX2_clear 13 = .ok (.aload_n 0, 1) := by decide +kernel
theorem dX2_clear_14 : decode cX2_clear 14 = .ok (.iconst 0, 1) := by decide +kernel
theorem dX2_clear_15 : decode cX2_clear 15 = .ok (.putfield 34, 3) := by decide +kernel
theorem dX2_clear_18 : decode cX2_clear 18 = .ok (.aload_n 0, 1) := by decide +kernel
theorem dX2_clear_19 : decode cX2_clear 19 = .ok (.iconst 0, 1) := by decide +kernel
theorem dX2_clear_20 : decode cX2_clear 20 = .ok (.putfield 37, 3) := by decide +kernel
theorem dX2_clear_23 : decode cX2_clear 23 = .ok (.aload_n 0, 1) := by decide +kernel
theorem dX2_clear_24 : decode cX2_clear 24 = .ok (.iconst 0, 1) := by decide +kernel
theorem dX2_clear_25 : decode cX2_clear 25 = .ok (.putfield 40, 3) := by decide +kernel
theorem dX2_clear_28 : decode cX2_clear 28 = .ok (.return_, 1) := by decide +kernel
theorem dX2_init_0 : decode cX2_init 0 = .ok (.aload_n 0, 1) := by decide +kernel
theorem dX2_init_1 : decode cX2_init 1 = .ok (.invokespecial 3, 3) := by decide +kernel
theorem dX2_init_4 : decode cX2_init 4 = .ok (.aload_n 0, 1) := by decide +kernel
theorem dX2_init_5 : decode cX2_init 5 = .ok (.bipush 40, 2) := by decide +kernel
theorem dX2_init_7 : decode cX2_init 7 = .ok (.bipush 7, 2) := by decide +kernel
theorem dX2_init_9 : decode cX2_init 9 = .ok (.multianewarray 9 2, 4) := by decide +kernel
theorem dX2_init_13 : decode cX2_init 13 = .ok (.putfield 11, 3) := by decide +kernel
theorem dX2_init_16 : decode cX2_init 16 = .ok (.aload_n 0, 1) := by decide +kernel
theorem dX2_init_17 : decode cX2_init 17 = .ok (.bipush 64, 2) := by decide +kernel
theorem dX2_init_19 : decode cX2_init 19 = .ok (.newarray .int, 2) := by decide +kernel
theorem dX2_init_21 : decode cX2_init 21 = .ok (.putfield 16, 3) := by decide +kernel
theorem dX2_init_24 : decode cX2_init 24 = .ok (.aload_n 0, 1) := by decide +kernel
theorem dX2_init_25 : decode cX2_init 25 = .ok (.bipush 41, 2) := by decide +kernel
theorem dX2_init_27 : decode cX2_init 27 = .ok (.newarray .long, 2) := by decide +kernel
theorem dX2_init_29 : decode cX2_init 29 = .ok (.putfield 20, 3) := by decide +kernel
theorem dX2_init_32 : decode cX2_init 32 = .ok (.return_, 1) := by decide +kernel
theorem dX3_fail_0 : decode cX3_fail 0 = .ok (.aload_n 0, 1) := by decide +kernel
theorem dX3_fail_1 : decode cX3_fail 1 = .ok (.iload_n 1, 1) := by decide +kernel
theorem dX3_fail_2 : decode cX3_fail 2 = .ok (.putfield 50, 3) := by decide +kernel
theorem dX3_fail_5 : decode cX3_fail 5 = .ok (.aload_n 0, 1) := by decide +kernel
theorem dX3_fail_6 : decode cX3_fail 6 = .ok (.iload_n 2, 1) := by decide +kernel
theorem dX3_fail_7 : decode cX3_fail 7 = .ok (.putfield 24, 3) := by decide +kernel
theorem dX3_fail_10 : decode cX3_fail 10 = .ok (.iconst 0, 1) := by decide +kernel
theorem dX3_fail_11 : decode cX3_fail 11 = .ok (.ireturn, 1) := by decide +kernel
theorem dX3_init_0 : decode cX3_init 0 = .ok (.aload_n 0, 1) := by decide +kernel
theorem dX3_init_1 : decode cX3_init 1 = .ok (.invokespecial 3, 3) := by decide +kernel
theorem dX3_init_4 : decode cX3_init 4 = .ok (.aload_n 0, 1) := by decide +kernel
theorem dX3_init_5 : decode cX3_init 5 = .ok (.bipush 40, 2) := by decide +kernel
theorem dX3_init_7 : decode cX3_init 7 = .ok (.newarray .int, 2) := by decide +kernel
theorem dX3_init_9 : decode cX3_init 9 = .ok (.putfield 9, 3) := by decide +kernel
theorem dX3_init_12 : decode cX3_init 12 = .ok (.aload_n 0, 1) := by decide +kernel
theorem dX3_init_13 : decode cX3_init 13 = .ok (.bipush 40, 2) := by decide +kernel
theorem dX3_init_15 : decode cX3_init 15 = .ok (.newarray .int, 2) := by decide +kernel
theorem dX3_init_17 : decode cX3_init 17 = .ok (.putfield 15, 3) := by decide +kernel
theorem dX3_init_20 : decode cX3_init 20 = .ok (.aload_n 0, 1) := by decide +kernel
theorem dX3_init_21 : decode cX3_init 21 = .ok (.bipush 40, 2) := by decide +kernel
theorem dX3_init_23 : decode cX3_init 23 = .ok (.newarray .int, 2) := by decide +kernel
theorem dX3_init_25 : decode cX3_init 25 = .ok (.putfield 18, 3) := by decide +kernel
theorem dX3_init_28 : decode cX3_init 28 = .ok (.aload_n 0, 1) := by decide +kernel
theorem dX3_init_29 : decode cX3_init 29 = .ok (.bipush 40, 2) := by decide +kernel
theorem dX3_init_31 : decode cX3_init 31 = .ok (.newarray .int, 2) := by decide +kernel
theorem dX3_init_33 : decode cX3_init 33 = .ok (.putfield 21, 3) := by decide +kernel
theorem dX3_init_36 : decode cX3_init 36 = .ok (.aload_n 0, 1) := by decide +kernel
theorem dX3_init_37 : decode cX3_init 37 = .ok (.iconst (-1), 1) := by decide +kernel
theorem dX3_init_38 : decode cX3_init 38 = .ok (.putfield 24, 3) := by decide +kernel
theorem dX3_init_41 : decode cX3_init 41 = .ok (.return_, 1) := by decide +kernel
theorem dX3_read_0 : decode cX3_read 0 = .ok (.aload_n 0, 1) := by decide +kernel
theorem dX3_read_1 : decode cX3_read 1 = .ok (.aload_n 1, 1) := by decide +kernel
theorem dX3_read_2 : decode cX3_read 2 = .ok (.putfield 28, 3) := by decide +kernel
theorem dX3_read_5 : decode cX3_read 5 = .ok (.aload_n 0, 1) := by decide +kernel
theorem dX3_read_6 : decode cX3_read 6 = .ok (.iload_n 2, 1) := by decide +kernel
theorem dX3_read_7 : decode cX3_read 7 = .ok (.putfield 32, 3) := by decide +kernel
theorem dX3_read_10 : decode cX3_read 10 = .ok (.aload_n 0, 1) := by decide +kernel
theorem dX3_read_11 : decode cX3_read 11 = .ok (.aload_n 3, 1) := by decide +kernel
theorem dX3_read_12 : decode cX3_read 12 = .ok (.putfield 35, 3) := by decide +kernel
theorem dX3_read_15 : decode cX3_read 15 = .ok (.aload_n 0, 1) := by decide +kernel
theorem dX3_read_16 : decode cX3_read 16 = .ok (.getfield 35, 3) := by decide +kernel
theorem dX3_read_19 : decode cX3_read 19 = .ok (.invokevirtual 39, 3) := by decide +kernel
theorem dX3_read_22 : decode cX3_read 22 = .ok (.aload_n 0, 1) := by decide +kernel
theorem dX3_read_23 : decode cX3_read 23 = .ok (.iconst 0, 1) := by decide +kernel
theorem dX3_read_24 : decode cX3_read 24 = .ok (.putfield 44, 3) := by decide +kernel
theorem dX3_read_27 : decode cX3_read 27 = .ok (.aload_n 0, 1) := by decide +kernel
theorem dX3_read_28 : decode cX3_read 28 = .ok (.iconst 0, 1) := by decide +kernel
theorem dX3_read_29 : decode cX3_read 29 = .ok (.putfield 47, 3) := by decide +kernel
theorem dX3_read_32 : decode cX3_read 32 = .ok (.aload_n 0, 1) := by decide +kernel
theorem dX3_read_33 : decode cX3_read 33 = .ok (.iconst 0, 1) := by decide +kernel
theorem dX3_read_34 : decode cX3_read 34 = .ok (.putfield 50, 3) := by decide +kernel
theorem dX3_read_37 : decode cX3_read 37 = .ok (.aload_n 0, 1) := by decide +kernel
theorem dX3_read_38 : decode cX3_read 38 = .ok (.iconst (-1), 1) := by decide +kernel
theorem dX3_read_39 : decode cX3_read 39 = .ok (.putfield 24, 3) := by decide +kernel
theorem dX3_read_42 : decode cX3_read 42 = .ok (.iconst 1, 1) := by decide +kernel
theorem dX3_read_43 : decode cX3_read 43 = .ok (.istore 4, 2) := by decide +kernel
theorem dX3_read_45 : decode cX3_read 45 = .ok (.aload_n 0, 1) := by decide +kernel
theorem dX3_read_46 : decode cX3_read 46 = .ok (.invokevirtual 53, 3) := by decide +kernel
theorem dX3_read_49 : decode cX3_read 49 = .ok (.iconst 0, 1) := by decide +kernel
theorem dX3_read_50 : decode cX3_read 50 = .ok (.istore 5, 2) := by decide +kernel
theorem dX3_read_52 : decode cX3_read 52 = .ok (.iload 4, 2) := by decide +kernel
theorem dX3_read_54 : decode cX3_read 54 = .ok (.ifCond .eq 31, 3) := by decide +kernel
theorem dX3_read_57 : decode cX3_read 57 = .ok (.aload_n 0, 1) := by decide +kernel
theorem dX3_read_58 : decode cX3_read 58 = .ok (.getfield 44, 3) := by decide +kernel
theorem dX3_read_61 : decode cX3_read 61 = .ok (.ifCond .eq 24, 3) := by decide +kernel
theorem dX3_read_85 : decode cX3_read 85 = .ok (.iload 4, 2) := by decide +kernel
theorem dX3_read_87 : decode cX3_read 87 = .ok (.ifCond .eq 23, 3) := by decide +kernel
theorem dX3_read_90 : decode cX3_read 90 = .ok (.aload_n 0, 1) := by decide +kernel
theorem dX3_read_91 : decode cX3_read 91 = .ok (.getfield 35, 3) := by decide +kernel
theorem dX3_read_94 : decode cX3_read 94 = .ok (.getfield 60, 3) := by decide +kernel
theorem dX3_read_97 : decode cX3_read 97 = .ok (.ifCond .ne 13, 3) := by decide +kernel
theorem dX3_read_100 : decode cX3_read 100 = .ok (.aload_n 0, 1) := by decide +kernel
theorem dX3_read_101 : decode cX3_read 101 = .ok (.iconst 1, 1) := by decide +kernel
theorem dX3_read_102 : decode cX3_read 102 = .ok (.aload_n 0, 1) := by decide +kernel
theorem dX3_read_103 : decode cX3_read 103 = .ok (.getfield 32, 3) := by decide +kernel
theorem dX3_read_106 : decode cX3_read 106 = .ok (.invokevirtual 63, 3) := by decide +kernel
theorem dX3_read_109 : decode cX3_read 109 = .ok (.ireturn, 1) := by decide +kernel
theorem dX3_scan_0 : decode cX3_scan 0 = .ok (.aload_n 0, 1) := by decide +kernel
theorem dX3_scan_1 : decode cX3_scan 1 = .ok (.getfield 44, 3) := by decide +kernel
theorem dX3_scan_4 : decode cX3_scan 4 = .ok (.iconst 1, 1) := by decide +kernel
theorem dX3_scan_5 : decode cX3_scan 5 = .ok (.if_icmp .eq 11, 3) := by decide +kernel
theorem dX3_scan_8 : decode cX3_scan 8 = .ok (.aload_n 0, 1) := by decide +kernel
theorem dX3_scan_9 : decode cX3_scan 9 = .ok (.getfield 44, 3) := by decide +kernel
theorem dX3_scan_12 : decode cX3_scan 12 = .ok (.iconst 2, 1) := by decide +kernel
theorem dX3_scan_13 : decode cX3_scan 13 = .ok (.if_icmp .ne 7, 3) := by decide +kernel
theorem dX3_scan_20 : decode cX3_scan 20 = .ok (.iconst 0, 1) := by decide +kernel
theorem dX3_scan_21 : decode cX3_scan 21 = .ok (.istore_n 1, 1) := by decide +kernel
theorem dX3_scan_22 : decode cX3_scan 22 = .ok (.aload_n 0, 1) := by decide +kernel
theorem dX3_scan_23 : decode cX3_scan 23 = .ok (.aload_n 0, 1) := by decide +kernel
theorem dX3_scan_24 : decode cX3_scan 24 = .ok (.getfield 47, 3) := by decide +kernel
theorem dX3_scan_27 : decode cX3_scan 27 = .ok (.putfield 71, 3) := by decide +kernel
theorem dX3_scan_30 : decode cX3_scan 30 = .ok (.aload_n 0, 1) := by decide +kernel
theorem dX3_scan_31 : decode cX3_scan 31 = .ok (.getfield 71, 3) := by decide +kernel
theorem dX3_scan_34 : decode cX3_scan 34 = .ok (.aload_n 0, 1) := by decide +kernel
theorem dX3_scan_35 : decode cX3_scan 35 = .ok (.getfield 32, 3) := by decide +kernel
theorem dX3_scan_38 : decode cX3_scan 38 = .ok (.if_icmp .ge 44, 3) := by decide +kernel
theorem dX3_scan_82 : decode cX3_scan 82 = .ok (.iload_n 1, 1) := by decide +kernel
theorem dX3_scan_83 : decode cX3_scan 83 = .ok (.ifCond .eq 18, 3) := by decide +kernel
theorem dX3_scan_101 : decode cX3_scan 101 = .ok (.iconst 0, 1) := by decide +kernel
theorem dX3_scan_102 : decode cX3_scan 102 = .ok (.istore_n 2, 1) := by decide +kernel
theorem dX3_scan_103 : decode cX3_scan 103 = .ok (.aload_n 0, 1) := by decide +kernel
theorem dX3_scan_104 : decode cX3_scan 104 = .ok (.aload_n 0, 1) := by decide +kernel
theorem dX3_scan_105 : decode cX3_scan 105 = .ok (.getfield 71, 3) := by decide +kernel
theorem dX3_scan_108 : decode cX3_scan 108 = .ok (.putfield 47, 3) := by decide +kernel
theorem dX3_scan_111 : decode cX3_scan 111 = .ok (.aload_n 0, 1) := by decide +kernel
theorem dX3_scan_112 : decode cX3_scan 112 = .ok (.iconst (-1), 1) := by decide +kernel
theorem dX3_scan_113 : decode cX3_scan 113 = .ok (.putfield 74, 3) := by decide +kernel
theorem dX3_scan_116 : decode cX3_scan 116 = .ok (.aload_n 0, 1) := by decide +kernel
theorem dX3_scan_117 : decode cX3_scan 117 = .ok (.getfield 71, 3) := by decide +kernel
theorem dX3_scan_120 : decode cX3_scan 120 = .ok (.aload_n 0, 1) := by decide +kernel
theorem dX3_scan_121 : decode cX3_scan 121 = .ok (.getfield 32, 3) := by decide +kernel
theorem dX3_scan_124 : decode cX3_scan 124 = .ok (.if_icmp .lt 11, 3) := by decide +kernel
theorem dX3_scan_127 : decode cX3_scan 127 = .ok (.aload_n 0, 1) := by decide +kernel
theorem dX3_scan_128 : decode cX3_scan 128 = .ok (.iconst 0, 1) := by decide +kernel
theorem dX3_scan_129 : decode cX3_scan 129 = .ok (.putfield 44, 3) := by decide +kernel
theorem dX3_scan_132 : decode cX3_scan 132 = .ok (.goto 104, 3) := by decide +kernel
theorem dX3_scan_236 : decode cX3_scan 236 = .ok (.return_, 1) := by decide +kernel
theorem dX4_init_0 : decode cX4_init 0 = .ok (.aload_n 0, 1) := by decide +kernel
theorem dX4_init_1 : decode cX4_init 1 = .ok (.invokespecial 3, 3) := by decide +kernel
theorem dX4_init_4 : decode cX4_init 4 = .ok (.aload_n 0, 1) := by decide +kernel
theorem dX4_init_5 : decode cX4_init 5 = .ok (.iconst 4, 1) := by decide +kernel
theorem dX4_init_6 : decode cX4_init 6 = .ok (.anewarray 9, 3) := by decide +kernel
theorem dX4_init_9 : decode cX4_init 9 = .ok (.putfield 11, 3) := by decide +kernel
theorem dX4_init_12 : decode cX4_init 12 = .ok (.aload_n 0, 1) := by decide +kernel
theorem dX4_init_13 : decode cX4_init 13 = .ok (.bipush 64, 2) := by decide +kernel
theorem dX4_init_15 : decode cX4_init 15 = .ok (.newarray .int, 2) := by decide +kernel
theorem dX4_init_17 : decode cX4_init 17 = .ok (.putfield 17, 3) := by decide +kernel
theorem dX4_init_20 : decode cX4_init 20 = .ok (.aload_n 0, 1) := by decide +kernel
theorem dX4_init_21 : decode cX4_init 21 = .ok (.bipush 32, 2) := by decide +kernel
theorem dX4_init_23 : decode cX4_init 23 = .ok (.newarray .int, 2) := by decide +kernel
theorem dX4_init_25 : decode cX4_init 25 = .ok (.putfield 21, 3) := by decide +kernel
theorem dX4_init_28 : decode cX4_init 28 = .ok (.aload_n 0, 1) := by decide +kernel
theorem dX4_init_29 : decode cX4_init 29 = .ok (.bipush 96, 2) := by decide +kernel
theorem dX4_init_31 : decode cX4_init 31 = .ok (.newarray .int, 2) := by decide +kernel
theorem dX4_init_33 : decode cX4_init 33 = .ok (.putfield 24, 3) := by decide +kernel
theorem dX4_init_36 : decode cX4_init 36 = .ok (.aload_n 0, 1) := by decide +kernel
theorem dX4_init_37 : decode cX4_init 37 = .ok (.bipush 96, 2) := by decide +kernel
theorem dX4_init_39 : decode cX4_init 39 = .ok (.newarray .int, 2) := by decide +kernel
theorem dX4_init_41 : decode cX4_init 41 = .ok (.putfield 27, 3) := by decide +kernel
theorem dX4_init_44 : decode cX4_init 44 = .ok (.aload_n 0, 1) := by decide +kernel
theorem dX4_init_45 : decode cX4_init 45 = .ok (.bipush 96, 2) := by decide +kernel
theorem dX4_init_47 : decode cX4_init 47 = .ok (.newarray .int, 2) := by decide +kernel
theorem dX4_init_49 : decode cX4_init 49 = .ok (.putfield 30, 3) := by decide +kernel
theorem dX4_init_52 : decode cX4_init 52 = .ok (.aload_n 0, 1) := by decide +kernel
theorem dX4_init_53 : decode cX4_init 53 = .ok (.sipush 150, 3) := by decide +kernel
theorem dX4_init_56 : decode cX4_init 56 = .ok (.newarray .int, 2) := by decide +kernel
theorem dX4_init_58 : decode cX4_init 58 = .ok (.putfield 33, 3) := by decide +kernel
theorem dX4_init_61 : decode cX4_init 61 = .ok (.aload_n 0, 1) := by decide +kernel
theorem dX4_init_62 : decode cX4_init 62 = .ok (.iconst (-1), 1) := by decide +kernel
theorem dX4_init_63 : decode cX4_init 63 = .ok (.putfield 36, 3) := by decide +kernel
theorem dX4_init_66 : decode cX4_init 66 = .ok (.iconst 0, 1) := by decide +kernel
theorem dX4_init_67 : decode cX4_init 67 = .ok (.istore_n 1, 1) := by decide +kernel
theorem dX4_init_68 : decode cX4_init 68 = .ok (.iload_n 1, 1) := by decide +kernel
theorem dX4_init_69 : decode cX4_init 69 = .ok (.iconst 4, 1) := by decide +kernel
theorem dX4_init_70 : decode cX4_init 70 = .ok (.if_icmp .ge 22, 3) := by decide +kernel
theorem dX4_init_73 : decode cX4_init 73 = .ok (.aload_n 0, 1) := by decide +kernel
theorem dX4_init_74 : decode cX4_init 74 = .ok (.getfield 11, 3) := by decide +kernel
theorem dX4_init_77 : decode cX4_init 77 = .ok (.iload_n 1, 1) := by decide +kernel
theorem dX4_init_78 : decode cX4_init 78 = .ok (.new 9, 3) := by decide +kernel
theorem dX4_init_81 : decode cX4_init 81 = .ok (.dup, 1) := by decide +kernel
theorem dX4_init_82 : decode cX4_init 82 = .ok (.invokespecial 40, 3) := by decide +kernel
theorem dX4_init_85 : decode cX4_init 85 = .ok (.aastore, 1) := by decide +kernel
theorem dX4_init_86 : decode cX4_init 86 = .ok (.iinc 1 1, 3) := by decide +kernel
theorem dX4_init_89 : decode cX4_init 89 = .ok (.goto (-21), 3) := by decide +kernel
theorem dX4_init_92 : decode cX4_init 92 = .ok (.return_, 1) := by decide +kernel
theorem dX5_init_0 : decode cX5_init 0 = .ok (.aload_n 0, 1) := by decide +kernel
theorem dX5_init_1 : decode cX5_init 1 = .ok (.invokespecial 3, 3) := by decide +kernel
theorem dX5_init_4 : decode cX5_init 4 = .ok (.aload_n 0, 1) := by decide +kernel
theorem dX5_init_5 : decode cX5_init 5 = .ok (.bipush 32, 2) := by decide +kernel
theorem dX5_init_7 : decode cX5_init 7 = .ok (.newarray .int, 2) := by decide +kernel
theorem dX5_init_9 : decode cX5_init 9 = .ok (.putfield 9, 3) := by decide +kernel
theorem dX5_init_12 : decode cX5_init 12 = .ok (.aload_n 0, 1) := by decide +kernel
theorem dX5_init_13 : decode cX5_init 13 = .ok (.bipush 8, 2) := by decide +kernel
theorem dX5_init_15 : decode cX5_init 15 = .ok (.newarray .int, 2) := by decide +kernel
theorem dX5_init_17 : decode cX5_init 17 = .ok (.putfield 15, 3) := by decide +kernel
theorem dX5_init_20 : decode cX5_init 20 = .ok (.aload_n 0, 1) := by decide +kernel
theorem dX5_init_21 : decode cX5_init 21 = .ok (.bipush 16, 2) := by decide +kernel
theorem dX5_init_23 : decode cX5_init 23 = .ok (.newarray .int, 2) := by decide +kernel
theorem dX5_init_25 : decode cX5_init 25 = .ok (.putfield 18, 3) := by decide +kernel
theorem dX5_init_28 : decode cX5_init 28 = .ok (.aload_n 0, 1) := by decide +kernel
theorem dX5_init_29 : decode cX5_init 29 = .ok (.bipush 16, 2) := by decide +kernel
theorem dX5_init_31 : decode cX5_init 31 = .ok (.newarray .int, 2) := by decide +kernel
theorem dX5_init_33 : decode cX5_init 33 = .ok (.putfield 21, 3) := by decide +kernel
theorem dX5_init_36 : decode cX5_init 36 = .ok (.aload_n 0, 1) := by decide +kernel
theorem dX5_init_37 : decode cX5_init 37 = .ok (.bipush 16, 2) := by decide +kernel
theorem dX5_init_39 : decode cX5_init 39 = .ok (.newarray .int, 2) := by decide +kernel
theorem dX5_init_41 : decode cX5_init 41 = .ok (.putfield 24, 3) := by decide +kernel
theorem dX5_init_44 : decode cX5_init 44 = .ok (.return_, 1) := by decide +kernel
theorem dX6_agrees_0 : decode cX6_agrees 0 = .ok (.aload_n 0, 1) := by decide +kernel
theorem dX6_agrees_1 : decode cX6_agrees 1 = .ok (.getfield 87, 3) := by decide +kernel
theorem dX6_agrees_4 : decode cX6_agrees 4 = .ok (.ifCond .ne 5, 3) := by decide +kernel
theorem dX6_agrees_7 : decode cX6_agrees 7 = .ok (.iconst (-1), 1) := by decide +kernel
theorem dX6_agrees_8 : decode cX6_agrees 8 = .ok (.ireturn, 1) := by decide +kernel
theorem dX6_alone_0 : decode cX6_alone 0 = .ok (.aload_n 0, 1) := by decide +kernel
theorem dX6_alone_1 : decode cX6_alone 1 = .ok (.iload_n 1, 1) := by decide +kernel
theorem dX6_alone_2 : decode cX6_alone 2 = .ok (.iload_n 2, 1) := by decide +kernel
theorem dX6_alone_3 : decode cX6_alone 3 = .ok (.invokevirtual 160, 3) := by decide +kernel
theorem dX6_alone_6 : decode cX6_alone 6 = .ok (.ifCond .eq 12, 3) := by decide +kernel
theorem dX6_alone_18 : decode cX6_alone 18 = .ok (.ldc 155, 2) := by decide +kernel
theorem dX6_alone_20 : decode cX6_alone 20 = .ok (.ireturn, 1) := by decide +kernel
theorem dX6_begin_0 : decode cX6_begin 0 = .ok (.aload_n 0, 1) := by decide +kernel
theorem dX6_begin_1 : decode cX6_begin 1 = .ok (.getfield 87, 3) := by decide +kernel
theorem dX6_begin_4 : decode cX6_begin 4 = .ok (.ifCond .ne 11, 3) := by decide +kernel
theorem dX6_begin_7 : decode cX6_begin 7 = .ok (.aload_n 0, 1) := by decide +kernel
theorem dX6_begin_8 : decode cX6_begin 8 = .ok (.iconst 3, 1) := by decide +kernel
theorem dX6_begin_9 : decode cX6_begin 9 = .ok (.invokevirtual 72, 3) := by decide +kernel
theorem dX6_begin_12 : decode cX6_begin 12 = .ok (.pop, 1) := by decide +kernel
theorem dX6_begin_13 : decode cX6_begin 13 = .ok (.iconst 0, 1) := by decide +kernel
theorem dX6_begin_14 : decode cX6_begin 14 = .ok (.ireturn, 1) := by decide +kernel
theorem dX6_by_0 : decode cX6_by 0 = .ok (.aload_n 0, 1) := by decide +kernel
theorem dX6_by_1 : decode cX6_by 1 = .ok (.getfield 87, 3) := by decide +kernel
theorem dX6_by_4 : decode cX6_by 4 = .ok (.ifCond .eq 26, 3) := by decide +kernel
theorem dX6_by_30 : decode cX6_by 30 = .ok (.iconst (-1), 1) := by decide +kernel
theorem dX6_by_31 : decode cX6_by 31 = .ok (.ireturn, 1) := by decide +kernel
theorem dX6_chance_0 : decode cX6_chance 0 = .ok (.aload_n 0, 1) := by decide +kernel
theorem dX6_chance_1 : decode cX6_chance 1 = .ok (.getfield 87, 3) := by decide +kernel
theorem dX6_chance_4 : decode cX6_chance 4 = .ok (.ifCond .eq 14, 3) := by decide +kernel
theorem dX6_chance_18 : decode cX6_chance 18 = .ok (.aload_n 0, 1) := by decide +kernel
theorem dX6_chance_19 : decode cX6_chance 19 = .ok (.iconst 2, 1) := by decide +kernel
theorem dX6_chance_20 : decode cX6_chance 20 = .ok (.invokevirtual 72, 3) := by decide +kernel
theorem dX6_chance_23 : decode cX6_chance 23 = .ok (.ireturn, 1) := by decide +kernel
theorem dX6_cycles_0 : decode cX6_cycles 0 = .ok (.aload_n 0, 1) := by decide +kernel
theorem dX6_cycles_1 : decode cX6_cycles 1 = .ok (.getfield 87, 3) := by decide +kernel
theorem dX6_cycles_4 : decode cX6_cycles 4 = .ok (.ifCond .eq 30, 3) := by decide +kernel
theorem dX6_cycles_34 : decode cX6_cycles 34 = .ok (.aload_n 0, 1) := by decide +kernel
theorem dX6_cycles_35 : decode cX6_cycles 35 = .ok (.iconst 2, 1) := by decide +kernel
theorem dX6_cycles_36 : decode cX6_cycles 36 = .ok (.invokevirtual 72, 3) := by decide +kernel
theorem dX6_cycles_39 : decode cX6_cycles 39 = .ok (.ireturn, 1) := by decide +kernel
theorem dX6_end_0 : decode cX6_end 0 = .ok (.iload_n 1, 1) := by decide +kernel
theorem dX6_end_1 : decode cX6_end 1 = .ok (.ifCond .lt 11, 3) := by decide +kernel
theorem dX6_end_4 : decode cX6_end 4 = .ok (.iload_n 1, 1) := by decide +kernel
theorem dX6_end_5 : decode cX6_end 5 = .ok (.aload_n 0, 1) := by decide +kernel
theorem dX6_end_6 : decode cX6_end 6 = .ok (.getfield 68, 3) := by decide +kernel
theorem dX6_end_9 : decode cX6_end 9 = .ok (.if_icmp .le 11, 3) := by decide +kernel
theorem dX6_end_12 : decode cX6_end 12 = .ok (.aload_n 0, 1) := by decide +kernel
theorem dX6_end_13 : decode cX6_end 13 = .ok (.iconst 0, 1) := by decide +kernel
theorem dX6_end_14 : decode cX6_end 14 = .ok (.invokevirtual 72, 3) := by decide +kernel
theorem dX6_end_17 : decode cX6_end 17 = .ok (.pop, 1) := by decide +kernel
theorem dX6_end_18 : decode cX6_end 18 = .ok (.iconst 0, 1) := by decide +kernel
theorem dX6_end_19 : decode cX6_end 19 = .ok (.ireturn, 1) := by decide +kernel
theorem dX6_end_20 : decode cX6_end 20 = .ok (.aload_n 0, 1) := by decide +kernel
theorem dX6_end_21 : decode cX6_end 21 = .ok (.iload_n 1, 1) := by decide +kernel
theorem dX6_end_22 : decode cX6_end 22 = .ok (.putfield 68, 3) := by decide +kernel
theorem dX6_end_25 : decode cX6_end 25 = .ok (.iconst 1, 1) := by decide +kernel
theorem dX6_end_26 : decode cX6_end 26 = .ok (.ireturn, 1) := by decide +kernel
theorem dX6_fault_0 : decode cX6_fault 0 = .ok (.iload_n 1, 1) := by decide +kernel
theorem dX6_fault_1 : decode cX6_fault 1 = .ok (.ifCond .ne 11, 3) := by decide +kernel
theorem dX6_fault_4 : decode cX6_fault 4 = .ok (.aload_n 0, 1) := by decide +kernel
theorem dX6_fault_5 : decode cX6_fault 5 = .ok (.getfield 16, 3) := by decide +kernel
theorem dX6_fault_8 : decode cX6_fault 8 = .ok (.getfield 110, 3) := by decide +kernel
theorem dX6_fault_11 : decode cX6_fault 11 = .ok (.ireturn, 1) := by decide +kernel
theorem dX6_fault_12 : decode cX6_fault 12 = .ok (.iload_n 1, 1) := by decide +kernel
theorem dX6_fault_13 : decode cX6_fault 13 = .ok (.iconst 1, 1) := by decide +kernel
theorem dX6_fault_14 : decode cX6_fault 14 = .ok (.if_icmp .ne 13, 3) := by decide +kernel
theorem dX6_fault_17 : decode cX6_fault 17 = .ok (.aload_n 0, 1) := by decide +kernel
theorem dX6_fault_18 : decode cX6_fault 18 = .ok (.getfield 16, 3) := by decide +kernel
theorem dX6_fault_21 : decode cX6_fault 21 = .ok (.getfield 113, 3) := by decide +kernel
theorem dX6_fault_24 : decode cX6_fault 24 = .ok (.goto 4, 3) := by decide +kernel
theorem dX6_fault_27 : decode cX6_fault 27 = .ok (.iconst (-1), 1) := by decide +kernel
theorem dX6_fault_28 : decode cX6_fault 28 = .ok (.ireturn, 1) := by decide +kernel
theorem dX6_feed_0 : decode cX6_feed 0 = .ok (.aload_n 0, 1) := by decide +kernel
theorem dX6_feed_1 : decode cX6_feed 1 = .ok (.getfield 68, 3) := by decide +kernel
theorem dX6_feed_4 : decode cX6_feed 4 = .ok (.bipush 20, 2) := by decide +kernel
theorem dX6_feed_6 : decode cX6_feed 6 = .ok (.iadd, 1) := by decide +kernel
theorem dX6_feed_7 : decode cX6_feed 7 = .ok (.sipush 1600, 3) := by decide +kernel
theorem dX6_feed_10 : decode cX6_feed 10 = .ok (.if_icmp .le 9, 3) := by decide +kernel
theorem dX6_feed_19 : decode cX6_feed 19 = .ok (.aload_n 0, 1) := by decide +kernel
theorem dX6_feed_20 : decode cX6_feed 20 = .ok (.iload_n 1, 1) := by decide +kernel
theorem dX6_feed_21 : decode cX6_feed 21 = .ok (.invokevirtual 76, 3) := by decide +kernel
theorem dX6_feed_24 : decode cX6_feed 24 = .ok (.aload_n 0, 1) := by decide +kernel
theorem dX6_feed_25 : decode cX6_feed 25 = .ok (.iload_n 2, 1) := by decide +kernel
theorem dX6_feed_26 : decode cX6_feed 26 = .ok (.invokevirtual 76, 3) := by decide +kernel
theorem dX6_feed_29 : decode cX6_feed 29 = .ok (.aload_n 0, 1) := by decide +kernel
theorem dX6_feed_30 : decode cX6_feed 30 = .ok (.iload_n 3, 1) := by decide +kernel
theorem dX6_feed_31 : decode cX6_feed 31 = .ok (.invokevirtual 76, 3) := by decide +kernel
theorem dX6_feed_34 : decode cX6_feed 34 = .ok (.aload_n 0, 1) := by decide +kernel
theorem dX6_feed_35 : decode cX6_feed 35 = .ok (.iload 4, 2) := by decide +kernel
theorem dX6_feed_37 : decode cX6_feed 37 = .ok (.invokevirtual 76, 3) := by decide +kernel
theorem dX6_feed_40 : decode cX6_feed 40 = .ok (.aload_n 0, 1) := by decide +kernel
theorem dX6_feed_41 : decode cX6_feed 41 = .ok (.iload 5, 2) := by decide +kernel
theorem dX6_feed_43 : decode cX6_feed 43 = .ok (.invokevirtual 76, 3) := by decide +kernel
theorem dX6_feed_46 : decode cX6_feed 46 = .ok (.aload_n 0, 1) := by decide +kernel
theorem dX6_feed_47 : decode cX6_feed 47 = .ok (.getfield 68, 3) := by decide +kernel
theorem dX6_feed_50 : decode cX6_feed 50 = .ok (.ireturn, 1) := by decide +kernel
theorem dX6_goes_0 : decode cX6_goes 0 = .ok (.aload_n 0, 1) := by decide +kernel
theorem dX6_goes_1 : decode cX6_goes 1 = .ok (.getfield 87, 3) := by decide +kernel
theorem dX6_goes_4 : decode cX6_goes 4 = .ok (.ifCond .eq 12, 3) := by decide +kernel
theorem dX6_goes_16 : decode cX6_goes 16 = .ok (.iconst (-1), 1) := by decide +kernel
theorem dX6_goes_17 : decode cX6_goes 17 = .ok (.ireturn, 1) := by decide +kernel
theorem dX6_has_0 : decode cX6_has 0 = .ok (.iload_n 1, 1) := by decide +kernel
theorem dX6_has_1 : decode cX6_has 1 = .ok (.ifCond .lt 9, 3) := by decide +kernel
theorem dX6_has_4 : decode cX6_has 4 = .ok (.iload_n 1, 1) := by decide +kernel
theorem dX6_has_5 : decode cX6_has 5 = .ok (.bipush 13, 2) := by decide +kernel
theorem dX6_has_7 : decode cX6_has 7 = .ok (.if_icmp .le 5, 3) := by decide +kernel
theorem dX6_has_10 : decode cX6_has 10 = .ok (.iconst (-1), 1) := by decide +kernel
theorem dX6_has_11 : decode cX6_has 11 = .ok (.ireturn, 1) := by decide +kernel
theorem dX6_has_12 : decode cX6_has 12 = .ok (.aload_n 0, 1) := by decide +kernel
theorem dX6_has_13 : decode cX6_has 13 = .ok (.getfield 87, 3) := by decide +kernel
theorem dX6_has_16 : decode cX6_has 16 = .ok (.ifCond .ne 5, 3) := by decide +kernel
theorem dX6_has_19 : decode cX6_has 19 = .ok (.iconst 0, 1) := by decide +kernel
theorem dX6_has_20 : decode cX6_has 20 = .ok (.ireturn, 1) := by decide +kernel
theorem dX6_hasLane_0 : decode cX6_hasLane 0 = .ok (.aload_n 0, 1) := by decide +kernel
theorem dX6_hasLane_1 : decode cX6_hasLane 1 = .ok (.iload_n 1, 1) := by decide +kernel
theorem dX6_hasLane_2 : decode cX6_hasLane 2 = .ok (.invokevirtual 181, 3) := by decide +kernel
theorem dX6_hasLane_5 : decode cX6_hasLane 5 = .ok (.ifCond .eq 17, 3) := by decide +kernel
theorem dX6_hasLane_22 : decode cX6_hasLane 22 = .ok (.iconst 0, 1) := by decide +kernel
theorem dX6_hasLane_23 : decode cX6_hasLane 23 = .ok (.ireturn, 1) := by decide +kernel
theorem dX6_hasWarp_0 : decode cX6_hasWarp 0 = .ok (.aload_n 0, 1) := by decide +kernel
theorem dX6_hasWarp_1 : decode cX6_hasWarp 1 = .ok (.getfield 87, 3) := by decide +kernel
theorem dX6_hasWarp_4 : decode cX6_hasWarp 4 = .ok (.ifCond .eq 22, 3) := by decide +kernel
theorem dX6_hasWarp_26 : decode cX6_hasWarp 26 = .ok (.iconst 0, 1) := by decide +kernel
theorem dX6_hasWarp_27 : decode cX6_hasWarp 27 = .ok (.ireturn, 1) := by decide +kernel
theorem dX6_hasWord_0 : decode cX6_hasWord 0 = .ok (.aload_n 0, 1) := by decide +kernel
theorem dX6_hasWord_1 : decode cX6_hasWord 1 = .ok (.getfield 87, 3) := by decide +kernel
theorem dX6_hasWord_4 : decode cX6_hasWord 4 = .ok (.ifCond .eq 26, 3) := by decide +kernel
theorem dX6_hasWord_30 : decode cX6_hasWord 30 = .ok (.iconst 0, 1) := by decide +kernel
theorem dX6_hasWord_31 : decode cX6_hasWord 31 = .ok (.ireturn, 1) := by decide +kernel
theorem dX6_init_0 : decode cX6_init 0 = .ok (.aload_n 0, 1) := by decide +kernel
theorem dX6_init_1 : decode cX6_init 1 = .ok (.invokespecial 3, 3) := by decide +kernel
theorem dX6_init_4 : decode cX6_init 4 = .ok (.aload_n 0, 1) := by decide +kernel
theorem dX6_init_5 : decode cX6_init 5 = .ok (.sipush 1600, 3) := by decide +kernel
theorem dX6_init_8 : decode cX6_init 8 = .ok (.newarray .byte, 2) := by decide +kernel
theorem dX6_init_10 : decode cX6_init 10 = .ok (.putfield 9, 3) := by decide +kernel
theorem dX6_init_13 : decode cX6_init 13 = .ok (.aload_n 0, 1) := by decide +kernel
theorem dX6_init_14 : decode cX6_init 14 = .ok (.new 13, 3) := by decide +kernel
theorem dX6_init_17 : decode cX6_init 17 = .ok (.dup, 1) := by decide +kernel
theorem dX6_init_18 : decode cX6_init 18 = .ok (.invokespecial 15, 3) := by decide +kernel
theorem dX6_init_21 : decode cX6_init 21 = .ok (.putfield 16, 3) := by decide +kernel
theorem dX6_init_24 : decode cX6_init 24 = .ok (.aload_n 0, 1) := by decide +kernel
theorem dX6_init_25 : decode cX6_init 25 = .ok (.new 20, 3) := by decide +kernel
theorem dX6_init_28 : decode cX6_init 28 = .ok (.dup, 1) := by decide +kernel
theorem dX6_init_29 : decode cX6_init 29 = .ok (.invokespecial 22, 3) := by decide +kernel
theorem dX6_init_32 : decode cX6_init 32 = .ok (.putfield 23, 3) := by decide +kernel
theorem dX6_init_35 : decode cX6_init 35 = .ok (.aload_n 0, 1) := by decide +kernel
theorem dX6_init_36 : decode cX6_init 36 = .ok (.new 20, 3) := by decide +kernel
theorem dX6_init_39 : decode cX6_init 39 = .ok (.dup, 1) := by decide +kernel
theorem dX6_init_40 : decode cX6_init 40 = .ok (.invokespecial 22, 3) := by decide +kernel
theorem dX6_init_43 : decode cX6_init 43 = .ok (.putfield 27, 3) := by decide +kernel
theorem dX6_init_46 : decode cX6_init 46 = .ok (.aload_n 0, 1) := by decide +kernel
theorem dX6_init_47 : decode cX6_init 47 = .ok (.new 30, 3) := by decide +kernel
theorem dX6_init_50 : decode cX6_init 50 = .ok (.dup, 1) := by decide +kernel
theorem dX6_init_51 : decode cX6_init 51 = .ok (.invokespecial 32, 3) := by decide +kernel
theorem dX6_init_54 : decode cX6_init 54 = .ok (.putfield 33, 3) := by decide +kernel
theorem dX6_init_57 : decode cX6_init 57 = .ok (.aload_n 0, 1) := by decide +kernel
theorem dX6_init_58 : decode cX6_init 58 = .ok (.bipush 20, 2) := by decide +kernel
theorem dX6_init_60 : decode cX6_init 60 = .ok (.anewarray 30, 3) := by decide +kernel
theorem dX6_init_63 : decode cX6_init 63 = .ok (.putfield 37, 3) := by decide +kernel
theorem dX6_init_66 : decode cX6_init 66 = .ok (.aload_n 0, 1) := by decide +kernel
theorem dX6_init_67 : decode cX6_init 67 = .ok (.new 41, 3) := by decide +kernel
theorem dX6_init_70 : decode cX6_init 70 = .ok (.dup, 1) := by decide +kernel
theorem dX6_init_71 : decode cX6_init 71 = .ok (.invokespecial 43, 3) := by decide +kernel
theorem dX6_init_74 : decode cX6_init 74 = .ok (.putfield 44, 3) := by decide +kernel
theorem dX6_init_77 : decode cX6_init 77 = .ok (.aload_n 0, 1) := by decide +kernel
theorem dX6_init_78 : decode cX6_init 78 = .ok (.new 48, 3) := by decide +kernel
theorem dX6_init_81 : decode cX6_init 81 = .ok (.dup, 1) := by decide +kernel
theorem dX6_init_82 : decode cX6_init 82 = .ok (.invokespecial 50, 3) := by decide +kernel
theorem dX6_init_85 : decode cX6_init 85 = .ok (.putfield 51, 3) := by decide +kernel
theorem dX6_init_88 : decode cX6_init 88 = .ok (.aload_n 0, 1) := by decide +kernel
theorem dX6_init_89 : decode cX6_init 89 = .ok (.bipush 6, 2) := by decide +kernel
theorem dX6_init_91 : decode cX6_init 91 = .ok (.newarray .int, 2) := by decide +kernel
theorem dX6_init_93 : decode cX6_init 93 = .ok (.putfield 55, 3) := by decide +kernel
theorem dX6_init_96 : decode cX6_init 96 = .ok (.aload_n 0, 1) := by decide +kernel
theorem dX6_init_97 : decode cX6_init 97 = .ok (.lconst 1, 1) := by decide +kernel
theorem dX6_init_98 : decode cX6_init 98 = .ok (.putfield 59, 3) := by decide +kernel
theorem dX6_init_101 : decode cX6_init 101 = .ok (.aload_n 0, 1) := by decide +kernel
theorem dX6_init_102 : decode cX6_init 102 = .ok (.getfield 44, 3) := by decide +kernel
theorem dX6_init_105 : decode cX6_init 105 = .ok (.aload_n 0, 1) := by decide +kernel
theorem dX6_init_106 : decode cX6_init 106 = .ok (.getfield 23, 3) := by decide +kernel
theorem dX6_init_109 : decode cX6_init 109 = .ok (.invokevirtual 63, 3) := by decide +kernel
theorem dX6_init_112 : decode cX6_init 112 = .ok (.aload_n 0, 1) := by decide +kernel
theorem dX6_init_113 : decode cX6_init 113 = .ok (.getfield 51, 3) := by decide +kernel
theorem dX6_init_116 : decode cX6_init 116 = .ok (.aload_n 0, 1) := by decide +kernel
theorem dX6_init_117 : decode cX6_init 117 = .ok (.getfield 23, 3) := by decide +kernel
theorem dX6_init_120 : decode cX6_init 120 = .ok (.invokevirtual 67, 3) := by decide +kernel
theorem dX6_init_123 : decode cX6_init 123 = .ok (.iconst 0, 1) := by decide +kernel
theorem dX6_init_124 : decode cX6_init 124 = .ok (.istore_n 1, 1) := by decide +kernel
theorem dX6_init_125 : decode cX6_init 125 = .ok (.iload_n 1, 1) := by decide +kernel
theorem dX6_init_126 : decode cX6_init 126 = .ok (.bipush 20, 2) := by decide +kernel
theorem dX6_init_128 : decode cX6_init 128 = .ok (.if_icmp .ge 22, 3) := by decide +kernel
theorem dX6_init_131 : decode cX6_init 131 = .ok (.aload_n 0, 1) := by decide +kernel
theorem dX6_init_132 : decode cX6_init 132 = .ok (.getfield 37, 3) := by decide +kernel
theorem dX6_init_135 : decode cX6_init 135 = .ok (.iload_n 1, 1) := by decide +kernel
theorem dX6_init_136 : decode cX6_init 136 = .ok (.new 30, 3) := by decide +kernel
theorem dX6_init_139 : decode cX6_init 139 = .ok (.dup, 1) := by decide +kernel
theorem dX6_init_140 : decode cX6_init 140 = .ok (.invokespecial 32, 3) := by decide +kernel
theorem dX6_init_143 : decode cX6_init 143 = .ok (.aastore, 1) := by decide +kernel
theorem dX6_init_144 : decode cX6_init 144 = .ok (.iinc 1 1, 3) := by decide +kernel
theorem dX6_init_147 : decode cX6_init 147 = .ok (.goto (-22), 3) := by decide +kernel
theorem dX6_init_150 : decode cX6_init 150 = .ok (.return_, 1) := by decide +kernel
theorem dX6_kept_0 : decode cX6_kept 0 = .ok (.aload_n 0, 1) := by decide +kernel
theorem dX6_kept_1 : decode cX6_kept 1 = .ok (.getfield 33, 3) := by decide +kernel
theorem dX6_kept_4 : decode cX6_kept 4 = .ok (.getfield 122, 3) := by decide +kernel
theorem dX6_kept_7 : decode cX6_kept 7 = .ok (.bipush 30, 2) := by decide +kernel
theorem dX6_kept_9 : decode cX6_kept 9 = .ok (.invokestatic 135, 3) := by decide +kernel
theorem dX6_kept_12 : decode cX6_kept 12 = .ok (.istore_n 3, 1) := by decide +kernel
theorem dX6_kept_13 : decode cX6_kept 13 = .ok (.aload_n 0, 1) := by decide +kernel
theorem dX6_kept_14 : decode cX6_kept 14 = .ok (.getfield 87, 3) := by decide +kernel
theorem dX6_kept_17 : decode cX6_kept 17 = .ok (.ifCond .eq 21, 3) := by decide +kernel
theorem dX6_kept_38 : decode cX6_kept 38 = .ok (.iconst (-1), 1) := by decide +kernel
theorem dX6_kept_39 : decode cX6_kept 39 = .ok (.ireturn, 1) := by decide +kernel
theorem dX6_lane_0 : decode cX6_lane 0 = .ok (.aload_n 0, 1) := by decide +kernel
theorem dX6_lane_1 : decode cX6_lane 1 = .ok (.iload_n 1, 1) := by decide +kernel
theorem dX6_lane_2 : decode cX6_lane 2 = .ok (.iload_n 2, 1) := by decide +kernel
theorem dX6_lane_3 : decode cX6_lane 3 = .ok (.invokevirtual 160, 3) := by decide +kernel
theorem dX6_lane_6 : decode cX6_lane 6 = .ok (.ifCond .eq 13, 3) := by decide +kernel
theorem dX6_lane_19 : decode cX6_lane 19 = .ok (.ldc 155, 2) := by decide +kernel
theorem dX6_lane_21 : decode cX6_lane 21 = .ok (.ireturn, 1) := by decide +kernel
theorem dX6_later_0 : decode cX6_later 0 = .ok (.aload_n 0, 1) := by decide +kernel
theorem dX6_later_1 : decode cX6_later 1 = .ok (.iload_n 2, 1) := by decide +kernel
theorem dX6_later_2 : decode cX6_later 2 = .ok (.iload_n 3, 1) := by decide +kernel
theorem dX6_later_3 : decode cX6_later 3 = .ok (.invokevirtual 160, 3) := by decide +kernel
theorem dX6_later_6 : decode cX6_later 6 = .ok (.ifCond .eq 25, 3) := by decide +kernel
theorem dX6_later_31 : decode cX6_later 31 = .ok (.ldc 155, 2) := by decide +kernel
theorem dX6_later_33 : decode cX6_later 33 = .ok (.ireturn, 1) := by decide +kernel
theorem dX6_layBytes_0 : decode cX6_layBytes 0 = .ok (.bipush 24, 2) := by decide +kernel
theorem dX6_layBytes_2 : decode cX6_layBytes 2 = .ok (.istore_n 2, 1) := by decide +kernel
theorem dX6_layBytes_3 : decode cX6_layBytes 3 = .ok (.iload_n 2, 1) := by decide +kernel
theorem dX6_layBytes_4 : decode cX6_layBytes 4 = .ok (.ifCond .lt 32, 3) := by decide +kernel
theorem dX6_layBytes_7 : decode cX6_layBytes 7 = .ok (.aload_n 0, 1) := by decide +kernel
theorem dX6_layBytes_8 : decode cX6_layBytes 8 = .ok (.getfield 9, 3) := by decide +kernel
theorem dX6_layBytes_11 : decode cX6_layBytes 11 = .ok (.aload_n 0, 1) := by decide +kernel
theorem dX6_layBytes_12 : decode cX6_layBytes 12 = .ok (.getfield 68, 3) := by decide +kernel
theorem dX6_layBytes_15 : decode cX6_layBytes 15 = .ok (.iload_n 1, 1) := by decide +kernel
theorem dX6_layBytes_16 : decode cX6_layBytes 16 = .ok (.iload_n 2, 1) := by decide +kernel
theorem dX6_layBytes_17 : decode cX6_layBytes 17 = .ok (.ishr, 1) := by decide +kernel
theorem dX6_layBytes_18 : decode cX6_layBytes 18 = .ok (.i2b, 1) := by decide +kernel
theorem dX6_layBytes_19 : decode cX6_layBytes 19 = .ok (.bastore, 1) := by decide +kernel
theorem dX6_layBytes_20 : decode cX6_layBytes 20 = .ok (.aload_n 0, 1) := by decide +kernel
theorem dX6_layBytes_21 : decode cX6_layBytes 21 = .ok (.dup, 1) := by decide +kernel
theorem dX6_layBytes_22 : decode cX6_layBytes 22 = .ok (.getfield 68, 3) := by decide +kernel
theorem dX6_layBytes_25 : decode cX6_layBytes 25 = .ok (.iconst 1, 1) := by decide +kernel
theorem dX6_layBytes_26 : decode cX6_layBytes 26 = .ok (.iadd, 1) := by decide +kernel
theorem dX6_layBytes_27 : decode cX6_layBytes 27 = .ok (.putfield 68, 3) := by decide +kernel
theorem dX6_layBytes_30 : decode cX6_layBytes 30 = .ok (.iinc 2 (-8), 3) := by decide +kernel
theorem dX6_layBytes_33 : decode cX6_layBytes 33 = .ok (.goto (-30), 3) := by decide +kernel
theorem dX6_layBytes_36 : decode cX6_layBytes 36 = .ok (.return_, 1) := by decide +kernel
theorem dX6_likely_0 : decode cX6_likely 0 = .ok (.aload_n 0, 1) := by decide +kernel
theorem dX6_likely_1 : decode cX6_likely 1 = .ok (.getfield 87, 3) := by decide +kernel
theorem dX6_likely_4 : decode cX6_likely 4 = .ok (.ifCond .eq 29, 3) := by decide +kernel
theorem dX6_likely_33 : decode cX6_likely 33 = .ok (.iconst (-1), 1) := by decide +kernel
theorem dX6_likely_34 : decode cX6_likely 34 = .ok (.ireturn, 1) := by decide +kernel
theorem dX6_line_0 : decode cX6_line 0 = .ok (.aload_n 0, 1) := by decide +kernel
theorem dX6_line_1 : decode cX6_line 1 = .ok (.getfield 87, 3) := by decide +kernel
theorem dX6_line_4 : decode cX6_line 4 = .ok (.ifCond .eq 28, 3) := by decide +kernel
theorem dX6_line_32 : decode cX6_line 32 = .ok (.ldc 155, 2) := by decide +kernel
theorem dX6_line_34 : decode cX6_line 34 = .ok (.ireturn, 1) := by decide +kernel
theorem dX6_next_0 : decode cX6_next 0 = .ok (.aload_n 0, 1) := by decide +kernel
theorem dX6_next_1 : decode cX6_next 1 = .ok (.getfield 87, 3) := by decide +kernel
theorem dX6_next_4 : decode cX6_next 4 = .ok (.ifCond .eq 30, 3) := by decide +kernel
theorem dX6_next_34 : decode cX6_next 34 = .ok (.iconst (-1), 1) := by decide +kernel
theorem dX6_next_35 : decode cX6_next 35 = .ok (.ireturn, 1) := by decide +kernel
theorem dX6_part_0 : decode cX6_part 0 = .ok (.aload_n 0, 1) := by decide +kernel
theorem dX6_part_1 : decode cX6_part 1 = .ok (.iload_n 1, 1) := by decide +kernel
theorem dX6_part_2 : decode cX6_part 2 = .ok (.invokevirtual 181, 3) := by decide +kernel
theorem dX6_part_5 : decode cX6_part 5 = .ok (.ifCond .eq 23, 3) := by decide +kernel
theorem dX6_part_28 : decode cX6_part 28 = .ok (.iconst (-1), 1) := by decide +kernel
theorem dX6_part_29 : decode cX6_part 29 = .ok (.ireturn, 1) := by decide +kernel
theorem dX6_poke_0 : decode cX6_poke 0 = .ok (.aload_n 0, 1) := by decide +kernel
theorem dX6_poke_1 : decode cX6_poke 1 = .ok (.iload_n 1, 1) := by decide +kernel
theorem dX6_poke_2 : decode cX6_poke 2 = .ok (.iload_n 2, 1) := by decide +kernel
theorem dX6_poke_3 : decode cX6_poke 3 = .ok (.invokevirtual 207, 3) := by decide +kernel
theorem dX6_poke_6 : decode cX6_poke 6 = .ok (.ifCond .eq 17, 3) := by decide +kernel
theorem dX6_poke_23 : decode cX6_poke 23 = .ok (.aload_n 0, 1) := by decide +kernel
theorem dX6_poke_24 : decode cX6_poke 24 = .ok (.iconst 3, 1) := by decide +kernel
theorem dX6_poke_25 : decode cX6_poke 25 = .ok (.invokevirtual 72, 3) := by decide +kernel
theorem dX6_poke_28 : decode cX6_poke 28 = .ok (.pop, 1) := by decide +kernel
theorem dX6_poke_29 : decode cX6_poke 29 = .ok (.ldc 155, 2) := by decide +kernel
theorem dX6_poke_31 : decode cX6_poke 31 = .ok (.ireturn, 1) := by decide +kernel
theorem dX6_program_0 : decode cX6_program 0 = .ok (.aload_n 0, 1) := by decide +kernel
theorem dX6_program_1 : decode cX6_program 1 = .ok (.getfield 16, 3) := by decide +kernel
theorem dX6_program_4 : decode cX6_program 4 = .ok (.aload_n 0, 1) := by decide +kernel
theorem dX6_program_5 : decode cX6_program 5 = .ok (.getfield 9, 3) := by decide +kernel
theorem dX6_program_8 : decode cX6_program 8 = .ok (.aload_n 0, 1) := by decide +kernel
theorem dX6_program_9 : decode cX6_program 9 = .ok (.getfield 68, 3) := by decide +kernel
theorem dX6_program_12 : decode cX6_program 12 = .ok (.aload_n 0, 1) := by decide +kernel
theorem dX6_program_13 : decode cX6_program 13 = .ok (.getfield 27, 3) := by decide +kernel
theorem dX6_program_16 : decode cX6_program 16 = .ok (.invokevirtual 80, 3) := by decide +kernel
theorem dX6_program_19 : decode cX6_program 19 = .ok (.istore_n 1, 1) := by decide +kernel
theorem dX6_program_20 : decode cX6_program 20 = .ok (.aload_n 0, 1) := by decide +kernel
theorem dX6_program_21 : decode cX6_program 21 = .ok (.iconst 0, 1) := by decide +kernel
theorem dX6_program_22 : decode cX6_program 22 = .ok (.putfield 68, 3) := by decide +kernel
theorem dX6_program_25 : decode cX6_program 25 = .ok (.iload_n 1, 1) := by decide +kernel
theorem dX6_program_26 : decode cX6_program 26 = .ok (.ifCond .ne 9, 3) := by decide +kernel
theorem dX6_program_29 : decode cX6_program 29 = .ok (.aload_n 0, 1) := by decide +kernel
theorem dX6_program_30 : decode cX6_program 30 = .ok (.iconst 1, 1) := by decide +kernel
theorem dX6_program_31 : decode cX6_program 31 = .ok (.invokevirtual 72, 3) := by decide +kernel
theorem dX6_program_34 : decode cX6_program 34 = .ok (.ireturn, 1) := by decide +kernel
theorem dX6_raced_0 : decode cX6_raced 0 = .ok (.aload_n 0, 1) := by decide +kernel
theorem dX6_raced_1 : decode cX6_raced 1 = .ok (.iload_n 1, 1) := by decide +kernel
theorem dX6_raced_2 : decode cX6_raced 2 = .ok (.iload_n 2, 1) := by decide +kernel
theorem dX6_raced_3 : decode cX6_raced 3 = .ok (.invokevirtual 207, 3) := by decide +kernel
theorem dX6_raced_6 : decode cX6_raced 6 = .ok (.ifCond .ne 5, 3) := by decide +kernel
theorem dX6_raced_9 : decode cX6_raced 9 = .ok (.iconst (-1), 1) := by decide +kernel
theorem dX6_raced_10 : decode cX6_raced 10 = .ok (.ireturn, 1) := by decide +kernel
theorem dX6_refuse_0 : decode cX6_refuse 0 = .ok (.aload_n 0, 1) := by decide +kernel
theorem dX6_refuse_1 : decode cX6_refuse 1 = .ok (.getfield 55, 3) := by decide +kernel
theorem dX6_refuse_4 : decode cX6_refuse 4 = .ok (.iload_n 1, 1) := by decide +kernel
theorem dX6_refuse_5 : decode cX6_refuse 5 = .ok (.dup2, 1) := by decide +kernel
theorem dX6_refuse_6 : decode cX6_refuse 6 = .ok (.iaload, 1) := by decide +kernel
theorem dX6_refuse_7 : decode cX6_refuse 7 = .ok (.iconst 1, 1) := by decide +kernel
theorem dX6_refuse_8 : decode cX6_refuse 8 = .ok (.iadd, 1) := by decide +kernel
theorem dX6_refuse_9 : decode cX6_refuse 9 = .ok (.iastore, 1) := by decide +kernel
theorem dX6_refuse_10 : decode cX6_refuse 10 = .ok (.iconst (-1), 1) := by decide +kernel
theorem dX6_refuse_11 : decode cX6_refuse 11 = .ok (.ireturn, 1) := by decide +kernel
theorem dX6_seed_0 : decode cX6_seed 0 = .ok (.iload_n 1, 1) := by decide +kernel
theorem dX6_seed_1 : decode cX6_seed 1 = .ok (.ifCond .ge 11, 3) := by decide +kernel
theorem dX6_seed_4 : decode cX6_seed 4 = .ok (.aload_n 0, 1) := by decide +kernel
theorem dX6_seed_5 : decode cX6_seed 5 = .ok (.iconst 5, 1) := by decide +kernel
theorem dX6_seed_6 : decode cX6_seed 6 = .ok (.invokevirtual 72, 3) := by decide +kernel
theorem dX6_seed_9 : decode cX6_seed 9 = .ok (.pop, 1) := by decide +kernel
theorem dX6_seed_10 : decode cX6_seed 10 = .ok (.iconst 0, 1) := by decide +kernel
theorem dX6_seed_11 : decode cX6_seed 11 = .ok (.ireturn, 1) := by decide +kernel
theorem dX6_seed_12 : decode cX6_seed 12 = .ok (.aload_n 0, 1) := by decide +kernel
theorem dX6_seed_13 : decode cX6_seed 13 = .ok (.iload_n 1, 1) := by decide +kernel
theorem dX6_seed_14 : decode cX6_seed 14 = .ok (.i2l, 1) := by decide +kernel
theorem dX6_seed_15 : decode cX6_seed 15 = .ok (.putfield 59, 3) := by decide +kernel
theorem dX6_seed_18 : decode cX6_seed 18 = .ok (.iconst 1, 1) := by decide +kernel
theorem dX6_seed_19 : decode cX6_seed 19 = .ok (.ireturn, 1) := by decide +kernel
theorem dX6_set_0 : decode cX6_set 0 = .ok (.aload_n 0, 1) := by decide +kernel
theorem dX6_set_1 : decode cX6_set 1 = .ok (.getfield 87, 3) := by decide +kernel
theorem dX6_set_4 : decode cX6_set 4 = .ok (.ifCond .eq 26, 3) := by decide +kernel
theorem dX6_set_30 : decode cX6_set 30 = .ok (.aload_n 0, 1) := by decide +kernel
theorem dX6_set_31 : decode cX6_set 31 = .ok (.iconst 3, 1) := by decide +kernel
theorem dX6_set_32 : decode cX6_set 32 = .ok (.invokevirtual 72, 3) := by decide +kernel
theorem dX6_set_35 : decode cX6_set 35 = .ok (.pop, 1) := by decide +kernel
theorem dX6_set_36 : decode cX6_set 36 = .ok (.iconst 0, 1) := by decide +kernel
theorem dX6_set_37 : decode cX6_set 37 = .ok (.ireturn, 1) := by decide +kernel
theorem dX6_skew_0 : decode cX6_skew 0 = .ok (.aload_n 0, 1) := by decide +kernel
theorem dX6_skew_1 : decode cX6_skew 1 = .ok (.getfield 87, 3) := by decide +kernel
theorem dX6_skew_4 : decode cX6_skew 4 = .ok (.ifCond .eq 12, 3) := by decide +kernel
theorem dX6_skew_16 : decode cX6_skew 16 = .ok (.iconst (-1), 1) := by decide +kernel
theorem dX6_skew_17 : decode cX6_skew 17 = .ok (.ireturn, 1) := by decide +kernel
theorem dX6_status_0 : decode cX6_status 0 = .ok (.iload_n 1, 1) := by decide +kernel
theorem dX6_status_1 : decode cX6_status 1 = .ok (.ifCond .lt 9, 3) := by decide +kernel
theorem dX6_status_4 : decode cX6_status 4 = .ok (.iload_n 1, 1) := by decide +kernel
theorem dX6_status_5 : decode cX6_status 5 = .ok (.bipush 6, 2) := by decide +kernel
theorem dX6_status_7 : decode cX6_status 7 = .ok (.if_icmp .lt 7, 3) := by decide +kernel
theorem dX6_status_10 : decode cX6_status 10 = .ok (.iconst (-1), 1) := by decide +kernel
theorem dX6_status_11 : decode cX6_status 11 = .ok (.goto 9, 3) := by decide +kernel
theorem dX6_status_14 : decode cX6_status 14 = .ok (.aload_n 0, 1) := by decide +kernel
theorem dX6_status_15 : decode cX6_status 15 = .ok (.getfield 55, 3) := by decide +kernel
theorem dX6_status_18 : decode cX6_status 18 = .ok (.iload_n 1, 1) := by decide +kernel
theorem dX6_status_19 : decode cX6_status 19 = .ok (.iaload, 1) := by decide +kernel
theorem dX6_status_20 : decode cX6_status 20 = .ok (.ireturn, 1) := by decide +kernel
theorem dX6_tells_0 : decode cX6_tells 0 = .ok (.aload_n 0, 1) := by decide +kernel
theorem dX6_tells_1 : decode cX6_tells 1 = .ok (.getfield 87, 3) := by decide +kernel
theorem dX6_tells_4 : decode cX6_tells 4 = .ok (.ifCond .eq 12, 3) := by decide +kernel
theorem dX6_tells_16 : decode cX6_tells 16 = .ok (.iconst (-1), 1) := by decide +kernel
theorem dX6_tells_17 : decode cX6_tells 17 = .ok (.ireturn, 1) := by decide +kernel
theorem dX6_undo_0 : decode cX6_undo 0 = .ok (.aload_n 0, 1) := by decide +kernel
theorem dX6_undo_1 : decode cX6_undo 1 = .ok (.getfield 104, 3) := by decide +kernel
theorem dX6_undo_4 : decode cX6_undo 4 = .ok (.ifCond .ne 11, 3) := by decide +kernel
theorem dX6_undo_7 : decode cX6_undo 7 = .ok (.aload_n 0, 1) := by decide +kernel
theorem dX6_undo_8 : decode cX6_undo 8 = .ok (.iconst 4, 1) := by decide +kernel
theorem dX6_undo_9 : decode cX6_undo 9 = .ok (.invokevirtual 72, 3) := by decide +kernel
theorem dX6_undo_12 : decode cX6_undo 12 = .ok (.pop, 1) := by decide +kernel
theorem dX6_undo_13 : decode cX6_undo 13 = .ok (.iconst 0, 1) := by decide +kernel
theorem dX6_undo_14 : decode cX6_undo 14 = .ok (.ireturn, 1) := by decide +kernel
theorem dX6_warp_0 : decode cX6_warp 0 = .ok (.aload_n 0, 1) := by decide +kernel
theorem dX6_warp_1 : decode cX6_warp 1 = .ok (.iload_n 1, 1) := by decide +kernel
theorem dX6_warp_2 : decode cX6_warp 2 = .ok (.invokevirtual 181, 3) := by decide +kernel
theorem dX6_warp_5 : decode cX6_warp 5 = .ok (.ifCond .ne 5, 3) := by decide +kernel
theorem dX6_warp_8 : decode cX6_warp 8 = .ok (.iconst (-1), 1) := by decide +kernel
theorem dX6_warp_9 : decode cX6_warp 9 = .ok (.ireturn, 1) := by decide +kernel
theorem dX6_word_0 : decode cX6_word 0 = .ok (.aload_n 0, 1) := by decide +kernel
theorem dX6_word_1 : decode cX6_word 1 = .ok (.iload_n 1, 1) := by decide +kernel
theorem dX6_word_2 : decode cX6_word 2 = .ok (.iload_n 2, 1) := by decide +kernel
theorem dX6_word_3 : decode cX6_word 3 = .ok (.invokevirtual 207, 3) := by decide +kernel
theorem dX6_word_6 : decode cX6_word 6 = .ok (.ifCond .ne 6, 3) := by decide +kernel
theorem dX6_word_9 : decode cX6_word 9 = .ok (.ldc 155, 2) := by decide +kernel
theorem dX6_word_11 : decode cX6_word 11 = .ok (.ireturn, 1) := by decide +kernel
end
section
set_option maxHeartbeats 4000000 in
set_option maxRecDepth 100000 in
/-- refuse: it answers NONE -/
theorem c_X6_refuse (l : Launch) (dC : Nat → ClassId) (dI : Nat → Nat → Nat) (sz : Nat) (h0 : Nat) (qt : Nat) (qr : Nat) (qc : Nat) (qs : Nat) (qn : Nat) (qp : Nat) (qm : Nat) (qf : Nat) (qx : Nat) (kr : ClassId) (f : Nat → Int32) (p0 : Int32) (hp0 : vp_in p0 6) : Met l yX6_refuse (Cond.code yX6_refuse cX6_refuse 2 (some .int) :: T0) ({ frames := 0, cells := 0, slots := 0, locals := 0 }) (va_Pc [.ref h0, .int p0] (ax_W dC dI sz [(h0, .inr (6, [.ref qt, .int 0, .ref qr, .ref qc, .ref qs, .int 0, .ref qn, .ref qp, .int 0, .int 0, .ref qm, .ref qf, .ref qx, .long 1])), (qx, .inl (kr, 6, .inl f))] [(kr, .int)])) (va_Qi (fun (r : Int32) (_ : Unit) => r = (-1)) (fun (_ : Unit) (t : State) => va_P (dC, dI) vwCl [] t.heap ∧ va_K (dC, dI) vwCl [] t ∧ va_D (va_A [(h0, .inr (6, [.ref qt, .int 0, .ref qr, .ref qc, .ref qs, .int 0, .ref qn, .ref qp, .int 0, .int 0, .ref qm, .ref qf, .ref qx, .long 1])), (qx, .inl (kr, 6, .inl f))] sz) []) (va_A [(h0, .inr (6, [.ref qt, .int 0, .ref qr, .ref qc, .ref qs, .int 0, .ref qn, .ref qp, .int 0, .int 0, .ref qm, .ref qf, .ref qx, .long 1])), (qx, .inl (kr, 6, .inl f))] sz)) 0 0 (va_A [(h0, .inr (6, [.ref qt, .int 0, .ref qr, .ref qc, .ref qs, .int 0, .ref qn, .ref qp, .int 0, .int 0, .ref qm, .ref qf, .ref qx, .long 1])), (qx, .inl (kr, 6, .inl f))] sz) := by
  refine Met.ofW (cc := cX6_refuse) (maxL := 2) (ret := (some .int)) (by decide) rfl ?_
  intro p e s m args below meth c s₁ B hml hv
  obtain ⟨rfl, hsz, hP, hK, hD0, hN⟩ := hv
  have hx := B.exec
  have hb := B.bytes
  have hr := B.returns
  have hts : ∀ w ∈ T0, w.before _ s = true := fun w h => atoms_spec (ws := Cond.code yX6_refuse cX6_refuse 2 (some .int) :: T0) B.pre w (List.mem_cons_of_mem _ h)
  have hown : s.vm.findClass RX6 = some m.cls := findClass_of_methodNamed B.named
  have hlocks := B.notSynchronized
  subst hsz
  have hD := hD0.self (sz := s.heap.size)
  generalize hAe : va_A [(h0, .inr (6, [.ref qt, .int 0, .ref qr, .ref qc, .ref qs, .int 0, .ref qn, .ref qp, .int 0, .int 0, .ref qm, .ref qf, .ref qx, .long 1])), (qx, .inl (kr, 6, .inl f))] s.heap.size = A at hD ⊢
  have hA : ∀ q : Nat, s.heap.size ≤ q → A q := fun q h => by rw [← hAe]; exact Or.inr h
  have hS : va_S A s.heap s.heap [] := va_S.rf
  have hP : va_P (dC, dI) vwCl [(h0, .inr (6, [.ref qt, .int 0, .ref qr, .ref qc, .ref qs, .int 0, .ref qn, .ref qp, .int 0, .int 0, .ref qm, .ref qf, .ref qx, .long 1])), (qx, .inl (kr, 6, .inl f))] s.heap := hP
  have hl := lv_entry ([.ref h0, .int p0]) (n := 2) (Nat.le_of_ble_eq_true rfl)
  rw [lg_entry_eq]
  generalize (lg_sl ([.ref h0, .int p0]) ++ List.replicate (2 - (lg_sl ([.ref h0, .int p0])).length) Slot.unset).toArray = ls at hl ⊢
  refine ax_gen hP hD hS (fun H locs hP hD hS => ?_)
  have hl : lv_has ls 2 [(0, .ref h0), (1, .int p0)] := hl
  refine lv_aload_n hx hb dX6_refuse_0 rfl (lv_at hl 0 rfl) ?_
  refine va_get (D := (dC, dI)) (ci := 6) (v := .ref qx) (C := RX6) (T := TX6) (N := 14) hx hb hts inX6 hown hK hP 0 rfl rfl 12 (by decide) (hts _ T_94) (fun _ h9 => h9) rfl dX6_refuse_1 ?_
  refine lv_iload_n hx hb dX6_refuse_4 rfl (lv_at hl 1 rfl) ?_
  refine lv_dup2_11 hx hb dX6_refuse_5 rfl rfl ?_
  refine va_iald hx hb hK hP 1 0 rfl rfl hp0 dX6_refuse_6 ?_
  refine lv_topi (fun v1 ev1 => ?_)
  refine lv_iconst (v := 1) hx hb dX6_refuse_7 (by decide) ?_
  refine lv_iadd hx hb dX6_refuse_8 ?_
  refine lv_topi (fun v2 ev2 => ?_)
  refine va_iast hx hb hK hP hD hS 1 0 rfl rfl hp0 dX6_refuse_9 (fun H locs hP hD hS => ?_)
  have hP : va_P (dC, dI) vwCl [(h0, .inr (6, [.ref qt, .int 0, .ref qr, .ref qc, .ref qs, .int 0, .ref qn, .ref qp, .int 0, .int 0, .ref qm, .ref qf, .ref qx, .long 1])), (qx, .inl (kr, 6, .inl (upd f (p0 : Int32).toNatClampNeg v2)))] H := hP
  have hD : va_D A [(h0, .inr (6, [.ref qt, .int 0, .ref qr, .ref qc, .ref qs, .int 0, .ref qn, .ref qp, .int 0, .int 0, .ref qm, .ref qf, .ref qx, .long 1])), (qx, .inl (kr, 6, .inl (upd f (p0 : Int32).toNatClampNeg v2)))] := hD
  obtain ⟨f3, hP, hD⟩ : ∃ f : Nat → Int32, va_P (dC, dI) vwCl [(h0, .inr (6, [.ref qt, .int 0, .ref qr, .ref qc, .ref qs, .int 0, .ref qn, .ref qp, .int 0, .int 0, .ref qm, .ref qf, .ref qx, .long 1])), (qx, .inl (kr, 6, .inl f))] H ∧ va_D A [(h0, .inr (6, [.ref qt, .int 0, .ref qr, .ref qc, .ref qs, .int 0, .ref qn, .ref qp, .int 0, .int 0, .ref qm, .ref qf, .ref qx, .long 1])), (qx, .inl (kr, 6, .inl f))] := ⟨_, hP, hD⟩
  refine lv_iconst (v := (-1)) hx hb dX6_refuse_10 (by decide) ?_
  have hP9 := hP.sub (ws' := []) [] rfl
  have hD9 := hD.sub (ws' := []) [] (by decide) rfl
  have hK9 := hK.sub (tys' := []) [] rfl
  exact W.iret (v := (-1)) hx hb hr (fun t ht hW => ⟨⟨(-1), (), rfl, rfl, by rw [ht]; exact hP9, va_K.moved hW.alike hK9, hD9⟩, hS.F ht⟩) hS.2.2 dX6_refuse_11

set_option maxHeartbeats 4000000 in
set_option maxRecDepth 100000 in
/-- layBytes behind 0 bytes -/
theorem c_X6_layBytes_0 (l : Launch) (dC : Nat → ClassId) (dI : Nat → Nat → Nat) (sz : Nat) (h0 : Nat) (qt : Nat) (qr : Nat) (qc : Nat) (qs : Nat) (qn : Nat) (qp : Nat) (qm : Nat) (qf : Nat) (qx : Nat) (kt : ClassId) (f : Nat → Int32) (p0 : Int32) : Met l yX6_layBytes (Cond.code yX6_layBytes cX6_layBytes 3 none :: T0) ({ frames := 0, cells := 0, slots := 0, locals := 0 }) (va_Pc [.ref h0, .int p0] (ax_W dC dI sz [(h0, .inr (6, [.ref qt, .int 0, .ref qr, .ref qc, .ref qs, .int 0, .ref qn, .ref qp, .int 0, .int 0, .ref qm, .ref qf, .ref qx, .long 1])), (qt, .inl (kt, 1600, .inl f))] [(kt, .byte)])) (va_Qv (fun (_ : Unit) => True) (fun (_ : Unit) (t : State) => ∃ (f2 : Nat → Int32), va_P (dC, dI) vwCl [(h0, .inr (6, [.ref qt, .int 4, .ref qr, .ref qc, .ref qs, .int 0, .ref qn, .ref qp, .int 0, .int 0, .ref qm, .ref qf, .ref qx, .long 1])), (qt, .inl (kt, 1600, .inl f2))] t.heap ∧ va_K (dC, dI) vwCl [] t ∧ va_D (va_A [(h0, .inr (6, [.ref qt, .int 0, .ref qr, .ref qc, .ref qs, .int 0, .ref qn, .ref qp, .int 0, .int 0, .ref qm, .ref qf, .ref qx, .long 1])), (qt, .inl (kt, 1600, .inl f))] sz) [(h0, .inr (6, [.ref qt, .int 4, .ref qr, .ref qc, .ref qs, .int 0, .ref qn, .ref qp, .int 0, .int 0, .ref qm, .ref qf, .ref qx, .long 1])), (qt, .inl (kt, 1600, .inl f2))]) (va_A [(h0, .inr (6, [.ref qt, .int 0, .ref qr, .ref qc, .ref qs, .int 0, .ref qn, .ref qp, .int 0, .int 0, .ref qm, .ref qf, .ref qx, .long 1])), (qt, .inl (kt, 1600, .inl f))] sz)) 0 0 (va_A [(h0, .inr (6, [.ref qt, .int 0, .ref qr, .ref qc, .ref qs, .int 0, .ref qn, .ref qp, .int 0, .int 0, .ref qm, .ref qf, .ref qx, .long 1])), (qt, .inl (kt, 1600, .inl f))] sz) := by
  refine Met.ofW (cc := cX6_layBytes) (maxL := 3) (ret := none) (by decide) rfl ?_
  intro p e s m args below meth c s₁ B hml hv
  obtain ⟨rfl, hsz, hP, hK, hD0, hN⟩ := hv
  have hx := B.exec
  have hb := B.bytes
  have hr := B.returns
  have hts : ∀ w ∈ T0, w.before _ s = true := fun w h => atoms_spec (ws := Cond.code yX6_layBytes cX6_layBytes 3 none :: T0) B.pre w (List.mem_cons_of_mem _ h)
  have hown : s.vm.findClass RX6 = some m.cls := findClass_of_methodNamed B.named
  have hlocks := B.notSynchronized
  subst hsz
  have hD := hD0.self (sz := s.heap.size)
  generalize hAe : va_A [(h0, .inr (6, [.ref qt, .int 0, .ref qr, .ref qc, .ref qs, .int 0, .ref qn, .ref qp, .int 0, .int 0, .ref qm, .ref qf, .ref qx, .long 1])), (qt, .inl (kt, 1600, .inl f))] s.heap.size = A at hD ⊢
  have hA : ∀ q : Nat, s.heap.size ≤ q → A q := fun q h => by rw [← hAe]; exact Or.inr h
  have hS : va_S A s.heap s.heap [] := va_S.rf
  have hP : va_P (dC, dI) vwCl [(h0, .inr (6, [.ref qt, .int 0, .ref qr, .ref qc, .ref qs, .int 0, .ref qn, .ref qp, .int 0, .int 0, .ref qm, .ref qf, .ref qx, .long 1])), (qt, .inl (kt, 1600, .inl f))] s.heap := hP
  have hl := lv_entry ([.ref h0, .int p0]) (n := 3) (Nat.le_of_ble_eq_true rfl)
  rw [lg_entry_eq]
  generalize (lg_sl ([.ref h0, .int p0]) ++ List.replicate (3 - (lg_sl ([.ref h0, .int p0])).length) Slot.unset).toArray = ls at hl ⊢
  refine ax_gen hP hD hS (fun H locs hP hD hS => ?_)
  have hl : lv_has ls 3 [(0, .ref h0), (1, .int p0)] := hl
  refine lv_bipush (v := 24) hx hb dX6_layBytes_0 (by decide) ?_
  refine lv_istore_n (lv' := [(2, .int 24), (0, .ref h0), (1, .int p0)]) hx hb dX6_layBytes_2 rfl hl (by decide) rfl (fun ls hl => ?_)
  refine lv_iload_n hx hb dX6_layBytes_3 rfl (lv_at hl 0 rfl) ?_
  refine lv_if_lt (tgt := 36) hx hb dX6_layBytes_4 (by decide) (fun c => absurd c (by decide)) (fun _ => ?_)
  refine lv_aload_n hx hb dX6_layBytes_7 rfl (lv_at hl 1 rfl) ?_
  refine va_get (D := (dC, dI)) (ci := 6) (v := .ref qt) (C := RX6) (T := TX6) (N := 14) hx hb hts inX6 hown hK hP 0 rfl rfl 0 (by decide) (hts _ T_68) (fun _ h9 => h9) rfl dX6_layBytes_8 ?_
  refine lv_aload_n hx hb dX6_layBytes_11 rfl (lv_at hl 1 rfl) ?_
  refine va_get (D := (dC, dI)) (ci := 6) (v := .int 0) (C := RX6) (T := TX6) (N := 14) hx hb hts inX6 hown hK hP 0 rfl rfl 1 (by decide) (hts _ T_101) (fun _ h9 => h9) rfl dX6_layBytes_12 ?_
  refine lv_iload_n hx hb dX6_layBytes_15 rfl (lv_at hl 2 rfl) ?_
  refine lv_iload_n hx hb dX6_layBytes_16 rfl (lv_at hl 0 rfl) ?_
  refine lv_ishr hx hb dX6_layBytes_17 ?_
  refine lv_topi (fun v1 ev1 => ?_)
  refine lv_i2b hx hb dX6_layBytes_18 rfl ?_
  refine lv_topi (fun v2 ev2 => ?_)
  refine va_bast hx hb hK hP hD hS 1 0 rfl rfl (ax_in (by decide)) dX6_layBytes_19 (fun H locs hP hD hS => ?_)
  have hP : va_P (dC, dI) vwCl [(h0, .inr (6, [.ref qt, .int 0, .ref qr, .ref qc, .ref qs, .int 0, .ref qn, .ref qp, .int 0, .int 0, .ref qm, .ref qf, .ref qx, .long 1])), (qt, .inl (kt, 1600, .inl (upd f (0 : Int32).toNatClampNeg (vp_nar .byte v2))))] H := hP
  have hD : va_D A [(h0, .inr (6, [.ref qt, .int 0, .ref qr, .ref qc, .ref qs, .int 0, .ref qn, .ref qp, .int 0, .int 0, .ref qm, .ref qf, .ref qx, .long 1])), (qt, .inl (kt, 1600, .inl (upd f (0 : Int32).toNatClampNeg (vp_nar .byte v2))))] := hD
  obtain ⟨f3, hP, hD⟩ : ∃ f : Nat → Int32, va_P (dC, dI) vwCl [(h0, .inr (6, [.ref qt, .int 0, .ref qr, .ref qc, .ref qs, .int 0, .ref qn, .ref qp, .int 0, .int 0, .ref qm, .ref qf, .ref qx, .long 1])), (qt, .inl (kt, 1600, .inl f))] H ∧ va_D A [(h0, .inr (6, [.ref qt, .int 0, .ref qr, .ref qc, .ref qs, .int 0, .ref qn, .ref qp, .int 0, .int 0, .ref qm, .ref qf, .ref qx, .long 1])), (qt, .inl (kt, 1600, .inl f))] := ⟨_, hP, hD⟩
  refine lv_aload_n hx hb dX6_layBytes_20 rfl (lv_at hl 1 rfl) ?_
  refine lv_dup hx hb dX6_layBytes_21 rfl ?_
  refine va_get (D := (dC, dI)) (ci := 6) (v := .int 0) (C := RX6) (T := TX6) (N := 14) hx hb hts inX6 hown hK hP 0 rfl rfl 1 (by decide) (hts _ T_101) (fun _ h9 => h9) rfl dX6_layBytes_22 ?_
  refine lv_iconst (v := 1) hx hb dX6_layBytes_25 (by decide) ?_
  refine lv_iadd hx hb dX6_layBytes_26 ?_
  refine ax_eqi (y := 1) (by decide) ?_
  refine va_put (D := (dC, dI)) (ci := 6) (v := .int 1) (ty := .int) (C := RX6) (T := TX6) (N := 14) hx hb hts inX6 tyX6 tyX6_ok nmX6 hown hK hP hD hS 0 rfl rfl 1 (by decide) (hts _ T_101) (fun _ h9 => h9) rfl (by decide +kernel) rfl rfl (Nat.le_of_ble_eq_true rfl) dX6_layBytes_27 (fun H locs hP hD hS => ?_)
  have hP : va_P (dC, dI) vwCl [(h0, .inr (6, [.ref qt, .int 1, .ref qr, .ref qc, .ref qs, .int 0, .ref qn, .ref qp, .int 0, .int 0, .ref qm, .ref qf, .ref qx, .long 1])), (qt, .inl (kt, 1600, .inl f3))] H := hP
  have hD : va_D A [(h0, .inr (6, [.ref qt, .int 1, .ref qr, .ref qc, .ref qs, .int 0, .ref qn, .ref qp, .int 0, .int 0, .ref qm, .ref qf, .ref qx, .long 1])), (qt, .inl (kt, 1600, .inl f3))] := hD
  refine lv_iinc (v := 16) (lv' := [(2, .int 16), (0, .ref h0), (1, .int p0)]) hx hb dX6_layBytes_30 hl (k := 0) rfl (by decide) (by decide) rfl (fun ls hl => ?_)
  refine lv_goto (tgt := 3) hx hb dX6_layBytes_33 (by decide) ?_
  refine lv_iload_n hx hb dX6_layBytes_3 rfl (lv_at hl 0 rfl) ?_
  refine lv_if_lt (tgt := 36) hx hb dX6_layBytes_4 (by decide) (fun c => absurd c (by decide)) (fun _ => ?_)
  refine lv_aload_n hx hb dX6_layBytes_7 rfl (lv_at hl 1 rfl) ?_
  refine va_get (D := (dC, dI)) (ci := 6) (v := .ref qt) (C := RX6) (T := TX6) (N := 14) hx hb hts inX6 hown hK hP 0 rfl rfl 0 (by decide) (hts _ T_68) (fun _ h9 => h9) rfl dX6_layBytes_8 ?_
  refine lv_aload_n hx hb dX6_layBytes_11 rfl (lv_at hl 1 rfl) ?_
  refine va_get (D := (dC, dI)) (ci := 6) (v := .int 1) (C := RX6) (T := TX6) (N := 14) hx hb hts inX6 hown hK hP 0 rfl rfl 1 (by decide) (hts _ T_101) (fun _ h9 => h9) rfl dX6_layBytes_12 ?_
  refine lv_iload_n hx hb dX6_layBytes_15 rfl (lv_at hl 2 rfl) ?_
  refine lv_iload_n hx hb dX6_layBytes_16 rfl (lv_at hl 0 rfl) ?_
  refine lv_ishr hx hb dX6_layBytes_17 ?_
  refine lv_topi (fun v4 ev4 => ?_)
  refine lv_i2b hx hb dX6_layBytes_18 rfl ?_
  refine lv_topi (fun v5 ev5 => ?_)
  refine va_bast hx hb hK hP hD hS 1 0 rfl rfl (ax_in (by decide)) dX6_layBytes_19 (fun H locs hP hD hS => ?_)
  have hP : va_P (dC, dI) vwCl [(h0, .inr (6, [.ref qt, .int 1, .ref qr, .ref qc, .ref qs, .int 0, .ref qn, .ref qp, .int 0, .int 0, .ref qm, .ref qf, .ref qx, .long 1])), (qt, .inl (kt, 1600, .inl (upd f3 (1 : Int32).toNatClampNeg (vp_nar .byte v5))))] H := hP
  have hD : va_D A [(h0, .inr (6, [.ref qt, .int 1, .ref qr, .ref qc, .ref qs, .int 0, .ref qn, .ref qp, .int 0, .int 0, .ref qm, .ref qf, .ref qx, .long 1])), (qt, .inl (kt, 1600, .inl (upd f3 (1 : Int32).toNatClampNeg (vp_nar .byte v5))))] := hD
  obtain ⟨f6, hP, hD⟩ : ∃ f : Nat → Int32, va_P (dC, dI) vwCl [(h0, .inr (6, [.ref qt, .int 1, .ref qr, .ref qc, .ref qs, .int 0, .ref qn, .ref qp, .int 0, .int 0, .ref qm, .ref qf, .ref qx, .long 1])), (qt, .inl (kt, 1600, .inl f))] H ∧ va_D A [(h0, .inr (6, [.ref qt, .int 1, .ref qr, .ref qc, .ref qs, .int 0, .ref qn, .ref qp, .int 0, .int 0, .ref qm, .ref qf, .ref qx, .long 1])), (qt, .inl (kt, 1600, .inl f))] := ⟨_, hP, hD⟩
  refine lv_aload_n hx hb dX6_layBytes_20 rfl (lv_at hl 1 rfl) ?_
  refine lv_dup hx hb dX6_layBytes_21 rfl ?_
  refine va_get (D := (dC, dI)) (ci := 6) (v := .int 1) (C := RX6) (T := TX6) (N := 14) hx hb hts inX6 hown hK hP 0 rfl rfl 1 (by decide) (hts _ T_101) (fun _ h9 => h9) rfl dX6_layBytes_22 ?_
  refine lv_iconst (v := 1) hx hb dX6_layBytes_25 (by decide) ?_
  refine lv_iadd hx hb dX6_layBytes_26 ?_
  refine ax_eqi (y := 2) (by decide) ?_
  refine va_put (D := (dC, dI)) (ci := 6) (v := .int 2) (ty := .int) (C := RX6) (T := TX6) (N := 14) hx hb hts inX6 tyX6 tyX6_ok nmX6 hown hK hP hD hS 0 rfl rfl 1 (by decide) (hts _ T_101) (fun _ h9 => h9) rfl (by decide +kernel) rfl rfl (Nat.le_of_ble_eq_true rfl) dX6_layBytes_27 (fun H locs hP hD hS => ?_)
  have hP : va_P (dC, dI) vwCl [(h0, .inr (6, [.ref qt, .int 2, .ref qr, .ref qc, .ref qs, .int 0, .ref qn, .ref qp, .int 0, .int 0, .ref qm, .ref qf, .ref qx, .long 1])), (qt, .inl (kt, 1600, .inl f6))] H := hP
  have hD : va_D A [(h0, .inr (6, [.ref qt, .int 2, .ref qr, .ref qc, .ref qs, .int 0, .ref qn, .ref qp, .int 0, .int 0, .ref qm, .ref qf, .ref qx, .long 1])), (qt, .inl (kt, 1600, .inl f6))] := hD
  refine lv_iinc (v := 8) (lv' := [(2, .int 8), (0, .ref h0), (1, .int p0)]) hx hb dX6_layBytes_30 hl (k := 0) rfl (by decide) (by decide) rfl (fun ls hl => ?_)
  refine lv_goto (tgt := 3) hx hb dX6_layBytes_33 (by decide) ?_
  refine lv_iload_n hx hb dX6_layBytes_3 rfl (lv_at hl 0 rfl) ?_
  refine lv_if_lt (tgt := 36) hx hb dX6_layBytes_4 (by decide) (fun c => absurd c (by decide)) (fun _ => ?_)
  refine lv_aload_n hx hb dX6_layBytes_7 rfl (lv_at hl 1 rfl) ?_
  refine va_get (D := (dC, dI)) (ci := 6) (v := .ref qt) (C := RX6) (T := TX6) (N := 14) hx hb hts inX6 hown hK hP 0 rfl rfl 0 (by decide) (hts _ T_68) (fun _ h9 => h9) rfl dX6_layBytes_8 ?_
  refine lv_aload_n hx hb dX6_layBytes_11 rfl (lv_at hl 1 rfl) ?_
  refine va_get (D := (dC, dI)) (ci := 6) (v := .int 2) (C := RX6) (T := TX6) (N := 14) hx hb hts inX6 hown hK hP 0 rfl rfl 1 (by decide) (hts _ T_101) (fun _ h9 => h9) rfl dX6_layBytes_12 ?_
  refine lv_iload_n hx hb dX6_layBytes_15 rfl (lv_at hl 2 rfl) ?_
  refine lv_iload_n hx hb dX6_layBytes_16 rfl (lv_at hl 0 rfl) ?_
  refine lv_ishr hx hb dX6_layBytes_17 ?_
  refine lv_topi (fun v7 ev7 => ?_)
  refine lv_i2b hx hb dX6_layBytes_18 rfl ?_
  refine lv_topi (fun v8 ev8 => ?_)
  refine va_bast hx hb hK hP hD hS 1 0 rfl rfl (ax_in (by decide)) dX6_layBytes_19 (fun H locs hP hD hS => ?_)
  have hP : va_P (dC, dI) vwCl [(h0, .inr (6, [.ref qt, .int 2, .ref qr, .ref qc, .ref qs, .int 0, .ref qn, .ref qp, .int 0, .int 0, .ref qm, .ref qf, .ref qx, .long 1])), (qt, .inl (kt, 1600, .inl (upd f6 (2 : Int32).toNatClampNeg (vp_nar .byte v8))))] H := hP
  have hD : va_D A [(h0, .inr (6, [.ref qt, .int 2, .ref qr, .ref qc, .ref qs, .int 0, .ref qn, .ref qp, .int 0, .int 0, .ref qm, .ref qf, .ref qx, .long 1])), (qt, .inl (kt, 1600, .inl (upd f6 (2 : Int32).toNatClampNeg (vp_nar .byte v8))))] := hD
  obtain ⟨f9, hP, hD⟩ : ∃ f : Nat → Int32, va_P (dC, dI) vwCl [(h0, .inr (6, [.ref qt, .int 2, .ref qr, .ref qc, .ref qs, .int 0, .ref qn, .ref qp, .int 0, .int 0, .ref qm, .ref qf, .ref qx, .long 1])), (qt, .inl (kt, 1600, .inl f))] H ∧ va_D A [(h0, .inr (6, [.ref qt, .int 2, .ref qr, .ref qc, .ref qs, .int 0, .ref qn, .ref qp, .int 0, .int 0, .ref qm, .ref qf, .ref qx, .long 1])), (qt, .inl (kt, 1600, .inl f))] := ⟨_, hP, hD⟩
  refine lv_aload_n hx hb dX6_layBytes_20 rfl (lv_at hl 1 rfl) ?_
  refine lv_dup hx hb dX6_layBytes_21 rfl ?_
  refine va_get (D := (dC, dI)) (ci := 6) (v := .int 2) (C := RX6) (T := TX6) (N := 14) hx hb hts inX6 hown hK hP 0 rfl rfl 1 (by decide) (hts _ T_101) (fun _ h9 => h9) rfl dX6_layBytes_22 ?_
  refine lv_iconst (v := 1) hx hb dX6_layBytes_25 (by decide) ?_
  refine lv_iadd hx hb dX6_layBytes_26 ?_
  refine ax_eqi (y := 3) (by decide) ?_
  refine va_put (D := (dC, dI)) (ci := 6) (v := .int 3) (ty := .int) (C := RX6) (T := TX6) (N := 14) hx hb hts inX6 tyX6 tyX6_ok nmX6 hown hK hP hD hS 0 rfl rfl 1 (by decide) (hts _ T_101) (fun _ h9 => h9) rfl (by decide +kernel) rfl rfl (Nat.le_of_ble_eq_true rfl) dX6_layBytes_27 (fun H locs hP hD hS => ?_)
  have hP : va_P (dC, dI) vwCl [(h0, .inr (6, [.ref qt, .int 3, .ref qr, .ref qc, .ref qs, .int 0, .ref qn, .ref qp, .int 0, .int 0, .ref qm, .ref qf, .ref qx, .long 1])), (qt, .inl (kt, 1600, .inl f9))] H := hP
  have hD : va_D A [(h0, .inr (6, [.ref qt, .int 3, .ref qr, .ref qc, .ref qs, .int 0, .ref qn, .ref qp, .int 0, .int 0, .ref qm, .ref qf, .ref qx, .long 1])), (qt, .inl (kt, 1600, .inl f9))] := hD
  refine lv_iinc (v := 0) (lv' := [(2, .int 0), (0, .ref h0), (1, .int p0)]) hx hb dX6_layBytes_30 hl (k := 0) rfl (by decide) (by decide) rfl (fun ls hl => ?_)
  refine lv_goto (tgt := 3) hx hb dX6_layBytes_33 (by decide) ?_
  refine lv_iload_n hx hb dX6_layBytes_3 rfl (lv_at hl 0 rfl) ?_
  refine lv_if_lt (tgt := 36) hx hb dX6_layBytes_4 (by decide) (fun c => absurd c (by decide)) (fun _ => ?_)
  refine lv_aload_n hx hb dX6_layBytes_7 rfl (lv_at hl 1 rfl) ?_
  refine va_get (D := (dC, dI)) (ci := 6) (v := .ref qt) (C := RX6) (T := TX6) (N := 14) hx hb hts inX6 hown hK hP 0 rfl rfl 0 (by decide) (hts _ T_68) (fun _ h9 => h9) rfl dX6_layBytes_8 ?_
  refine lv_aload_n hx hb dX6_layBytes_11 rfl (lv_at hl 1 rfl) ?_
  refine va_get (D := (dC, dI)) (ci := 6) (v := .int 3) (C := RX6) (T := TX6) (N := 14) hx hb hts inX6 hown hK hP 0 rfl rfl 1 (by decide) (hts _ T_101) (fun _ h9 => h9) rfl dX6_layBytes_12 ?_
  refine lv_iload_n hx hb dX6_layBytes_15 rfl (lv_at hl 2 rfl) ?_
  refine lv_iload_n hx hb dX6_layBytes_16 rfl (lv_at hl 0 rfl) ?_
  refine lv_ishr hx hb dX6_layBytes_17 ?_
  refine lv_topi (fun v10 ev10 => ?_)
  refine lv_i2b hx hb dX6_layBytes_18 rfl ?_
  refine lv_topi (fun v11 ev11 => ?_)
  refine va_bast hx hb hK hP hD hS 1 0 rfl rfl (ax_in (by decide)) dX6_layBytes_19 (fun H locs hP hD hS => ?_)
  have hP : va_P (dC, dI) vwCl [(h0, .inr (6, [.ref qt, .int 3, .ref qr, .ref qc, .ref qs, .int 0, .ref qn, .ref qp, .int 0, .int 0, .ref qm, .ref qf, .ref qx, .long 1])), (qt, .inl (kt, 1600, .inl (upd f9 (3 : Int32).toNatClampNeg (vp_nar .byte v11))))] H := hP
  have hD : va_D A [(h0, .inr (6, [.ref qt, .int 3, .ref qr, .ref qc, .ref qs, .int 0, .ref qn, .ref qp, .int 0, .int 0, .ref qm, .ref qf, .ref qx, .long 1])), (qt, .inl (kt, 1600, .inl (upd f9 (3 : Int32).toNatClampNeg (vp_nar .byte v11))))] := hD
  obtain ⟨f12, hP, hD⟩ : ∃ f : Nat → Int32, va_P (dC, dI) vwCl [(h0, .inr (6, [.ref qt, .int 3, .ref qr, .ref qc, .ref qs, .int 0, .ref qn, .ref qp, .int 0, .int 0, .ref qm, .ref qf, .ref qx, .long 1])), (qt, .inl (kt, 1600, .inl f))] H ∧ va_D A [(h0, .inr (6, [.ref qt, .int 3, .ref qr, .ref qc, .ref qs, .int 0, .ref qn, .ref qp, .int 0, .int 0, .ref qm, .ref qf, .ref qx, .long 1])), (qt, .inl (kt, 1600, .inl f))] := ⟨_, hP, hD⟩
  refine lv_aload_n hx hb dX6_layBytes_20 rfl (lv_at hl 1 rfl) ?_
  refine lv_dup hx hb dX6_layBytes_21 rfl ?_
  refine va_get (D := (dC, dI)) (ci := 6) (v := .int 3) (C := RX6) (T := TX6) (N := 14) hx hb hts inX6 hown hK hP 0 rfl rfl 1 (by decide) (hts _ T_101) (fun _ h9 => h9) rfl dX6_layBytes_22 ?_
  refine lv_iconst (v := 1) hx hb dX6_layBytes_25 (by decide) ?_
  refine lv_iadd hx hb dX6_layBytes_26 ?_
  refine ax_eqi (y := 4) (by decide) ?_
  refine va_put (D := (dC, dI)) (ci := 6) (v := .int 4) (ty := .int) (C := RX6) (T := TX6) (N := 14) hx hb hts inX6 tyX6 tyX6_ok nmX6 hown hK hP hD hS 0 rfl rfl 1 (by decide) (hts _ T_101) (fun _ h9 => h9) rfl (by decide +kernel) rfl rfl (Nat.le_of_ble_eq_true rfl) dX6_layBytes_27 (fun H locs hP hD hS => ?_)
  have hP : va_P (dC, dI) vwCl [(h0, .inr (6, [.ref qt, .int 4, .ref qr, .ref qc, .ref qs, .int 0, .ref qn, .ref qp, .int 0, .int 0, .ref qm, .ref qf, .ref qx, .long 1])), (qt, .inl (kt, 1600, .inl f12))] H := hP
  have hD : va_D A [(h0, .inr (6, [.ref qt, .int 4, .ref qr, .ref qc, .ref qs, .int 0, .ref qn, .ref qp, .int 0, .int 0, .ref qm, .ref qf, .ref qx, .long 1])), (qt, .inl (kt, 1600, .inl f12))] := hD
  refine lv_iinc (v := (-8)) (lv' := [(2, .int (-8)), (0, .ref h0), (1, .int p0)]) hx hb dX6_layBytes_30 hl (k := 0) rfl (by decide) (by decide) rfl (fun ls hl => ?_)
  refine lv_goto (tgt := 3) hx hb dX6_layBytes_33 (by decide) ?_
  refine lv_iload_n hx hb dX6_layBytes_3 rfl (lv_at hl 0 rfl) ?_
  refine lv_if_lt (tgt := 36) hx hb dX6_layBytes_4 (by decide) (fun _ => ?_) (fun c => absurd (by decide) c)
  have hP9 := hP.sub (ws' := [(h0, .inr (6, [.ref qt, .int 4, .ref qr, .ref qc, .ref qs, .int 0, .ref qn, .ref qp, .int 0, .int 0, .ref qm, .ref qf, .ref qx, .long 1])), (qt, .inl (kt, 1600, .inl f12))]) [0, 1] rfl
  have hD9 := hD.sub (ws' := [(h0, .inr (6, [.ref qt, .int 4, .ref qr, .ref qc, .ref qs, .int 0, .ref qn, .ref qp, .int 0, .int 0, .ref qm, .ref qf, .ref qx, .long 1])), (qt, .inl (kt, 1600, .inl f12))]) [0, 1] (by decide) rfl
  have hK9 := hK.sub (tys' := []) [] rfl
  exact W.vret hx hb hr (fun t ht hW => ⟨⟨(), rfl, trivial, f12, by rw [ht]; exact hP9, va_K.moved hW.alike hK9, hD9⟩, hS.F ht⟩) hS.2.2 dX6_layBytes_36

set_option maxHeartbeats 4000000 in
set_option maxRecDepth 100000 in
/-- layBytes behind 4 bytes -/
theorem c_X6_layBytes_4 (l : Launch) (dC : Nat → ClassId) (dI : Nat → Nat → Nat) (sz : Nat) (h0 : Nat) (qt : Nat) (qr : Nat) (qc : Nat) (qs : Nat) (qn : Nat) (qp : Nat) (qm : Nat) (qf : Nat) (qx : Nat) (kt : ClassId) (f : Nat → Int32) (p0 : Int32) : Met l yX6_layBytes (Cond.code yX6_layBytes cX6_layBytes 3 none :: T0) ({ frames := 0, cells := 0, slots := 0, locals := 0 }) (va_Pc [.ref h0, .int p0] (ax_W dC dI sz [(h0, .inr (6, [.ref qt, .int 4, .ref qr, .ref qc, .ref qs, .int 0, .ref qn, .ref qp, .int 0, .int 0, .ref qm, .ref qf, .ref qx, .long 1])), (qt, .inl (kt, 1600, .inl f))] [(kt, .byte)])) (va_Qv (fun (_ : Unit) => True) (fun (_ : Unit) (t : State) => ∃ (f2 : Nat → Int32), va_P (dC, dI) vwCl [(h0, .inr (6, [.ref qt, .int 8, .ref qr, .ref qc, .ref qs, .int 0, .ref qn, .ref qp, .int 0, .int 0, .ref qm, .ref qf, .ref qx, .long 1])), (qt, .inl (kt, 1600, .inl f2))] t.heap ∧ va_K (dC, dI) vwCl [] t ∧ va_D (va_A [(h0, .inr (6, [.ref qt, .int 4, .ref qr, .ref qc, .ref qs, .int 0, .ref qn, .ref qp, .int 0, .int 0, .ref qm, .ref qf, .ref qx, .long 1])), (qt, .inl (kt, 1600, .inl f))] sz) [(h0, .inr (6, [.ref qt, .int 8, .ref qr, .ref qc, .ref qs, .int 0, .ref qn, .ref qp, .int 0, .int 0, .ref qm, .ref qf, .ref qx, .long 1])), (qt, .inl (kt, 1600, .inl f2))]) (va_A [(h0, .inr (6, [.ref qt, .int 4, .ref qr, .ref qc, .ref qs, .int 0, .ref qn, .ref qp, .int 0, .int 0, .ref qm, .ref qf, .ref qx, .long 1])), (qt, .inl (kt, 1600, .inl f))] sz)) 0 0 (va_A [(h0, .inr (6, [.ref qt, .int 4, .ref qr, .ref qc, .ref qs, .int 0, .ref qn, .ref qp, .int 0, .int 0, .ref qm, .ref qf, .ref qx, .long 1])), (qt, .inl (kt, 1600, .inl f))] sz) := by
  refine Met.ofW (cc := cX6_layBytes) (maxL := 3) (ret := none) (by decide) rfl ?_
  intro p e s m args below meth c s₁ B hml hv
  obtain ⟨rfl, hsz, hP, hK, hD0, hN⟩ := hv
  have hx := B.exec
  have hb := B.bytes
  have hr := B.returns
  have hts : ∀ w ∈ T0, w.before _ s = true := fun w h => atoms_spec (ws := Cond.code yX6_layBytes cX6_layBytes 3 none :: T0) B.pre w (List.mem_cons_of_mem _ h)
  have hown : s.vm.findClass RX6 = some m.cls := findClass_of_methodNamed B.named
  have hlocks := B.notSynchronized
  subst hsz
  have hD := hD0.self (sz := s.heap.size)
  generalize hAe : va_A [(h0, .inr (6, [.ref qt, .int 4, .ref qr, .ref qc, .ref qs, .int 0, .ref qn, .ref qp, .int 0, .int 0, .ref qm, .ref qf, .ref qx, .long 1])), (qt, .inl (kt, 1600, .inl f))] s.heap.size = A at hD ⊢
  have hA : ∀ q : Nat, s.heap.size ≤ q → A q := fun q h => by rw [← hAe]; exact Or.inr h
  have hS : va_S A s.heap s.heap [] := va_S.rf
  have hP : va_P (dC, dI) vwCl [(h0, .inr (6, [.ref qt, .int 4, .ref qr, .ref qc, .ref qs, .int 0, .ref qn, .ref qp, .int 0, .int 0, .ref qm, .ref qf, .ref qx, .long 1])), (qt, .inl (kt, 1600, .inl f))] s.heap := hP
  have hl := lv_entry ([.ref h0, .int p0]) (n := 3) (Nat.le_of_ble_eq_true rfl)
  rw [lg_entry_eq]
  generalize (lg_sl ([.ref h0, .int p0]) ++ List.replicate (3 - (lg_sl ([.ref h0, .int p0])).length) Slot.unset).toArray = ls at hl ⊢
  refine ax_gen hP hD hS (fun H locs hP hD hS => ?_)
  have hl : lv_has ls 3 [(0, .ref h0), (1, .int p0)] := hl
  refine lv_bipush (v := 24) hx hb dX6_layBytes_0 (by decide) ?_
  refine lv_istore_n (lv' := [(2, .int 24), (0, .ref h0), (1, .int p0)]) hx hb dX6_layBytes_2 rfl hl (by decide) rfl (fun ls hl => ?_)
  refine lv_iload_n hx hb dX6_layBytes_3 rfl (lv_at hl 0 rfl) ?_
  refine lv_if_lt (tgt := 36) hx hb dX6_layBytes_4 (by decide) (fun c => absurd c (by decide)) (fun _ => ?_)
  refine lv_aload_n hx hb dX6_layBytes_7 rfl (lv_at hl 1 rfl) ?_
  refine va_get (D := (dC, dI)) (ci := 6) (v := .ref qt) (C := RX6) (T := TX6) (N := 14) hx hb hts inX6 hown hK hP 0 rfl rfl 0 (by decide) (hts _ T_68) (fun _ h9 => h9) rfl dX6_layBytes_8 ?_
  refine lv_aload_n hx hb dX6_layBytes_11 rfl (lv_at hl 1 rfl) ?_
  refine va_get (D := (dC, dI)) (ci := 6) (v := .int 4) (C := RX6) (T := TX6) (N := 14) hx hb hts inX6 hown hK hP 0 rfl rfl 1 (by decide) (hts _ T_101) (fun _ h9 => h9) rfl dX6_layBytes_12 ?_
  refine lv_iload_n hx hb dX6_layBytes_15 rfl (lv_at hl 2 rfl) ?_
  refine lv_iload_n hx hb dX6_layBytes_16 rfl (lv_at hl 0 rfl) ?_
  refine lv_ishr hx hb dX6_layBytes_17 ?_
  refine lv_topi (fun v1 ev1 => ?_)
  refine lv_i2b hx hb dX6_layBytes_18 rfl ?_
  refine lv_topi (fun v2 ev2 => ?_)
  refine va_bast hx hb hK hP hD hS 1 0 rfl rfl (ax_in (by decide)) dX6_layBytes_19 (fun H locs hP hD hS => ?_)
  have hP : va_P (dC, dI) vwCl [(h0, .inr (6, [.ref qt, .int 4, .ref qr, .ref qc, .ref qs, .int 0, .ref qn, .ref qp, .int 0, .int 0, .ref qm, .ref qf, .ref qx, .long 1])), (qt, .inl (kt, 1600, .inl (upd f (4 : Int32).toNatClampNeg (vp_nar .byte v2))))] H := hP
  have hD : va_D A [(h0, .inr (6, [.ref qt, .int 4, .ref qr, .ref qc, .ref qs, .int 0, .ref qn, .ref qp, .int 0, .int 0, .ref qm, .ref qf, .ref qx, .long 1])), (qt, .inl (kt, 1600, .inl (upd f (4 : Int32).toNatClampNeg (vp_nar .byte v2))))] := hD
  obtain ⟨f3, hP, hD⟩ : ∃ f : Nat → Int32, va_P (dC, dI) vwCl [(h0, .inr (6, [.ref qt, .int 4, .ref qr, .ref qc, .ref qs, .int 0, .ref qn, .ref qp, .int 0, .int 0, .ref qm, .ref qf, .ref qx, .long 1])), (qt, .inl (kt, 1600, .inl f))] H ∧ va_D A [(h0, .inr (6, [.ref qt, .int 4, .ref qr, .ref qc, .ref qs, .int 0, .ref qn, .ref qp, .int 0, .int 0, .ref qm, .ref qf, .ref qx, .long 1])), (qt, .inl (kt, 1600, .inl f))] := ⟨_, hP, hD⟩
  refine lv_aload_n hx hb dX6_layBytes_20 rfl (lv_at hl 1 rfl) ?_
  refine lv_dup hx hb dX6_layBytes_21 rfl ?_
  refine va_get (D := (dC, dI)) (ci := 6) (v := .int 4) (C := RX6) (T := TX6) (N := 14) hx hb hts inX6 hown hK hP 0 rfl rfl 1 (by decide) (hts _ T_101) (fun _ h9 => h9) rfl dX6_layBytes_22 ?_
  refine lv_iconst (v := 1) hx hb dX6_layBytes_25 (by decide) ?_
  refine lv_iadd hx hb dX6_layBytes_26 ?_
  refine ax_eqi (y := 5) (by decide) ?_
  refine va_put (D := (dC, dI)) (ci := 6) (v := .int 5) (ty := .int) (C := RX6) (T := TX6) (N := 14) hx hb hts inX6 tyX6 tyX6_ok nmX6 hown hK hP hD hS 0 rfl rfl 1 (by decide) (hts _ T_101) (fun _ h9 => h9) rfl (by decide +kernel) rfl rfl (Nat.le_of_ble_eq_true rfl) dX6_layBytes_27 (fun H locs hP hD hS => ?_)
  have hP : va_P (dC, dI) vwCl [(h0, .inr (6, [.ref qt, .int 5, .ref qr, .ref qc, .ref qs, .int 0, .ref qn, .ref qp, .int 0, .int 0, .ref qm, .ref qf, .ref qx, .long 1])), (qt, .inl (kt, 1600, .inl f3))] H := hP
  have hD : va_D A [(h0, .inr (6, [.ref qt, .int 5, .ref qr, .ref qc, .ref qs, .int 0, .ref qn, .ref qp, .int 0, .int 0, .ref qm, .ref qf, .ref qx, .long 1])), (qt, .inl (kt, 1600, .inl f3))] := hD
  refine lv_iinc (v := 16) (lv' := [(2, .int 16), (0, .ref h0), (1, .int p0)]) hx hb dX6_layBytes_30 hl (k := 0) rfl (by decide) (by decide) rfl (fun ls hl => ?_)
  refine lv_goto (tgt := 3) hx hb dX6_layBytes_33 (by decide) ?_
  refine lv_iload_n hx hb dX6_layBytes_3 rfl (lv_at hl 0 rfl) ?_
  refine lv_if_lt (tgt := 36) hx hb dX6_layBytes_4 (by decide) (fun c => absurd c (by decide)) (fun _ => ?_)
  refine lv_aload_n hx hb dX6_layBytes_7 rfl (lv_at hl 1 rfl) ?_
  refine va_get (D := (dC, dI)) (ci := 6) (v := .ref qt) (C := RX6) (T := TX6) (N := 14) hx hb hts inX6 hown hK hP 0 rfl rfl 0 (by decide) (hts _ T_68) (fun _ h9 => h9) rfl dX6_layBytes_8 ?_
  refine lv_aload_n hx hb dX6_layBytes_11 rfl (lv_at hl 1 rfl) ?_
  refine va_get (D := (dC, dI)) (ci := 6) (v := .int 5) (C := RX6) (T := TX6) (N := 14) hx hb hts inX6 hown hK hP 0 rfl rfl 1 (by decide) (hts _ T_101) (fun _ h9 => h9) rfl dX6_layBytes_12 ?_
  refine lv_iload_n hx hb dX6_layBytes_15 rfl (lv_at hl 2 rfl) ?_
  refine lv_iload_n hx hb dX6_layBytes_16 rfl (lv_at hl 0 rfl) ?_
  refine lv_ishr hx hb dX6_layBytes_17 ?_
  refine lv_topi (fun v4 ev4 => ?_)
  refine lv_i2b hx hb dX6_layBytes_18 rfl ?_
  refine lv_topi (fun v5 ev5 => ?_)
  refine va_bast hx hb hK hP hD hS 1 0 rfl rfl (ax_in (by decide)) dX6_layBytes_19 (fun H locs hP hD hS => ?_)
  have hP : va_P (dC, dI) vwCl [(h0, .inr (6, [.ref qt, .int 5, .ref qr, .ref qc, .ref qs, .int 0, .ref qn, .ref qp, .int 0, .int 0, .ref qm, .ref qf, .ref qx, .long 1])), (qt, .inl (kt, 1600, .inl (upd f3 (5 : Int32).toNatClampNeg (vp_nar .byte v5))))] H := hP
  have hD : va_D A [(h0, .inr (6, [.ref qt, .int 5, .ref qr, .ref qc, .ref qs, .int 0, .ref qn, .ref qp, .int 0, .int 0, .ref qm, .ref qf, .ref qx, .long 1])), (qt, .inl (kt, 1600, .inl (upd f3 (5 : Int32).toNatClampNeg (vp_nar .byte v5))))] := hD
  obtain ⟨f6, hP, hD⟩ : ∃ f : Nat → Int32, va_P (dC, dI) vwCl [(h0, .inr (6, [.ref qt, .int 5, .ref qr, .ref qc, .ref qs, .int 0, .ref qn, .ref qp, .int 0, .int 0, .ref qm, .ref qf, .ref qx, .long 1])), (qt, .inl (kt, 1600, .inl f))] H ∧ va_D A [(h0, .inr (6, [.ref qt, .int 5, .ref qr, .ref qc, .ref qs, .int 0, .ref qn, .ref qp, .int 0, .int 0, .ref qm, .ref qf, .ref qx, .long 1])), (qt, .inl (kt, 1600, .inl f))] := ⟨_, hP, hD⟩
  refine lv_aload_n hx hb dX6_layBytes_20 rfl (lv_at hl 1 rfl) ?_
  refine lv_dup hx hb dX6_layBytes_21 rfl ?_
  refine va_get (D := (dC, dI)) (ci := 6) (v := .int 5) (C := RX6) (T := TX6) (N := 14) hx hb hts inX6 hown hK hP 0 rfl rfl 1 (by decide) (hts _ T_101) (fun _ h9 => h9) rfl dX6_layBytes_22 ?_
  refine lv_iconst (v := 1) hx hb dX6_layBytes_25 (by decide) ?_
  refine lv_iadd hx hb dX6_layBytes_26 ?_
  refine ax_eqi (y := 6) (by decide) ?_
  refine va_put (D := (dC, dI)) (ci := 6) (v := .int 6) (ty := .int) (C := RX6) (T := TX6) (N := 14) hx hb hts inX6 tyX6 tyX6_ok nmX6 hown hK hP hD hS 0 rfl rfl 1 (by decide) (hts _ T_101) (fun _ h9 => h9) rfl (by decide +kernel) rfl rfl (Nat.le_of_ble_eq_true rfl) dX6_layBytes_27 (fun H locs hP hD hS => ?_)
  have hP : va_P (dC, dI) vwCl [(h0, .inr (6, [.ref qt, .int 6, .ref qr, .ref qc, .ref qs, .int 0, .ref qn, .ref qp, .int 0, .int 0, .ref qm, .ref qf, .ref qx, .long 1])), (qt, .inl (kt, 1600, .inl f6))] H := hP
  have hD : va_D A [(h0, .inr (6, [.ref qt, .int 6, .ref qr, .ref qc, .ref qs, .int 0, .ref qn, .ref qp, .int 0, .int 0, .ref qm, .ref qf, .ref qx, .long 1])), (qt, .inl (kt, 1600, .inl f6))] := hD
  refine lv_iinc (v := 8) (lv' := [(2, .int 8), (0, .ref h0), (1, .int p0)]) hx hb dX6_layBytes_30 hl (k := 0) rfl (by decide) (by decide) rfl (fun ls hl => ?_)
  refine lv_goto (tgt := 3) hx hb dX6_layBytes_33 (by decide) ?_
  refine lv_iload_n hx hb dX6_layBytes_3 rfl (lv_at hl 0 rfl) ?_
  refine lv_if_lt (tgt := 36) hx hb dX6_layBytes_4 (by decide) (fun c => absurd c (by decide)) (fun _ => ?_)
  refine lv_aload_n hx hb dX6_layBytes_7 rfl (lv_at hl 1 rfl) ?_
  refine va_get (D := (dC, dI)) (ci := 6) (v := .ref qt) (C := RX6) (T := TX6) (N := 14) hx hb hts inX6 hown hK hP 0 rfl rfl 0 (by decide) (hts _ T_68) (fun _ h9 => h9) rfl dX6_layBytes_8 ?_
  refine lv_aload_n hx hb dX6_layBytes_11 rfl (lv_at hl 1 rfl) ?_
  refine va_get (D := (dC, dI)) (ci := 6) (v := .int 6) (C := RX6) (T := TX6) (N := 14) hx hb hts inX6 hown hK hP 0 rfl rfl 1 (by decide) (hts _ T_101) (fun _ h9 => h9) rfl dX6_layBytes_12 ?_
  refine lv_iload_n hx hb dX6_layBytes_15 rfl (lv_at hl 2 rfl) ?_
  refine lv_iload_n hx hb dX6_layBytes_16 rfl (lv_at hl 0 rfl) ?_
  refine lv_ishr hx hb dX6_layBytes_17 ?_
  refine lv_topi (fun v7 ev7 => ?_)
  refine lv_i2b hx hb dX6_layBytes_18 rfl ?_
  refine lv_topi (fun v8 ev8 => ?_)
  refine va_bast hx hb hK hP hD hS 1 0 rfl rfl (ax_in (by decide)) dX6_layBytes_19 (fun H locs hP hD hS => ?_)
  have hP : va_P (dC, dI) vwCl [(h0, .inr (6, [.ref qt, .int 6, .ref qr, .ref qc, .ref qs, .int 0, .ref qn, .ref qp, .int 0, .int 0, .ref qm, .ref qf, .ref qx, .long 1])), (qt, .inl (kt, 1600, .inl (upd f6 (6 : Int32).toNatClampNeg (vp_nar .byte v8))))] H := hP
  have hD : va_D A [(h0, .inr (6, [.ref qt, .int 6, .ref qr, .ref qc, .ref qs, .int 0, .ref qn, .ref qp, .int 0, .int 0, .ref qm, .ref qf, .ref qx, .long 1])), (qt, .inl (kt, 1600, .inl (upd f6 (6 : Int32).toNatClampNeg (vp_nar .byte v8))))] := hD
  obtain ⟨f9, hP, hD⟩ : ∃ f : Nat → Int32, va_P (dC, dI) vwCl [(h0, .inr (6, [.ref qt, .int 6, .ref qr, .ref qc, .ref qs, .int 0, .ref qn, .ref qp, .int 0, .int 0, .ref qm, .ref qf, .ref qx, .long 1])), (qt, .inl (kt, 1600, .inl f))] H ∧ va_D A [(h0, .inr (6, [.ref qt, .int 6, .ref qr, .ref qc, .ref qs, .int 0, .ref qn, .ref qp, .int 0, .int 0, .ref qm, .ref qf, .ref qx, .long 1])), (qt, .inl (kt, 1600, .inl f))] := ⟨_, hP, hD⟩
  refine lv_aload_n hx hb dX6_layBytes_20 rfl (lv_at hl 1 rfl) ?_
  refine lv_dup hx hb dX6_layBytes_21 rfl ?_
  refine va_get (D := (dC, dI)) (ci := 6) (v := .int 6) (C := RX6) (T := TX6) (N := 14) hx hb hts inX6 hown hK hP 0 rfl rfl 1 (by decide) (hts _ T_101) (fun _ h9 => h9) rfl dX6_layBytes_22 ?_
  refine lv_iconst (v := 1) hx hb dX6_layBytes_25 (by decide) ?_
  refine lv_iadd hx hb dX6_layBytes_26 ?_
  refine ax_eqi (y := 7) (by decide) ?_
  refine va_put (D := (dC, dI)) (ci := 6) (v := .int 7) (ty := .int) (C := RX6) (T := TX6) (N := 14) hx hb hts inX6 tyX6 tyX6_ok nmX6 hown hK hP hD hS 0 rfl rfl 1 (by decide) (hts _ T_101) (fun _ h9 => h9) rfl (by decide +kernel) rfl rfl (Nat.le_of_ble_eq_true rfl) dX6_layBytes_27 (fun H locs hP hD hS => ?_)
  have hP : va_P (dC, dI) vwCl [(h0, .inr (6, [.ref qt, .int 7, .ref qr, .ref qc, .ref qs, .int 0, .ref qn, .ref qp, .int 0, .int 0, .ref qm, .ref qf, .ref qx, .long 1])), (qt, .inl (kt, 1600, .inl f9))] H := hP
  have hD : va_D A [(h0, .inr (6, [.ref qt, .int 7, .ref qr, .ref qc, .ref qs, .int 0, .ref qn, .ref qp, .int 0, .int 0, .ref qm, .ref qf, .ref qx, .long 1])), (qt, .inl (kt, 1600, .inl f9))] := hD
  refine lv_iinc (v := 0) (lv' := [(2, .int 0), (0, .ref h0), (1, .int p0)]) hx hb dX6_layBytes_30 hl (k := 0) rfl (by decide) (by decide) rfl (fun ls hl => ?_)
  refine lv_goto (tgt := 3) hx hb dX6_layBytes_33 (by decide) ?_
  refine lv_iload_n hx hb dX6_layBytes_3 rfl (lv_at hl 0 rfl) ?_
  refine lv_if_lt (tgt := 36) hx hb dX6_layBytes_4 (by decide) (fun c => absurd c (by decide)) (fun _ => ?_)
  refine lv_aload_n hx hb dX6_layBytes_7 rfl (lv_at hl 1 rfl) ?_
  refine va_get (D := (dC, dI)) (ci := 6) (v := .ref qt) (C := RX6) (T := TX6) (N := 14) hx hb hts inX6 hown hK hP 0 rfl rfl 0 (by decide) (hts _ T_68) (fun _ h9 => h9) rfl dX6_layBytes_8 ?_
  refine lv_aload_n hx hb dX6_layBytes_11 rfl (lv_at hl 1 rfl) ?_
  refine va_get (D := (dC, dI)) (ci := 6) (v := .int 7) (C := RX6) (T := TX6) (N := 14) hx hb hts inX6 hown hK hP 0 rfl rfl 1 (by decide) (hts _ T_101) (fun _ h9 => h9) rfl dX6_layBytes_12 ?_
  refine lv_iload_n hx hb dX6_layBytes_15 rfl (lv_at hl 2 rfl) ?_
  refine lv_iload_n hx hb dX6_layBytes_16 rfl (lv_at hl 0 rfl) ?_
  refine lv_ishr hx hb dX6_layBytes_17 ?_
  refine lv_topi (fun v10 ev10 => ?_)
  refine lv_i2b hx hb dX6_layBytes_18 rfl ?_
  refine lv_topi (fun v11 ev11 => ?_)
  refine va_bast hx hb hK hP hD hS 1 0 rfl rfl (ax_in (by decide)) dX6_layBytes_19 (fun H locs hP hD hS => ?_)
  have hP : va_P (dC, dI) vwCl [(h0, .inr (6, [.ref qt, .int 7, .ref qr, .ref qc, .ref qs, .int 0, .ref qn, .ref qp, .int 0, .int 0, .ref qm, .ref qf, .ref qx, .long 1])), (qt, .inl (kt, 1600, .inl (upd f9 (7 : Int32).toNatClampNeg (vp_nar .byte v11))))] H := hP
  have hD : va_D A [(h0, .inr (6, [.ref qt, .int 7, .ref qr, .ref qc, .ref qs, .int 0, .ref qn, .ref qp, .int 0, .int 0, .ref qm, .ref qf, .ref qx, .long 1])), (qt, .inl (kt, 1600, .inl (upd f9 (7 : Int32).toNatClampNeg (vp_nar .byte v11))))] := hD
  obtain ⟨f12, hP, hD⟩ : ∃ f : Nat → Int32, va_P (dC, dI) vwCl [(h0, .inr (6, [.ref qt, .int 7, .ref qr, .ref qc, .ref qs, .int 0, .ref qn, .ref qp, .int 0, .int 0, .ref qm, .ref qf, .ref qx, .long 1])), (qt, .inl (kt, 1600, .inl f))] H ∧ va_D A [(h0, .inr (6, [.ref qt, .int 7, .ref qr, .ref qc, .ref qs, .int 0, .ref qn, .ref qp, .int 0, .int 0, .ref qm, .ref qf, .ref qx, .long 1])), (qt, .inl (kt, 1600, .inl f))] := ⟨_, hP, hD⟩
  refine lv_aload_n hx hb dX6_layBytes_20 rfl (lv_at hl 1 rfl) ?_
  refine lv_dup hx hb dX6_layBytes_21 rfl ?_
  refine va_get (D := (dC, dI)) (ci := 6) (v := .int 7) (C := RX6) (T := TX6) (N := 14) hx hb hts inX6 hown hK hP 0 rfl rfl 1 (by decide) (hts _ T_101) (fun _ h9 => h9) rfl dX6_layBytes_22 ?_
  refine lv_iconst (v := 1) hx hb dX6_layBytes_25 (by decide) ?_
  refine lv_iadd hx hb dX6_layBytes_26 ?_
  refine ax_eqi (y := 8) (by decide) ?_
  refine va_put (D := (dC, dI)) (ci := 6) (v := .int 8) (ty := .int) (C := RX6) (T := TX6) (N := 14) hx hb hts inX6 tyX6 tyX6_ok nmX6 hown hK hP hD hS 0 rfl rfl 1 (by decide) (hts _ T_101) (fun _ h9 => h9) rfl (by decide +kernel) rfl rfl (Nat.le_of_ble_eq_true rfl) dX6_layBytes_27 (fun H locs hP hD hS => ?_)
  have hP : va_P (dC, dI) vwCl [(h0, .inr (6, [.ref qt, .int 8, .ref qr, .ref qc, .ref qs, .int 0, .ref qn, .ref qp, .int 0, .int 0, .ref qm, .ref qf, .ref qx, .long 1])), (qt, .inl (kt, 1600, .inl f12))] H := hP
  have hD : va_D A [(h0, .inr (6, [.ref qt, .int 8, .ref qr, .ref qc, .ref qs, .int 0, .ref qn, .ref qp, .int 0, .int 0, .ref qm, .ref qf, .ref qx, .long 1])), (qt, .inl (kt, 1600, .inl f12))] := hD
  refine lv_iinc (v := (-8)) (lv' := [(2, .int (-8)), (0, .ref h0), (1, .int p0)]) hx hb dX6_layBytes_30 hl (k := 0) rfl (by decide) (by decide) rfl (fun ls hl => ?_)
  refine lv_goto (tgt := 3) hx hb dX6_layBytes_33 (by decide) ?_
  refine lv_iload_n hx hb dX6_layBytes_3 rfl (lv_at hl 0 rfl) ?_
  refine lv_if_lt (tgt := 36) hx hb dX6_layBytes_4 (by decide) (fun _ => ?_) (fun c => absurd (by decide) c)
  have hP9 := hP.sub (ws' := [(h0, .inr (6, [.ref qt, .int 8, .ref qr, .ref qc, .ref qs, .int 0, .ref qn, .ref qp, .int 0, .int 0, .ref qm, .ref qf, .ref qx, .long 1])), (qt, .inl (kt, 1600, .inl f12))]) [0, 1] rfl
  have hD9 := hD.sub (ws' := [(h0, .inr (6, [.ref qt, .int 8, .ref qr, .ref qc, .ref qs, .int 0, .ref qn, .ref qp, .int 0, .int 0, .ref qm, .ref qf, .ref qx, .long 1])), (qt, .inl (kt, 1600, .inl f12))]) [0, 1] (by decide) rfl
  have hK9 := hK.sub (tys' := []) [] rfl
  exact W.vret hx hb hr (fun t ht hW => ⟨⟨(), rfl, trivial, f12, by rw [ht]; exact hP9, va_K.moved hW.alike hK9, hD9⟩, hS.F ht⟩) hS.2.2 dX6_layBytes_36

set_option maxHeartbeats 4000000 in
set_option maxRecDepth 100000 in
/-- layBytes behind 8 bytes -/
theorem c_X6_layBytes_8 (l : Launch) (dC : Nat → ClassId) (dI : Nat → Nat → Nat) (sz : Nat) (h0 : Nat) (qt : Nat) (qr : Nat) (qc : Nat) (qs : Nat) (qn : Nat) (qp : Nat) (qm : Nat) (qf : Nat) (qx : Nat) (kt : ClassId) (f : Nat → Int32) (p0 : Int32) : Met l yX6_layBytes (Cond.code yX6_layBytes cX6_layBytes 3 none :: T0) ({ frames := 0, cells := 0, slots := 0, locals := 0 }) (va_Pc [.ref h0, .int p0] (ax_W dC dI sz [(h0, .inr (6, [.ref qt, .int 8, .ref qr, .ref qc, .ref qs, .int 0, .ref qn, .ref qp, .int 0, .int 0, .ref qm, .ref qf, .ref qx, .long 1])), (qt, .inl (kt, 1600, .inl f))] [(kt, .byte)])) (va_Qv (fun (_ : Unit) => True) (fun (_ : Unit) (t : State) => ∃ (f2 : Nat → Int32), va_P (dC, dI) vwCl [(h0, .inr (6, [.ref qt, .int 12, .ref qr, .ref qc, .ref qs, .int 0, .ref qn, .ref qp, .int 0, .int 0, .ref qm, .ref qf, .ref qx, .long 1])), (qt, .inl (kt, 1600, .inl f2))] t.heap ∧ va_K (dC, dI) vwCl [] t ∧ va_D (va_A [(h0, .inr (6, [.ref qt, .int 8, .ref qr, .ref qc, .ref qs, .int 0, .ref qn, .ref qp, .int 0, .int 0, .ref qm, .ref qf, .ref qx, .long 1])), (qt, .inl (kt, 1600, .inl f))] sz) [(h0, .inr (6, [.ref qt, .int 12, .ref qr, .ref qc, .ref qs, .int 0, .ref qn, .ref qp, .int 0, .int 0, .ref qm, .ref qf, .ref qx, .long 1])), (qt, .inl (kt, 1600, .inl f2))]) (va_A [(h0, .inr (6, [.ref qt, .int 8, .ref qr, .ref qc, .ref qs, .int 0, .ref qn, .ref qp, .int 0, .int 0, .ref qm, .ref qf, .ref qx, .long 1])), (qt, .inl (kt, 1600, .inl f))] sz)) 0 0 (va_A [(h0, .inr (6, [.ref qt, .int 8, .ref qr, .ref qc, .ref qs, .int 0, .ref qn, .ref qp, .int 0, .int 0, .ref qm, .ref qf, .ref qx, .long 1])), (qt, .inl (kt, 1600, .inl f))] sz) := by
  refine Met.ofW (cc := cX6_layBytes) (maxL := 3) (ret := none) (by decide) rfl ?_
  intro p e s m args below meth c s₁ B hml hv
  obtain ⟨rfl, hsz, hP, hK, hD0, hN⟩ := hv
  have hx := B.exec
  have hb := B.bytes
  have hr := B.returns
  have hts : ∀ w ∈ T0, w.before _ s = true := fun w h => atoms_spec (ws := Cond.code yX6_layBytes cX6_layBytes 3 none :: T0) B.pre w (List.mem_cons_of_mem _ h)
  have hown : s.vm.findClass RX6 = some m.cls := findClass_of_methodNamed B.named
  have hlocks := B.notSynchronized
  subst hsz
  have hD := hD0.self (sz := s.heap.size)
  generalize hAe : va_A [(h0, .inr (6, [.ref qt, .int 8, .ref qr, .ref qc, .ref qs, .int 0, .ref qn, .ref qp, .int 0, .int 0, .ref qm, .ref qf, .ref qx, .long 1])), (qt, .inl (kt, 1600, .inl f))] s.heap.size = A at hD ⊢
  have hA : ∀ q : Nat, s.heap.size ≤ q → A q := fun q h => by rw [← hAe]; exact Or.inr h
  have hS : va_S A s.heap s.heap [] := va_S.rf
  have hP : va_P (dC, dI) vwCl [(h0, .inr (6, [.ref qt, .int 8, .ref qr, .ref qc, .ref qs, .int 0, .ref qn, .ref qp, .int 0, .int 0, .ref qm, .ref qf, .ref qx, .long 1])), (qt, .inl (kt, 1600, .inl f))] s.heap := hP
  have hl := lv_entry ([.ref h0, .int p0]) (n := 3) (Nat.le_of_ble_eq_true rfl)
  rw [lg_entry_eq]
  generalize (lg_sl ([.ref h0, .int p0]) ++ List.replicate (3 - (lg_sl ([.ref h0, .int p0])).length) Slot.unset).toArray = ls at hl ⊢
  refine ax_gen hP hD hS (fun H locs hP hD hS => ?_)
  have hl : lv_has ls 3 [(0, .ref h0), (1, .int p0)] := hl
  refine lv_bipush (v := 24) hx hb dX6_layBytes_0 (by decide) ?_
  refine lv_istore_n (lv' := [(2, .int 24), (0, .ref h0), (1, .int p0)]) hx hb dX6_layBytes_2 rfl hl (by decide) rfl (fun ls hl => ?_)
  refine lv_iload_n hx hb dX6_layBytes_3 rfl (lv_at hl 0 rfl) ?_
  refine lv_if_lt (tgt := 36) hx hb dX6_layBytes_4 (by decide) (fun c => absurd c (by decide)) (fun _ => ?_)
  refine lv_aload_n hx hb dX6_layBytes_7 rfl (lv_at hl 1 rfl) ?_
  refine va_get (D := (dC, dI)) (ci := 6) (v := .ref qt) (C := RX6) (T := TX6) (N := 14) hx hb hts inX6 hown hK hP 0 rfl rfl 0 (by decide) (hts _ T_68) (fun _ h9 => h9) rfl dX6_layBytes_8 ?_
  refine lv_aload_n hx hb dX6_layBytes_11 rfl (lv_at hl 1 rfl) ?_
  refine va_get (D := (dC, dI)) (ci := 6) (v := .int 8) (C := RX6) (T := TX6) (N := 14) hx hb hts inX6 hown hK hP 0 rfl rfl 1 (by decide) (hts _ T_101) (fun _ h9 => h9) rfl dX6_layBytes_12 ?_
  refine lv_iload_n hx hb dX6_layBytes_15 rfl (lv_at hl 2 rfl) ?_
  refine lv_iload_n hx hb dX6_layBytes_16 rfl (lv_at hl 0 rfl) ?_
  refine lv_ishr hx hb dX6_layBytes_17 ?_
  refine lv_topi (fun v1 ev1 => ?_)
  refine lv_i2b hx hb dX6_layBytes_18 rfl ?_
  refine lv_topi (fun v2 ev2 => ?_)
  refine va_bast hx hb hK hP hD hS 1 0 rfl rfl (ax_in (by decide)) dX6_layBytes_19 (fun H locs hP hD hS => ?_)
  have hP : va_P (dC, dI) vwCl [(h0, .inr (6, [.ref qt, .int 8, .ref qr, .ref qc, .ref qs, .int 0, .ref qn, .ref qp, .int 0, .int 0, .ref qm, .ref qf, .ref qx, .long 1])), (qt, .inl (kt, 1600, .inl (upd f (8 : Int32).toNatClampNeg (vp_nar .byte v2))))] H := hP
  have hD : va_D A [(h0, .inr (6, [.ref qt, .int 8, .ref qr, .ref qc, .ref qs, .int 0, .ref qn, .ref qp, .int 0, .int 0, .ref qm, .ref qf, .ref qx, .long 1])), (qt, .inl (kt, 1600, .inl (upd f (8 : Int32).toNatClampNeg (vp_nar .byte v2))))] := hD
  obtain ⟨f3, hP, hD⟩ : ∃ f : Nat → Int32, va_P (dC, dI) vwCl [(h0, .inr (6, [.ref qt, .int 8, .ref qr, .ref qc, .ref qs, .int 0, .ref qn, .ref qp, .int 0, .int 0, .ref qm, .ref qf, .ref qx, .long 1])), (qt, .inl (kt, 1600, .inl f))] H ∧ va_D A [(h0, .inr (6, [.ref qt, .int 8, .ref qr, .ref qc, .ref qs, .int 0, .ref qn, .ref qp, .int 0, .int 0, .ref qm, .ref qf, .ref qx, .long 1])), (qt, .inl (kt, 1600, .inl f))] := ⟨_, hP, hD⟩
  refine lv_aload_n hx hb dX6_layBytes_20 rfl (lv_at hl 1 rfl) ?_
  refine lv_dup hx hb dX6_layBytes_21 rfl ?_
  refine va_get (D := (dC, dI)) (ci := 6) (v := .int 8) (C := RX6) (T := TX6) (N := 14) hx hb hts inX6 hown hK hP 0 rfl rfl 1 (by decide) (hts _ T_101) (fun _ h9 => h9) rfl dX6_layBytes_22 ?_
  refine lv_iconst (v := 1) hx hb dX6_layBytes_25 (by decide) ?_
  refine lv_iadd hx hb dX6_layBytes_26 ?_
  refine ax_eqi (y := 9) (by decide) ?_
  refine va_put (D := (dC, dI)) (ci := 6) (v := .int 9) (ty := .int) (C := RX6) (T := TX6) (N := 14) hx hb hts inX6 tyX6 tyX6_ok nmX6 hown hK hP hD hS 0 rfl rfl 1 (by decide) (hts _ T_101) (fun _ h9 => h9) rfl (by decide +kernel) rfl rfl (Nat.le_of_ble_eq_true rfl) dX6_layBytes_27 (fun H locs hP hD hS => ?_)
  have hP : va_P (dC, dI) vwCl [(h0, .inr (6, [.ref qt, .int 9, .ref qr, .ref qc, .ref qs, .int 0, .ref qn, .ref qp, .int 0, .int 0, .ref qm, .ref qf, .ref qx, .long 1])), (qt, .inl (kt, 1600, .inl f3))] H := hP
  have hD : va_D A [(h0, .inr (6, [.ref qt, .int 9, .ref qr, .ref qc, .ref qs, .int 0, .ref qn, .ref qp, .int 0, .int 0, .ref qm, .ref qf, .ref qx, .long 1])), (qt, .inl (kt, 1600, .inl f3))] := hD
  refine lv_iinc (v := 16) (lv' := [(2, .int 16), (0, .ref h0), (1, .int p0)]) hx hb dX6_layBytes_30 hl (k := 0) rfl (by decide) (by decide) rfl (fun ls hl => ?_)
  refine lv_goto (tgt := 3) hx hb dX6_layBytes_33 (by decide) ?_
  refine lv_iload_n hx hb dX6_layBytes_3 rfl (lv_at hl 0 rfl) ?_
  refine lv_if_lt (tgt := 36) hx hb dX6_layBytes_4 (by decide) (fun c => absurd c (by decide)) (fun _ => ?_)
  refine lv_aload_n hx hb dX6_layBytes_7 rfl (lv_at hl 1 rfl) ?_
  refine va_get (D := (dC, dI)) (ci := 6) (v := .ref qt) (C := RX6) (T := TX6) (N := 14) hx hb hts inX6 hown hK hP 0 rfl rfl 0 (by decide) (hts _ T_68) (fun _ h9 => h9) rfl dX6_layBytes_8 ?_
  refine lv_aload_n hx hb dX6_layBytes_11 rfl (lv_at hl 1 rfl) ?_
  refine va_get (D := (dC, dI)) (ci := 6) (v := .int 9) (C := RX6) (T := TX6) (N := 14) hx hb hts inX6 hown hK hP 0 rfl rfl 1 (by decide) (hts _ T_101) (fun _ h9 => h9) rfl dX6_layBytes_12 ?_
  refine lv_iload_n hx hb dX6_layBytes_15 rfl (lv_at hl 2 rfl) ?_
  refine lv_iload_n hx hb dX6_layBytes_16 rfl (lv_at hl 0 rfl) ?_
  refine lv_ishr hx hb dX6_layBytes_17 ?_
  refine lv_topi (fun v4 ev4 => ?_)
  refine lv_i2b hx hb dX6_layBytes_18 rfl ?_
  refine lv_topi (fun v5 ev5 => ?_)
  refine va_bast hx hb hK hP hD hS 1 0 rfl rfl (ax_in (by decide)) dX6_layBytes_19 (fun H locs hP hD hS => ?_)
  have hP : va_P (dC, dI) vwCl [(h0, .inr (6, [.ref qt, .int 9, .ref qr, .ref qc, .ref qs, .int 0, .ref qn, .ref qp, .int 0, .int 0, .ref qm, .ref qf, .ref qx, .long 1])), (qt, .inl (kt, 1600, .inl (upd f3 (9 : Int32).toNatClampNeg (vp_nar .byte v5))))] H := hP
  have hD : va_D A [(h0, .inr (6, [.ref qt, .int 9, .ref qr, .ref qc, .ref qs, .int 0, .ref qn, .ref qp, .int 0, .int 0, .ref qm, .ref qf, .ref qx, .long 1])), (qt, .inl (kt, 1600, .inl (upd f3 (9 : Int32).toNatClampNeg (vp_nar .byte v5))))] := hD
  obtain ⟨f6, hP, hD⟩ : ∃ f : Nat → Int32, va_P (dC, dI) vwCl [(h0, .inr (6, [.ref qt, .int 9, .ref qr, .ref qc, .ref qs, .int 0, .ref qn, .ref qp, .int 0, .int 0, .ref qm, .ref qf, .ref qx, .long 1])), (qt, .inl (kt, 1600, .inl f))] H ∧ va_D A [(h0, .inr (6, [.ref qt, .int 9, .ref qr, .ref qc, .ref qs, .int 0, .ref qn, .ref qp, .int 0, .int 0, .ref qm, .ref qf, .ref qx, .long 1])), (qt, .inl (kt, 1600, .inl f))] := ⟨_, hP, hD⟩
  refine lv_aload_n hx hb dX6_layBytes_20 rfl (lv_at hl 1 rfl) ?_
  refine lv_dup hx hb dX6_layBytes_21 rfl ?_
  refine va_get (D := (dC, dI)) (ci := 6) (v := .int 9) (C := RX6) (T := TX6) (N := 14) hx hb hts inX6 hown hK hP 0 rfl rfl 1 (by decide) (hts _ T_101) (fun _ h9 => h9) rfl dX6_layBytes_22 ?_
  refine lv_iconst (v := 1) hx hb dX6_layBytes_25 (by decide) ?_
  refine lv_iadd hx hb dX6_layBytes_26 ?_
  refine ax_eqi (y := 10) (by decide) ?_
  refine va_put (D := (dC, dI)) (ci := 6) (v := .int 10) (ty := .int) (C := RX6) (T := TX6) (N := 14) hx hb hts inX6 tyX6 tyX6_ok nmX6 hown hK hP hD hS 0 rfl rfl 1 (by decide) (hts _ T_101) (fun _ h9 => h9) rfl (by decide +kernel) rfl rfl (Nat.le_of_ble_eq_true rfl) dX6_layBytes_27 (fun H locs hP hD hS => ?_)
  have hP : va_P (dC, dI) vwCl [(h0, .inr (6, [.ref qt, .int 10, .ref qr, .ref qc, .ref qs, .int 0, .ref qn, .ref qp, .int 0, .int 0, .ref qm, .ref qf, .ref qx, .long 1])), (qt, .inl (kt, 1600, .inl f6))] H := hP
  have hD : va_D A [(h0, .inr (6, [.ref qt, .int 10, .ref qr, .ref qc, .ref qs, .int 0, .ref qn, .ref qp, .int 0, .int 0, .ref qm, .ref qf, .ref qx, .long 1])), (qt, .inl (kt, 1600, .inl f6))] := hD
  refine lv_iinc (v := 8) (lv' := [(2, .int 8), (0, .ref h0), (1, .int p0)]) hx hb dX6_layBytes_30 hl (k := 0) rfl (by decide) (by decide) rfl (fun ls hl => ?_)
  refine lv_goto (tgt := 3) hx hb dX6_layBytes_33 (by decide) ?_
  refine lv_iload_n hx hb dX6_layBytes_3 rfl (lv_at hl 0 rfl) ?_
  refine lv_if_lt (tgt := 36) hx hb dX6_layBytes_4 (by decide) (fun c => absurd c (by decide)) (fun _ => ?_)
  refine lv_aload_n hx hb dX6_layBytes_7 rfl (lv_at hl 1 rfl) ?_
  refine va_get (D := (dC, dI)) (ci := 6) (v := .ref qt) (C := RX6) (T := TX6) (N := 14) hx hb hts inX6 hown hK hP 0 rfl rfl 0 (by decide) (hts _ T_68) (fun _ h9 => h9) rfl dX6_layBytes_8 ?_
  refine lv_aload_n hx hb dX6_layBytes_11 rfl (lv_at hl 1 rfl) ?_
  refine va_get (D := (dC, dI)) (ci := 6) (v := .int 10) (C := RX6) (T := TX6) (N := 14) hx hb hts inX6 hown hK hP 0 rfl rfl 1 (by decide) (hts _ T_101) (fun _ h9 => h9) rfl dX6_layBytes_12 ?_
  refine lv_iload_n hx hb dX6_layBytes_15 rfl (lv_at hl 2 rfl) ?_
  refine lv_iload_n hx hb dX6_layBytes_16 rfl (lv_at hl 0 rfl) ?_
  refine lv_ishr hx hb dX6_layBytes_17 ?_
  refine lv_topi (fun v7 ev7 => ?_)
  refine lv_i2b hx hb dX6_layBytes_18 rfl ?_
  refine lv_topi (fun v8 ev8 => ?_)
  refine va_bast hx hb hK hP hD hS 1 0 rfl rfl (ax_in (by decide)) dX6_layBytes_19 (fun H locs hP hD hS => ?_)
  have hP : va_P (dC, dI) vwCl [(h0, .inr (6, [.ref qt, .int 10, .ref qr, .ref qc, .ref qs, .int 0, .ref qn, .ref qp, .int 0, .int 0, .ref qm, .ref qf, .ref qx, .long 1])), (qt, .inl (kt, 1600, .inl (upd f6 (10 : Int32).toNatClampNeg (vp_nar .byte v8))))] H := hP
  have hD : va_D A [(h0, .inr (6, [.ref qt, .int 10, .ref qr, .ref qc, .ref qs, .int 0, .ref qn, .ref qp, .int 0, .int 0, .ref qm, .ref qf, .ref qx, .long 1])), (qt, .inl (kt, 1600, .inl (upd f6 (10 : Int32).toNatClampNeg (vp_nar .byte v8))))] := hD
  obtain ⟨f9, hP, hD⟩ : ∃ f : Nat → Int32, va_P (dC, dI) vwCl [(h0, .inr (6, [.ref qt, .int 10, .ref qr, .ref qc, .ref qs, .int 0, .ref qn, .ref qp, .int 0, .int 0, .ref qm, .ref qf, .ref qx, .long 1])), (qt, .inl (kt, 1600, .inl f))] H ∧ va_D A [(h0, .inr (6, [.ref qt, .int 10, .ref qr, .ref qc, .ref qs, .int 0, .ref qn, .ref qp, .int 0, .int 0, .ref qm, .ref qf, .ref qx, .long 1])), (qt, .inl (kt, 1600, .inl f))] := ⟨_, hP, hD⟩
  refine lv_aload_n hx hb dX6_layBytes_20 rfl (lv_at hl 1 rfl) ?_
  refine lv_dup hx hb dX6_layBytes_21 rfl ?_
  refine va_get (D := (dC, dI)) (ci := 6) (v := .int 10) (C := RX6) (T := TX6) (N := 14) hx hb hts inX6 hown hK hP 0 rfl rfl 1 (by decide) (hts _ T_101) (fun _ h9 => h9) rfl dX6_layBytes_22 ?_
  refine lv_iconst (v := 1) hx hb dX6_layBytes_25 (by decide) ?_
  refine lv_iadd hx hb dX6_layBytes_26 ?_
  refine ax_eqi (y := 11) (by decide) ?_
  refine va_put (D := (dC, dI)) (ci := 6) (v := .int 11) (ty := .int) (C := RX6) (T := TX6) (N := 14) hx hb hts inX6 tyX6 tyX6_ok nmX6 hown hK hP hD hS 0 rfl rfl 1 (by decide) (hts _ T_101) (fun _ h9 => h9) rfl (by decide +kernel) rfl rfl (Nat.le_of_ble_eq_true rfl) dX6_layBytes_27 (fun H locs hP hD hS => ?_)
  have hP : va_P (dC, dI) vwCl [(h0, .inr (6, [.ref qt, .int 11, .ref qr, .ref qc, .ref qs, .int 0, .ref qn, .ref qp, .int 0, .int 0, .ref qm, .ref qf, .ref qx, .long 1])), (qt, .inl (kt, 1600, .inl f9))] H := hP
  have hD : va_D A [(h0, .inr (6, [.ref qt, .int 11, .ref qr, .ref qc, .ref qs, .int 0, .ref qn, .ref qp, .int 0, .int 0, .ref qm, .ref qf, .ref qx, .long 1])), (qt, .inl (kt, 1600, .inl f9))] := hD
  refine lv_iinc (v := 0) (lv' := [(2, .int 0), (0, .ref h0), (1, .int p0)]) hx hb dX6_layBytes_30 hl (k := 0) rfl (by decide) (by decide) rfl (fun ls hl => ?_)
  refine lv_goto (tgt := 3) hx hb dX6_layBytes_33 (by decide) ?_
  refine lv_iload_n hx hb dX6_layBytes_3 rfl (lv_at hl 0 rfl) ?_
  refine lv_if_lt (tgt := 36) hx hb dX6_layBytes_4 (by decide) (fun c => absurd c (by decide)) (fun _ => ?_)
  refine lv_aload_n hx hb dX6_layBytes_7 rfl (lv_at hl 1 rfl) ?_
  refine va_get (D := (dC, dI)) (ci := 6) (v := .ref qt) (C := RX6) (T := TX6) (N := 14) hx hb hts inX6 hown hK hP 0 rfl rfl 0 (by decide) (hts _ T_68) (fun _ h9 => h9) rfl dX6_layBytes_8 ?_
  refine lv_aload_n hx hb dX6_layBytes_11 rfl (lv_at hl 1 rfl) ?_
  refine va_get (D := (dC, dI)) (ci := 6) (v := .int 11) (C := RX6) (T := TX6) (N := 14) hx hb hts inX6 hown hK hP 0 rfl rfl 1 (by decide) (hts _ T_101) (fun _ h9 => h9) rfl dX6_layBytes_12 ?_
  refine lv_iload_n hx hb dX6_layBytes_15 rfl (lv_at hl 2 rfl) ?_
  refine lv_iload_n hx hb dX6_layBytes_16 rfl (lv_at hl 0 rfl) ?_
  refine lv_ishr hx hb dX6_layBytes_17 ?_
  refine lv_topi (fun v10 ev10 => ?_)
  refine lv_i2b hx hb dX6_layBytes_18 rfl ?_
  refine lv_topi (fun v11 ev11 => ?_)
  refine va_bast hx hb hK hP hD hS 1 0 rfl rfl (ax_in (by decide)) dX6_layBytes_19 (fun H locs hP hD hS => ?_)
  have hP : va_P (dC, dI) vwCl [(h0, .inr (6, [.ref qt, .int 11, .ref qr, .ref qc, .ref qs, .int 0, .ref qn, .ref qp, .int 0, .int 0, .ref qm, .ref qf, .ref qx, .long 1])), (qt, .inl (kt, 1600, .inl (upd f9 (11 : Int32).toNatClampNeg (vp_nar .byte v11))))] H := hP
  have hD : va_D A [(h0, .inr (6, [.ref qt, .int 11, .ref qr, .ref qc, .ref qs, .int 0, .ref qn, .ref qp, .int 0, .int 0, .ref qm, .ref qf, .ref qx, .long 1])), (qt, .inl (kt, 1600, .inl (upd f9 (11 : Int32).toNatClampNeg (vp_nar .byte v11))))] := hD
  obtain ⟨f12, hP, hD⟩ : ∃ f : Nat → Int32, va_P (dC, dI) vwCl [(h0, .inr (6, [.ref qt, .int 11, .ref qr, .ref qc, .ref qs, .int 0, .ref qn, .ref qp, .int 0, .int 0, .ref qm, .ref qf, .ref qx, .long 1])), (qt, .inl (kt, 1600, .inl f))] H ∧ va_D A [(h0, .inr (6, [.ref qt, .int 11, .ref qr, .ref qc, .ref qs, .int 0, .ref qn, .ref qp, .int 0, .int 0, .ref qm, .ref qf, .ref qx, .long 1])), (qt, .inl (kt, 1600, .inl f))] := ⟨_, hP, hD⟩
  refine lv_aload_n hx hb dX6_layBytes_20 rfl (lv_at hl 1 rfl) ?_
  refine lv_dup hx hb dX6_layBytes_21 rfl ?_
  refine va_get (D := (dC, dI)) (ci := 6) (v := .int 11) (C := RX6) (T := TX6) (N := 14) hx hb hts inX6 hown hK hP 0 rfl rfl 1 (by decide) (hts _ T_101) (fun _ h9 => h9) rfl dX6_layBytes_22 ?_
  refine lv_iconst (v := 1) hx hb dX6_layBytes_25 (by decide) ?_
  refine lv_iadd hx hb dX6_layBytes_26 ?_
  refine ax_eqi (y := 12) (by decide) ?_
  refine va_put (D := (dC, dI)) (ci := 6) (v := .int 12) (ty := .int) (C := RX6) (T := TX6) (N := 14) hx hb hts inX6 tyX6 tyX6_ok nmX6 hown hK hP hD hS 0 rfl rfl 1 (by decide) (hts _ T_101) (fun _ h9 => h9) rfl (by decide +kernel) rfl rfl (Nat.le_of_ble_eq_true rfl) dX6_layBytes_27 (fun H locs hP hD hS => ?_)
  have hP : va_P (dC, dI) vwCl [(h0, .inr (6, [.ref qt, .int 12, .ref qr, .ref qc, .ref qs, .int 0, .ref qn, .ref qp, .int 0, .int 0, .ref qm, .ref qf, .ref qx, .long 1])), (qt, .inl (kt, 1600, .inl f12))] H := hP
  have hD : va_D A [(h0, .inr (6, [.ref qt, .int 12, .ref qr, .ref qc, .ref qs, .int 0, .ref qn, .ref qp, .int 0, .int 0, .ref qm, .ref qf, .ref qx, .long 1])), (qt, .inl (kt, 1600, .inl f12))] := hD
  refine lv_iinc (v := (-8)) (lv' := [(2, .int (-8)), (0, .ref h0), (1, .int p0)]) hx hb dX6_layBytes_30 hl (k := 0) rfl (by decide) (by decide) rfl (fun ls hl => ?_)
  refine lv_goto (tgt := 3) hx hb dX6_layBytes_33 (by decide) ?_
  refine lv_iload_n hx hb dX6_layBytes_3 rfl (lv_at hl 0 rfl) ?_
  refine lv_if_lt (tgt := 36) hx hb dX6_layBytes_4 (by decide) (fun _ => ?_) (fun c => absurd (by decide) c)
  have hP9 := hP.sub (ws' := [(h0, .inr (6, [.ref qt, .int 12, .ref qr, .ref qc, .ref qs, .int 0, .ref qn, .ref qp, .int 0, .int 0, .ref qm, .ref qf, .ref qx, .long 1])), (qt, .inl (kt, 1600, .inl f12))]) [0, 1] rfl
  have hD9 := hD.sub (ws' := [(h0, .inr (6, [.ref qt, .int 12, .ref qr, .ref qc, .ref qs, .int 0, .ref qn, .ref qp, .int 0, .int 0, .ref qm, .ref qf, .ref qx, .long 1])), (qt, .inl (kt, 1600, .inl f12))]) [0, 1] (by decide) rfl
  have hK9 := hK.sub (tys' := []) [] rfl
  exact W.vret hx hb hr (fun t ht hW => ⟨⟨(), rfl, trivial, f12, by rw [ht]; exact hP9, va_K.moved hW.alike hK9, hD9⟩, hS.F ht⟩) hS.2.2 dX6_layBytes_36

set_option maxHeartbeats 4000000 in
set_option maxRecDepth 100000 in
/-- layBytes behind 12 bytes -/
theorem c_X6_layBytes_12 (l : Launch) (dC : Nat → ClassId) (dI : Nat → Nat → Nat) (sz : Nat) (h0 : Nat) (qt : Nat) (qr : Nat) (qc : Nat) (qs : Nat) (qn : Nat) (qp : Nat) (qm : Nat) (qf : Nat) (qx : Nat) (kt : ClassId) (f : Nat → Int32) (p0 : Int32) : Met l yX6_layBytes (Cond.code yX6_layBytes cX6_layBytes 3 none :: T0) ({ frames := 0, cells := 0, slots := 0, locals := 0 }) (va_Pc [.ref h0, .int p0] (ax_W dC dI sz [(h0, .inr (6, [.ref qt, .int 12, .ref qr, .ref qc, .ref qs, .int 0, .ref qn, .ref qp, .int 0, .int 0, .ref qm, .ref qf, .ref qx, .long 1])), (qt, .inl (kt, 1600, .inl f))] [(kt, .byte)])) (va_Qv (fun (_ : Unit) => True) (fun (_ : Unit) (t : State) => ∃ (f2 : Nat → Int32), va_P (dC, dI) vwCl [(h0, .inr (6, [.ref qt, .int 16, .ref qr, .ref qc, .ref qs, .int 0, .ref qn, .ref qp, .int 0, .int 0, .ref qm, .ref qf, .ref qx, .long 1])), (qt, .inl (kt, 1600, .inl f2))] t.heap ∧ va_K (dC, dI) vwCl [] t ∧ va_D (va_A [(h0, .inr (6, [.ref qt, .int 12, .ref qr, .ref qc, .ref qs, .int 0, .ref qn, .ref qp, .int 0, .int 0, .ref qm, .ref qf, .ref qx, .long 1])), (qt, .inl (kt, 1600, .inl f))] sz) [(h0, .inr (6, [.ref qt, .int 16, .ref qr, .ref qc, .ref qs, .int 0, .ref qn, .ref qp, .int 0, .int 0, .ref qm, .ref qf, .ref qx, .long 1])), (qt, .inl (kt, 1600, .inl f2))]) (va_A [(h0, .inr (6, [.ref qt, .int 12, .ref qr, .ref qc, .ref qs, .int 0, .ref qn, .ref qp, .int 0, .int 0, .ref qm, .ref qf, .ref qx, .long 1])), (qt, .inl (kt, 1600, .inl f))] sz)) 0 0 (va_A [(h0, .inr (6, [.ref qt, .int 12, .ref qr, .ref qc, .ref qs, .int 0, .ref qn, .ref qp, .int 0, .int 0, .ref qm, .ref qf, .ref qx, .long 1])), (qt, .inl (kt, 1600, .inl f))] sz) := by
  refine Met.ofW (cc := cX6_layBytes) (maxL := 3) (ret := none) (by decide) rfl ?_
  intro p e s m args below meth c s₁ B hml hv
  obtain ⟨rfl, hsz, hP, hK, hD0, hN⟩ := hv
  have hx := B.exec
  have hb := B.bytes
  have hr := B.returns
  have hts : ∀ w ∈ T0, w.before _ s = true := fun w h => atoms_spec (ws := Cond.code yX6_layBytes cX6_layBytes 3 none :: T0) B.pre w (List.mem_cons_of_mem _ h)
  have hown : s.vm.findClass RX6 = some m.cls := findClass_of_methodNamed B.named
  have hlocks := B.notSynchronized
  subst hsz
  have hD := hD0.self (sz := s.heap.size)
  generalize hAe : va_A [(h0, .inr (6, [.ref qt, .int 12, .ref qr, .ref qc, .ref qs, .int 0, .ref qn, .ref qp, .int 0, .int 0, .ref qm, .ref qf, .ref qx, .long 1])), (qt, .inl (kt, 1600, .inl f))] s.heap.size = A at hD ⊢
  have hA : ∀ q : Nat, s.heap.size ≤ q → A q := fun q h => by rw [← hAe]; exact Or.inr h
  have hS : va_S A s.heap s.heap [] := va_S.rf
  have hP : va_P (dC, dI) vwCl [(h0, .inr (6, [.ref qt, .int 12, .ref qr, .ref qc, .ref qs, .int 0, .ref qn, .ref qp, .int 0, .int 0, .ref qm, .ref qf, .ref qx, .long 1])), (qt, .inl (kt, 1600, .inl f))] s.heap := hP
  have hl := lv_entry ([.ref h0, .int p0]) (n := 3) (Nat.le_of_ble_eq_true rfl)
  rw [lg_entry_eq]
  generalize (lg_sl ([.ref h0, .int p0]) ++ List.replicate (3 - (lg_sl ([.ref h0, .int p0])).length) Slot.unset).toArray = ls at hl ⊢
  refine ax_gen hP hD hS (fun H locs hP hD hS => ?_)
  have hl : lv_has ls 3 [(0, .ref h0), (1, .int p0)] := hl
  refine lv_bipush (v := 24) hx hb dX6_layBytes_0 (by decide) ?_
  refine lv_istore_n (lv' := [(2, .int 24), (0, .ref h0), (1, .int p0)]) hx hb dX6_layBytes_2 rfl hl (by decide) rfl (fun ls hl => ?_)
  refine lv_iload_n hx hb dX6_layBytes_3 rfl (lv_at hl 0 rfl) ?_
  refine lv_if_lt (tgt := 36) hx hb dX6_layBytes_4 (by decide) (fun c => absurd c (by decide)) (fun _ => ?_)
  refine lv_aload_n hx hb dX6_layBytes_7 rfl (lv_at hl 1 rfl) ?_
  refine va_get (D := (dC, dI)) (ci := 6) (v := .ref qt) (C := RX6) (T := TX6) (N := 14) hx hb hts inX6 hown hK hP 0 rfl rfl 0 (by decide) (hts _ T_68) (fun _ h9 => h9) rfl dX6_layBytes_8 ?_
  refine lv_aload_n hx hb dX6_layBytes_11 rfl (lv_at hl 1 rfl) ?_
  refine va_get (D := (dC, dI)) (ci := 6) (v := .int 12) (C := RX6) (T := TX6) (N := 14) hx hb hts inX6 hown hK hP 0 rfl rfl 1 (by decide) (hts _ T_101) (fun _ h9 => h9) rfl dX6_layBytes_12 ?_
  refine lv_iload_n hx hb dX6_layBytes_15 rfl (lv_at hl 2 rfl) ?_
  refine lv_iload_n hx hb dX6_layBytes_16 rfl (lv_at hl 0 rfl) ?_
  refine lv_ishr hx hb dX6_layBytes_17 ?_
  refine lv_topi (fun v1 ev1 => ?_)
  refine lv_i2b hx hb dX6_layBytes_18 rfl ?_
  refine lv_topi (fun v2 ev2 => ?_)
  refine va_bast hx hb hK hP hD hS 1 0 rfl rfl (ax_in (by decide)) dX6_layBytes_19 (fun H locs hP hD hS => ?_)
  have hP : va_P (dC, dI) vwCl [(h0, .inr (6, [.ref qt, .int 12, .ref qr, .ref qc, .ref qs, .int 0, .ref qn, .ref qp, .int 0, .int 0, .ref qm, .ref qf, .ref qx, .long 1])), (qt, .inl (kt, 1600, .inl (upd f (12 : Int32).toNatClampNeg (vp_nar .byte v2))))] H := hP
  have hD : va_D A [(h0, .inr (6, [.ref qt, .int 12, .ref qr, .ref qc, .ref qs, .int 0, .ref qn, .ref qp, .int 0, .int 0, .ref qm, .ref qf, .ref qx, .long 1])), (qt, .inl (kt, 1600, .inl (upd f (12 : Int32).toNatClampNeg (vp_nar .byte v2))))] := hD
  obtain ⟨f3, hP, hD⟩ : ∃ f : Nat → Int32, va_P (dC, dI) vwCl [(h0, .inr (6, [.ref qt, .int 12, .ref qr, .ref qc, .ref qs, .int 0, .ref qn, .ref qp, .int 0, .int 0, .ref qm, .ref qf, .ref qx, .long 1])), (qt, .inl (kt, 1600, .inl f))] H ∧ va_D A [(h0, .inr (6, [.ref qt, .int 12, .ref qr, .ref qc, .ref qs, .int 0, .ref qn, .ref qp, .int 0, .int 0, .ref qm, .ref qf, .ref qx, .long 1])), (qt, .inl (kt, 1600, .inl f))] := ⟨_, hP, hD⟩
  refine lv_aload_n hx hb dX6_layBytes_20 rfl (lv_at hl 1 rfl) ?_
  refine lv_dup hx hb dX6_layBytes_21 rfl ?_
  refine va_get (D := (dC, dI)) (ci := 6) (v := .int 12) (C := RX6) (T := TX6) (N := 14) hx hb hts inX6 hown hK hP 0 rfl rfl 1 (by decide) (hts _ T_101) (fun _ h9 => h9) rfl dX6_layBytes_22 ?_
  refine lv_iconst (v := 1) hx hb dX6_layBytes_25 (by decide) ?_
  refine lv_iadd hx hb dX6_layBytes_26 ?_
  refine ax_eqi (y := 13) (by decide) ?_
  refine va_put (D := (dC, dI)) (ci := 6) (v := .int 13) (ty := .int) (C := RX6) (T := TX6) (N := 14) hx hb hts inX6 tyX6 tyX6_ok nmX6 hown hK hP hD hS 0 rfl rfl 1 (by decide) (hts _ T_101) (fun _ h9 => h9) rfl (by decide +kernel) rfl rfl (Nat.le_of_ble_eq_true rfl) dX6_layBytes_27 (fun H locs hP hD hS => ?_)
  have hP : va_P (dC, dI) vwCl [(h0, .inr (6, [.ref qt, .int 13, .ref qr, .ref qc, .ref qs, .int 0, .ref qn, .ref qp, .int 0, .int 0, .ref qm, .ref qf, .ref qx, .long 1])), (qt, .inl (kt, 1600, .inl f3))] H := hP
  have hD : va_D A [(h0, .inr (6, [.ref qt, .int 13, .ref qr, .ref qc, .ref qs, .int 0, .ref qn, .ref qp, .int 0, .int 0, .ref qm, .ref qf, .ref qx, .long 1])), (qt, .inl (kt, 1600, .inl f3))] := hD
  refine lv_iinc (v := 16) (lv' := [(2, .int 16), (0, .ref h0), (1, .int p0)]) hx hb dX6_layBytes_30 hl (k := 0) rfl (by decide) (by decide) rfl (fun ls hl => ?_)
  refine lv_goto (tgt := 3) hx hb dX6_layBytes_33 (by decide) ?_
  refine lv_iload_n hx hb dX6_layBytes_3 rfl (lv_at hl 0 rfl) ?_
  refine lv_if_lt (tgt := 36) hx hb dX6_layBytes_4 (by decide) (fun c => absurd c (by decide)) (fun _ => ?_)
  refine lv_aload_n hx hb dX6_layBytes_7 rfl (lv_at hl 1 rfl) ?_
  refine va_get (D := (dC, dI)) (ci := 6) (v := .ref qt) (C := RX6) (T := TX6) (N := 14) hx hb hts inX6 hown hK hP 0 rfl rfl 0 (by decide) (hts _ T_68) (fun _ h9 => h9) rfl dX6_layBytes_8 ?_
  refine lv_aload_n hx hb dX6_layBytes_11 rfl (lv_at hl 1 rfl) ?_
  refine va_get (D := (dC, dI)) (ci := 6) (v := .int 13) (C := RX6) (T := TX6) (N := 14) hx hb hts inX6 hown hK hP 0 rfl rfl 1 (by decide) (hts _ T_101) (fun _ h9 => h9) rfl dX6_layBytes_12 ?_
  refine lv_iload_n hx hb dX6_layBytes_15 rfl (lv_at hl 2 rfl) ?_
  refine lv_iload_n hx hb dX6_layBytes_16 rfl (lv_at hl 0 rfl) ?_
  refine lv_ishr hx hb dX6_layBytes_17 ?_
  refine lv_topi (fun v4 ev4 => ?_)
  refine lv_i2b hx hb dX6_layBytes_18 rfl ?_
  refine lv_topi (fun v5 ev5 => ?_)
  refine va_bast hx hb hK hP hD hS 1 0 rfl rfl (ax_in (by decide)) dX6_layBytes_19 (fun H locs hP hD hS => ?_)
  have hP : va_P (dC, dI) vwCl [(h0, .inr (6, [.ref qt, .int 13, .ref qr, .ref qc, .ref qs, .int 0, .ref qn, .ref qp, .int 0, .int 0, .ref qm, .ref qf, .ref qx, .long 1])), (qt, .inl (kt, 1600, .inl (upd f3 (13 : Int32).toNatClampNeg (vp_nar .byte v5))))] H := hP
  have hD : va_D A [(h0, .inr (6, [.ref qt, .int 13, .ref qr, .ref qc, .ref qs, .int 0, .ref qn, .ref qp, .int 0, .int 0, .ref qm, .ref qf, .ref qx, .long 1])), (qt, .inl (kt, 1600, .inl (upd f3 (13 : Int32).toNatClampNeg (vp_nar .byte v5))))] := hD
  obtain ⟨f6, hP, hD⟩ : ∃ f : Nat → Int32, va_P (dC, dI) vwCl [(h0, .inr (6, [.ref qt, .int 13, .ref qr, .ref qc, .ref qs, .int 0, .ref qn, .ref qp, .int 0, .int 0, .ref qm, .ref qf, .ref qx, .long 1])), (qt, .inl (kt, 1600, .inl f))] H ∧ va_D A [(h0, .inr (6, [.ref qt, .int 13, .ref qr, .ref qc, .ref qs, .int 0, .ref qn, .ref qp, .int 0, .int 0, .ref qm, .ref qf, .ref qx, .long 1])), (qt, .inl (kt, 1600, .inl f))] := ⟨_, hP, hD⟩
  refine lv_aload_n hx hb dX6_layBytes_20 rfl (lv_at hl 1 rfl) ?_
  refine lv_dup hx hb dX6_layBytes_21 rfl ?_
  refine va_get (D := (dC, dI)) (ci := 6) (v := .int 13) (C := RX6) (T := TX6) (N := 14) hx hb hts inX6 hown hK hP 0 rfl rfl 1 (by decide) (hts _ T_101) (fun _ h9 => h9) rfl dX6_layBytes_22 ?_
  refine lv_iconst (v := 1) hx hb dX6_layBytes_25 (by decide) ?_
  refine lv_iadd hx hb dX6_layBytes_26 ?_
  refine ax_eqi (y := 14) (by decide) ?_
  refine va_put (D := (dC, dI)) (ci := 6) (v := .int 14) (ty := .int) (C := RX6) (T := TX6) (N := 14) hx hb hts inX6 tyX6 tyX6_ok nmX6 hown hK hP hD hS 0 rfl rfl 1 (by decide) (hts _ T_101) (fun _ h9 => h9) rfl (by decide +kernel) rfl rfl (Nat.le_of_ble_eq_true rfl) dX6_layBytes_27 (fun H locs hP hD hS => ?_)
  have hP : va_P (dC, dI) vwCl [(h0, .inr (6, [.ref qt, .int 14, .ref qr, .ref qc, .ref qs, .int 0, .ref qn, .ref qp, .int 0, .int 0, .ref qm, .ref qf, .ref qx, .long 1])), (qt, .inl (kt, 1600, .inl f6))] H := hP
  have hD : va_D A [(h0, .inr (6, [.ref qt, .int 14, .ref qr, .ref qc, .ref qs, .int 0, .ref qn, .ref qp, .int 0, .int 0, .ref qm, .ref qf, .ref qx, .long 1])), (qt, .inl (kt, 1600, .inl f6))] := hD
  refine lv_iinc (v := 8) (lv' := [(2, .int 8), (0, .ref h0), (1, .int p0)]) hx hb dX6_layBytes_30 hl (k := 0) rfl (by decide) (by decide) rfl (fun ls hl => ?_)
  refine lv_goto (tgt := 3) hx hb dX6_layBytes_33 (by decide) ?_
  refine lv_iload_n hx hb dX6_layBytes_3 rfl (lv_at hl 0 rfl) ?_
  refine lv_if_lt (tgt := 36) hx hb dX6_layBytes_4 (by decide) (fun c => absurd c (by decide)) (fun _ => ?_)
  refine lv_aload_n hx hb dX6_layBytes_7 rfl (lv_at hl 1 rfl) ?_
  refine va_get (D := (dC, dI)) (ci := 6) (v := .ref qt) (C := RX6) (T := TX6) (N := 14) hx hb hts inX6 hown hK hP 0 rfl rfl 0 (by decide) (hts _ T_68) (fun _ h9 => h9) rfl dX6_layBytes_8 ?_
  refine lv_aload_n hx hb dX6_layBytes_11 rfl (lv_at hl 1 rfl) ?_
  refine va_get (D := (dC, dI)) (ci := 6) (v := .int 14) (C := RX6) (T := TX6) (N := 14) hx hb hts inX6 hown hK hP 0 rfl rfl 1 (by decide) (hts _ T_101) (fun _ h9 => h9) rfl dX6_layBytes_12 ?_
  refine lv_iload_n hx hb dX6_layBytes_15 rfl (lv_at hl 2 rfl) ?_
  refine lv_iload_n hx hb dX6_layBytes_16 rfl (lv_at hl 0 rfl) ?_
  refine lv_ishr hx hb dX6_layBytes_17 ?_
  refine lv_topi (fun v7 ev7 => ?_)
  refine lv_i2b hx hb dX6_layBytes_18 rfl ?_
  refine lv_topi (fun v8 ev8 => ?_)
  refine va_bast hx hb hK hP hD hS 1 0 rfl rfl (ax_in (by decide)) dX6_layBytes_19 (fun H locs hP hD hS => ?_)
  have hP : va_P (dC, dI) vwCl [(h0, .inr (6, [.ref qt, .int 14, .ref qr, .ref qc, .ref qs, .int 0, .ref qn, .ref qp, .int 0, .int 0, .ref qm, .ref qf, .ref qx, .long 1])), (qt, .inl (kt, 1600, .inl (upd f6 (14 : Int32).toNatClampNeg (vp_nar .byte v8))))] H := hP
  have hD : va_D A [(h0, .inr (6, [.ref qt, .int 14, .ref qr, .ref qc, .ref qs, .int 0, .ref qn, .ref qp, .int 0, .int 0, .ref qm, .ref qf, .ref qx, .long 1])), (qt, .inl (kt, 1600, .inl (upd f6 (14 : Int32).toNatClampNeg (vp_nar .byte v8))))] := hD
  obtain ⟨f9, hP, hD⟩ : ∃ f : Nat → Int32, va_P (dC, dI) vwCl [(h0, .inr (6, [.ref qt, .int 14, .ref qr, .ref qc, .ref qs, .int 0, .ref qn, .ref qp, .int 0, .int 0, .ref qm, .ref qf, .ref qx, .long 1])), (qt, .inl (kt, 1600, .inl f))] H ∧ va_D A [(h0, .inr (6, [.ref qt, .int 14, .ref qr, .ref qc, .ref qs, .int 0, .ref qn, .ref qp, .int 0, .int 0, .ref qm, .ref qf, .ref qx, .long 1])), (qt, .inl (kt, 1600, .inl f))] := ⟨_, hP, hD⟩
  refine lv_aload_n hx hb dX6_layBytes_20 rfl (lv_at hl 1 rfl) ?_
  refine lv_dup hx hb dX6_layBytes_21 rfl ?_
  refine va_get (D := (dC, dI)) (ci := 6) (v := .int 14) (C := RX6) (T := TX6) (N := 14) hx hb hts inX6 hown hK hP 0 rfl rfl 1 (by decide) (hts _ T_101) (fun _ h9 => h9) rfl dX6_layBytes_22 ?_
  refine lv_iconst (v := 1) hx hb dX6_layBytes_25 (by decide) ?_
  refine lv_iadd hx hb dX6_layBytes_26 ?_
  refine ax_eqi (y := 15) (by decide) ?_
  refine va_put (D := (dC, dI)) (ci := 6) (v := .int 15) (ty := .int) (C := RX6) (T := TX6) (N := 14) hx hb hts inX6 tyX6 tyX6_ok nmX6 hown hK hP hD hS 0 rfl rfl 1 (by decide) (hts _ T_101) (fun _ h9 => h9) rfl (by decide +kernel) rfl rfl (Nat.le_of_ble_eq_true rfl) dX6_layBytes_27 (fun H locs hP hD hS => ?_)
  have hP : va_P (dC, dI) vwCl [(h0, .inr (6, [.ref qt, .int 15, .ref qr, .ref qc, .ref qs, .int 0, .ref qn, .ref qp, .int 0, .int 0, .ref qm, .ref qf, .ref qx, .long 1])), (qt, .inl (kt, 1600, .inl f9))] H := hP
  have hD : va_D A [(h0, .inr (6, [.ref qt, .int 15, .ref qr, .ref qc, .ref qs, .int 0, .ref qn, .ref qp, .int 0, .int 0, .ref qm, .ref qf, .ref qx, .long 1])), (qt, .inl (kt, 1600, .inl f9))] := hD
  refine lv_iinc (v := 0) (lv' := [(2, .int 0), (0, .ref h0), (1, .int p0)]) hx hb dX6_layBytes_30 hl (k := 0) rfl (by decide) (by decide) rfl (fun ls hl => ?_)
  refine lv_goto (tgt := 3) hx hb dX6_layBytes_33 (by decide) ?_
  refine lv_iload_n hx hb dX6_layBytes_3 rfl (lv_at hl 0 rfl) ?_
  refine lv_if_lt (tgt := 36) hx hb dX6_layBytes_4 (by decide) (fun c => absurd c (by decide)) (fun _ => ?_)
  refine lv_aload_n hx hb dX6_layBytes_7 rfl (lv_at hl 1 rfl) ?_
  refine va_get (D := (dC, dI)) (ci := 6) (v := .ref qt) (C := RX6) (T := TX6) (N := 14) hx hb hts inX6 hown hK hP 0 rfl rfl 0 (by decide) (hts _ T_68) (fun _ h9 => h9) rfl dX6_layBytes_8 ?_
  refine lv_aload_n hx hb dX6_layBytes_11 rfl (lv_at hl 1 rfl) ?_
  refine va_get (D := (dC, dI)) (ci := 6) (v := .int 15) (C := RX6) (T := TX6) (N := 14) hx hb hts inX6 hown hK hP 0 rfl rfl 1 (by decide) (hts _ T_101) (fun _ h9 => h9) rfl dX6_layBytes_12 ?_
  refine lv_iload_n hx hb dX6_layBytes_15 rfl (lv_at hl 2 rfl) ?_
  refine lv_iload_n hx hb dX6_layBytes_16 rfl (lv_at hl 0 rfl) ?_
  refine lv_ishr hx hb dX6_layBytes_17 ?_
  refine lv_topi (fun v10 ev10 => ?_)
  refine lv_i2b hx hb dX6_layBytes_18 rfl ?_
  refine lv_topi (fun v11 ev11 => ?_)
  refine va_bast hx hb hK hP hD hS 1 0 rfl rfl (ax_in (by decide)) dX6_layBytes_19 (fun H locs hP hD hS => ?_)
  have hP : va_P (dC, dI) vwCl [(h0, .inr (6, [.ref qt, .int 15, .ref qr, .ref qc, .ref qs, .int 0, .ref qn, .ref qp, .int 0, .int 0, .ref qm, .ref qf, .ref qx, .long 1])), (qt, .inl (kt, 1600, .inl (upd f9 (15 : Int32).toNatClampNeg (vp_nar .byte v11))))] H := hP
  have hD : va_D A [(h0, .inr (6, [.ref qt, .int 15, .ref qr, .ref qc, .ref qs, .int 0, .ref qn, .ref qp, .int 0, .int 0, .ref qm, .ref qf, .ref qx, .long 1])), (qt, .inl (kt, 1600, .inl (upd f9 (15 : Int32).toNatClampNeg (vp_nar .byte v11))))] := hD
  obtain ⟨f12, hP, hD⟩ : ∃ f : Nat → Int32, va_P (dC, dI) vwCl [(h0, .inr (6, [.ref qt, .int 15, .ref qr, .ref qc, .ref qs, .int 0, .ref qn, .ref qp, .int 0, .int 0, .ref qm, .ref qf, .ref qx, .long 1])), (qt, .inl (kt, 1600, .inl f))] H ∧ va_D A [(h0, .inr (6, [.ref qt, .int 15, .ref qr, .ref qc, .ref qs, .int 0, .ref qn, .ref qp, .int 0, .int 0, .ref qm, .ref qf, .ref qx, .long 1])), (qt, .inl (kt, 1600, .inl f))] := ⟨_, hP, hD⟩
  refine lv_aload_n hx hb dX6_layBytes_20 rfl (lv_at hl 1 rfl) ?_
  refine lv_dup hx hb dX6_layBytes_21 rfl ?_
  refine va_get (D := (dC, dI)) (ci := 6) (v := .int 15) (C := RX6) (T := TX6) (N := 14) hx hb hts inX6 hown hK hP 0 rfl rfl 1 (by decide) (hts _ T_101) (fun _ h9 => h9) rfl dX6_layBytes_22 ?_
  refine lv_iconst (v := 1) hx hb dX6_layBytes_25 (by decide) ?_
  refine lv_iadd hx hb dX6_layBytes_26 ?_
  refine ax_eqi (y := 16) (by decide) ?_
  refine va_put (D := (dC, dI)) (ci := 6) (v := .int 16) (ty := .int) (C := RX6) (T := TX6) (N := 14) hx hb hts inX6 tyX6 tyX6_ok nmX6 hown hK hP hD hS 0 rfl rfl 1 (by decide) (hts _ T_101) (fun _ h9 => h9) rfl (by decide +kernel) rfl rfl (Nat.le_of_ble_eq_true rfl) dX6_layBytes_27 (fun H locs hP hD hS => ?_)
  have hP : va_P (dC, dI) vwCl [(h0, .inr (6, [.ref qt, .int 16, .ref qr, .ref qc, .ref qs, .int 0, .ref qn, .ref qp, .int 0, .int 0, .ref qm, .ref qf, .ref qx, .long 1])), (qt, .inl (kt, 1600, .inl f12))] H := hP
  have hD : va_D A [(h0, .inr (6, [.ref qt, .int 16, .ref qr, .ref qc, .ref qs, .int 0, .ref qn, .ref qp, .int 0, .int 0, .ref qm, .ref qf, .ref qx, .long 1])), (qt, .inl (kt, 1600, .inl f12))] := hD
  refine lv_iinc (v := (-8)) (lv' := [(2, .int (-8)), (0, .ref h0), (1, .int p0)]) hx hb dX6_layBytes_30 hl (k := 0) rfl (by decide) (by decide) rfl (fun ls hl => ?_)
  refine lv_goto (tgt := 3) hx hb dX6_layBytes_33 (by decide) ?_
  refine lv_iload_n hx hb dX6_layBytes_3 rfl (lv_at hl 0 rfl) ?_
  refine lv_if_lt (tgt := 36) hx hb dX6_layBytes_4 (by decide) (fun _ => ?_) (fun c => absurd (by decide) c)
  have hP9 := hP.sub (ws' := [(h0, .inr (6, [.ref qt, .int 16, .ref qr, .ref qc, .ref qs, .int 0, .ref qn, .ref qp, .int 0, .int 0, .ref qm, .ref qf, .ref qx, .long 1])), (qt, .inl (kt, 1600, .inl f12))]) [0, 1] rfl
  have hD9 := hD.sub (ws' := [(h0, .inr (6, [.ref qt, .int 16, .ref qr, .ref qc, .ref qs, .int 0, .ref qn, .ref qp, .int 0, .int 0, .ref qm, .ref qf, .ref qx, .long 1])), (qt, .inl (kt, 1600, .inl f12))]) [0, 1] (by decide) rfl
  have hK9 := hK.sub (tys' := []) [] rfl
  exact W.vret hx hb hr (fun t ht hW => ⟨⟨(), rfl, trivial, f12, by rw [ht]; exact hP9, va_K.moved hW.alike hK9, hD9⟩, hS.F ht⟩) hS.2.2 dX6_layBytes_36

set_option maxHeartbeats 4000000 in
set_option maxRecDepth 100000 in
/-- layBytes behind 16 bytes -/
theorem c_X6_layBytes_16 (l : Launch) (dC : Nat → ClassId) (dI : Nat → Nat → Nat) (sz : Nat) (h0 : Nat) (qt : Nat) (qr : Nat) (qc : Nat) (qs : Nat) (qn : Nat) (qp : Nat) (qm : Nat) (qf : Nat) (qx : Nat) (kt : ClassId) (f : Nat → Int32) (p0 : Int32) : Met l yX6_layBytes (Cond.code yX6_layBytes cX6_layBytes 3 none :: T0) ({ frames := 0, cells := 0, slots := 0, locals := 0 }) (va_Pc [.ref h0, .int p0] (ax_W dC dI sz [(h0, .inr (6, [.ref qt, .int 16, .ref qr, .ref qc, .ref qs, .int 0, .ref qn, .ref qp, .int 0, .int 0, .ref qm, .ref qf, .ref qx, .long 1])), (qt, .inl (kt, 1600, .inl f))] [(kt, .byte)])) (va_Qv (fun (_ : Unit) => True) (fun (_ : Unit) (t : State) => ∃ (f2 : Nat → Int32), va_P (dC, dI) vwCl [(h0, .inr (6, [.ref qt, .int 20, .ref qr, .ref qc, .ref qs, .int 0, .ref qn, .ref qp, .int 0, .int 0, .ref qm, .ref qf, .ref qx, .long 1])), (qt, .inl (kt, 1600, .inl f2))] t.heap ∧ va_K (dC, dI) vwCl [] t ∧ va_D (va_A [(h0, .inr (6, [.ref qt, .int 16, .ref qr, .ref qc, .ref qs, .int 0, .ref qn, .ref qp, .int 0, .int 0, .ref qm, .ref qf, .ref qx, .long 1])), (qt, .inl (kt, 1600, .inl f))] sz) [(h0, .inr (6, [.ref qt, .int 20, .ref qr, .ref qc, .ref qs, .int 0, .ref qn, .ref qp, .int 0, .int 0, .ref qm, .ref qf, .ref qx, .long 1])), (qt, .inl (kt, 1600, .inl f2))]) (va_A [(h0, .inr (6, [.ref qt, .int 16, .ref qr, .ref qc, .ref qs, .int 0, .ref qn, .ref qp, .int 0, .int 0, .ref qm, .ref qf, .ref qx, .long 1])), (qt, .inl (kt, 1600, .inl f))] sz)) 0 0 (va_A [(h0, .inr (6, [.ref qt, .int 16, .ref qr, .ref qc, .ref qs, .int 0, .ref qn, .ref qp, .int 0, .int 0, .ref qm, .ref qf, .ref qx, .long 1])), (qt, .inl (kt, 1600, .inl f))] sz) := by
  refine Met.ofW (cc := cX6_layBytes) (maxL := 3) (ret := none) (by decide) rfl ?_
  intro p e s m args below meth c s₁ B hml hv
  obtain ⟨rfl, hsz, hP, hK, hD0, hN⟩ := hv
  have hx := B.exec
  have hb := B.bytes
  have hr := B.returns
  have hts : ∀ w ∈ T0, w.before _ s = true := fun w h => atoms_spec (ws := Cond.code yX6_layBytes cX6_layBytes 3 none :: T0) B.pre w (List.mem_cons_of_mem _ h)
  have hown : s.vm.findClass RX6 = some m.cls := findClass_of_methodNamed B.named
  have hlocks := B.notSynchronized
  subst hsz
  have hD := hD0.self (sz := s.heap.size)
  generalize hAe : va_A [(h0, .inr (6, [.ref qt, .int 16, .ref qr, .ref qc, .ref qs, .int 0, .ref qn, .ref qp, .int 0, .int 0, .ref qm, .ref qf, .ref qx, .long 1])), (qt, .inl (kt, 1600, .inl f))] s.heap.size = A at hD ⊢
  have hA : ∀ q : Nat, s.heap.size ≤ q → A q := fun q h => by rw [← hAe]; exact Or.inr h
  have hS : va_S A s.heap s.heap [] := va_S.rf
  have hP : va_P (dC, dI) vwCl [(h0, .inr (6, [.ref qt, .int 16, .ref qr, .ref qc, .ref qs, .int 0, .ref qn, .ref qp, .int 0, .int 0, .ref qm, .ref qf, .ref qx, .long 1])), (qt, .inl (kt, 1600, .inl f))] s.heap := hP
  have hl := lv_entry ([.ref h0, .int p0]) (n := 3) (Nat.le_of_ble_eq_true rfl)
  rw [lg_entry_eq]
  generalize (lg_sl ([.ref h0, .int p0]) ++ List.replicate (3 - (lg_sl ([.ref h0, .int p0])).length) Slot.unset).toArray = ls at hl ⊢
  refine ax_gen hP hD hS (fun H locs hP hD hS => ?_)
  have hl : lv_has ls 3 [(0, .ref h0), (1, .int p0)] := hl
  refine lv_bipush (v := 24) hx hb dX6_layBytes_0 (by decide) ?_
  refine lv_istore_n (lv' := [(2, .int 24), (0, .ref h0), (1, .int p0)]) hx hb dX6_layBytes_2 rfl hl (by decide) rfl (fun ls hl => ?_)
  refine lv_iload_n hx hb dX6_layBytes_3 rfl (lv_at hl 0 rfl) ?_
  refine lv_if_lt (tgt := 36) hx hb dX6_layBytes_4 (by decide) (fun c => absurd c (by decide)) (fun _ => ?_)
  refine lv_aload_n hx hb dX6_layBytes_7 rfl (lv_at hl 1 rfl) ?_
  refine va_get (D := (dC, dI)) (ci := 6) (v := .ref qt) (C := RX6) (T := TX6) (N := 14) hx hb hts inX6 hown hK hP 0 rfl rfl 0 (by decide) (hts _ T_68) (fun _ h9 => h9) rfl dX6_layBytes_8 ?_
  refine lv_aload_n hx hb dX6_layBytes_11 rfl (lv_at hl 1 rfl) ?_
  refine va_get (D := (dC, dI)) (ci := 6) (v := .int 16) (C := RX6) (T := TX6) (N := 14) hx hb hts inX6 hown hK hP 0 rfl rfl 1 (by decide) (hts _ T_101) (fun _ h9 => h9) rfl dX6_layBytes_12 ?_
  refine lv_iload_n hx hb dX6_layBytes_15 rfl (lv_at hl 2 rfl) ?_
  refine lv_iload_n hx hb dX6_layBytes_16 rfl (lv_at hl 0 rfl) ?_
  refine lv_ishr hx hb dX6_layBytes_17 ?_
  refine lv_topi (fun v1 ev1 => ?_)
  refine lv_i2b hx hb dX6_layBytes_18 rfl ?_
  refine lv_topi (fun v2 ev2 => ?_)
  refine va_bast hx hb hK hP hD hS 1 0 rfl rfl (ax_in (by decide)) dX6_layBytes_19 (fun H locs hP hD hS => ?_)
  have hP : va_P (dC, dI) vwCl [(h0, .inr (6, [.ref qt, .int 16, .ref qr, .ref qc, .ref qs, .int 0, .ref qn, .ref qp, .int 0, .int 0, .ref qm, .ref qf, .ref qx, .long 1])), (qt, .inl (kt, 1600, .inl (upd f (16 : Int32).toNatClampNeg (vp_nar .byte v2))))] H := hP
  have hD : va_D A [(h0, .inr (6, [.ref qt, .int 16, .ref qr, .ref qc, .ref qs, .int 0, .ref qn, .ref qp, .int 0, .int 0, .ref qm, .ref qf, .ref qx, .long 1])), (qt, .inl (kt, 1600, .inl (upd f (16 : Int32).toNatClampNeg (vp_nar .byte v2))))] := hD
  obtain ⟨f3, hP, hD⟩ : ∃ f : Nat → Int32, va_P (dC, dI) vwCl [(h0, .inr (6, [.ref qt, .int 16, .ref qr, .ref qc, .ref qs, .int 0, .ref qn, .ref qp, .int 0, .int 0, .ref qm, .ref qf, .ref qx, .long 1])), (qt, .inl (kt, 1600, .inl f))] H ∧ va_D A [(h0, .inr (6, [.ref qt, .int 16, .ref qr, .ref qc, .ref qs, .int 0, .ref qn, .ref qp, .int 0, .int 0, .ref qm, .ref qf, .ref qx, .long 1])), (qt, .inl (kt, 1600, .inl f))] := ⟨_, hP, hD⟩
  refine lv_aload_n hx hb dX6_layBytes_20 rfl (lv_at hl 1 rfl) ?_
  refine lv_dup hx hb dX6_layBytes_21 rfl ?_
  refine va_get (D := (dC, dI)) (ci := 6) (v := .int 16) (C := RX6) (T := TX6) (N := 14) hx hb hts inX6 hown hK hP 0 rfl rfl 1 (by decide) (hts _ T_101) (fun _ h9 => h9) rfl dX6_layBytes_22 ?_
  refine lv_iconst (v := 1) hx hb dX6_layBytes_25 (by decide) ?_
  refine lv_iadd hx hb dX6_layBytes_26 ?_
  refine ax_eqi (y := 17) (by decide) ?_
  refine va_put (D := (dC, dI)) (ci := 6) (v := .int 17) (ty := .int) (C := RX6) (T := TX6) (N := 14) hx hb hts inX6 tyX6 tyX6_ok nmX6 hown hK hP hD hS 0 rfl rfl 1 (by decide) (hts _ T_101) (fun _ h9 => h9) rfl (by decide +kernel) rfl rfl (Nat.le_of_ble_eq_true rfl) dX6_layBytes_27 (fun H locs hP hD hS => ?_)
  have hP : va_P (dC, dI) vwCl [(h0, .inr (6, [.ref qt, .int 17, .ref qr, .ref qc, .ref qs, .int 0, .ref qn, .ref qp, .int 0, .int 0, .ref qm, .ref qf, .ref qx, .long 1])), (qt, .inl (kt, 1600, .inl f3))] H := hP
  have hD : va_D A [(h0, .inr (6, [.ref qt, .int 17, .ref qr, .ref qc, .ref qs, .int 0, .ref qn, .ref qp, .int 0, .int 0, .ref qm, .ref qf, .ref qx, .long 1])), (qt, .inl (kt, 1600, .inl f3))] := hD
  refine lv_iinc (v := 16) (lv' := [(2, .int 16), (0, .ref h0), (1, .int p0)]) hx hb dX6_layBytes_30 hl (k := 0) rfl (by decide) (by decide) rfl (fun ls hl => ?_)
  refine lv_goto (tgt := 3) hx hb dX6_layBytes_33 (by decide) ?_
  refine lv_iload_n hx hb dX6_layBytes_3 rfl (lv_at hl 0 rfl) ?_
  refine lv_if_lt (tgt := 36) hx hb dX6_layBytes_4 (by decide) (fun c => absurd c (by decide)) (fun _ => ?_)
  refine lv_aload_n hx hb dX6_layBytes_7 rfl (lv_at hl 1 rfl) ?_
  refine va_get (D := (dC, dI)) (ci := 6) (v := .ref qt) (C := RX6) (T := TX6) (N := 14) hx hb hts inX6 hown hK hP 0 rfl rfl 0 (by decide) (hts _ T_68) (fun _ h9 => h9) rfl dX6_layBytes_8 ?_
  refine lv_aload_n hx hb dX6_layBytes_11 rfl (lv_at hl 1 rfl) ?_
  refine va_get (D := (dC, dI)) (ci := 6) (v := .int 17) (C := RX6) (T := TX6) (N := 14) hx hb hts inX6 hown hK hP 0 rfl rfl 1 (by decide) (hts _ T_101) (fun _ h9 => h9) rfl dX6_layBytes_12 ?_
  refine lv_iload_n hx hb dX6_layBytes_15 rfl (lv_at hl 2 rfl) ?_
  refine lv_iload_n hx hb dX6_layBytes_16 rfl (lv_at hl 0 rfl) ?_
  refine lv_ishr hx hb dX6_layBytes_17 ?_
  refine lv_topi (fun v4 ev4 => ?_)
  refine lv_i2b hx hb dX6_layBytes_18 rfl ?_
  refine lv_topi (fun v5 ev5 => ?_)
  refine va_bast hx hb hK hP hD hS 1 0 rfl rfl (ax_in (by decide)) dX6_layBytes_19 (fun H locs hP hD hS => ?_)
  have hP : va_P (dC, dI) vwCl [(h0, .inr (6, [.ref qt, .int 17, .ref qr, .ref qc, .ref qs, .int 0, .ref qn, .ref qp, .int 0, .int 0, .ref qm, .ref qf, .ref qx, .long 1])), (qt, .inl (kt, 1600, .inl (upd f3 (17 : Int32).toNatClampNeg (vp_nar .byte v5))))] H := hP
  have hD : va_D A [(h0, .inr (6, [.ref qt, .int 17, .ref qr, .ref qc, .ref qs, .int 0, .ref qn, .ref qp, .int 0, .int 0, .ref qm, .ref qf, .ref qx, .long 1])), (qt, .inl (kt, 1600, .inl (upd f3 (17 : Int32).toNatClampNeg (vp_nar .byte v5))))] := hD
  obtain ⟨f6, hP, hD⟩ : ∃ f : Nat → Int32, va_P (dC, dI) vwCl [(h0, .inr (6, [.ref qt, .int 17, .ref qr, .ref qc, .ref qs, .int 0, .ref qn, .ref qp, .int 0, .int 0, .ref qm, .ref qf, .ref qx, .long 1])), (qt, .inl (kt, 1600, .inl f))] H ∧ va_D A [(h0, .inr (6, [.ref qt, .int 17, .ref qr, .ref qc, .ref qs, .int 0, .ref qn, .ref qp, .int 0, .int 0, .ref qm, .ref qf, .ref qx, .long 1])), (qt, .inl (kt, 1600, .inl f))] := ⟨_, hP, hD⟩
  refine lv_aload_n hx hb dX6_layBytes_20 rfl (lv_at hl 1 rfl) ?_
  refine lv_dup hx hb dX6_layBytes_21 rfl ?_
  refine va_get (D := (dC, dI)) (ci := 6) (v := .int 17) (C := RX6) (T := TX6) (N := 14) hx hb hts inX6 hown hK hP 0 rfl rfl 1 (by decide) (hts _ T_101) (fun _ h9 => h9) rfl dX6_layBytes_22 ?_
  refine lv_iconst (v := 1) hx hb dX6_layBytes_25 (by decide) ?_
  refine lv_iadd hx hb dX6_layBytes_26 ?_
  refine ax_eqi (y := 18) (by decide) ?_
  refine va_put (D := (dC, dI)) (ci := 6) (v := .int 18) (ty := .int) (C := RX6) (T := TX6) (N := 14) hx hb hts inX6 tyX6 tyX6_ok nmX6 hown hK hP hD hS 0 rfl rfl 1 (by decide) (hts _ T_101) (fun _ h9 => h9) rfl (by decide +kernel) rfl rfl (Nat.le_of_ble_eq_true rfl) dX6_layBytes_27 (fun H locs hP hD hS => ?_)
  have hP : va_P (dC, dI) vwCl [(h0, .inr (6, [.ref qt, .int 18, .ref qr, .ref qc, .ref qs, .int 0, .ref qn, .ref qp, .int 0, .int 0, .ref qm, .ref qf, .ref qx, .long 1])), (qt, .inl (kt, 1600, .inl f6))] H := hP
  have hD : va_D A [(h0, .inr (6, [.ref qt, .int 18, .ref qr, .ref qc, .ref qs, .int 0, .ref qn, .ref qp, .int 0, .int 0, .ref qm, .ref qf, .ref qx, .long 1])), (qt, .inl (kt, 1600, .inl f6))] := hD
  refine lv_iinc (v := 8) (lv' := [(2, .int 8), (0, .ref h0), (1, .int p0)]) hx hb dX6_layBytes_30 hl (k := 0) rfl (by decide) (by decide) rfl (fun ls hl => ?_)
  refine lv_goto (tgt := 3) hx hb dX6_layBytes_33 (by decide) ?_
  refine lv_iload_n hx hb dX6_layBytes_3 rfl (lv_at hl 0 rfl) ?_
  refine lv_if_lt (tgt := 36) hx hb dX6_layBytes_4 (by decide) (fun c => absurd c (by decide)) (fun _ => ?_)
  refine lv_aload_n hx hb dX6_layBytes_7 rfl (lv_at hl 1 rfl) ?_
  refine va_get (D := (dC, dI)) (ci := 6) (v := .ref qt) (C := RX6) (T := TX6) (N := 14) hx hb hts inX6 hown hK hP 0 rfl rfl 0 (by decide) (hts _ T_68) (fun _ h9 => h9) rfl dX6_layBytes_8 ?_
  refine lv_aload_n hx hb dX6_layBytes_11 rfl (lv_at hl 1 rfl) ?_
  refine va_get (D := (dC, dI)) (ci := 6) (v := .int 18) (C := RX6) (T := TX6) (N := 14) hx hb hts inX6 hown hK hP 0 rfl rfl 1 (by decide) (hts _ T_101) (fun _ h9 => h9) rfl dX6_layBytes_12 ?_
  refine lv_iload_n hx hb dX6_layBytes_15 rfl (lv_at hl 2 rfl) ?_
  refine lv_iload_n hx hb dX6_layBytes_16 rfl (lv_at hl 0 rfl) ?_
  refine lv_ishr hx hb dX6_layBytes_17 ?_
  refine lv_topi (fun v7 ev7 => ?_)
  refine lv_i2b hx hb dX6_layBytes_18 rfl ?_
  refine lv_topi (fun v8 ev8 => ?_)
  refine va_bast hx hb hK hP hD hS 1 0 rfl rfl (ax_in (by decide)) dX6_layBytes_19 (fun H locs hP hD hS => ?_)
  have hP : va_P (dC, dI) vwCl [(h0, .inr (6, [.ref qt, .int 18, .ref qr, .ref qc, .ref qs, .int 0, .ref qn, .ref qp, .int 0, .int 0, .ref qm, .ref qf, .ref qx, .long 1])), (qt, .inl (kt, 1600, .inl (upd f6 (18 : Int32).toNatClampNeg (vp_nar .byte v8))))] H := hP
  have hD : va_D A [(h0, .inr (6, [.ref qt, .int 18, .ref qr, .ref qc, .ref qs, .int 0, .ref qn, .ref qp, .int 0, .int 0, .ref qm, .ref qf, .ref qx, .long 1])), (qt, .inl (kt, 1600, .inl (upd f6 (18 : Int32).toNatClampNeg (vp_nar .byte v8))))] := hD
  obtain ⟨f9, hP, hD⟩ : ∃ f : Nat → Int32, va_P (dC, dI) vwCl [(h0, .inr (6, [.ref qt, .int 18, .ref qr, .ref qc, .ref qs, .int 0, .ref qn, .ref qp, .int 0, .int 0, .ref qm, .ref qf, .ref qx, .long 1])), (qt, .inl (kt, 1600, .inl f))] H ∧ va_D A [(h0, .inr (6, [.ref qt, .int 18, .ref qr, .ref qc, .ref qs, .int 0, .ref qn, .ref qp, .int 0, .int 0, .ref qm, .ref qf, .ref qx, .long 1])), (qt, .inl (kt, 1600, .inl f))] := ⟨_, hP, hD⟩
  refine lv_aload_n hx hb dX6_layBytes_20 rfl (lv_at hl 1 rfl) ?_
  refine lv_dup hx hb dX6_layBytes_21 rfl ?_
  refine va_get (D := (dC, dI)) (ci := 6) (v := .int 18) (C := RX6) (T := TX6) (N := 14) hx hb hts inX6 hown hK hP 0 rfl rfl 1 (by decide) (hts _ T_101) (fun _ h9 => h9) rfl dX6_layBytes_22 ?_
  refine lv_iconst (v := 1) hx hb dX6_layBytes_25 (by decide) ?_
  refine lv_iadd hx hb dX6_layBytes_26 ?_
  refine ax_eqi (y := 19) (by decide) ?_
  refine va_put (D := (dC, dI)) (ci := 6) (v := .int 19) (ty := .int) (C := RX6) (T := TX6) (N := 14) hx hb hts inX6 tyX6 tyX6_ok nmX6 hown hK hP hD hS 0 rfl rfl 1 (by decide) (hts _ T_101) (fun _ h9 => h9) rfl (by decide +kernel) rfl rfl (Nat.le_of_ble_eq_true rfl) dX6_layBytes_27 (fun H locs hP hD hS => ?_)
  have hP : va_P (dC, dI) vwCl [(h0, .inr (6, [.ref qt, .int 19, .ref qr, .ref qc, .ref qs, .int 0, .ref qn, .ref qp, .int 0, .int 0, .ref qm, .ref qf, .ref qx, .long 1])), (qt, .inl (kt, 1600, .inl f9))] H := hP
  have hD : va_D A [(h0, .inr (6, [.ref qt, .int 19, .ref qr, .ref qc, .ref qs, .int 0, .ref qn, .ref qp, .int 0, .int 0, .ref qm, .ref qf, .ref qx, .long 1])), (qt, .inl (kt, 1600, .inl f9))] := hD
  refine lv_iinc (v := 0) (lv' := [(2, .int 0), (0, .ref h0), (1, .int p0)]) hx hb dX6_layBytes_30 hl (k := 0) rfl (by decide) (by decide) rfl (fun ls hl => ?_)
  refine lv_goto (tgt := 3) hx hb dX6_layBytes_33 (by decide) ?_
  refine lv_iload_n hx hb dX6_layBytes_3 rfl (lv_at hl 0 rfl) ?_
  refine lv_if_lt (tgt := 36) hx hb dX6_layBytes_4 (by decide) (fun c => absurd c (by decide)) (fun _ => ?_)
  refine lv_aload_n hx hb dX6_layBytes_7 rfl (lv_at hl 1 rfl) ?_
  refine va_get (D := (dC, dI)) (ci := 6) (v := .ref qt) (C := RX6) (T := TX6) (N := 14) hx hb hts inX6 hown hK hP 0 rfl rfl 0 (by decide) (hts _ T_68) (fun _ h9 => h9) rfl dX6_layBytes_8 ?_
  refine lv_aload_n hx hb dX6_layBytes_11 rfl (lv_at hl 1 rfl) ?_
  refine va_get (D := (dC, dI)) (ci := 6) (v := .int 19) (C := RX6) (T := TX6) (N := 14) hx hb hts inX6 hown hK hP 0 rfl rfl 1 (by decide) (hts _ T_101) (fun _ h9 => h9) rfl dX6_layBytes_12 ?_
  refine lv_iload_n hx hb dX6_layBytes_15 rfl (lv_at hl 2 rfl) ?_
  refine lv_iload_n hx hb dX6_layBytes_16 rfl (lv_at hl 0 rfl) ?_
  refine lv_ishr hx hb dX6_layBytes_17 ?_
  refine lv_topi (fun v10 ev10 => ?_)
  refine lv_i2b hx hb dX6_layBytes_18 rfl ?_
  refine lv_topi (fun v11 ev11 => ?_)
  refine va_bast hx hb hK hP hD hS 1 0 rfl rfl (ax_in (by decide)) dX6_layBytes_19 (fun H locs hP hD hS => ?_)
  have hP : va_P (dC, dI) vwCl [(h0, .inr (6, [.ref qt, .int 19, .ref qr, .ref qc, .ref qs, .int 0, .ref qn, .ref qp, .int 0, .int 0, .ref qm, .ref qf, .ref qx, .long 1])), (qt, .inl (kt, 1600, .inl (upd f9 (19 : Int32).toNatClampNeg (vp_nar .byte v11))))] H := hP
  have hD : va_D A [(h0, .inr (6, [.ref qt, .int 19, .ref qr, .ref qc, .ref qs, .int 0, .ref qn, .ref qp, .int 0, .int 0, .ref qm, .ref qf, .ref qx, .long 1])), (qt, .inl (kt, 1600, .inl (upd f9 (19 : Int32).toNatClampNeg (vp_nar .byte v11))))] := hD
  obtain ⟨f12, hP, hD⟩ : ∃ f : Nat → Int32, va_P (dC, dI) vwCl [(h0, .inr (6, [.ref qt, .int 19, .ref qr, .ref qc, .ref qs, .int 0, .ref qn, .ref qp, .int 0, .int 0, .ref qm, .ref qf, .ref qx, .long 1])), (qt, .inl (kt, 1600, .inl f))] H ∧ va_D A [(h0, .inr (6, [.ref qt, .int 19, .ref qr, .ref qc, .ref qs, .int 0, .ref qn, .ref qp, .int 0, .int 0, .ref qm, .ref qf, .ref qx, .long 1])), (qt, .inl (kt, 1600, .inl f))] := ⟨_, hP, hD⟩
  refine lv_aload_n hx hb dX6_layBytes_20 rfl (lv_at hl 1 rfl) ?_
  refine lv_dup hx hb dX6_layBytes_21 rfl ?_
  refine va_get (D := (dC, dI)) (ci := 6) (v := .int 19) (C := RX6) (T := TX6) (N := 14) hx hb hts inX6 hown hK hP 0 rfl rfl 1 (by decide) (hts _ T_101) (fun _ h9 => h9) rfl dX6_layBytes_22 ?_
  refine lv_iconst (v := 1) hx hb dX6_layBytes_25 (by decide) ?_
  refine lv_iadd hx hb dX6_layBytes_26 ?_
  refine ax_eqi (y := 20) (by decide) ?_
  refine va_put (D := (dC, dI)) (ci := 6) (v := .int 20) (ty := .int) (C := RX6) (T := TX6) (N := 14) hx hb hts inX6 tyX6 tyX6_ok nmX6 hown hK hP hD hS 0 rfl rfl 1 (by decide) (hts _ T_101) (fun _ h9 => h9) rfl (by decide +kernel) rfl rfl (Nat.le_of_ble_eq_true rfl) dX6_layBytes_27 (fun H locs hP hD hS => ?_)
  have hP : va_P (dC, dI) vwCl [(h0, .inr (6, [.ref qt, .int 20, .ref qr, .ref qc, .ref qs, .int 0, .ref qn, .ref qp, .int 0, .int 0, .ref qm, .ref qf, .ref qx, .long 1])), (qt, .inl (kt, 1600, .inl f12))] H := hP
  have hD : va_D A [(h0, .inr (6, [.ref qt, .int 20, .ref qr, .ref qc, .ref qs, .int 0, .ref qn, .ref qp, .int 0, .int 0, .ref qm, .ref qf, .ref qx, .long 1])), (qt, .inl (kt, 1600, .inl f12))] := hD
  refine lv_iinc (v := (-8)) (lv' := [(2, .int (-8)), (0, .ref h0), (1, .int p0)]) hx hb dX6_layBytes_30 hl (k := 0) rfl (by decide) (by decide) rfl (fun ls hl => ?_)
  refine lv_goto (tgt := 3) hx hb dX6_layBytes_33 (by decide) ?_
  refine lv_iload_n hx hb dX6_layBytes_3 rfl (lv_at hl 0 rfl) ?_
  refine lv_if_lt (tgt := 36) hx hb dX6_layBytes_4 (by decide) (fun _ => ?_) (fun c => absurd (by decide) c)
  have hP9 := hP.sub (ws' := [(h0, .inr (6, [.ref qt, .int 20, .ref qr, .ref qc, .ref qs, .int 0, .ref qn, .ref qp, .int 0, .int 0, .ref qm, .ref qf, .ref qx, .long 1])), (qt, .inl (kt, 1600, .inl f12))]) [0, 1] rfl
  have hD9 := hD.sub (ws' := [(h0, .inr (6, [.ref qt, .int 20, .ref qr, .ref qc, .ref qs, .int 0, .ref qn, .ref qp, .int 0, .int 0, .ref qm, .ref qf, .ref qx, .long 1])), (qt, .inl (kt, 1600, .inl f12))]) [0, 1] (by decide) rfl
  have hK9 := hK.sub (tys' := []) [] rfl
  exact W.vret hx hb hr (fun t ht hW => ⟨⟨(), rfl, trivial, f12, by rw [ht]; exact hP9, va_K.moved hW.alike hK9, hD9⟩, hS.F ht⟩) hS.2.2 dX6_layBytes_36
end
section
set_option maxHeartbeats 4000000 in
set_option maxRecDepth 100000 in
/-- feed: 20 -/
theorem c_X6_feed (l : Launch) (dC : Nat → ClassId) (dI : Nat → Nat → Nat) (sz : Nat) (h0 : Nat) (qt : Nat) (qr : Nat) (qc : Nat) (qs : Nat) (qn : Nat) (qp : Nat) (qm : Nat) (qf : Nat) (qx : Nat) (kt : ClassId) (p0 : Int32) (p1 : Int32) (p2 : Int32) (p3 : Int32) (p4 : Int32) : Met l yX6_feed (Cond.code yX6_feed cX6_feed 6 (some .int) :: T0) ({ frames := 1, cells := 0, slots := 0, locals := 22 }) (va_Pc [.ref h0, .int p0, .int p1, .int p2, .int p3, .int p4] (ax_W dC dI sz [(h0, .inr (6, [.ref qt, .int 0, .ref qr, .ref qc, .ref qs, .int 0, .ref qn, .ref qp, .int 0, .int 0, .ref qm, .ref qf, .ref qx, .long 1])), (qt, .inl (kt, 1600, .inl (fun _ => 0)))] [(kt, .byte)])) (va_Qi (fun (r : Int32) (_ : Unit) => r = 20) (fun (_ : Unit) (t : State) => va_P (dC, dI) vwCl [] t.heap ∧ va_K (dC, dI) vwCl [] t ∧ va_D (va_A [(h0, .inr (6, [.ref qt, .int 0, .ref qr, .ref qc, .ref qs, .int 0, .ref qn, .ref qp, .int 0, .int 0, .ref qm, .ref qf, .ref qx, .long 1])), (qt, .inl (kt, 1600, .inl (fun _ => 0)))] sz) []) (va_A [(h0, .inr (6, [.ref qt, .int 0, .ref qr, .ref qc, .ref qs, .int 0, .ref qn, .ref qp, .int 0, .int 0, .ref qm, .ref qf, .ref qx, .long 1])), (qt, .inl (kt, 1600, .inl (fun _ => 0)))] sz)) 0 0 (va_A [(h0, .inr (6, [.ref qt, .int 0, .ref qr, .ref qc, .ref qs, .int 0, .ref qn, .ref qp, .int 0, .int 0, .ref qm, .ref qf, .ref qx, .long 1])), (qt, .inl (kt, 1600, .inl (fun _ => 0)))] sz) := by
  refine Met.ofW (cc := cX6_feed) (maxL := 6) (ret := (some .int)) (by decide) rfl ?_
  intro p e s m args below meth c s₁ B hml hv
  obtain ⟨rfl, hsz, hP, hK, hD0, hN⟩ := hv
  have hx := B.exec
  have hb := B.bytes
  have hr := B.returns
  have hts : ∀ w ∈ T0, w.before _ s = true := fun w h => atoms_spec (ws := Cond.code yX6_feed cX6_feed 6 (some .int) :: T0) B.pre w (List.mem_cons_of_mem _ h)
  have hown : s.vm.findClass RX6 = some m.cls := findClass_of_methodNamed B.named
  have hlocks := B.notSynchronized
  subst hsz
  have hD := hD0.self (sz := s.heap.size)
  generalize hAe : va_A [(h0, .inr (6, [.ref qt, .int 0, .ref qr, .ref qc, .ref qs, .int 0, .ref qn, .ref qp, .int 0, .int 0, .ref qm, .ref qf, .ref qx, .long 1])), (qt, .inl (kt, 1600, .inl (fun _ => 0)))] s.heap.size = A at hD ⊢
  have hA : ∀ q : Nat, s.heap.size ≤ q → A q := fun q h => by rw [← hAe]; exact Or.inr h
  have hS : va_S A s.heap s.heap [] := va_S.rf
  have hP : va_P (dC, dI) vwCl [(h0, .inr (6, [.ref qt, .int 0, .ref qr, .ref qc, .ref qs, .int 0, .ref qn, .ref qp, .int 0, .int 0, .ref qm, .ref qf, .ref qx, .long 1])), (qt, .inl (kt, 1600, .inl (fun _ => 0)))] s.heap := hP
  have hl := lv_entry ([.ref h0, .int p0, .int p1, .int p2, .int p3, .int p4]) (n := 6) (Nat.le_of_ble_eq_true rfl)
  rw [lg_entry_eq]
  generalize (lg_sl ([.ref h0, .int p0, .int p1, .int p2, .int p3, .int p4]) ++ List.replicate (6 - (lg_sl ([.ref h0, .int p0, .int p1, .int p2, .int p3, .int p4])).length) Slot.unset).toArray = ls at hl ⊢
  refine ax_gen hP hD hS (fun H locs hP hD hS => ?_)
  have hl : lv_has ls 6 [(0, .ref h0), (1, .int p0), (2, .int p1), (3, .int p2), (4, .int p3), (5, .int p4)] := hl
  refine lv_aload_n hx hb dX6_feed_0 rfl (lv_at hl 0 rfl) ?_
  refine va_get (D := (dC, dI)) (ci := 6) (v := .int 0) (C := RX6) (T := TX6) (N := 14) hx hb hts inX6 hown hK hP 0 rfl rfl 1 (by decide) (hts _ T_101) (fun _ h9 => h9) rfl dX6_feed_1 ?_
  refine lv_bipush (v := 20) hx hb dX6_feed_4 (by decide) ?_
  refine lv_iadd hx hb dX6_feed_6 ?_
  refine ax_eqi (y := 20) (by decide) ?_
  refine lv_sipush (v := 1600) hx hb dX6_feed_7 (by decide) ?_
  refine lv_icmp_le (tgt := 19) hx hb dX6_feed_10 (by decide) (fun _ => ?_) (fun c => absurd (by decide) c)
  refine lv_aload_n hx hb dX6_feed_19 rfl (lv_at hl 0 rfl) ?_
  refine lv_iload_n hx hb dX6_feed_20 rfl (lv_at hl 1 rfl) ?_
  have hPc := hP.sub (ws' := [(h0, .inr (6, [.ref qt, .int 0, .ref qr, .ref qc, .ref qs, .int 0, .ref qn, .ref qp, .int 0, .int 0, .ref qm, .ref qf, .ref qx, .long 1])), (qt, .inl (kt, 1600, .inl (fun _ => 0)))]) [0, 1] rfl
  have hDc := hD.sub (ws' := [(h0, .inr (6, [.ref qt, .int 0, .ref qr, .ref qc, .ref qs, .int 0, .ref qn, .ref qp, .int 0, .int 0, .ref qm, .ref qf, .ref qx, .long 1])), (qt, .inl (kt, 1600, .inl (fun _ => 0)))]) [0, 1] (by decide) rfl
  have hKc := hK.sub (tys' := [(kt, .byte)]) [0] rfl
  have hFc := va_free (wc := [(h0, .inr (6, [.ref qt, .int 0, .ref qr, .ref qc, .ref qs, .int 0, .ref qn, .ref qp, .int 0, .int 0, .ref qm, .ref qf, .ref qx, .long 1])), (qt, .inl (kt, 1600, .inl (fun _ => 0)))]) hD hS hA [0, 1] rfl
  refine va_callv (va_runV (As := [.int p0]) (rest := []) ⟨hx, hb, hml, hown, hts⟩ (c_X6_layBytes_0 l dC dI H.size h0 qt qr qc qs qn qp qm qf qx kt (fun _ => 0) p0) (cwV 1 hts (ax_gV T_103 T_104 T_105 T_106 T_102) rfl rfl rfl (by decide +kernel) ⟨Nat.le_of_ble_eq_true rfl, Nat.le_of_ble_eq_true rfl⟩) ⟨fun a U g mk q => ⟨q.1, ax_pc rfl rfl q.2⟩, va_recv hKc hPc (ci := 6) (q0 := 0) rfl rfl, fun U hU hW => ⟨rfl, ax_pw hU hW hPc hKc hDc hN⟩⟩ rfl rfl hl.1 rfl (lv_room (Nat.le_of_ble_eq_true rfl)) dX6_feed_21 ⟨Nat.le_of_ble_eq_true rfl, Nat.le_of_ble_eq_true rfl⟩) hS (fun q _ h => hFc q h) hFc (fun _ t H1 locs ht hvm hw hB hz1 hk1 hS => ?_)
  obtain ⟨f1, hP1, hK1, hD1⟩ := hB
  rw [ht] at hP1
  have hK1 := va_K.moved hvm.symm hK1
  obtain ⟨hP, hD⟩ := va_join (wr := []) (w1 := [(h0, .inr (6, [.ref qt, .int 4, .ref qr, .ref qc, .ref qs, .int 0, .ref qn, .ref qp, .int 0, .int 0, .ref qm, .ref qf, .ref qx, .long 1])), (qt, .inl (kt, 1600, .inl f1))]) hP hD [0, 1] [] rfl rfl (by decide) (by decide) hk1 hFc hP1 hD1
  generalize H1 = H at hP hS ⊢
  have hP : va_P (dC, dI) vwCl [(h0, .inr (6, [.ref qt, .int 4, .ref qr, .ref qc, .ref qs, .int 0, .ref qn, .ref qp, .int 0, .int 0, .ref qm, .ref qf, .ref qx, .long 1])), (qt, .inl (kt, 1600, .inl f1))] H := hP
  have hD : va_D A [(h0, .inr (6, [.ref qt, .int 4, .ref qr, .ref qc, .ref qs, .int 0, .ref qn, .ref qp, .int 0, .int 0, .ref qm, .ref qf, .ref qx, .long 1])), (qt, .inl (kt, 1600, .inl f1))] := hD
  refine lv_aload_n hx hb dX6_feed_24 rfl (lv_at hl 0 rfl) ?_
  refine lv_iload_n hx hb dX6_feed_25 rfl (lv_at hl 2 rfl) ?_
  have hPc := hP.sub (ws' := [(h0, .inr (6, [.ref qt, .int 4, .ref qr, .ref qc, .ref qs, .int 0, .ref qn, .ref qp, .int 0, .int 0, .ref qm, .ref qf, .ref qx, .long 1])), (qt, .inl (kt, 1600, .inl f1))]) [0, 1] rfl
  have hDc := hD.sub (ws' := [(h0, .inr (6, [.ref qt, .int 4, .ref qr, .ref qc, .ref qs, .int 0, .ref qn, .ref qp, .int 0, .int 0, .ref qm, .ref qf, .ref qx, .long 1])), (qt, .inl (kt, 1600, .inl f1))]) [0, 1] (by decide) rfl
  have hKc := hK.sub (tys' := [(kt, .byte)]) [0] rfl
  have hFc := va_free (wc := [(h0, .inr (6, [.ref qt, .int 4, .ref qr, .ref qc, .ref qs, .int 0, .ref qn, .ref qp, .int 0, .int 0, .ref qm, .ref qf, .ref qx, .long 1])), (qt, .inl (kt, 1600, .inl f1))]) hD hS hA [0, 1] rfl
  refine va_callv (va_runV (As := [.int p1]) (rest := []) ⟨hx, hb, hml, hown, hts⟩ (c_X6_layBytes_4 l dC dI H.size h0 qt qr qc qs qn qp qm qf qx kt f1 p1) (cwV 1 hts (ax_gV T_103 T_104 T_105 T_106 T_102) rfl rfl rfl (by decide +kernel) ⟨Nat.le_of_ble_eq_true rfl, Nat.le_of_ble_eq_true rfl⟩) ⟨fun a U g mk q => ⟨q.1, ax_pc rfl rfl q.2⟩, va_recv hKc hPc (ci := 6) (q0 := 0) rfl rfl, fun U hU hW => ⟨rfl, ax_pw hU hW hPc hKc hDc hN⟩⟩ rfl rfl hl.1 rfl (lv_room (Nat.le_of_ble_eq_true rfl)) dX6_feed_26 ⟨Nat.le_of_ble_eq_true rfl, Nat.le_of_ble_eq_true rfl⟩) hS (fun q _ h => hFc q h) hFc (fun _ t H1 locs ht hvm hw hB hz1 hk1 hS => ?_)
  obtain ⟨f2, hP1, hK1, hD1⟩ := hB
  rw [ht] at hP1
  have hK1 := va_K.moved hvm.symm hK1
  obtain ⟨hP, hD⟩ := va_join (wr := []) (w1 := [(h0, .inr (6, [.ref qt, .int 8, .ref qr, .ref qc, .ref qs, .int 0, .ref qn, .ref qp, .int 0, .int 0, .ref qm, .ref qf, .ref qx, .long 1])), (qt, .inl (kt, 1600, .inl f2))]) hP hD [0, 1] [] rfl rfl (by decide) (by decide) hk1 hFc hP1 hD1
  generalize H1 = H at hP hS ⊢
  have hP : va_P (dC, dI) vwCl [(h0, .inr (6, [.ref qt, .int 8, .ref qr, .ref qc, .ref qs, .int 0, .ref qn, .ref qp, .int 0, .int 0, .ref qm, .ref qf, .ref qx, .long 1])), (qt, .inl (kt, 1600, .inl f2))] H := hP
  have hD : va_D A [(h0, .inr (6, [.ref qt, .int 8, .ref qr, .ref qc, .ref qs, .int 0, .ref qn, .ref qp, .int 0, .int 0, .ref qm, .ref qf, .ref qx, .long 1])), (qt, .inl (kt, 1600, .inl f2))] := hD
  refine lv_aload_n hx hb dX6_feed_29 rfl (lv_at hl 0 rfl) ?_
  refine lv_iload_n hx hb dX6_feed_30 rfl (lv_at hl 3 rfl) ?_
  have hPc := hP.sub (ws' := [(h0, .inr (6, [.ref qt, .int 8, .ref qr, .ref qc, .ref qs, .int 0, .ref qn, .ref qp, .int 0, .int 0, .ref qm, .ref qf, .ref qx, .long 1])), (qt, .inl (kt, 1600, .inl f2))]) [0, 1] rfl
  have hDc := hD.sub (ws' := [(h0, .inr (6, [.ref qt, .int 8, .ref qr, .ref qc, .ref qs, .int 0, .ref qn, .ref qp, .int 0, .int 0, .ref qm, .ref qf, .ref qx, .long 1])), (qt, .inl (kt, 1600, .inl f2))]) [0, 1] (by decide) rfl
  have hKc := hK.sub (tys' := [(kt, .byte)]) [0] rfl
  have hFc := va_free (wc := [(h0, .inr (6, [.ref qt, .int 8, .ref qr, .ref qc, .ref qs, .int 0, .ref qn, .ref qp, .int 0, .int 0, .ref qm, .ref qf, .ref qx, .long 1])), (qt, .inl (kt, 1600, .inl f2))]) hD hS hA [0, 1] rfl
  refine va_callv (va_runV (As := [.int p2]) (rest := []) ⟨hx, hb, hml, hown, hts⟩ (c_X6_layBytes_8 l dC dI H.size h0 qt qr qc qs qn qp qm qf qx kt f2 p2) (cwV 1 hts (ax_gV T_103 T_104 T_105 T_106 T_102) rfl rfl rfl (by decide +kernel) ⟨Nat.le_of_ble_eq_true rfl, Nat.le_of_ble_eq_true rfl⟩) ⟨fun a U g mk q => ⟨q.1, ax_pc rfl rfl q.2⟩, va_recv hKc hPc (ci := 6) (q0 := 0) rfl rfl, fun U hU hW => ⟨rfl, ax_pw hU hW hPc hKc hDc hN⟩⟩ rfl rfl hl.1 rfl (lv_room (Nat.le_of_ble_eq_true rfl)) dX6_feed_31 ⟨Nat.le_of_ble_eq_true rfl, Nat.le_of_ble_eq_true rfl⟩) hS (fun q _ h => hFc q h) hFc (fun _ t H1 locs ht hvm hw hB hz1 hk1 hS => ?_)
  obtain ⟨f3, hP1, hK1, hD1⟩ := hB
  rw [ht] at hP1
  have hK1 := va_K.moved hvm.symm hK1
  obtain ⟨hP, hD⟩ := va_join (wr := []) (w1 := [(h0, .inr (6, [.ref qt, .int 12, .ref qr, .ref qc, .ref qs, .int 0, .ref qn, .ref qp, .int 0, .int 0, .ref qm, .ref qf, .ref qx, .long 1])), (qt, .inl (kt, 1600, .inl f3))]) hP hD [0, 1] [] rfl rfl (by decide) (by decide) hk1 hFc hP1 hD1
  generalize H1 = H at hP hS ⊢
  have hP : va_P (dC, dI) vwCl [(h0, .inr (6, [.ref qt, .int 12, .ref qr, .ref qc, .ref qs, .int 0, .ref qn, .ref qp, .int 0, .int 0, .ref qm, .ref qf, .ref qx, .long 1])), (qt, .inl (kt, 1600, .inl f3))] H := hP
  have hD : va_D A [(h0, .inr (6, [.ref qt, .int 12, .ref qr, .ref qc, .ref qs, .int 0, .ref qn, .ref qp, .int 0, .int 0, .ref qm, .ref qf, .ref qx, .long 1])), (qt, .inl (kt, 1600, .inl f3))] := hD
  refine lv_aload_n hx hb dX6_feed_34 rfl (lv_at hl 0 rfl) ?_
  refine lv_iload hx hb dX6_feed_35 (lv_at hl 4 rfl) ?_
  have hPc := hP.sub (ws' := [(h0, .inr (6, [.ref qt, .int 12, .ref qr, .ref qc, .ref qs, .int 0, .ref qn, .ref qp, .int 0, .int 0, .ref qm, .ref qf, .ref qx, .long 1])), (qt, .inl (kt, 1600, .inl f3))]) [0, 1] rfl
  have hDc := hD.sub (ws' := [(h0, .inr (6, [.ref qt, .int 12, .ref qr, .ref qc, .ref qs, .int 0, .ref qn, .ref qp, .int 0, .int 0, .ref qm, .ref qf, .ref qx, .long 1])), (qt, .inl (kt, 1600, .inl f3))]) [0, 1] (by decide) rfl
  have hKc := hK.sub (tys' := [(kt, .byte)]) [0] rfl
  have hFc := va_free (wc := [(h0, .inr (6, [.ref qt, .int 12, .ref qr, .ref qc, .ref qs, .int 0, .ref qn, .ref qp, .int 0, .int 0, .ref qm, .ref qf, .ref qx, .long 1])), (qt, .inl (kt, 1600, .inl f3))]) hD hS hA [0, 1] rfl
  refine va_callv (va_runV (As := [.int p3]) (rest := []) ⟨hx, hb, hml, hown, hts⟩ (c_X6_layBytes_12 l dC dI H.size h0 qt qr qc qs qn qp qm qf qx kt f3 p3) (cwV 1 hts (ax_gV T_103 T_104 T_105 T_106 T_102) rfl rfl rfl (by decide +kernel) ⟨Nat.le_of_ble_eq_true rfl, Nat.le_of_ble_eq_true rfl⟩) ⟨fun a U g mk q => ⟨q.1, ax_pc rfl rfl q.2⟩, va_recv hKc hPc (ci := 6) (q0 := 0) rfl rfl, fun U hU hW => ⟨rfl, ax_pw hU hW hPc hKc hDc hN⟩⟩ rfl rfl hl.1 rfl (lv_room (Nat.le_of_ble_eq_true rfl)) dX6_feed_37 ⟨Nat.le_of_ble_eq_true rfl, Nat.le_of_ble_eq_true rfl⟩) hS (fun q _ h => hFc q h) hFc (fun _ t H1 locs ht hvm hw hB hz1 hk1 hS => ?_)
  obtain ⟨f4, hP1, hK1, hD1⟩ := hB
  rw [ht] at hP1
  have hK1 := va_K.moved hvm.symm hK1
  obtain ⟨hP, hD⟩ := va_join (wr := []) (w1 := [(h0, .inr (6, [.ref qt, .int 16, .ref qr, .ref qc, .ref qs, .int 0, .ref qn, .ref qp, .int 0, .int 0, .ref qm, .ref qf, .ref qx, .long 1])), (qt, .inl (kt, 1600, .inl f4))]) hP hD [0, 1] [] rfl rfl (by decide) (by decide) hk1 hFc hP1 hD1
  generalize H1 = H at hP hS ⊢
  have hP : va_P (dC, dI) vwCl [(h0, .inr (6, [.ref qt, .int 16, .ref qr, .ref qc, .ref qs, .int 0, .ref qn, .ref qp, .int 0, .int 0, .ref qm, .ref qf, .ref qx, .long 1])), (qt, .inl (kt, 1600, .inl f4))] H := hP
  have hD : va_D A [(h0, .inr (6, [.ref qt, .int 16, .ref qr, .ref qc, .ref qs, .int 0, .ref qn, .ref qp, .int 0, .int 0, .ref qm, .ref qf, .ref qx, .long 1])), (qt, .inl (kt, 1600, .inl f4))] := hD
  refine lv_aload_n hx hb dX6_feed_40 rfl (lv_at hl 0 rfl) ?_
  refine lv_iload hx hb dX6_feed_41 (lv_at hl 5 rfl) ?_
  have hPc := hP.sub (ws' := [(h0, .inr (6, [.ref qt, .int 16, .ref qr, .ref qc, .ref qs, .int 0, .ref qn, .ref qp, .int 0, .int 0, .ref qm, .ref qf, .ref qx, .long 1])), (qt, .inl (kt, 1600, .inl f4))]) [0, 1] rfl
  have hDc := hD.sub (ws' := [(h0, .inr (6, [.ref qt, .int 16, .ref qr, .ref qc, .ref qs, .int 0, .ref qn, .ref qp, .int 0, .int 0, .ref qm, .ref qf, .ref qx, .long 1])), (qt, .inl (kt, 1600, .inl f4))]) [0, 1] (by decide) rfl
  have hKc := hK.sub (tys' := [(kt, .byte)]) [0] rfl
  have hFc := va_free (wc := [(h0, .inr (6, [.ref qt, .int 16, .ref qr, .ref qc, .ref qs, .int 0, .ref qn, .ref qp, .int 0, .int 0, .ref qm, .ref qf, .ref qx, .long 1])), (qt, .inl (kt, 1600, .inl f4))]) hD hS hA [0, 1] rfl
  refine va_callv (va_runV (As := [.int p4]) (rest := []) ⟨hx, hb, hml, hown, hts⟩ (c_X6_layBytes_16 l dC dI H.size h0 qt qr qc qs qn qp qm qf qx kt f4 p4) (cwV 1 hts (ax_gV T_103 T_104 T_105 T_106 T_102) rfl rfl rfl (by decide +kernel) ⟨Nat.le_of_ble_eq_true rfl, Nat.le_of_ble_eq_true rfl⟩) ⟨fun a U g mk q => ⟨q.1, ax_pc rfl rfl q.2⟩, va_recv hKc hPc (ci := 6) (q0 := 0) rfl rfl, fun U hU hW => ⟨rfl, ax_pw hU hW hPc hKc hDc hN⟩⟩ rfl rfl hl.1 rfl (lv_room (Nat.le_of_ble_eq_true rfl)) dX6_feed_43 ⟨Nat.le_of_ble_eq_true rfl, Nat.le_of_ble_eq_true rfl⟩) hS (fun q _ h => hFc q h) hFc (fun _ t H1 locs ht hvm hw hB hz1 hk1 hS => ?_)
  obtain ⟨f5, hP1, hK1, hD1⟩ := hB
  rw [ht] at hP1
  have hK1 := va_K.moved hvm.symm hK1
  obtain ⟨hP, hD⟩ := va_join (wr := []) (w1 := [(h0, .inr (6, [.ref qt, .int 20, .ref qr, .ref qc, .ref qs, .int 0, .ref qn, .ref qp, .int 0, .int 0, .ref qm, .ref qf, .ref qx, .long 1])), (qt, .inl (kt, 1600, .inl f5))]) hP hD [0, 1] [] rfl rfl (by decide) (by decide) hk1 hFc hP1 hD1
  generalize H1 = H at hP hS ⊢
  have hP : va_P (dC, dI) vwCl [(h0, .inr (6, [.ref qt, .int 20, .ref qr, .ref qc, .ref qs, .int 0, .ref qn, .ref qp, .int 0, .int 0, .ref qm, .ref qf, .ref qx, .long 1])), (qt, .inl (kt, 1600, .inl f5))] H := hP
  have hD : va_D A [(h0, .inr (6, [.ref qt, .int 20, .ref qr, .ref qc, .ref qs, .int 0, .ref qn, .ref qp, .int 0, .int 0, .ref qm, .ref qf, .ref qx, .long 1])), (qt, .inl (kt, 1600, .inl f5))] := hD
  refine lv_aload_n hx hb dX6_feed_46 rfl (lv_at hl 0 rfl) ?_
  refine va_get (D := (dC, dI)) (ci := 6) (v := .int 20) (C := RX6) (T := TX6) (N := 14) hx hb hts inX6 hown hK hP 0 rfl rfl 1 (by decide) (hts _ T_101) (fun _ h9 => h9) rfl dX6_feed_47 ?_
  have hP9 := hP.sub (ws' := []) [] rfl
  have hD9 := hD.sub (ws' := []) [] (by decide) rfl
  have hK9 := hK.sub (tys' := []) [] rfl
  exact W.iret (v := 20) hx hb hr (fun t ht hW => ⟨⟨20, (), rfl, rfl, by rw [ht]; exact hP9, va_K.moved hW.alike hK9, hD9⟩, hS.F ht⟩) hS.2.2 dX6_feed_50

set_option maxHeartbeats 4000000 in
set_option maxRecDepth 100000 in
/-- end -/
theorem c_X6_end (l : Launch) (dC : Nat → ClassId) (dI : Nat → Nat → Nat) (sz : Nat) (h0 : Nat) (qt : Nat) (qr : Nat) (qc : Nat) (qs : Nat) (qn : Nat) (qp : Nat) (qm : Nat) (qf : Nat) (qx : Nat) (kr : ClassId) (p0 : Int32) : Met l yX6_end (Cond.code yX6_end cX6_end 2 (some .boolean) :: T0) ({ frames := 1, cells := 0, slots := 0, locals := 21 }) (va_Pc [.ref h0, .int p0] (ax_W dC dI sz [(h0, .inr (6, [.ref qt, .int 0, .ref qr, .ref qc, .ref qs, .int 0, .ref qn, .ref qp, .int 0, .int 0, .ref qm, .ref qf, .ref qx, .long 1])), (qx, .inl (kr, 6, .inl (fun _ => 0)))] [(kr, .int)])) (va_Qi (fun (r : Int32) (_ : Unit) => r = a_end p0) (fun (_ : Unit) (t : State) => va_P (dC, dI) vwCl [] t.heap ∧ va_K (dC, dI) vwCl [] t ∧ va_D (va_A [(h0, .inr (6, [.ref qt, .int 0, .ref qr, .ref qc, .ref qs, .int 0, .ref qn, .ref qp, .int 0, .int 0, .ref qm, .ref qf, .ref qx, .long 1])), (qx, .inl (kr, 6, .inl (fun _ => 0)))] sz) []) (va_A [(h0, .inr (6, [.ref qt, .int 0, .ref qr, .ref qc, .ref qs, .int 0, .ref qn, .ref qp, .int 0, .int 0, .ref qm, .ref qf, .ref qx, .long 1])), (qx, .inl (kr, 6, .inl (fun _ => 0)))] sz)) 0 0 (va_A [(h0, .inr (6, [.ref qt, .int 0, .ref qr, .ref qc, .ref qs, .int 0, .ref qn, .ref qp, .int 0, .int 0, .ref qm, .ref qf, .ref qx, .long 1])), (qx, .inl (kr, 6, .inl (fun _ => 0)))] sz) := by
  refine Met.ofW (cc := cX6_end) (maxL := 2) (ret := (some .boolean)) (by decide) rfl ?_
  intro p e s m args below meth c s₁ B hml hv
  obtain ⟨rfl, hsz, hP, hK, hD0, hN⟩ := hv
  have hx := B.exec
  have hb := B.bytes
  have hr := B.returns
  have hts : ∀ w ∈ T0, w.before _ s = true := fun w h => atoms_spec (ws := Cond.code yX6_end cX6_end 2 (some .boolean) :: T0) B.pre w (List.mem_cons_of_mem _ h)
  have hown : s.vm.findClass RX6 = some m.cls := findClass_of_methodNamed B.named
  have hlocks := B.notSynchronized
  subst hsz
  have hD := hD0.self (sz := s.heap.size)
  generalize hAe : va_A [(h0, .inr (6, [.ref qt, .int 0, .ref qr, .ref qc, .ref qs, .int 0, .ref qn, .ref qp, .int 0, .int 0, .ref qm, .ref qf, .ref qx, .long 1])), (qx, .inl (kr, 6, .inl (fun _ => 0)))] s.heap.size = A at hD ⊢
  have hA : ∀ q : Nat, s.heap.size ≤ q → A q := fun q h => by rw [← hAe]; exact Or.inr h
  have hS : va_S A s.heap s.heap [] := va_S.rf
  have hP : va_P (dC, dI) vwCl [(h0, .inr (6, [.ref qt, .int 0, .ref qr, .ref qc, .ref qs, .int 0, .ref qn, .ref qp, .int 0, .int 0, .ref qm, .ref qf, .ref qx, .long 1])), (qx, .inl (kr, 6, .inl (fun _ => 0)))] s.heap := hP
  have hl := lv_entry ([.ref h0, .int p0]) (n := 2) (Nat.le_of_ble_eq_true rfl)
  rw [lg_entry_eq]
  generalize (lg_sl ([.ref h0, .int p0]) ++ List.replicate (2 - (lg_sl ([.ref h0, .int p0])).length) Slot.unset).toArray = ls at hl ⊢
  refine ax_gen hP hD hS (fun H locs hP hD hS => ?_)
  have hl : lv_has ls 2 [(0, .ref h0), (1, .int p0)] := hl
  refine lv_iload_n hx hb dX6_end_0 rfl (lv_at hl 1 rfl) ?_
  refine lv_if_lt (tgt := 12) hx hb dX6_end_1 (by decide) (fun c1 => ?_) (fun c1 => ?_)
  · refine lv_aload_n hx hb dX6_end_12 rfl (lv_at hl 0 rfl) ?_
    refine lv_iconst (v := 0) hx hb dX6_end_13 (by decide) ?_
    have hPc := hP.sub (ws' := [(h0, .inr (6, [.ref qt, .int 0, .ref qr, .ref qc, .ref qs, .int 0, .ref qn, .ref qp, .int 0, .int 0, .ref qm, .ref qf, .ref qx, .long 1])), (qx, .inl (kr, 6, .inl (fun _ => 0)))]) [0, 1] rfl
    have hDc := hD.sub (ws' := [(h0, .inr (6, [.ref qt, .int 0, .ref qr, .ref qc, .ref qs, .int 0, .ref qn, .ref qp, .int 0, .int 0, .ref qm, .ref qf, .ref qx, .long 1])), (qx, .inl (kr, 6, .inl (fun _ => 0)))]) [0, 1] (by decide) rfl
    have hKc := hK.sub (tys' := [(kr, .int)]) [0] rfl
    have hFc := va_free (wc := [(h0, .inr (6, [.ref qt, .int 0, .ref qr, .ref qc, .ref qs, .int 0, .ref qn, .ref qp, .int 0, .int 0, .ref qm, .ref qf, .ref qx, .long 1])), (qx, .inl (kr, 6, .inl (fun _ => 0)))]) hD hS hA [0, 1] rfl
    refine va_calli (va_runV (As := [.int 0]) (rest := []) ⟨hx, hb, hml, hown, hts⟩ (c_X6_refuse l dC dI H.size h0 qt qr qc qs qn qp qm qf qx kr (fun _ => 0) 0 (ax_in (by decide))) (cwV 1 hts (ax_gV T_108 T_109 T_110 T_106 T_107) rfl rfl rfl (by decide +kernel) ⟨Nat.le_of_ble_eq_true rfl, Nat.le_of_ble_eq_true rfl⟩) ⟨fun a U g mk q => ⟨q.1, ax_pc rfl rfl q.2⟩, va_recv hKc hPc (ci := 6) (q0 := 0) rfl rfl, fun U hU hW => ⟨rfl, ax_pw hU hW hPc hKc hDc hN⟩⟩ rfl rfl hl.1 rfl (lv_room (Nat.le_of_ble_eq_true rfl)) dX6_end_14 ⟨Nat.le_of_ble_eq_true rfl, Nat.le_of_ble_eq_true rfl⟩) hS (fun q _ h => hFc q h) hFc (fun r2 _ t H1 locs ht hvm hw hB hz1 hk1 hS => ?_)
    obtain ⟨hP1, hK1, hD1⟩ := hB
    rw [ht] at hP1
    have hK1 := va_K.moved hvm.symm hK1
    obtain ⟨hP, hD⟩ := va_join (wr := []) (w1 := []) hP hD [0, 1] [] rfl rfl (by decide) (by decide) hk1 hFc hP1 hD1
    generalize H1 = H at hP hS ⊢
    have hP : va_P (dC, dI) vwCl [] H := hP
    have hD : va_D A [] := hD
    subst hw
    refine lv_pop hx hb dX6_end_17 rfl ?_
    refine lv_iconst (v := 0) hx hb dX6_end_18 (by decide) ?_
    have hP9 := hP.sub (ws' := []) [] rfl
    have hD9 := hD.sub (ws' := []) [] (by decide) rfl
    have hK9 := hK.sub (tys' := []) [] rfl
    exact W.zret (v := 0) (ty := .boolean) hx hb hr (by decide) (fun t ht hW => ⟨⟨0, (), rfl, (by have h_0 := (ax_lt (n := 0) (by decide)).mp c1; unfold a_end; first | (rw [if_pos (by omega)]; done) | (rw [if_neg (by omega)]; done)), by rw [ht]; exact hP9, va_K.moved hW.alike hK9, hD9⟩, hS.F ht⟩) hS.2.2 dX6_end_19
  · refine lv_iload_n hx hb dX6_end_4 rfl (lv_at hl 1 rfl) ?_
    refine lv_aload_n hx hb dX6_end_5 rfl (lv_at hl 0 rfl) ?_
    refine va_get (D := (dC, dI)) (ci := 6) (v := .int 0) (C := RX6) (T := TX6) (N := 14) hx hb hts inX6 hown hK hP 0 rfl rfl 1 (by decide) (hts _ T_101) (fun _ h9 => h9) rfl dX6_end_6 ?_
    refine lv_icmp_le (tgt := 20) hx hb dX6_end_9 (by decide) (fun c3 => ?_) (fun c3 => ?_)
    · refine lv_aload_n hx hb dX6_end_20 rfl (lv_at hl 0 rfl) ?_
      refine lv_iload_n hx hb dX6_end_21 rfl (lv_at hl 1 rfl) ?_
      refine va_put (D := (dC, dI)) (ci := 6) (v := .int p0) (ty := .int) (C := RX6) (T := TX6) (N := 14) hx hb hts inX6 tyX6 tyX6_ok nmX6 hown hK hP hD hS 0 rfl rfl 1 (by decide) (hts _ T_101) (fun _ h9 => h9) rfl (by decide +kernel) rfl rfl (Nat.le_of_ble_eq_true rfl) dX6_end_22 (fun H locs hP hD hS => ?_)
      have hP : va_P (dC, dI) vwCl [(h0, .inr (6, [.ref qt, .int p0, .ref qr, .ref qc, .ref qs, .int 0, .ref qn, .ref qp, .int 0, .int 0, .ref qm, .ref qf, .ref qx, .long 1])), (qx, .inl (kr, 6, .inl (fun _ => 0)))] H := hP
      have hD : va_D A [(h0, .inr (6, [.ref qt, .int p0, .ref qr, .ref qc, .ref qs, .int 0, .ref qn, .ref qp, .int 0, .int 0, .ref qm, .ref qf, .ref qx, .long 1])), (qx, .inl (kr, 6, .inl (fun _ => 0)))] := hD
      refine lv_iconst (v := 1) hx hb dX6_end_25 (by decide) ?_
      have hP9 := hP.sub (ws' := []) [] rfl
      have hD9 := hD.sub (ws' := []) [] (by decide) rfl
      have hK9 := hK.sub (tys' := []) [] rfl
      exact W.zret (v := 1) (ty := .boolean) hx hb hr (by decide) (fun t ht hW => ⟨⟨1, (), rfl, (by have h_0 := mt (ax_lt (n := 0) (by decide)).mpr c1; have h_1 := (ax_le (n := 0) (by decide)).mp c3; unfold a_end; first | (rw [if_pos (by omega)]; done) | (rw [if_neg (by omega)]; done)), by rw [ht]; exact hP9, va_K.moved hW.alike hK9, hD9⟩, hS.F ht⟩) hS.2.2 dX6_end_26
    · refine lv_aload_n hx hb dX6_end_12 rfl (lv_at hl 0 rfl) ?_
      refine lv_iconst (v := 0) hx hb dX6_end_13 (by decide) ?_
      have hPc := hP.sub (ws' := [(h0, .inr (6, [.ref qt, .int 0, .ref qr, .ref qc, .ref qs, .int 0, .ref qn, .ref qp, .int 0, .int 0, .ref qm, .ref qf, .ref qx, .long 1])), (qx, .inl (kr, 6, .inl (fun _ => 0)))]) [0, 1] rfl
      have hDc := hD.sub (ws' := [(h0, .inr (6, [.ref qt, .int 0, .ref qr, .ref qc, .ref qs, .int 0, .ref qn, .ref qp, .int 0, .int 0, .ref qm, .ref qf, .ref qx, .long 1])), (qx, .inl (kr, 6, .inl (fun _ => 0)))]) [0, 1] (by decide) rfl
      have hKc := hK.sub (tys' := [(kr, .int)]) [0] rfl
      have hFc := va_free (wc := [(h0, .inr (6, [.ref qt, .int 0, .ref qr, .ref qc, .ref qs, .int 0, .ref qn, .ref qp, .int 0, .int 0, .ref qm, .ref qf, .ref qx, .long 1])), (qx, .inl (kr, 6, .inl (fun _ => 0)))]) hD hS hA [0, 1] rfl
      refine va_calli (va_runV (As := [.int 0]) (rest := []) ⟨hx, hb, hml, hown, hts⟩ (c_X6_refuse l dC dI H.size h0 qt qr qc qs qn qp qm qf qx kr (fun _ => 0) 0 (ax_in (by decide))) (cwV 1 hts (ax_gV T_108 T_109 T_110 T_106 T_107) rfl rfl rfl (by decide +kernel) ⟨Nat.le_of_ble_eq_true rfl, Nat.le_of_ble_eq_true rfl⟩) ⟨fun a U g mk q => ⟨q.1, ax_pc rfl rfl q.2⟩, va_recv hKc hPc (ci := 6) (q0 := 0) rfl rfl, fun U hU hW => ⟨rfl, ax_pw hU hW hPc hKc hDc hN⟩⟩ rfl rfl hl.1 rfl (lv_room (Nat.le_of_ble_eq_true rfl)) dX6_end_14 ⟨Nat.le_of_ble_eq_true rfl, Nat.le_of_ble_eq_true rfl⟩) hS (fun q _ h => hFc q h) hFc (fun r4 _ t H1 locs ht hvm hw hB hz1 hk1 hS => ?_)
      obtain ⟨hP1, hK1, hD1⟩ := hB
      rw [ht] at hP1
      have hK1 := va_K.moved hvm.symm hK1
      obtain ⟨hP, hD⟩ := va_join (wr := []) (w1 := []) hP hD [0, 1] [] rfl rfl (by decide) (by decide) hk1 hFc hP1 hD1
      generalize H1 = H at hP hS ⊢
      have hP : va_P (dC, dI) vwCl [] H := hP
      have hD : va_D A [] := hD
      subst hw
      refine lv_pop hx hb dX6_end_17 rfl ?_
      refine lv_iconst (v := 0) hx hb dX6_end_18 (by decide) ?_
      have hP9 := hP.sub (ws' := []) [] rfl
      have hD9 := hD.sub (ws' := []) [] (by decide) rfl
      have hK9 := hK.sub (tys' := []) [] rfl
      exact W.zret (v := 0) (ty := .boolean) hx hb hr (by decide) (fun t ht hW => ⟨⟨0, (), rfl, (by have h_0 := mt (ax_lt (n := 0) (by decide)).mpr c1; have h_1 := mt (ax_le (n := 0) (by decide)).mpr c3; unfold a_end; first | (rw [if_pos (by omega)]; done) | (rw [if_neg (by omega)]; done)), by rw [ht]; exact hP9, va_K.moved hW.alike hK9, hD9⟩, hS.F ht⟩) hS.2.2 dX6_end_19

set_option maxHeartbeats 4000000 in
set_option maxRecDepth 100000 in
/-- Arrays.fill of 64 numbers -/
theorem c_J7_fill (l : Launch) (dC : Nat → ClassId) (dI : Nat → Nat → Nat) (sz : Nat) (h0 : Nat) (ka : ClassId) (f : Nat → Int32) : Met l yJ7_fill_53178 (Cond.code yJ7_fill_53178 cJ7_fill_53178 4 none :: T0) ({ frames := 0, cells := 0, slots := 0, locals := 0 }) (va_Pc [.ref h0, .int 0] (ax_W dC dI sz [(h0, .inl (ka, 64, .inl f))] [(ka, .int)])) (va_Qv (fun (_ : Unit) => True) (fun (_ : Unit) (t : State) => va_P (dC, dI) vwCl [] t.heap ∧ va_K (dC, dI) vwCl [] t ∧ va_D (va_A [(h0, .inl (ka, 64, .inl f))] sz) []) (va_A [(h0, .inl (ka, 64, .inl f))] sz)) 0 0 (va_A [(h0, .inl (ka, 64, .inl f))] sz) := by
  refine Met.ofW (cc := cJ7_fill_53178) (maxL := 4) (ret := none) (by decide) rfl ?_
  intro p e s m args below meth c s₁ B hml hv
  obtain ⟨rfl, hsz, hP, hK, hD0, hN⟩ := hv
  have hx := B.exec
  have hb := B.bytes
  have hr := B.returns
  have hts : ∀ w ∈ T0, w.before _ s = true := fun w h => atoms_spec (ws := Cond.code yJ7_fill_53178 cJ7_fill_53178 4 none :: T0) B.pre w (List.mem_cons_of_mem _ h)
  have hown : s.vm.findClass RJ7 = some m.cls := findClass_of_methodNamed B.named
  have hlocks := B.notSynchronized
  subst hsz
  have hD := hD0.self (sz := s.heap.size)
  generalize hAe : va_A [(h0, .inl (ka, 64, .inl f))] s.heap.size = A at hD ⊢
  have hA : ∀ q : Nat, s.heap.size ≤ q → A q := fun q h => by rw [← hAe]; exact Or.inr h
  have hS : va_S A s.heap s.heap [] := va_S.rf
  have hP : va_P (dC, dI) vwCl [(h0, .inl (ka, 64, .inl f))] s.heap := hP
  have hl := lv_entry ([.ref h0, .int 0]) (n := 4) (Nat.le_of_ble_eq_true rfl)
  rw [lg_entry_eq]
  generalize (lg_sl ([.ref h0, .int 0]) ++ List.replicate (4 - (lg_sl ([.ref h0, .int 0])).length) Slot.unset).toArray = ls at hl ⊢
  refine ax_gen hP hD hS (fun H locs hP hD hS => ?_)
  have hl : lv_has ls 4 [(0, .ref h0), (1, .int 0)] := hl
  refine lv_iconst (v := 0) hx hb dJ7_fill_53178_0 (by decide) ?_
  refine lv_istore_n (lv' := [(2, .int 0), (0, .ref h0), (1, .int 0)]) hx hb dJ7_fill_53178_1 rfl hl (by decide) rfl (fun ls hl => ?_)
  refine lv_aload_n hx hb dJ7_fill_53178_2 rfl (lv_at hl 1 rfl) ?_
  refine va_alen hx hb hK hP 0 0 rfl rfl (v := 64) rfl dJ7_fill_53178_3 ?_
  refine lv_istore_n (lv' := [(3, .int 64), (2, .int 0), (0, .ref h0), (1, .int 0)]) hx hb dJ7_fill_53178_4 rfl hl (by decide) rfl (fun ls hl => ?_)
  refine ax_gen hP hD hS (fun H locs hPo hDo hS => ?_)
  obtain ⟨f1, hP, hD⟩ : ∃ f : Nat → Int32, va_P (dC, dI) vwCl [(h0, .inl (ka, 64, .inl f))] H ∧ va_D A [(h0, .inl (ka, 64, .inl f))] := ⟨_, hPo, hDo⟩
  clear hPo hDo
  have hlo := hl
  clear hl
  obtain ⟨k, n, hkn, hl⟩ : ∃ k n : Nat, k + n = 64 ∧ lv_has ls 4 [(3, .int 64), (2, .int (nI k)), (0, .ref h0), (1, .int 0)] := ⟨0, 64, rfl, hlo⟩
  clear hlo
  induction n generalizing k H locs ls f1 with
  | zero =>
    have hk : k = 64 := by omega
    subst hk
    refine lv_iload_n hx hb dJ7_fill_53178_5 rfl (lv_at hl 1 rfl) ?_
    refine lv_iload_n hx hb dJ7_fill_53178_6 rfl (lv_at hl 0 rfl) ?_
    refine lv_icmp_ge (tgt := 20) hx hb dJ7_fill_53178_7 (by decide) (fun _ => ?_) (fun c => absurd (by decide) c)
    have hP9 := hP.sub (ws' := []) [] rfl
    have hD9 := hD.sub (ws' := []) [] (by decide) rfl
    have hK9 := hK.sub (tys' := []) [] rfl
    exact W.vret hx hb hr (fun t ht hW => ⟨⟨(), rfl, trivial, by rw [ht]; exact hP9, va_K.moved hW.alike hK9, hD9⟩, hS.F ht⟩) hS.2.2 dJ7_fill_53178_20
  | succ n ih =>
    have hlt : k < 64 := by omega
    refine lv_iload_n hx hb dJ7_fill_53178_5 rfl (lv_at hl 1 rfl) ?_
    refine lv_iload_n hx hb dJ7_fill_53178_6 rfl (lv_at hl 0 rfl) ?_
    refine lv_icmp_ge (tgt := 20) hx hb dJ7_fill_53178_7 (by decide) (fun c => absurd c (nI_ge hlt (by decide))) (fun _ => ?_)
    refine lv_aload_n hx hb dJ7_fill_53178_10 rfl (lv_at hl 2 rfl) ?_
    refine lv_iload_n hx hb dJ7_fill_53178_11 rfl (lv_at hl 1 rfl) ?_
    refine lv_iload_n hx hb dJ7_fill_53178_12 rfl (lv_at hl 3 rfl) ?_
    refine va_iast hx hb hK hP hD hS 0 0 rfl rfl (vp_in_nI hlt (by decide)) dJ7_fill_53178_13 (fun H locs hP hD hS => ?_)
    have hP : va_P (dC, dI) vwCl [(h0, .inl (ka, 64, .inl (upd f1 (nI k : Int32).toNatClampNeg 0)))] H := hP
    have hD : va_D A [(h0, .inl (ka, 64, .inl (upd f1 (nI k : Int32).toNatClampNeg 0)))] := hD
    obtain ⟨f2, hP, hD⟩ : ∃ f : Nat → Int32, va_P (dC, dI) vwCl [(h0, .inl (ka, 64, .inl f))] H ∧ va_D A [(h0, .inl (ka, 64, .inl f))] := ⟨_, hP, hD⟩
    refine lv_iinc (v := (nI (k + 1))) (lv' := [(2, .int (nI (k + 1))), (3, .int 64), (0, .ref h0), (1, .int 0)]) hx hb dJ7_fill_53178_14 hl (k := 1) rfl (nI_1 k) (by decide) rfl (fun ls hl => ?_)
    refine lv_goto (tgt := 5) hx hb dJ7_fill_53178_17 (by decide) ?_
    have hl : lv_has ls 4 [(3, .int 64), (2, .int (nI (k + 1))), (0, .ref h0), (1, .int 0)] := lv_sub hl [1, 0, 2, 3] rfl
    apply ih (k := k + 1) (f1 := f2)
    all_goals first | assumption | omega

set_option maxHeartbeats 4000000 in
set_option maxRecDepth 100000 in
/-- Program.clear of a fresh program -/
theorem c_X2_clear (l : Launch) (dC : Nat → ClassId) (dI : Nat → Nat → Nat) (sz : Nat) (h0 : Nat) (sa0 : Nat) (sa1 : Nat) (sa2 : Nat) (ks : ClassId) (f : Nat → Int32) : Met l yX2_clear (Cond.code yX2_clear cX2_clear 1 none :: T0) ({ frames := 1, cells := 0, slots := 0, locals := 23 }) (va_Pc [.ref h0] (ax_W dC dI sz [(h0, .inr (2, [.ref sa0, .ref sa1, .ref sa2, .int 0, .int 0, .int 0, .int 0])), (sa1, .inl (ks, 64, .inl f))] [(ks, .int)])) (va_Qv (fun (_ : Unit) => True) (fun (_ : Unit) (t : State) => va_P (dC, dI) vwCl [(h0, .inr (2, [.ref sa0, .ref sa1, .ref sa2, .int 0, .int 0, .int 0, .int 0]))] t.heap ∧ va_K (dC, dI) vwCl [] t ∧ va_D (va_A [(h0, .inr (2, [.ref sa0, .ref sa1, .ref sa2, .int 0, .int 0, .int 0, .int 0])), (sa1, .inl (ks, 64, .inl f))] sz) [(h0, .inr (2, [.ref sa0, .ref sa1, .ref sa2, .int 0, .int 0, .int 0, .int 0]))]) (va_A [(h0, .inr (2, [.ref sa0, .ref sa1, .ref sa2, .int 0, .int 0, .int 0, .int 0])), (sa1, .inl (ks, 64, .inl f))] sz)) 0 0 (va_A [(h0, .inr (2, [.ref sa0, .ref sa1, .ref sa2, .int 0, .int 0, .int 0, .int 0])), (sa1, .inl (ks, 64, .inl f))] sz) := by
  refine Met.ofW (cc := cX2_clear) (maxL := 1) (ret := none) (by decide) rfl ?_
  intro p e s m args below meth c s₁ B hml hv
  obtain ⟨rfl, hsz, hP, hK, hD0, hN⟩ := hv
  have hx := B.exec
  have hb := B.bytes
  have hr := B.returns
  have hts : ∀ w ∈ T0, w.before _ s = true := fun w h => atoms_spec (ws := Cond.code yX2_clear cX2_clear 1 none :: T0) B.pre w (List.mem_cons_of_mem _ h)
  have hown : s.vm.findClass RX2 = some m.cls := findClass_of_methodNamed B.named
  have hlocks := B.notSynchronized
  subst hsz
  have hD := hD0.self (sz := s.heap.size)
  generalize hAe : va_A [(h0, .inr (2, [.ref sa0, .ref sa1, .ref sa2, .int 0, .int 0, .int 0, .int 0])), (sa1, .inl (ks, 64, .inl f))] s.heap.size = A at hD ⊢
  have hA : ∀ q : Nat, s.heap.size ≤ q → A q := fun q h => by rw [← hAe]; exact Or.inr h
  have hS : va_S A s.heap s.heap [] := va_S.rf
  have hP : va_P (dC, dI) vwCl [(h0, .inr (2, [.ref sa0, .ref sa1, .ref sa2, .int 0, .int 0, .int 0, .int 0])), (sa1, .inl (ks, 64, .inl f))] s.heap := hP
  have hl := lv_entry ([.ref h0]) (n := 1) (Nat.le_of_ble_eq_true rfl)
  rw [lg_entry_eq]
  generalize (lg_sl ([.ref h0]) ++ List.replicate (1 - (lg_sl ([.ref h0])).length) Slot.unset).toArray = ls at hl ⊢
  refine ax_gen hP hD hS (fun H locs hP hD hS => ?_)
  have hl : lv_has ls 1 [(0, .ref h0)] := hl
  refine lv_aload_n hx hb dX2_clear_0 rfl (lv_at hl 0 rfl) ?_
  refine va_get (D := (dC, dI)) (ci := 2) (v := .ref sa1) (C := RX2) (T := TX2) (N := 7) hx hb hts inX2 hown hK hP 0 rfl rfl 1 (by decide) (hts _ T_30) (fun _ h9 => h9) rfl dX2_clear_1 ?_
  refine lv_iconst (v := 0) hx hb dX2_clear_4 (by decide) ?_
  have hPc := hP.sub (ws' := [(sa1, .inl (ks, 64, .inl f))]) [1] rfl
  have hDc := hD.sub (ws' := [(sa1, .inl (ks, 64, .inl f))]) [1] (by decide) rfl
  have hKc := hK.sub (tys' := [(ks, .int)]) [0] rfl
  have hFc := va_free (wc := [(sa1, .inl (ks, 64, .inl f))]) hD hS hA [1] rfl
  refine va_callv (va_runS (As := [.ref sa1, .int 0]) (rest := []) ⟨hx, hb, hml, hown, hts⟩ (c_J7_fill l dC dI H.size sa1 ks f) ⟨callB_of 2 hts (ax_gT T_111) rfl rfl rfl (hts _ T_112) (hts _ T_113) (by decide +kernel) ⟨Nat.le_of_ble_eq_true rfl, Nat.le_of_ble_eq_true rfl⟩, hts _ T_114⟩ ⟨fun a U g mk q => ⟨q.1, ax_pc rfl rfl q.2⟩, fun U hU hW => ⟨rfl, ax_pw hU hW hPc hKc hDc hN⟩⟩ rfl rfl hl.1 rfl (lv_room (Nat.le_of_ble_eq_true rfl)) dX2_clear_5 ⟨Nat.le_of_ble_eq_true rfl, Nat.le_of_ble_eq_true rfl⟩) hS (fun q _ h => hFc q h) hFc (fun _ t H1 locs ht hvm hw hB hz1 hk1 hS => ?_)
  obtain ⟨hP1, hK1, hD1⟩ := hB
  rw [ht] at hP1
  have hK1 := va_K.moved hvm.symm hK1
  obtain ⟨hP, hD⟩ := va_join (wr := [(h0, .inr (2, [.ref sa0, .ref sa1, .ref sa2, .int 0, .int 0, .int 0, .int 0]))]) (w1 := []) hP hD [1] [0] rfl rfl (by decide) (by decide) hk1 hFc hP1 hD1
  generalize H1 = H at hP hS ⊢
  have hP : va_P (dC, dI) vwCl [(h0, .inr (2, [.ref sa0, .ref sa1, .ref sa2, .int 0, .int 0, .int 0, .int 0]))] H := hP
  have hD : va_D A [(h0, .inr (2, [.ref sa0, .ref sa1, .ref sa2, .int 0, .int 0, .int 0, .int 0]))] := hD
  refine lv_aload_n hx hb dX2_clear_8 rfl (lv_at hl 0 rfl) ?_
  refine lv_iconst (v := 0) hx hb dX2_clear_9 (by decide) ?_
  refine va_put (D := (dC, dI)) (ci := 2) (v := .int 0) (ty := .int) (C := RX2) (T := TX2) (N := 7) hx hb hts inX2 tyX2 tyX2_ok nmX2 hown hK hP hD hS 0 rfl rfl 3 (by decide) (hts _ T_115) (fun _ h9 => h9) rfl (by decide +kernel) rfl rfl (Nat.le_of_ble_eq_true rfl) dX2_clear_10 (fun H locs hP hD hS => ?_)
  have hP : va_P (dC, dI) vwCl [(h0, .inr (2, [.ref sa0, .ref sa1, .ref sa2, .int 0, .int 0, .int 0, .int 0]))] H := hP
  have hD : va_D A [(h0, .inr (2, [.ref sa0, .ref sa1, .ref sa2, .int 0, .int 0, .int 0, .int 0]))] := hD
  refine lv_aload_n hx hb dX2_clear_13 rfl (lv_at hl 0 rfl) ?_
  refine lv_iconst (v := 0) hx hb dX2_clear_14 (by decide) ?_
  refine va_put (D := (dC, dI)) (ci := 2) (v := .int 0) (ty := .int) (C := RX2) (T := TX2) (N := 7) hx hb hts inX2 tyX2 tyX2_ok nmX2 hown hK hP hD hS 0 rfl rfl 4 (by decide) (hts _ T_116) (fun _ h9 => h9) rfl (by decide +kernel) rfl rfl (Nat.le_of_ble_eq_true rfl) dX2_clear_15 (fun H locs hP hD hS => ?_)
  have hP : va_P (dC, dI) vwCl [(h0, .inr (2, [.ref sa0, .ref sa1, .ref sa2, .int 0, .int 0, .int 0, .int 0]))] H := hP
  have hD : va_D A [(h0, .inr (2, [.ref sa0, .ref sa1, .ref sa2, .int 0, .int 0, .int 0, .int 0]))] := hD
  refine lv_aload_n hx hb dX2_clear_18 rfl (lv_at hl 0 rfl) ?_
  refine lv_iconst (v := 0) hx hb dX2_clear_19 (by decide) ?_
  refine va_put (D := (dC, dI)) (ci := 2) (v := .int 0) (ty := .int) (C := RX2) (T := TX2) (N := 7) hx hb hts inX2 tyX2 tyX2_ok nmX2 hown hK hP hD hS 0 rfl rfl 5 (by decide) (hts _ T_117) (fun _ h9 => h9) rfl (by decide +kernel) rfl rfl (Nat.le_of_ble_eq_true rfl) dX2_clear_20 (fun H locs hP hD hS => ?_)
  have hP : va_P (dC, dI) vwCl [(h0, .inr (2, [.ref sa0, .ref sa1, .ref sa2, .int 0, .int 0, .int 0, .int 0]))] H := hP
  have hD : va_D A [(h0, .inr (2, [.ref sa0, .ref sa1, .ref sa2, .int 0, .int 0, .int 0, .int 0]))] := hD
  refine lv_aload_n hx hb dX2_clear_23 rfl (lv_at hl 0 rfl) ?_
  refine lv_iconst (v := 0) hx hb dX2_clear_24 (by decide) ?_
  refine va_put (D := (dC, dI)) (ci := 2) (v := .int 0) (ty := .int) (C := RX2) (T := TX2) (N := 7) hx hb hts inX2 tyX2 tyX2_ok nmX2 hown hK hP hD hS 0 rfl rfl 6 (by decide) (hts _ T_118) (fun _ h9 => h9) rfl (by decide +kernel) rfl rfl (Nat.le_of_ble_eq_true rfl) dX2_clear_25 (fun H locs hP hD hS => ?_)
  have hP : va_P (dC, dI) vwCl [(h0, .inr (2, [.ref sa0, .ref sa1, .ref sa2, .int 0, .int 0, .int 0, .int 0]))] H := hP
  have hD : va_D A [(h0, .inr (2, [.ref sa0, .ref sa1, .ref sa2, .int 0, .int 0, .int 0, .int 0]))] := hD
  have hP9 := hP.sub (ws' := [(h0, .inr (2, [.ref sa0, .ref sa1, .ref sa2, .int 0, .int 0, .int 0, .int 0]))]) [0] rfl
  have hD9 := hD.sub (ws' := [(h0, .inr (2, [.ref sa0, .ref sa1, .ref sa2, .int 0, .int 0, .int 0, .int 0]))]) [0] (by decide) rfl
  have hK9 := hK.sub (tys' := []) [] rfl
  exact W.vret hx hb hr (fun t ht hW => ⟨⟨(), rfl, trivial, by rw [ht]; exact hP9, va_K.moved hW.alike hK9, hD9⟩, hS.F ht⟩) hS.2.2 dX2_clear_28

set_option maxHeartbeats 4000000 in
set_option maxRecDepth 100000 in
/-- scan at the end of the text -/
theorem c_X3_scan (l : Launch) (dC : Nat → ClassId) (dI : Nat → Nat → Nat) (sz : Nat) (h0 : Nat) (ra0 : Nat) (ra1 : Nat) (ra2 : Nat) (ra3 : Nat) (qt : Nat) (qs : Nat) : Met l yX3_scan (Cond.code yX3_scan cX3_scan 3 none :: T0) ({ frames := 0, cells := 0, slots := 0, locals := 0 }) (va_Pc [.ref h0] (ax_W dC dI sz [(h0, .inr (3, [.ref ra0, .ref ra1, .ref ra2, .ref ra3, .ref qt, .int 0, .ref qs, .int 0, .int 0, .int 0, .int 0, .int 0, .int 0, .int 0, .int (-1)]))] [])) (va_Qv (fun (_ : Unit) => True) (fun (_ : Unit) (t : State) => va_P (dC, dI) vwCl [(h0, .inr (3, [.ref ra0, .ref ra1, .ref ra2, .ref ra3, .ref qt, .int 0, .ref qs, .int 0, .int 0, .int 0, .int (-1), .int 0, .int 0, .int 0, .int (-1)]))] t.heap ∧ va_K (dC, dI) vwCl [] t ∧ va_D (va_A [(h0, .inr (3, [.ref ra0, .ref ra1, .ref ra2, .ref ra3, .ref qt, .int 0, .ref qs, .int 0, .int 0, .int 0, .int 0, .int 0, .int 0, .int 0, .int (-1)]))] sz) [(h0, .inr (3, [.ref ra0, .ref ra1, .ref ra2, .ref ra3, .ref qt, .int 0, .ref qs, .int 0, .int 0, .int 0, .int (-1), .int 0, .int 0, .int 0, .int (-1)]))]) (va_A [(h0, .inr (3, [.ref ra0, .ref ra1, .ref ra2, .ref ra3, .ref qt, .int 0, .ref qs, .int 0, .int 0, .int 0, .int 0, .int 0, .int 0, .int 0, .int (-1)]))] sz)) 0 0 (va_A [(h0, .inr (3, [.ref ra0, .ref ra1, .ref ra2, .ref ra3, .ref qt, .int 0, .ref qs, .int 0, .int 0, .int 0, .int 0, .int 0, .int 0, .int 0, .int (-1)]))] sz) := by
  refine Met.ofW (cc := cX3_scan) (maxL := 3) (ret := none) (by decide) rfl ?_
  intro p e s m args below meth c s₁ B hml hv
  obtain ⟨rfl, hsz, hP, hK, hD0, hN⟩ := hv
  have hx := B.exec
  have hb := B.bytes
  have hr := B.returns
  have hts : ∀ w ∈ T0, w.before _ s = true := fun w h => atoms_spec (ws := Cond.code yX3_scan cX3_scan 3 none :: T0) B.pre w (List.mem_cons_of_mem _ h)
  have hown : s.vm.findClass RX3 = some m.cls := findClass_of_methodNamed B.named
  have hlocks := B.notSynchronized
  subst hsz
  have hD := hD0.self (sz := s.heap.size)
  generalize hAe : va_A [(h0, .inr (3, [.ref ra0, .ref ra1, .ref ra2, .ref ra3, .ref qt, .int 0, .ref qs, .int 0, .int 0, .int 0, .int 0, .int 0, .int 0, .int 0, .int (-1)]))] s.heap.size = A at hD ⊢
  have hA : ∀ q : Nat, s.heap.size ≤ q → A q := fun q h => by rw [← hAe]; exact Or.inr h
  have hS : va_S A s.heap s.heap [] := va_S.rf
  have hP : va_P (dC, dI) vwCl [(h0, .inr (3, [.ref ra0, .ref ra1, .ref ra2, .ref ra3, .ref qt, .int 0, .ref qs, .int 0, .int 0, .int 0, .int 0, .int 0, .int 0, .int 0, .int (-1)]))] s.heap := hP
  have hl := lv_entry ([.ref h0]) (n := 3) (Nat.le_of_ble_eq_true rfl)
  rw [lg_entry_eq]
  generalize (lg_sl ([.ref h0]) ++ List.replicate (3 - (lg_sl ([.ref h0])).length) Slot.unset).toArray = ls at hl ⊢
  refine ax_gen hP hD hS (fun H locs hP hD hS => ?_)
  have hl : lv_has ls 3 [(0, .ref h0)] := hl
  refine lv_aload_n hx hb dX3_scan_0 rfl (lv_at hl 0 rfl) ?_
  refine va_get (D := (dC, dI)) (ci := 3) (v := .int 0) (C := RX3) (T := TX3) (N := 15) hx hb hts inX3 hown hK hP 0 rfl rfl 7 (by decide) (hts _ T_119) (fun _ h9 => h9) rfl dX3_scan_1 ?_
  refine lv_iconst (v := 1) hx hb dX3_scan_4 (by decide) ?_
  refine lv_icmp_eq (tgt := 16) hx hb dX3_scan_5 (by decide) (fun c => absurd c (by decide)) (fun _ => ?_)
  refine lv_aload_n hx hb dX3_scan_8 rfl (lv_at hl 0 rfl) ?_
  refine va_get (D := (dC, dI)) (ci := 3) (v := .int 0) (C := RX3) (T := TX3) (N := 15) hx hb hts inX3 hown hK hP 0 rfl rfl 7 (by decide) (hts _ T_119) (fun _ h9 => h9) rfl dX3_scan_9 ?_
  refine lv_iconst (v := 2) hx hb dX3_scan_12 (by decide) ?_
  refine lv_icmp_ne (tgt := 20) hx hb dX3_scan_13 (by decide) (fun _ => ?_) (fun c => absurd c (by decide))
  refine lv_iconst (v := 0) hx hb dX3_scan_20 (by decide) ?_
  refine lv_istore_n (lv' := [(1, .int 0), (0, .ref h0)]) hx hb dX3_scan_21 rfl hl (by decide) rfl (fun ls hl => ?_)
  refine lv_aload_n hx hb dX3_scan_22 rfl (lv_at hl 1 rfl) ?_
  refine lv_aload_n hx hb dX3_scan_23 rfl (lv_at hl 1 rfl) ?_
  refine va_get (D := (dC, dI)) (ci := 3) (v := .int 0) (C := RX3) (T := TX3) (N := 15) hx hb hts inX3 hown hK hP 0 rfl rfl 9 (by decide) (hts _ T_120) (fun _ h9 => h9) rfl dX3_scan_24 ?_
  refine va_put (D := (dC, dI)) (ci := 3) (v := .int 0) (ty := .int) (C := RX3) (T := TX3) (N := 15) hx hb hts inX3 tyX3 tyX3_ok nmX3 hown hK hP hD hS 0 rfl rfl 8 (by decide) (hts _ T_121) (fun _ h9 => h9) rfl (by decide +kernel) rfl rfl (Nat.le_of_ble_eq_true rfl) dX3_scan_27 (fun H locs hP hD hS => ?_)
  have hP : va_P (dC, dI) vwCl [(h0, .inr (3, [.ref ra0, .ref ra1, .ref ra2, .ref ra3, .ref qt, .int 0, .ref qs, .int 0, .int 0, .int 0, .int 0, .int 0, .int 0, .int 0, .int (-1)]))] H := hP
  have hD : va_D A [(h0, .inr (3, [.ref ra0, .ref ra1, .ref ra2, .ref ra3, .ref qt, .int 0, .ref qs, .int 0, .int 0, .int 0, .int 0, .int 0, .int 0, .int 0, .int (-1)]))] := hD
  refine lv_aload_n hx hb dX3_scan_30 rfl (lv_at hl 1 rfl) ?_
  refine va_get (D := (dC, dI)) (ci := 3) (v := .int 0) (C := RX3) (T := TX3) (N := 15) hx hb hts inX3 hown hK hP 0 rfl rfl 8 (by decide) (hts _ T_121) (fun _ h9 => h9) rfl dX3_scan_31 ?_
  refine lv_aload_n hx hb dX3_scan_34 rfl (lv_at hl 1 rfl) ?_
  refine va_get (D := (dC, dI)) (ci := 3) (v := .int 0) (C := RX3) (T := TX3) (N := 15) hx hb hts inX3 hown hK hP 0 rfl rfl 5 (by decide) (hts _ T_122) (fun _ h9 => h9) rfl dX3_scan_35 ?_
  refine lv_icmp_ge (tgt := 82) hx hb dX3_scan_38 (by decide) (fun _ => ?_) (fun c => absurd (by decide) c)
  refine lv_iload_n hx hb dX3_scan_82 rfl (lv_at hl 0 rfl) ?_
  refine lv_if_eq (tgt := 101) hx hb dX3_scan_83 (by decide) (fun _ => ?_) (fun c => absurd (by decide) c)
  refine lv_iconst (v := 0) hx hb dX3_scan_101 (by decide) ?_
  refine lv_istore_n (lv' := [(2, .int 0), (1, .int 0), (0, .ref h0)]) hx hb dX3_scan_102 rfl hl (by decide) rfl (fun ls hl => ?_)
  refine lv_aload_n hx hb dX3_scan_103 rfl (lv_at hl 2 rfl) ?_
  refine lv_aload_n hx hb dX3_scan_104 rfl (lv_at hl 2 rfl) ?_
  refine va_get (D := (dC, dI)) (ci := 3) (v := .int 0) (C := RX3) (T := TX3) (N := 15) hx hb hts inX3 hown hK hP 0 rfl rfl 8 (by decide) (hts _ T_121) (fun _ h9 => h9) rfl dX3_scan_105 ?_
  refine va_put (D := (dC, dI)) (ci := 3) (v := .int 0) (ty := .int) (C := RX3) (T := TX3) (N := 15) hx hb hts inX3 tyX3 tyX3_ok nmX3 hown hK hP hD hS 0 rfl rfl 9 (by decide) (hts _ T_120) (fun _ h9 => h9) rfl (by decide +kernel) rfl rfl (Nat.le_of_ble_eq_true rfl) dX3_scan_108 (fun H locs hP hD hS => ?_)
  have hP : va_P (dC, dI) vwCl [(h0, .inr (3, [.ref ra0, .ref ra1, .ref ra2, .ref ra3, .ref qt, .int 0, .ref qs, .int 0, .int 0, .int 0, .int 0, .int 0, .int 0, .int 0, .int (-1)]))] H := hP
  have hD : va_D A [(h0, .inr (3, [.ref ra0, .ref ra1, .ref ra2, .ref ra3, .ref qt, .int 0, .ref qs, .int 0, .int 0, .int 0, .int 0, .int 0, .int 0, .int 0, .int (-1)]))] := hD
  refine lv_aload_n hx hb dX3_scan_111 rfl (lv_at hl 2 rfl) ?_
  refine lv_iconst (v := (-1)) hx hb dX3_scan_112 (by decide) ?_
  refine va_put (D := (dC, dI)) (ci := 3) (v := .int (-1)) (ty := .int) (C := RX3) (T := TX3) (N := 15) hx hb hts inX3 tyX3 tyX3_ok nmX3 hown hK hP hD hS 0 rfl rfl 10 (by decide) (hts _ T_123) (fun _ h9 => h9) rfl (by decide +kernel) rfl rfl (Nat.le_of_ble_eq_true rfl) dX3_scan_113 (fun H locs hP hD hS => ?_)
  have hP : va_P (dC, dI) vwCl [(h0, .inr (3, [.ref ra0, .ref ra1, .ref ra2, .ref ra3, .ref qt, .int 0, .ref qs, .int 0, .int 0, .int 0, .int (-1), .int 0, .int 0, .int 0, .int (-1)]))] H := hP
  have hD : va_D A [(h0, .inr (3, [.ref ra0, .ref ra1, .ref ra2, .ref ra3, .ref qt, .int 0, .ref qs, .int 0, .int 0, .int 0, .int (-1), .int 0, .int 0, .int 0, .int (-1)]))] := hD
  refine lv_aload_n hx hb dX3_scan_116 rfl (lv_at hl 2 rfl) ?_
  refine va_get (D := (dC, dI)) (ci := 3) (v := .int 0) (C := RX3) (T := TX3) (N := 15) hx hb hts inX3 hown hK hP 0 rfl rfl 8 (by decide) (hts _ T_121) (fun _ h9 => h9) rfl dX3_scan_117 ?_
  refine lv_aload_n hx hb dX3_scan_120 rfl (lv_at hl 2 rfl) ?_
  refine va_get (D := (dC, dI)) (ci := 3) (v := .int 0) (C := RX3) (T := TX3) (N := 15) hx hb hts inX3 hown hK hP 0 rfl rfl 5 (by decide) (hts _ T_122) (fun _ h9 => h9) rfl dX3_scan_121 ?_
  refine lv_icmp_lt (tgt := 135) hx hb dX3_scan_124 (by decide) (fun c => absurd c (by decide)) (fun _ => ?_)
  refine lv_aload_n hx hb dX3_scan_127 rfl (lv_at hl 2 rfl) ?_
  refine lv_iconst (v := 0) hx hb dX3_scan_128 (by decide) ?_
  refine va_put (D := (dC, dI)) (ci := 3) (v := .int 0) (ty := .int) (C := RX3) (T := TX3) (N := 15) hx hb hts inX3 tyX3 tyX3_ok nmX3 hown hK hP hD hS 0 rfl rfl 7 (by decide) (hts _ T_119) (fun _ h9 => h9) rfl (by decide +kernel) rfl rfl (Nat.le_of_ble_eq_true rfl) dX3_scan_129 (fun H locs hP hD hS => ?_)
  have hP : va_P (dC, dI) vwCl [(h0, .inr (3, [.ref ra0, .ref ra1, .ref ra2, .ref ra3, .ref qt, .int 0, .ref qs, .int 0, .int 0, .int 0, .int (-1), .int 0, .int 0, .int 0, .int (-1)]))] H := hP
  have hD : va_D A [(h0, .inr (3, [.ref ra0, .ref ra1, .ref ra2, .ref ra3, .ref qt, .int 0, .ref qs, .int 0, .int 0, .int 0, .int (-1), .int 0, .int 0, .int 0, .int (-1)]))] := hD
  refine lv_goto (tgt := 236) hx hb dX3_scan_132 (by decide) ?_
  have hP9 := hP.sub (ws' := [(h0, .inr (3, [.ref ra0, .ref ra1, .ref ra2, .ref ra3, .ref qt, .int 0, .ref qs, .int 0, .int 0, .int 0, .int (-1), .int 0, .int 0, .int 0, .int (-1)]))]) [0] rfl
  have hD9 := hD.sub (ws' := [(h0, .inr (3, [.ref ra0, .ref ra1, .ref ra2, .ref ra3, .ref qt, .int 0, .ref qs, .int 0, .int 0, .int 0, .int (-1), .int 0, .int 0, .int 0, .int (-1)]))]) [0] (by decide) rfl
  have hK9 := hK.sub (tys' := []) [] rfl
  exact W.vret hx hb hr (fun t ht hW => ⟨⟨(), rfl, trivial, by rw [ht]; exact hP9, va_K.moved hW.alike hK9, hD9⟩, hS.F ht⟩) hS.2.2 dX3_scan_236

set_option maxHeartbeats 4000000 in
set_option maxRecDepth 100000 in
/-- fail -/
theorem c_X3_fail (l : Launch) (dC : Nat → ClassId) (dI : Nat → Nat → Nat) (sz : Nat) (h0 : Nat) (ra0 : Nat) (ra1 : Nat) (ra2 : Nat) (ra3 : Nat) (qt : Nat) (qs : Nat) : Met l yX3_fail (Cond.code yX3_fail cX3_fail 3 (some .boolean) :: T0) ({ frames := 0, cells := 0, slots := 0, locals := 0 }) (va_Pc [.ref h0, .int 1, .int 0] (ax_W dC dI sz [(h0, .inr (3, [.ref ra0, .ref ra1, .ref ra2, .ref ra3, .ref qt, .int 0, .ref qs, .int 0, .int 0, .int 0, .int (-1), .int 0, .int 0, .int 0, .int (-1)]))] [])) (va_Qi (fun (r : Int32) (_ : Unit) => r = 0) (fun (_ : Unit) (t : State) => va_P (dC, dI) vwCl [] t.heap ∧ va_K (dC, dI) vwCl [] t ∧ va_D (va_A [(h0, .inr (3, [.ref ra0, .ref ra1, .ref ra2, .ref ra3, .ref qt, .int 0, .ref qs, .int 0, .int 0, .int 0, .int (-1), .int 0, .int 0, .int 0, .int (-1)]))] sz) []) (va_A [(h0, .inr (3, [.ref ra0, .ref ra1, .ref ra2, .ref ra3, .ref qt, .int 0, .ref qs, .int 0, .int 0, .int 0, .int (-1), .int 0, .int 0, .int 0, .int (-1)]))] sz)) 0 0 (va_A [(h0, .inr (3, [.ref ra0, .ref ra1, .ref ra2, .ref ra3, .ref qt, .int 0, .ref qs, .int 0, .int 0, .int 0, .int (-1), .int 0, .int 0, .int 0, .int (-1)]))] sz) := by
  refine Met.ofW (cc := cX3_fail) (maxL := 3) (ret := (some .boolean)) (by decide) rfl ?_
  intro p e s m args below meth c s₁ B hml hv
  obtain ⟨rfl, hsz, hP, hK, hD0, hN⟩ := hv
  have hx := B.exec
  have hb := B.bytes
  have hr := B.returns
  have hts : ∀ w ∈ T0, w.before _ s = true := fun w h => atoms_spec (ws := Cond.code yX3_fail cX3_fail 3 (some .boolean) :: T0) B.pre w (List.mem_cons_of_mem _ h)
  have hown : s.vm.findClass RX3 = some m.cls := findClass_of_methodNamed B.named
  have hlocks := B.notSynchronized
  subst hsz
  have hD := hD0.self (sz := s.heap.size)
  generalize hAe : va_A [(h0, .inr (3, [.ref ra0, .ref ra1, .ref ra2, .ref ra3, .ref qt, .int 0, .ref qs, .int 0, .int 0, .int 0, .int (-1), .int 0, .int 0, .int 0, .int (-1)]))] s.heap.size = A at hD ⊢
  have hA : ∀ q : Nat, s.heap.size ≤ q → A q := fun q h => by rw [← hAe]; exact Or.inr h
  have hS : va_S A s.heap s.heap [] := va_S.rf
  have hP : va_P (dC, dI) vwCl [(h0, .inr (3, [.ref ra0, .ref ra1, .ref ra2, .ref ra3, .ref qt, .int 0, .ref qs, .int 0, .int 0, .int 0, .int (-1), .int 0, .int 0, .int 0, .int (-1)]))] s.heap := hP
  have hl := lv_entry ([.ref h0, .int 1, .int 0]) (n := 3) (Nat.le_of_ble_eq_true rfl)
  rw [lg_entry_eq]
  generalize (lg_sl ([.ref h0, .int 1, .int 0]) ++ List.replicate (3 - (lg_sl ([.ref h0, .int 1, .int 0])).length) Slot.unset).toArray = ls at hl ⊢
  refine ax_gen hP hD hS (fun H locs hP hD hS => ?_)
  have hl : lv_has ls 3 [(0, .ref h0), (1, .int 1), (2, .int 0)] := hl
  refine lv_aload_n hx hb dX3_fail_0 rfl (lv_at hl 0 rfl) ?_
  refine lv_iload_n hx hb dX3_fail_1 rfl (lv_at hl 1 rfl) ?_
  refine va_put (D := (dC, dI)) (ci := 3) (v := .int 1) (ty := .int) (C := RX3) (T := TX3) (N := 15) hx hb hts inX3 tyX3 tyX3_ok nmX3 hown hK hP hD hS 0 rfl rfl 13 (by decide) (hts _ T_124) (fun _ h9 => h9) rfl (by decide +kernel) rfl rfl (Nat.le_of_ble_eq_true rfl) dX3_fail_2 (fun H locs hP hD hS => ?_)
  have hP : va_P (dC, dI) vwCl [(h0, .inr (3, [.ref ra0, .ref ra1, .ref ra2, .ref ra3, .ref qt, .int 0, .ref qs, .int 0, .int 0, .int 0, .int (-1), .int 0, .int 0, .int 1, .int (-1)]))] H := hP
  have hD : va_D A [(h0, .inr (3, [.ref ra0, .ref ra1, .ref ra2, .ref ra3, .ref qt, .int 0, .ref qs, .int 0, .int 0, .int 0, .int (-1), .int 0, .int 0, .int 1, .int (-1)]))] := hD
  refine lv_aload_n hx hb dX3_fail_5 rfl (lv_at hl 0 rfl) ?_
  refine lv_iload_n hx hb dX3_fail_6 rfl (lv_at hl 2 rfl) ?_
  refine va_put (D := (dC, dI)) (ci := 3) (v := .int 0) (ty := .int) (C := RX3) (T := TX3) (N := 15) hx hb hts inX3 tyX3 tyX3_ok nmX3 hown hK hP hD hS 0 rfl rfl 14 (by decide) (hts _ T_38) (fun _ h9 => h9) rfl (by decide +kernel) rfl rfl (Nat.le_of_ble_eq_true rfl) dX3_fail_7 (fun H locs hP hD hS => ?_)
  have hP : va_P (dC, dI) vwCl [(h0, .inr (3, [.ref ra0, .ref ra1, .ref ra2, .ref ra3, .ref qt, .int 0, .ref qs, .int 0, .int 0, .int 0, .int (-1), .int 0, .int 0, .int 1, .int 0]))] H := hP
  have hD : va_D A [(h0, .inr (3, [.ref ra0, .ref ra1, .ref ra2, .ref ra3, .ref qt, .int 0, .ref qs, .int 0, .int 0, .int 0, .int (-1), .int 0, .int 0, .int 1, .int 0]))] := hD
  refine lv_iconst (v := 0) hx hb dX3_fail_10 (by decide) ?_
  have hP9 := hP.sub (ws' := []) [] rfl
  have hD9 := hD.sub (ws' := []) [] (by decide) rfl
  have hK9 := hK.sub (tys' := []) [] rfl
  exact W.zret (v := 0) (ty := .boolean) hx hb hr (by decide) (fun t ht hW => ⟨⟨0, (), rfl, rfl, by rw [ht]; exact hP9, va_K.moved hW.alike hK9, hD9⟩, hS.F ht⟩) hS.2.2 dX3_fail_11

set_option maxHeartbeats 4000000 in
set_option maxRecDepth 100000 in
/-- read of an empty tape: it has a fault -/
theorem c_X3_read (l : Launch) (dC : Nat → ClassId) (dI : Nat → Nat → Nat) (sz : Nat) (h0 : Nat) (ra0 : Nat) (ra1 : Nat) (ra2 : Nat) (ra3 : Nat) (qt : Nat) (qs : Nat) (sa0 : Nat) (sa1 : Nat) (sa2 : Nat) (ks : ClassId) (f : Nat → Int32) : Met l yX3_read (Cond.code yX3_read cX3_read 6 (some .boolean) :: T0) ({ frames := 2, cells := 0, slots := 0, locals := 43 }) (va_Pc [.ref h0, .ref qt, .int 0, .ref qs] (ax_W dC dI sz [(h0, .inr (3, [.ref ra0, .ref ra1, .ref ra2, .ref ra3, .null, .int 0, .null, .int 0, .int 0, .int 0, .int 0, .int 0, .int 0, .int 0, .int (-1)])), (qs, .inr (2, [.ref sa0, .ref sa1, .ref sa2, .int 0, .int 0, .int 0, .int 0])), (sa1, .inl (ks, 64, .inl f))] [(ks, .int)])) (va_Qi (fun (r : Int32) (_ : Unit) => r = 0) (fun (_ : Unit) (t : State) => va_P (dC, dI) vwCl [] t.heap ∧ va_K (dC, dI) vwCl [] t ∧ va_D (va_A [(h0, .inr (3, [.ref ra0, .ref ra1, .ref ra2, .ref ra3, .null, .int 0, .null, .int 0, .int 0, .int 0, .int 0, .int 0, .int 0, .int 0, .int (-1)])), (qs, .inr (2, [.ref sa0, .ref sa1, .ref sa2, .int 0, .int 0, .int 0, .int 0])), (sa1, .inl (ks, 64, .inl f))] sz) []) (va_A [(h0, .inr (3, [.ref ra0, .ref ra1, .ref ra2, .ref ra3, .null, .int 0, .null, .int 0, .int 0, .int 0, .int 0, .int 0, .int 0, .int 0, .int (-1)])), (qs, .inr (2, [.ref sa0, .ref sa1, .ref sa2, .int 0, .int 0, .int 0, .int 0])), (sa1, .inl (ks, 64, .inl f))] sz)) 0 0 (va_A [(h0, .inr (3, [.ref ra0, .ref ra1, .ref ra2, .ref ra3, .null, .int 0, .null, .int 0, .int 0, .int 0, .int 0, .int 0, .int 0, .int 0, .int (-1)])), (qs, .inr (2, [.ref sa0, .ref sa1, .ref sa2, .int 0, .int 0, .int 0, .int 0])), (sa1, .inl (ks, 64, .inl f))] sz) := by
  refine Met.ofW (cc := cX3_read) (maxL := 6) (ret := (some .boolean)) (by decide) rfl ?_
  intro p e s m args below meth c s₁ B hml hv
  obtain ⟨rfl, hsz, hP, hK, hD0, hN⟩ := hv
  have hx := B.exec
  have hb := B.bytes
  have hr := B.returns
  have hts : ∀ w ∈ T0, w.before _ s = true := fun w h => atoms_spec (ws := Cond.code yX3_read cX3_read 6 (some .boolean) :: T0) B.pre w (List.mem_cons_of_mem _ h)
  have hown : s.vm.findClass RX3 = some m.cls := findClass_of_methodNamed B.named
  have hlocks := B.notSynchronized
  subst hsz
  have hD := hD0.self (sz := s.heap.size)
  generalize hAe : va_A [(h0, .inr (3, [.ref ra0, .ref ra1, .ref ra2, .ref ra3, .null, .int 0, .null, .int 0, .int 0, .int 0, .int 0, .int 0, .int 0, .int 0, .int (-1)])), (qs, .inr (2, [.ref sa0, .ref sa1, .ref sa2, .int 0, .int 0, .int 0, .int 0])), (sa1, .inl (ks, 64, .inl f))] s.heap.size = A at hD ⊢
  have hA : ∀ q : Nat, s.heap.size ≤ q → A q := fun q h => by rw [← hAe]; exact Or.inr h
  have hS : va_S A s.heap s.heap [] := va_S.rf
  have hP : va_P (dC, dI) vwCl [(h0, .inr (3, [.ref ra0, .ref ra1, .ref ra2, .ref ra3, .null, .int 0, .null, .int 0, .int 0, .int 0, .int 0, .int 0, .int 0, .int 0, .int (-1)])), (qs, .inr (2, [.ref sa0, .ref sa1, .ref sa2, .int 0, .int 0, .int 0, .int 0])), (sa1, .inl (ks, 64, .inl f))] s.heap := hP
  have hl := lv_entry ([.ref h0, .ref qt, .int 0, .ref qs]) (n := 6) (Nat.le_of_ble_eq_true rfl)
  rw [lg_entry_eq]
  generalize (lg_sl ([.ref h0, .ref qt, .int 0, .ref qs]) ++ List.replicate (6 - (lg_sl ([.ref h0, .ref qt, .int 0, .ref qs])).length) Slot.unset).toArray = ls at hl ⊢
  refine ax_gen hP hD hS (fun H locs hP hD hS => ?_)
  have hl : lv_has ls 6 [(0, .ref h0), (1, .ref qt), (2, .int 0), (3, .ref qs)] := hl
  refine lv_aload_n hx hb dX3_read_0 rfl (lv_at hl 0 rfl) ?_
  refine lv_aload_n hx hb dX3_read_1 rfl (lv_at hl 1 rfl) ?_
  refine va_put (D := (dC, dI)) (ci := 3) (v := .ref qt) (ty := .array .byte) (C := RX3) (T := TX3) (N := 15) hx hb hts inX3 tyX3 tyX3_ok nmX3 hown hK hP hD hS 0 rfl rfl 4 (by decide) (hts _ T_125) (fun _ h9 => h9) rfl (by decide +kernel) rfl rfl (Nat.le_of_ble_eq_true rfl) dX3_read_2 (fun H locs hP hD hS => ?_)
  have hP : va_P (dC, dI) vwCl [(h0, .inr (3, [.ref ra0, .ref ra1, .ref ra2, .ref ra3, .ref qt, .int 0, .null, .int 0, .int 0, .int 0, .int 0, .int 0, .int 0, .int 0, .int (-1)])), (qs, .inr (2, [.ref sa0, .ref sa1, .ref sa2, .int 0, .int 0, .int 0, .int 0])), (sa1, .inl (ks, 64, .inl f))] H := hP
  have hD : va_D A [(h0, .inr (3, [.ref ra0, .ref ra1, .ref ra2, .ref ra3, .ref qt, .int 0, .null, .int 0, .int 0, .int 0, .int 0, .int 0, .int 0, .int 0, .int (-1)])), (qs, .inr (2, [.ref sa0, .ref sa1, .ref sa2, .int 0, .int 0, .int 0, .int 0])), (sa1, .inl (ks, 64, .inl f))] := hD
  refine lv_aload_n hx hb dX3_read_5 rfl (lv_at hl 0 rfl) ?_
  refine lv_iload_n hx hb dX3_read_6 rfl (lv_at hl 2 rfl) ?_
  refine va_put (D := (dC, dI)) (ci := 3) (v := .int 0) (ty := .int) (C := RX3) (T := TX3) (N := 15) hx hb hts inX3 tyX3 tyX3_ok nmX3 hown hK hP hD hS 0 rfl rfl 5 (by decide) (hts _ T_122) (fun _ h9 => h9) rfl (by decide +kernel) rfl rfl (Nat.le_of_ble_eq_true rfl) dX3_read_7 (fun H locs hP hD hS => ?_)
  have hP : va_P (dC, dI) vwCl [(h0, .inr (3, [.ref ra0, .ref ra1, .ref ra2, .ref ra3, .ref qt, .int 0, .null, .int 0, .int 0, .int 0, .int 0, .int 0, .int 0, .int 0, .int (-1)])), (qs, .inr (2, [.ref sa0, .ref sa1, .ref sa2, .int 0, .int 0, .int 0, .int 0])), (sa1, .inl (ks, 64, .inl f))] H := hP
  have hD : va_D A [(h0, .inr (3, [.ref ra0, .ref ra1, .ref ra2, .ref ra3, .ref qt, .int 0, .null, .int 0, .int 0, .int 0, .int 0, .int 0, .int 0, .int 0, .int (-1)])), (qs, .inr (2, [.ref sa0, .ref sa1, .ref sa2, .int 0, .int 0, .int 0, .int 0])), (sa1, .inl (ks, 64, .inl f))] := hD
  refine lv_aload_n hx hb dX3_read_10 rfl (lv_at hl 0 rfl) ?_
  refine lv_aload_n hx hb dX3_read_11 rfl (lv_at hl 3 rfl) ?_
  refine va_put (D := (dC, dI)) (ci := 3) (v := .ref qs) (ty := .object "LaneWarps$Program") (C := RX3) (T := TX3) (N := 15) hx hb hts inX3 tyX3 tyX3_ok nmX3 hown hK hP hD hS 0 rfl rfl 6 (by decide) (hts _ T_126) (fun _ h9 => h9) rfl (by decide +kernel) rfl rfl (Nat.le_of_ble_eq_true rfl) dX3_read_12 (fun H locs hP hD hS => ?_)
  have hP : va_P (dC, dI) vwCl [(h0, .inr (3, [.ref ra0, .ref ra1, .ref ra2, .ref ra3, .ref qt, .int 0, .ref qs, .int 0, .int 0, .int 0, .int 0, .int 0, .int 0, .int 0, .int (-1)])), (qs, .inr (2, [.ref sa0, .ref sa1, .ref sa2, .int 0, .int 0, .int 0, .int 0])), (sa1, .inl (ks, 64, .inl f))] H := hP
  have hD : va_D A [(h0, .inr (3, [.ref ra0, .ref ra1, .ref ra2, .ref ra3, .ref qt, .int 0, .ref qs, .int 0, .int 0, .int 0, .int 0, .int 0, .int 0, .int 0, .int (-1)])), (qs, .inr (2, [.ref sa0, .ref sa1, .ref sa2, .int 0, .int 0, .int 0, .int 0])), (sa1, .inl (ks, 64, .inl f))] := hD
  refine lv_aload_n hx hb dX3_read_15 rfl (lv_at hl 0 rfl) ?_
  refine va_get (D := (dC, dI)) (ci := 3) (v := .ref qs) (C := RX3) (T := TX3) (N := 15) hx hb hts inX3 hown hK hP 0 rfl rfl 6 (by decide) (hts _ T_126) (fun _ h9 => h9) rfl dX3_read_16 ?_
  have hPc := hP.sub (ws' := [(qs, .inr (2, [.ref sa0, .ref sa1, .ref sa2, .int 0, .int 0, .int 0, .int 0])), (sa1, .inl (ks, 64, .inl f))]) [1, 2] rfl
  have hDc := hD.sub (ws' := [(qs, .inr (2, [.ref sa0, .ref sa1, .ref sa2, .int 0, .int 0, .int 0, .int 0])), (sa1, .inl (ks, 64, .inl f))]) [1, 2] (by decide) rfl
  have hKc := hK.sub (tys' := [(ks, .int)]) [0] rfl
  have hFc := va_free (wc := [(qs, .inr (2, [.ref sa0, .ref sa1, .ref sa2, .int 0, .int 0, .int 0, .int 0])), (sa1, .inl (ks, 64, .inl f))]) hD hS hA [1, 2] rfl
  refine va_callv (va_runV (As := []) (rest := []) ⟨hx, hb, hml, hown, hts⟩ (c_X2_clear l dC dI H.size qs sa0 sa1 sa2 ks f) (cwV 0 hts (ax_gV T_128 T_129 T_130 T_77 T_127) rfl rfl rfl (by decide +kernel) ⟨Nat.le_of_ble_eq_true rfl, Nat.le_of_ble_eq_true rfl⟩) ⟨fun a U g mk q => ⟨q.1, ax_pc rfl rfl q.2⟩, va_recv hKc hPc (ci := 2) (q0 := 0) rfl rfl, fun U hU hW => ⟨rfl, ax_pw hU hW hPc hKc hDc hN⟩⟩ rfl rfl hl.1 rfl (lv_room (Nat.le_of_ble_eq_true rfl)) dX3_read_19 ⟨Nat.le_of_ble_eq_true rfl, Nat.le_of_ble_eq_true rfl⟩) hS (fun q _ h => hFc q h) hFc (fun _ t H1 locs ht hvm hw hB hz1 hk1 hS => ?_)
  obtain ⟨hP1, hK1, hD1⟩ := hB
  rw [ht] at hP1
  have hK1 := va_K.moved hvm.symm hK1
  obtain ⟨hP, hD⟩ := va_join (wr := [(h0, .inr (3, [.ref ra0, .ref ra1, .ref ra2, .ref ra3, .ref qt, .int 0, .ref qs, .int 0, .int 0, .int 0, .int 0, .int 0, .int 0, .int 0, .int (-1)]))]) (w1 := [(qs, .inr (2, [.ref sa0, .ref sa1, .ref sa2, .int 0, .int 0, .int 0, .int 0]))]) hP hD [1, 2] [0] rfl rfl (by decide) (by decide) hk1 hFc hP1 hD1
  generalize H1 = H at hP hS ⊢
  have hP : va_P (dC, dI) vwCl [(h0, .inr (3, [.ref ra0, .ref ra1, .ref ra2, .ref ra3, .ref qt, .int 0, .ref qs, .int 0, .int 0, .int 0, .int 0, .int 0, .int 0, .int 0, .int (-1)])), (qs, .inr (2, [.ref sa0, .ref sa1, .ref sa2, .int 0, .int 0, .int 0, .int 0]))] H := hP
  have hD : va_D A [(h0, .inr (3, [.ref ra0, .ref ra1, .ref ra2, .ref ra3, .ref qt, .int 0, .ref qs, .int 0, .int 0, .int 0, .int 0, .int 0, .int 0, .int 0, .int (-1)])), (qs, .inr (2, [.ref sa0, .ref sa1, .ref sa2, .int 0, .int 0, .int 0, .int 0]))] := hD
  refine lv_aload_n hx hb dX3_read_22 rfl (lv_at hl 0 rfl) ?_
  refine lv_iconst (v := 0) hx hb dX3_read_23 (by decide) ?_
  refine va_put (D := (dC, dI)) (ci := 3) (v := .int 0) (ty := .int) (C := RX3) (T := TX3) (N := 15) hx hb hts inX3 tyX3 tyX3_ok nmX3 hown hK hP hD hS 0 rfl rfl 7 (by decide) (hts _ T_119) (fun _ h9 => h9) rfl (by decide +kernel) rfl rfl (Nat.le_of_ble_eq_true rfl) dX3_read_24 (fun H locs hP hD hS => ?_)
  have hP : va_P (dC, dI) vwCl [(h0, .inr (3, [.ref ra0, .ref ra1, .ref ra2, .ref ra3, .ref qt, .int 0, .ref qs, .int 0, .int 0, .int 0, .int 0, .int 0, .int 0, .int 0, .int (-1)])), (qs, .inr (2, [.ref sa0, .ref sa1, .ref sa2, .int 0, .int 0, .int 0, .int 0]))] H := hP
  have hD : va_D A [(h0, .inr (3, [.ref ra0, .ref ra1, .ref ra2, .ref ra3, .ref qt, .int 0, .ref qs, .int 0, .int 0, .int 0, .int 0, .int 0, .int 0, .int 0, .int (-1)])), (qs, .inr (2, [.ref sa0, .ref sa1, .ref sa2, .int 0, .int 0, .int 0, .int 0]))] := hD
  refine lv_aload_n hx hb dX3_read_27 rfl (lv_at hl 0 rfl) ?_
  refine lv_iconst (v := 0) hx hb dX3_read_28 (by decide) ?_
  refine va_put (D := (dC, dI)) (ci := 3) (v := .int 0) (ty := .int) (C := RX3) (T := TX3) (N := 15) hx hb hts inX3 tyX3 tyX3_ok nmX3 hown hK hP hD hS 0 rfl rfl 9 (by decide) (hts _ T_120) (fun _ h9 => h9) rfl (by decide +kernel) rfl rfl (Nat.le_of_ble_eq_true rfl) dX3_read_29 (fun H locs hP hD hS => ?_)
  have hP : va_P (dC, dI) vwCl [(h0, .inr (3, [.ref ra0, .ref ra1, .ref ra2, .ref ra3, .ref qt, .int 0, .ref qs, .int 0, .int 0, .int 0, .int 0, .int 0, .int 0, .int 0, .int (-1)])), (qs, .inr (2, [.ref sa0, .ref sa1, .ref sa2, .int 0, .int 0, .int 0, .int 0]))] H := hP
  have hD : va_D A [(h0, .inr (3, [.ref ra0, .ref ra1, .ref ra2, .ref ra3, .ref qt, .int 0, .ref qs, .int 0, .int 0, .int 0, .int 0, .int 0, .int 0, .int 0, .int (-1)])), (qs, .inr (2, [.ref sa0, .ref sa1, .ref sa2, .int 0, .int 0, .int 0, .int 0]))] := hD
  refine lv_aload_n hx hb dX3_read_32 rfl (lv_at hl 0 rfl) ?_
  refine lv_iconst (v := 0) hx hb dX3_read_33 (by decide) ?_
  refine va_put (D := (dC, dI)) (ci := 3) (v := .int 0) (ty := .int) (C := RX3) (T := TX3) (N := 15) hx hb hts inX3 tyX3 tyX3_ok nmX3 hown hK hP hD hS 0 rfl rfl 13 (by decide) (hts _ T_124) (fun _ h9 => h9) rfl (by decide +kernel) rfl rfl (Nat.le_of_ble_eq_true rfl) dX3_read_34 (fun H locs hP hD hS => ?_)
  have hP : va_P (dC, dI) vwCl [(h0, .inr (3, [.ref ra0, .ref ra1, .ref ra2, .ref ra3, .ref qt, .int 0, .ref qs, .int 0, .int 0, .int 0, .int 0, .int 0, .int 0, .int 0, .int (-1)])), (qs, .inr (2, [.ref sa0, .ref sa1, .ref sa2, .int 0, .int 0, .int 0, .int 0]))] H := hP
  have hD : va_D A [(h0, .inr (3, [.ref ra0, .ref ra1, .ref ra2, .ref ra3, .ref qt, .int 0, .ref qs, .int 0, .int 0, .int 0, .int 0, .int 0, .int 0, .int 0, .int (-1)])), (qs, .inr (2, [.ref sa0, .ref sa1, .ref sa2, .int 0, .int 0, .int 0, .int 0]))] := hD
  refine lv_aload_n hx hb dX3_read_37 rfl (lv_at hl 0 rfl) ?_
  refine lv_iconst (v := (-1)) hx hb dX3_read_38 (by decide) ?_
  refine va_put (D := (dC, dI)) (ci := 3) (v := .int (-1)) (ty := .int) (C := RX3) (T := TX3) (N := 15) hx hb hts inX3 tyX3 tyX3_ok nmX3 hown hK hP hD hS 0 rfl rfl 14 (by decide) (hts _ T_38) (fun _ h9 => h9) rfl (by decide +kernel) rfl rfl (Nat.le_of_ble_eq_true rfl) dX3_read_39 (fun H locs hP hD hS => ?_)
  have hP : va_P (dC, dI) vwCl [(h0, .inr (3, [.ref ra0, .ref ra1, .ref ra2, .ref ra3, .ref qt, .int 0, .ref qs, .int 0, .int 0, .int 0, .int 0, .int 0, .int 0, .int 0, .int (-1)])), (qs, .inr (2, [.ref sa0, .ref sa1, .ref sa2, .int 0, .int 0, .int 0, .int 0]))] H := hP
  have hD : va_D A [(h0, .inr (3, [.ref ra0, .ref ra1, .ref ra2, .ref ra3, .ref qt, .int 0, .ref qs, .int 0, .int 0, .int 0, .int 0, .int 0, .int 0, .int 0, .int (-1)])), (qs, .inr (2, [.ref sa0, .ref sa1, .ref sa2, .int 0, .int 0, .int 0, .int 0]))] := hD
  refine lv_iconst (v := 1) hx hb dX3_read_42 (by decide) ?_
  refine lv_istore (lv' := [(4, .int 1), (0, .ref h0), (1, .ref qt), (2, .int 0), (3, .ref qs)]) hx hb dX3_read_43 hl (by decide) rfl (fun ls hl => ?_)
  refine lv_aload_n hx hb dX3_read_45 rfl (lv_at hl 1 rfl) ?_
  have hPc := hP.sub (ws' := [(h0, .inr (3, [.ref ra0, .ref ra1, .ref ra2, .ref ra3, .ref qt, .int 0, .ref qs, .int 0, .int 0, .int 0, .int 0, .int 0, .int 0, .int 0, .int (-1)]))]) [0] rfl
  have hDc := hD.sub (ws' := [(h0, .inr (3, [.ref ra0, .ref ra1, .ref ra2, .ref ra3, .ref qt, .int 0, .ref qs, .int 0, .int 0, .int 0, .int 0, .int 0, .int 0, .int 0, .int (-1)]))]) [0] (by decide) rfl
  have hKc := hK.sub (tys' := []) [] rfl
  have hFc := va_free (wc := [(h0, .inr (3, [.ref ra0, .ref ra1, .ref ra2, .ref ra3, .ref qt, .int 0, .ref qs, .int 0, .int 0, .int 0, .int 0, .int 0, .int 0, .int 0, .int (-1)]))]) hD hS hA [0] rfl
  refine va_callv (va_runV (As := []) (rest := []) ⟨hx, hb, hml, hown, hts⟩ (c_X3_scan l dC dI H.size h0 ra0 ra1 ra2 ra3 qt qs) (cwV 0 hts (ax_gV T_132 T_133 T_134 T_71 T_131) rfl rfl rfl (by decide +kernel) ⟨Nat.le_of_ble_eq_true rfl, Nat.le_of_ble_eq_true rfl⟩) ⟨fun a U g mk q => ⟨q.1, ax_pc rfl rfl q.2⟩, va_recv hKc hPc (ci := 3) (q0 := 0) rfl rfl, fun U hU hW => ⟨rfl, ax_pw hU hW hPc hKc hDc hN⟩⟩ rfl rfl hl.1 rfl (lv_room (Nat.le_of_ble_eq_true rfl)) dX3_read_46 ⟨Nat.le_of_ble_eq_true rfl, Nat.le_of_ble_eq_true rfl⟩) hS (fun q _ h => hFc q h) hFc (fun _ t H1 locs ht hvm hw hB hz1 hk1 hS => ?_)
  obtain ⟨hP1, hK1, hD1⟩ := hB
  rw [ht] at hP1
  have hK1 := va_K.moved hvm.symm hK1
  obtain ⟨hP, hD⟩ := va_join (wr := [(qs, .inr (2, [.ref sa0, .ref sa1, .ref sa2, .int 0, .int 0, .int 0, .int 0]))]) (w1 := [(h0, .inr (3, [.ref ra0, .ref ra1, .ref ra2, .ref ra3, .ref qt, .int 0, .ref qs, .int 0, .int 0, .int 0, .int (-1), .int 0, .int 0, .int 0, .int (-1)]))]) hP hD [0] [1] rfl rfl (by decide) (by decide) hk1 hFc hP1 hD1
  generalize H1 = H at hP hS ⊢
  have hP : va_P (dC, dI) vwCl [(qs, .inr (2, [.ref sa0, .ref sa1, .ref sa2, .int 0, .int 0, .int 0, .int 0])), (h0, .inr (3, [.ref ra0, .ref ra1, .ref ra2, .ref ra3, .ref qt, .int 0, .ref qs, .int 0, .int 0, .int 0, .int (-1), .int 0, .int 0, .int 0, .int (-1)]))] H := hP
  have hD : va_D A [(qs, .inr (2, [.ref sa0, .ref sa1, .ref sa2, .int 0, .int 0, .int 0, .int 0])), (h0, .inr (3, [.ref ra0, .ref ra1, .ref ra2, .ref ra3, .ref qt, .int 0, .ref qs, .int 0, .int 0, .int 0, .int (-1), .int 0, .int 0, .int 0, .int (-1)]))] := hD
  refine lv_iconst (v := 0) hx hb dX3_read_49 (by decide) ?_
  refine lv_istore (lv' := [(5, .int 0), (4, .int 1), (0, .ref h0), (1, .ref qt), (2, .int 0), (3, .ref qs)]) hx hb dX3_read_50 hl (by decide) rfl (fun ls hl => ?_)
  refine lv_iload hx hb dX3_read_52 (lv_at hl 1 rfl) ?_
  refine lv_if_eq (tgt := 85) hx hb dX3_read_54 (by decide) (fun c => absurd c (by decide)) (fun _ => ?_)
  refine lv_aload_n hx hb dX3_read_57 rfl (lv_at hl 2 rfl) ?_
  refine va_get (D := (dC, dI)) (ci := 3) (v := .int 0) (C := RX3) (T := TX3) (N := 15) hx hb hts inX3 hown hK hP 1 rfl rfl 7 (by decide) (hts _ T_119) (fun _ h9 => h9) rfl dX3_read_58 ?_
  refine lv_if_eq (tgt := 85) hx hb dX3_read_61 (by decide) (fun _ => ?_) (fun c => absurd (by decide) c)
  refine lv_iload hx hb dX3_read_85 (lv_at hl 1 rfl) ?_
  refine lv_if_eq (tgt := 110) hx hb dX3_read_87 (by decide) (fun c => absurd c (by decide)) (fun _ => ?_)
  refine lv_aload_n hx hb dX3_read_90 rfl (lv_at hl 2 rfl) ?_
  refine va_get (D := (dC, dI)) (ci := 3) (v := .ref qs) (C := RX3) (T := TX3) (N := 15) hx hb hts inX3 hown hK hP 1 rfl rfl 6 (by decide) (hts _ T_126) (fun _ h9 => h9) rfl dX3_read_91 ?_
  refine va_getN (D := (dC, dI)) (ci := 2) (v := .int 0) (C := RX2) (T := TX2) (N := 7) hx hb hts inX2 hown hK hP 0 rfl rfl 3 (by decide) (va_Nw.use rfl hN.2.2.2.2.2.2.2.2.2.1) (fun _ h9 => h9) rfl dX3_read_94 ?_
  refine lv_if_ne (tgt := 110) hx hb dX3_read_97 (by decide) (fun c => absurd (by decide) c) (fun _ => ?_)
  refine lv_aload_n hx hb dX3_read_100 rfl (lv_at hl 2 rfl) ?_
  refine lv_iconst (v := 1) hx hb dX3_read_101 (by decide) ?_
  refine lv_aload_n hx hb dX3_read_102 rfl (lv_at hl 2 rfl) ?_
  refine va_get (D := (dC, dI)) (ci := 3) (v := .int 0) (C := RX3) (T := TX3) (N := 15) hx hb hts inX3 hown hK hP 1 rfl rfl 5 (by decide) (hts _ T_122) (fun _ h9 => h9) rfl dX3_read_103 ?_
  have hPc := hP.sub (ws' := [(h0, .inr (3, [.ref ra0, .ref ra1, .ref ra2, .ref ra3, .ref qt, .int 0, .ref qs, .int 0, .int 0, .int 0, .int (-1), .int 0, .int 0, .int 0, .int (-1)]))]) [1] rfl
  have hDc := hD.sub (ws' := [(h0, .inr (3, [.ref ra0, .ref ra1, .ref ra2, .ref ra3, .ref qt, .int 0, .ref qs, .int 0, .int 0, .int 0, .int (-1), .int 0, .int 0, .int 0, .int (-1)]))]) [1] (by decide) rfl
  have hKc := hK.sub (tys' := []) [] rfl
  have hFc := va_free (wc := [(h0, .inr (3, [.ref ra0, .ref ra1, .ref ra2, .ref ra3, .ref qt, .int 0, .ref qs, .int 0, .int 0, .int 0, .int (-1), .int 0, .int 0, .int 0, .int (-1)]))]) hD hS hA [1] rfl
  refine va_calli (va_runV (As := [.int 1, .int 0]) (rest := []) ⟨hx, hb, hml, hown, hts⟩ (c_X3_fail l dC dI H.size h0 ra0 ra1 ra2 ra3 qt qs) (cwV 2 hts (ax_gV T_136 T_137 T_138 T_71 T_135) rfl rfl rfl (by decide +kernel) ⟨Nat.le_of_ble_eq_true rfl, Nat.le_of_ble_eq_true rfl⟩) ⟨fun a U g mk q => ⟨q.1, ax_pc rfl rfl q.2⟩, va_recv hKc hPc (ci := 3) (q0 := 0) rfl rfl, fun U hU hW => ⟨rfl, ax_pw hU hW hPc hKc hDc hN⟩⟩ rfl rfl hl.1 rfl (lv_room (Nat.le_of_ble_eq_true rfl)) dX3_read_106 ⟨Nat.le_of_ble_eq_true rfl, Nat.le_of_ble_eq_true rfl⟩) hS (fun q _ h => hFc q h) hFc (fun r1 _ t H1 locs ht hvm hw hB hz1 hk1 hS => ?_)
  obtain ⟨hP1, hK1, hD1⟩ := hB
  rw [ht] at hP1
  have hK1 := va_K.moved hvm.symm hK1
  obtain ⟨hP, hD⟩ := va_join (wr := [(qs, .inr (2, [.ref sa0, .ref sa1, .ref sa2, .int 0, .int 0, .int 0, .int 0]))]) (w1 := []) hP hD [1] [0] rfl rfl (by decide) (by decide) hk1 hFc hP1 hD1
  generalize H1 = H at hP hS ⊢
  have hP : va_P (dC, dI) vwCl [(qs, .inr (2, [.ref sa0, .ref sa1, .ref sa2, .int 0, .int 0, .int 0, .int 0]))] H := hP
  have hD : va_D A [(qs, .inr (2, [.ref sa0, .ref sa1, .ref sa2, .int 0, .int 0, .int 0, .int 0]))] := hD
  subst hw
  have hP9 := hP.sub (ws' := []) [] rfl
  have hD9 := hD.sub (ws' := []) [] (by decide) rfl
  have hK9 := hK.sub (tys' := []) [] rfl
  exact W.zret (v := 0) (ty := .boolean) hx hb hr (by decide) (fun t ht hW => ⟨⟨0, (), rfl, rfl, by rw [ht]; exact hP9, va_K.moved hW.alike hK9, hD9⟩, hS.F ht⟩) hS.2.2 dX3_read_109

set_option maxHeartbeats 4000000 in
set_option maxRecDepth 100000 in
/-- program at an empty tape: NONE -/
theorem c_X6_program (l : Launch) (dC : Nat → ClassId) (dI : Nat → Nat → Nat) (sz : Nat) (h0 : Nat) (qt : Nat) (qr : Nat) (qc : Nat) (qs : Nat) (qn : Nat) (qp : Nat) (qm : Nat) (qf : Nat) (qx : Nat) (ra0 : Nat) (ra1 : Nat) (ra2 : Nat) (ra3 : Nat) (sa0 : Nat) (sa1 : Nat) (sa2 : Nat) (ks : ClassId) (kr : ClassId) : Met l yX6_program (Cond.code yX6_program cX6_program 3 (some .int) :: T0) ({ frames := 3, cells := 0, slots := 0, locals := 68 }) (va_Pc [.ref h0] (ax_W dC dI sz [(h0, .inr (6, [.ref qt, .int 0, .ref qr, .ref qc, .ref qs, .int 0, .ref qn, .ref qp, .int 0, .int 0, .ref qm, .ref qf, .ref qx, .long 1])), (qr, .inr (3, [.ref ra0, .ref ra1, .ref ra2, .ref ra3, .null, .int 0, .null, .int 0, .int 0, .int 0, .int 0, .int 0, .int 0, .int 0, .int (-1)])), (qs, .inr (2, [.ref sa0, .ref sa1, .ref sa2, .int 0, .int 0, .int 0, .int 0])), (sa1, .inl (ks, 64, .inl (fun _ => 0))), (qx, .inl (kr, 6, .inl (fun _ => 0)))] [(ks, .int), (kr, .int)])) (va_Qi (fun (r : Int32) (_ : Unit) => r = (-1)) (fun (_ : Unit) (t : State) => va_P (dC, dI) vwCl [] t.heap ∧ va_K (dC, dI) vwCl [] t ∧ va_D (va_A [(h0, .inr (6, [.ref qt, .int 0, .ref qr, .ref qc, .ref qs, .int 0, .ref qn, .ref qp, .int 0, .int 0, .ref qm, .ref qf, .ref qx, .long 1])), (qr, .inr (3, [.ref ra0, .ref ra1, .ref ra2, .ref ra3, .null, .int 0, .null, .int 0, .int 0, .int 0, .int 0, .int 0, .int 0, .int 0, .int (-1)])), (qs, .inr (2, [.ref sa0, .ref sa1, .ref sa2, .int 0, .int 0, .int 0, .int 0])), (sa1, .inl (ks, 64, .inl (fun _ => 0))), (qx, .inl (kr, 6, .inl (fun _ => 0)))] sz) []) (va_A [(h0, .inr (6, [.ref qt, .int 0, .ref qr, .ref qc, .ref qs, .int 0, .ref qn, .ref qp, .int 0, .int 0, .ref qm, .ref qf, .ref qx, .long 1])), (qr, .inr (3, [.ref ra0, .ref ra1, .ref ra2, .ref ra3, .null, .int 0, .null, .int 0, .int 0, .int 0, .int 0, .int 0, .int 0, .int 0, .int (-1)])), (qs, .inr (2, [.ref sa0, .ref sa1, .ref sa2, .int 0, .int 0, .int 0, .int 0])), (sa1, .inl (ks, 64, .inl (fun _ => 0))), (qx, .inl (kr, 6, .inl (fun _ => 0)))] sz)) 0 0 (va_A [(h0, .inr (6, [.ref qt, .int 0, .ref qr, .ref qc, .ref qs, .int 0, .ref qn, .ref qp, .int 0, .int 0, .ref qm, .ref qf, .ref qx, .long 1])), (qr, .inr (3, [.ref ra0, .ref ra1, .ref ra2, .ref ra3, .null, .int 0, .null, .int 0, .int 0, .int 0, .int 0, .int 0, .int 0, .int 0, .int (-1)])), (qs, .inr (2, [.ref sa0, .ref sa1, .ref sa2, .int 0, .int 0, .int 0, .int 0])), (sa1, .inl (ks, 64, .inl (fun _ => 0))), (qx, .inl (kr, 6, .inl (fun _ => 0)))] sz) := by
  refine Met.ofW (cc := cX6_program) (maxL := 3) (ret := (some .int)) (by decide) rfl ?_
  intro p e s m args below meth c s₁ B hml hv
  obtain ⟨rfl, hsz, hP, hK, hD0, hN⟩ := hv
  have hx := B.exec
  have hb := B.bytes
  have hr := B.returns
  have hts : ∀ w ∈ T0, w.before _ s = true := fun w h => atoms_spec (ws := Cond.code yX6_program cX6_program 3 (some .int) :: T0) B.pre w (List.mem_cons_of_mem _ h)
  have hown : s.vm.findClass RX6 = some m.cls := findClass_of_methodNamed B.named
  have hlocks := B.notSynchronized
  subst hsz
  have hD := hD0.self (sz := s.heap.size)
  generalize hAe : va_A [(h0, .inr (6, [.ref qt, .int 0, .ref qr, .ref qc, .ref qs, .int 0, .ref qn, .ref qp, .int 0, .int 0, .ref qm, .ref qf, .ref qx, .long 1])), (qr, .inr (3, [.ref ra0, .ref ra1, .ref ra2, .ref ra3, .null, .int 0, .null, .int 0, .int 0, .int 0, .int 0, .int 0, .int 0, .int 0, .int (-1)])), (qs, .inr (2, [.ref sa0, .ref sa1, .ref sa2, .int 0, .int 0, .int 0, .int 0])), (sa1, .inl (ks, 64, .inl (fun _ => 0))), (qx, .inl (kr, 6, .inl (fun _ => 0)))] s.heap.size = A at hD ⊢
  have hA : ∀ q : Nat, s.heap.size ≤ q → A q := fun q h => by rw [← hAe]; exact Or.inr h
  have hS : va_S A s.heap s.heap [] := va_S.rf
  have hP : va_P (dC, dI) vwCl [(h0, .inr (6, [.ref qt, .int 0, .ref qr, .ref qc, .ref qs, .int 0, .ref qn, .ref qp, .int 0, .int 0, .ref qm, .ref qf, .ref qx, .long 1])), (qr, .inr (3, [.ref ra0, .ref ra1, .ref ra2, .ref ra3, .null, .int 0, .null, .int 0, .int 0, .int 0, .int 0, .int 0, .int 0, .int 0, .int (-1)])), (qs, .inr (2, [.ref sa0, .ref sa1, .ref sa2, .int 0, .int 0, .int 0, .int 0])), (sa1, .inl (ks, 64, .inl (fun _ => 0))), (qx, .inl (kr, 6, .inl (fun _ => 0)))] s.heap := hP
  have hl := lv_entry ([.ref h0]) (n := 3) (Nat.le_of_ble_eq_true rfl)
  rw [lg_entry_eq]
  generalize (lg_sl ([.ref h0]) ++ List.replicate (3 - (lg_sl ([.ref h0])).length) Slot.unset).toArray = ls at hl ⊢
  refine ax_gen hP hD hS (fun H locs hP hD hS => ?_)
  have hl : lv_has ls 3 [(0, .ref h0)] := hl
  refine lv_aload_n hx hb dX6_program_0 rfl (lv_at hl 0 rfl) ?_
  refine va_get (D := (dC, dI)) (ci := 6) (v := .ref qr) (C := RX6) (T := TX6) (N := 14) hx hb hts inX6 hown hK hP 0 rfl rfl 2 (by decide) (hts _ T_74) (fun _ h9 => h9) rfl dX6_program_1 ?_
  refine lv_aload_n hx hb dX6_program_4 rfl (lv_at hl 0 rfl) ?_
  refine va_get (D := (dC, dI)) (ci := 6) (v := .ref qt) (C := RX6) (T := TX6) (N := 14) hx hb hts inX6 hown hK hP 0 rfl rfl 0 (by decide) (hts _ T_68) (fun _ h9 => h9) rfl dX6_program_5 ?_
  refine lv_aload_n hx hb dX6_program_8 rfl (lv_at hl 0 rfl) ?_
  refine va_get (D := (dC, dI)) (ci := 6) (v := .int 0) (C := RX6) (T := TX6) (N := 14) hx hb hts inX6 hown hK hP 0 rfl rfl 1 (by decide) (hts _ T_101) (fun _ h9 => h9) rfl dX6_program_9 ?_
  refine lv_aload_n hx hb dX6_program_12 rfl (lv_at hl 0 rfl) ?_
  refine va_get (D := (dC, dI)) (ci := 6) (v := .ref qs) (C := RX6) (T := TX6) (N := 14) hx hb hts inX6 hown hK hP 0 rfl rfl 4 (by decide) (hts _ T_81) (fun _ h9 => h9) rfl dX6_program_13 ?_
  have hPc := hP.sub (ws' := [(qr, .inr (3, [.ref ra0, .ref ra1, .ref ra2, .ref ra3, .null, .int 0, .null, .int 0, .int 0, .int 0, .int 0, .int 0, .int 0, .int 0, .int (-1)])), (qs, .inr (2, [.ref sa0, .ref sa1, .ref sa2, .int 0, .int 0, .int 0, .int 0])), (sa1, .inl (ks, 64, .inl (fun _ => 0)))]) [1, 2, 3] rfl
  have hDc := hD.sub (ws' := [(qr, .inr (3, [.ref ra0, .ref ra1, .ref ra2, .ref ra3, .null, .int 0, .null, .int 0, .int 0, .int 0, .int 0, .int 0, .int 0, .int 0, .int (-1)])), (qs, .inr (2, [.ref sa0, .ref sa1, .ref sa2, .int 0, .int 0, .int 0, .int 0])), (sa1, .inl (ks, 64, .inl (fun _ => 0)))]) [1, 2, 3] (by decide) rfl
  have hKc := hK.sub (tys' := [(ks, .int)]) [0] rfl
  have hFc := va_free (wc := [(qr, .inr (3, [.ref ra0, .ref ra1, .ref ra2, .ref ra3, .null, .int 0, .null, .int 0, .int 0, .int 0, .int 0, .int 0, .int 0, .int 0, .int (-1)])), (qs, .inr (2, [.ref sa0, .ref sa1, .ref sa2, .int 0, .int 0, .int 0, .int 0])), (sa1, .inl (ks, 64, .inl (fun _ => 0)))]) hD hS hA [1, 2, 3] rfl
  refine va_calli (va_runV (As := [.ref qt, .int 0, .ref qs]) (rest := []) ⟨hx, hb, hml, hown, hts⟩ (c_X3_read l dC dI H.size qr ra0 ra1 ra2 ra3 qt qs sa0 sa1 sa2 ks (fun _ => 0)) (cwV 3 hts (ax_gV T_140 T_141 T_142 T_71 T_139) rfl rfl rfl (by decide +kernel) ⟨Nat.le_of_ble_eq_true rfl, Nat.le_of_ble_eq_true rfl⟩) ⟨fun a U g mk q => ⟨q.1, ax_pc rfl rfl q.2⟩, va_recv hKc hPc (ci := 3) (q0 := 0) rfl rfl, fun U hU hW => ⟨rfl, ax_pw hU hW hPc hKc hDc hN⟩⟩ rfl rfl hl.1 rfl (lv_room (Nat.le_of_ble_eq_true rfl)) dX6_program_16 ⟨Nat.le_of_ble_eq_true rfl, Nat.le_of_ble_eq_true rfl⟩) hS (fun q _ h => hFc q h) hFc (fun r1 _ t H1 locs ht hvm hw hB hz1 hk1 hS => ?_)
  obtain ⟨hP1, hK1, hD1⟩ := hB
  rw [ht] at hP1
  have hK1 := va_K.moved hvm.symm hK1
  obtain ⟨hP, hD⟩ := va_join (wr := [(h0, .inr (6, [.ref qt, .int 0, .ref qr, .ref qc, .ref qs, .int 0, .ref qn, .ref qp, .int 0, .int 0, .ref qm, .ref qf, .ref qx, .long 1])), (qx, .inl (kr, 6, .inl (fun _ => 0)))]) (w1 := []) hP hD [1, 2, 3] [0, 4] rfl rfl (by decide) (by decide) hk1 hFc hP1 hD1
  generalize H1 = H at hP hS ⊢
  have hP : va_P (dC, dI) vwCl [(h0, .inr (6, [.ref qt, .int 0, .ref qr, .ref qc, .ref qs, .int 0, .ref qn, .ref qp, .int 0, .int 0, .ref qm, .ref qf, .ref qx, .long 1])), (qx, .inl (kr, 6, .inl (fun _ => 0)))] H := hP
  have hD : va_D A [(h0, .inr (6, [.ref qt, .int 0, .ref qr, .ref qc, .ref qs, .int 0, .ref qn, .ref qp, .int 0, .int 0, .ref qm, .ref qf, .ref qx, .long 1])), (qx, .inl (kr, 6, .inl (fun _ => 0)))] := hD
  subst hw
  refine lv_istore_n (lv' := [(1, .int 0), (0, .ref h0)]) hx hb dX6_program_19 rfl hl (by decide) rfl (fun ls hl => ?_)
  refine lv_aload_n hx hb dX6_program_20 rfl (lv_at hl 1 rfl) ?_
  refine lv_iconst (v := 0) hx hb dX6_program_21 (by decide) ?_
  refine va_put (D := (dC, dI)) (ci := 6) (v := .int 0) (ty := .int) (C := RX6) (T := TX6) (N := 14) hx hb hts inX6 tyX6 tyX6_ok nmX6 hown hK hP hD hS 0 rfl rfl 1 (by decide) (hts _ T_101) (fun _ h9 => h9) rfl (by decide +kernel) rfl rfl (Nat.le_of_ble_eq_true rfl) dX6_program_22 (fun H locs hP hD hS => ?_)
  have hP : va_P (dC, dI) vwCl [(h0, .inr (6, [.ref qt, .int 0, .ref qr, .ref qc, .ref qs, .int 0, .ref qn, .ref qp, .int 0, .int 0, .ref qm, .ref qf, .ref qx, .long 1])), (qx, .inl (kr, 6, .inl (fun _ => 0)))] H := hP
  have hD : va_D A [(h0, .inr (6, [.ref qt, .int 0, .ref qr, .ref qc, .ref qs, .int 0, .ref qn, .ref qp, .int 0, .int 0, .ref qm, .ref qf, .ref qx, .long 1])), (qx, .inl (kr, 6, .inl (fun _ => 0)))] := hD
  refine lv_iload_n hx hb dX6_program_25 rfl (lv_at hl 0 rfl) ?_
  refine lv_if_ne (tgt := 35) hx hb dX6_program_26 (by decide) (fun c => absurd (by decide) c) (fun _ => ?_)
  refine lv_aload_n hx hb dX6_program_29 rfl (lv_at hl 1 rfl) ?_
  refine lv_iconst (v := 1) hx hb dX6_program_30 (by decide) ?_
  have hPc := hP.sub (ws' := [(h0, .inr (6, [.ref qt, .int 0, .ref qr, .ref qc, .ref qs, .int 0, .ref qn, .ref qp, .int 0, .int 0, .ref qm, .ref qf, .ref qx, .long 1])), (qx, .inl (kr, 6, .inl (fun _ => 0)))]) [0, 1] rfl
  have hDc := hD.sub (ws' := [(h0, .inr (6, [.ref qt, .int 0, .ref qr, .ref qc, .ref qs, .int 0, .ref qn, .ref qp, .int 0, .int 0, .ref qm, .ref qf, .ref qx, .long 1])), (qx, .inl (kr, 6, .inl (fun _ => 0)))]) [0, 1] (by decide) rfl
  have hKc := hK.sub (tys' := [(kr, .int)]) [1] rfl
  have hFc := va_free (wc := [(h0, .inr (6, [.ref qt, .int 0, .ref qr, .ref qc, .ref qs, .int 0, .ref qn, .ref qp, .int 0, .int 0, .ref qm, .ref qf, .ref qx, .long 1])), (qx, .inl (kr, 6, .inl (fun _ => 0)))]) hD hS hA [0, 1] rfl
  refine va_calli (va_runV (As := [.int 1]) (rest := []) ⟨hx, hb, hml, hown, hts⟩ (c_X6_refuse l dC dI H.size h0 qt qr qc qs qn qp qm qf qx kr (fun _ => 0) 1 (ax_in (by decide))) (cwV 1 hts (ax_gV T_108 T_109 T_110 T_106 T_107) rfl rfl rfl (by decide +kernel) ⟨Nat.le_of_ble_eq_true rfl, Nat.le_of_ble_eq_true rfl⟩) ⟨fun a U g mk q => ⟨q.1, ax_pc rfl rfl q.2⟩, va_recv hKc hPc (ci := 6) (q0 := 0) rfl rfl, fun U hU hW => ⟨rfl, ax_pw hU hW hPc hKc hDc hN⟩⟩ rfl rfl hl.1 rfl (lv_room (Nat.le_of_ble_eq_true rfl)) dX6_program_31 ⟨Nat.le_of_ble_eq_true rfl, Nat.le_of_ble_eq_true rfl⟩) hS (fun q _ h => hFc q h) hFc (fun r2 _ t H1 locs ht hvm hw hB hz1 hk1 hS => ?_)
  obtain ⟨hP1, hK1, hD1⟩ := hB
  rw [ht] at hP1
  have hK1 := va_K.moved hvm.symm hK1
  obtain ⟨hP, hD⟩ := va_join (wr := []) (w1 := []) hP hD [0, 1] [] rfl rfl (by decide) (by decide) hk1 hFc hP1 hD1
  generalize H1 = H at hP hS ⊢
  have hP : va_P (dC, dI) vwCl [] H := hP
  have hD : va_D A [] := hD
  subst hw
  have hP9 := hP.sub (ws' := []) [] rfl
  have hD9 := hD.sub (ws' := []) [] (by decide) rfl
  have hK9 := hK.sub (tys' := []) [] rfl
  exact W.iret (v := (-1)) hx hb hr (fun t ht hW => ⟨⟨(-1), (), rfl, rfl, by rw [ht]; exact hP9, va_K.moved hW.alike hK9, hD9⟩, hS.F ht⟩) hS.2.2 dX6_program_34
end
section
set_option maxHeartbeats 4000000 in
set_option maxRecDepth 100000 in
/-- fault -/
theorem c_X6_fault (l : Launch) (dC : Nat → ClassId) (dI : Nat → Nat → Nat) (sz : Nat) (h0 : Nat) (qt : Nat) (qr : Nat) (qc : Nat) (qs : Nat) (qn : Nat) (qp : Nat) (qm : Nat) (qf : Nat) (qx : Nat) (ra0 : Nat) (ra1 : Nat) (ra2 : Nat) (ra3 : Nat) (p0 : Int32) : Met l yX6_fault (Cond.code yX6_fault cX6_fault 2 (some .int) :: T0) ({ frames := 0, cells := 0, slots := 0, locals := 0 }) (va_Pc [.ref h0, .int p0] (ax_W dC dI sz [(h0, .inr (6, [.ref qt, .int 0, .ref qr, .ref qc, .ref qs, .int 0, .ref qn, .ref qp, .int 0, .int 0, .ref qm, .ref qf, .ref qx, .long 1])), (qr, .inr (3, [.ref ra0, .ref ra1, .ref ra2, .ref ra3, .null, .int 0, .null, .int 0, .int 0, .int 0, .int 0, .int 0, .int 0, .int 0, .int (-1)]))] [])) (va_Qi (fun (r : Int32) (_ : Unit) => r = a_fault p0) (fun (_ : Unit) (t : State) => va_P (dC, dI) vwCl [] t.heap ∧ va_K (dC, dI) vwCl [] t ∧ va_D (va_A [(h0, .inr (6, [.ref qt, .int 0, .ref qr, .ref qc, .ref qs, .int 0, .ref qn, .ref qp, .int 0, .int 0, .ref qm, .ref qf, .ref qx, .long 1])), (qr, .inr (3, [.ref ra0, .ref ra1, .ref ra2, .ref ra3, .null, .int 0, .null, .int 0, .int 0, .int 0, .int 0, .int 0, .int 0, .int 0, .int (-1)]))] sz) []) (va_A [(h0, .inr (6, [.ref qt, .int 0, .ref qr, .ref qc, .ref qs, .int 0, .ref qn, .ref qp, .int 0, .int 0, .ref qm, .ref qf, .ref qx, .long 1])), (qr, .inr (3, [.ref ra0, .ref ra1, .ref ra2, .ref ra3, .null, .int 0, .null, .int 0, .int 0, .int 0, .int 0, .int 0, .int 0, .int 0, .int (-1)]))] sz)) 0 0 (va_A [(h0, .inr (6, [.ref qt, .int 0, .ref qr, .ref qc, .ref qs, .int 0, .ref qn, .ref qp, .int 0, .int 0, .ref qm, .ref qf, .ref qx, .long 1])), (qr, .inr (3, [.ref ra0, .ref ra1, .ref ra2, .ref ra3, .null, .int 0, .null, .int 0, .int 0, .int 0, .int 0, .int 0, .int 0, .int 0, .int (-1)]))] sz) := by
  refine Met.ofW (cc := cX6_fault) (maxL := 2) (ret := (some .int)) (by decide) rfl ?_
  intro p e s m args below meth c s₁ B hml hv
  obtain ⟨rfl, hsz, hP, hK, hD0, hN⟩ := hv
  have hx := B.exec
  have hb := B.bytes
  have hr := B.returns
  have hts : ∀ w ∈ T0, w.before _ s = true := fun w h => atoms_spec (ws := Cond.code yX6_fault cX6_fault 2 (some .int) :: T0) B.pre w (List.mem_cons_of_mem _ h)
  have hown : s.vm.findClass RX6 = some m.cls := findClass_of_methodNamed B.named
  have hlocks := B.notSynchronized
  subst hsz
  have hD := hD0.self (sz := s.heap.size)
  generalize hAe : va_A [(h0, .inr (6, [.ref qt, .int 0, .ref qr, .ref qc, .ref qs, .int 0, .ref qn, .ref qp, .int 0, .int 0, .ref qm, .ref qf, .ref qx, .long 1])), (qr, .inr (3, [.ref ra0, .ref ra1, .ref ra2, .ref ra3, .null, .int 0, .null, .int 0, .int 0, .int 0, .int 0, .int 0, .int 0, .int 0, .int (-1)]))] s.heap.size = A at hD ⊢
  have hA : ∀ q : Nat, s.heap.size ≤ q → A q := fun q h => by rw [← hAe]; exact Or.inr h
  have hS : va_S A s.heap s.heap [] := va_S.rf
  have hP : va_P (dC, dI) vwCl [(h0, .inr (6, [.ref qt, .int 0, .ref qr, .ref qc, .ref qs, .int 0, .ref qn, .ref qp, .int 0, .int 0, .ref qm, .ref qf, .ref qx, .long 1])), (qr, .inr (3, [.ref ra0, .ref ra1, .ref ra2, .ref ra3, .null, .int 0, .null, .int 0, .int 0, .int 0, .int 0, .int 0, .int 0, .int 0, .int (-1)]))] s.heap := hP
  have hl := lv_entry ([.ref h0, .int p0]) (n := 2) (Nat.le_of_ble_eq_true rfl)
  rw [lg_entry_eq]
  generalize (lg_sl ([.ref h0, .int p0]) ++ List.replicate (2 - (lg_sl ([.ref h0, .int p0])).length) Slot.unset).toArray = ls at hl ⊢
  refine ax_gen hP hD hS (fun H locs hP hD hS => ?_)
  have hl : lv_has ls 2 [(0, .ref h0), (1, .int p0)] := hl
  refine lv_iload_n hx hb dX6_fault_0 rfl (lv_at hl 1 rfl) ?_
  refine lv_if_ne (tgt := 12) hx hb dX6_fault_1 (by decide) (fun c1 => ?_) (fun c1 => ?_)
  · refine lv_iload_n hx hb dX6_fault_12 rfl (lv_at hl 1 rfl) ?_
    refine lv_iconst (v := 1) hx hb dX6_fault_13 (by decide) ?_
    refine lv_icmp_ne (tgt := 27) hx hb dX6_fault_14 (by decide) (fun c2 => ?_) (fun c2 => ?_)
    · refine lv_iconst (v := (-1)) hx hb dX6_fault_27 (by decide) ?_
      have hP9 := hP.sub (ws' := []) [] rfl
      have hD9 := hD.sub (ws' := []) [] (by decide) rfl
      have hK9 := hK.sub (tys' := []) [] rfl
      exact W.iret (v := (-1)) hx hb hr (fun t ht hW => ⟨⟨(-1), (), rfl, (by have h_0 := mt (ax_eq (n := 0) (by decide)).mpr c1; have h_1 := mt (ax_eq (n := 1) (by decide)).mpr c2; unfold a_fault; first | (rw [if_pos (by omega)]; done) | (rw [if_neg (by omega)]; done)), by rw [ht]; exact hP9, va_K.moved hW.alike hK9, hD9⟩, hS.F ht⟩) hS.2.2 dX6_fault_28
    · refine lv_aload_n hx hb dX6_fault_17 rfl (lv_at hl 0 rfl) ?_
      refine va_get (D := (dC, dI)) (ci := 6) (v := .ref qr) (C := RX6) (T := TX6) (N := 14) hx hb hts inX6 hown hK hP 0 rfl rfl 2 (by decide) (hts _ T_74) (fun _ h9 => h9) rfl dX6_fault_18 ?_
      refine va_getN (D := (dC, dI)) (ci := 3) (v := .int (-1)) (C := RX3) (T := TX3) (N := 15) hx hb hts inX3 hown hK hP 1 rfl rfl 14 (by decide) (va_Nw.use rfl hN.2.2.2.2.2.2.2.2.2.2.1) (fun _ h9 => h9) rfl dX6_fault_21 ?_
      refine lv_goto (tgt := 28) hx hb dX6_fault_24 (by decide) ?_
      have hP9 := hP.sub (ws' := []) [] rfl
      have hD9 := hD.sub (ws' := []) [] (by decide) rfl
      have hK9 := hK.sub (tys' := []) [] rfl
      exact W.iret (v := (-1)) hx hb hr (fun t ht hW => ⟨⟨(-1), (), rfl, (by have h_0 := mt (ax_eq (n := 0) (by decide)).mpr c1; have h_1 := (ax_eq (n := 1) (by decide)).mp c2; unfold a_fault; first | (rw [if_pos (by omega)]; done) | (rw [if_neg (by omega)]; done)), by rw [ht]; exact hP9, va_K.moved hW.alike hK9, hD9⟩, hS.F ht⟩) hS.2.2 dX6_fault_28
  · refine lv_aload_n hx hb dX6_fault_4 rfl (lv_at hl 0 rfl) ?_
    refine va_get (D := (dC, dI)) (ci := 6) (v := .ref qr) (C := RX6) (T := TX6) (N := 14) hx hb hts inX6 hown hK hP 0 rfl rfl 2 (by decide) (hts _ T_74) (fun _ h9 => h9) rfl dX6_fault_5 ?_
    refine va_getN (D := (dC, dI)) (ci := 3) (v := .int 0) (C := RX3) (T := TX3) (N := 15) hx hb hts inX3 hown hK hP 1 rfl rfl 13 (by decide) (va_Nw.use rfl hN.2.2.2.2.2.2.2.2.2.2.2.1) (fun _ h9 => h9) rfl dX6_fault_8 ?_
    have hP9 := hP.sub (ws' := []) [] rfl
    have hD9 := hD.sub (ws' := []) [] (by decide) rfl
    have hK9 := hK.sub (tys' := []) [] rfl
    exact W.iret (v := 0) hx hb hr (fun t ht hW => ⟨⟨0, (), rfl, (by have h_0 := (ax_eq (n := 0) (by decide)).mp c1; unfold a_fault; first | (rw [if_pos (by omega)]; done) | (rw [if_neg (by omega)]; done)), by rw [ht]; exact hP9, va_K.moved hW.alike hK9, hD9⟩, hS.F ht⟩) hS.2.2 dX6_fault_11

set_option maxHeartbeats 4000000 in
set_option maxRecDepth 100000 in
/-- has -/
theorem c_X6_has (l : Launch) (dC : Nat → ClassId) (dI : Nat → Nat → Nat) (sz : Nat) (h0 : Nat) (qt : Nat) (qr : Nat) (qc : Nat) (qs : Nat) (qn : Nat) (qp : Nat) (qm : Nat) (qf : Nat) (qx : Nat) (p0 : Int32) : Met l yX6_has (Cond.code yX6_has cX6_has 2 (some .int) :: T0) ({ frames := 0, cells := 0, slots := 0, locals := 0 }) (va_Pc [.ref h0, .int p0] (ax_W dC dI sz [(h0, .inr (6, [.ref qt, .int 0, .ref qr, .ref qc, .ref qs, .int 0, .ref qn, .ref qp, .int 0, .int 0, .ref qm, .ref qf, .ref qx, .long 1]))] [])) (va_Qi (fun (r : Int32) (_ : Unit) => r = a_has p0) (fun (_ : Unit) (t : State) => va_P (dC, dI) vwCl [] t.heap ∧ va_K (dC, dI) vwCl [] t ∧ va_D (va_A [(h0, .inr (6, [.ref qt, .int 0, .ref qr, .ref qc, .ref qs, .int 0, .ref qn, .ref qp, .int 0, .int 0, .ref qm, .ref qf, .ref qx, .long 1]))] sz) []) (va_A [(h0, .inr (6, [.ref qt, .int 0, .ref qr, .ref qc, .ref qs, .int 0, .ref qn, .ref qp, .int 0, .int 0, .ref qm, .ref qf, .ref qx, .long 1]))] sz)) 0 0 (va_A [(h0, .inr (6, [.ref qt, .int 0, .ref qr, .ref qc, .ref qs, .int 0, .ref qn, .ref qp, .int 0, .int 0, .ref qm, .ref qf, .ref qx, .long 1]))] sz) := by
  refine Met.ofW (cc := cX6_has) (maxL := 2) (ret := (some .int)) (by decide) rfl ?_
  intro p e s m args below meth c s₁ B hml hv
  obtain ⟨rfl, hsz, hP, hK, hD0, hN⟩ := hv
  have hx := B.exec
  have hb := B.bytes
  have hr := B.returns
  have hts : ∀ w ∈ T0, w.before _ s = true := fun w h => atoms_spec (ws := Cond.code yX6_has cX6_has 2 (some .int) :: T0) B.pre w (List.mem_cons_of_mem _ h)
  have hown : s.vm.findClass RX6 = some m.cls := findClass_of_methodNamed B.named
  have hlocks := B.notSynchronized
  subst hsz
  have hD := hD0.self (sz := s.heap.size)
  generalize hAe : va_A [(h0, .inr (6, [.ref qt, .int 0, .ref qr, .ref qc, .ref qs, .int 0, .ref qn, .ref qp, .int 0, .int 0, .ref qm, .ref qf, .ref qx, .long 1]))] s.heap.size = A at hD ⊢
  have hA : ∀ q : Nat, s.heap.size ≤ q → A q := fun q h => by rw [← hAe]; exact Or.inr h
  have hS : va_S A s.heap s.heap [] := va_S.rf
  have hP : va_P (dC, dI) vwCl [(h0, .inr (6, [.ref qt, .int 0, .ref qr, .ref qc, .ref qs, .int 0, .ref qn, .ref qp, .int 0, .int 0, .ref qm, .ref qf, .ref qx, .long 1]))] s.heap := hP
  have hl := lv_entry ([.ref h0, .int p0]) (n := 2) (Nat.le_of_ble_eq_true rfl)
  rw [lg_entry_eq]
  generalize (lg_sl ([.ref h0, .int p0]) ++ List.replicate (2 - (lg_sl ([.ref h0, .int p0])).length) Slot.unset).toArray = ls at hl ⊢
  refine ax_gen hP hD hS (fun H locs hP hD hS => ?_)
  have hl : lv_has ls 2 [(0, .ref h0), (1, .int p0)] := hl
  refine lv_iload_n hx hb dX6_has_0 rfl (lv_at hl 1 rfl) ?_
  refine lv_if_lt (tgt := 10) hx hb dX6_has_1 (by decide) (fun c1 => ?_) (fun c1 => ?_)
  · refine lv_iconst (v := (-1)) hx hb dX6_has_10 (by decide) ?_
    have hP9 := hP.sub (ws' := []) [] rfl
    have hD9 := hD.sub (ws' := []) [] (by decide) rfl
    have hK9 := hK.sub (tys' := []) [] rfl
    exact W.iret (v := (-1)) hx hb hr (fun t ht hW => ⟨⟨(-1), (), rfl, (by have h_0 := (ax_lt (n := 0) (by decide)).mp c1; unfold a_has; first | (rw [if_pos (by omega)]; done) | (rw [if_neg (by omega)]; done)), by rw [ht]; exact hP9, va_K.moved hW.alike hK9, hD9⟩, hS.F ht⟩) hS.2.2 dX6_has_11
  · refine lv_iload_n hx hb dX6_has_4 rfl (lv_at hl 1 rfl) ?_
    refine lv_bipush (v := 13) hx hb dX6_has_5 (by decide) ?_
    refine lv_icmp_le (tgt := 12) hx hb dX6_has_7 (by decide) (fun c2 => ?_) (fun c2 => ?_)
    · refine lv_aload_n hx hb dX6_has_12 rfl (lv_at hl 0 rfl) ?_
      refine va_get (D := (dC, dI)) (ci := 6) (v := .int 0) (C := RX6) (T := TX6) (N := 14) hx hb hts inX6 hown hK hP 0 rfl rfl 5 (by decide) (hts _ T_143) (fun _ h9 => h9) rfl dX6_has_13 ?_
      refine lv_if_ne (tgt := 21) hx hb dX6_has_16 (by decide) (fun c => absurd (by decide) c) (fun _ => ?_)
      refine lv_iconst (v := 0) hx hb dX6_has_19 (by decide) ?_
      have hP9 := hP.sub (ws' := []) [] rfl
      have hD9 := hD.sub (ws' := []) [] (by decide) rfl
      have hK9 := hK.sub (tys' := []) [] rfl
      exact W.iret (v := 0) hx hb hr (fun t ht hW => ⟨⟨0, (), rfl, (by have h_0 := mt (ax_lt (n := 0) (by decide)).mpr c1; have h_1 := (ax_le (n := 13) (by decide)).mp c2; unfold a_has; first | (rw [if_pos (by omega)]; done) | (rw [if_neg (by omega)]; done)), by rw [ht]; exact hP9, va_K.moved hW.alike hK9, hD9⟩, hS.F ht⟩) hS.2.2 dX6_has_20
    · refine lv_iconst (v := (-1)) hx hb dX6_has_10 (by decide) ?_
      have hP9 := hP.sub (ws' := []) [] rfl
      have hD9 := hD.sub (ws' := []) [] (by decide) rfl
      have hK9 := hK.sub (tys' := []) [] rfl
      exact W.iret (v := (-1)) hx hb hr (fun t ht hW => ⟨⟨(-1), (), rfl, (by have h_0 := mt (ax_lt (n := 0) (by decide)).mpr c1; have h_1 := mt (ax_le (n := 13) (by decide)).mpr c2; unfold a_has; first | (rw [if_pos (by omega)]; done) | (rw [if_neg (by omega)]; done)), by rw [ht]; exact hP9, va_K.moved hW.alike hK9, hD9⟩, hS.F ht⟩) hS.2.2 dX6_has_11

set_option maxHeartbeats 4000000 in
set_option maxRecDepth 100000 in
theorem c_X6_hasWarp (l : Launch) (dC : Nat → ClassId) (dI : Nat → Nat → Nat) (sz : Nat) (h0 : Nat) (qt : Nat) (qr : Nat) (qc : Nat) (qs : Nat) (qn : Nat) (qp : Nat) (qm : Nat) (qf : Nat) (qx : Nat) (p0 : Int32) : Met l yX6_hasWarp (Cond.code yX6_hasWarp cX6_hasWarp 2 (some .boolean) :: T0) ({ frames := 0, cells := 0, slots := 0, locals := 0 }) (va_Pc [.ref h0, .int p0] (ax_W dC dI sz [(h0, .inr (6, [.ref qt, .int 0, .ref qr, .ref qc, .ref qs, .int 0, .ref qn, .ref qp, .int 0, .int 0, .ref qm, .ref qf, .ref qx, .long 1]))] [])) (va_Qi (fun (r : Int32) (_ : Unit) => r = 0) (fun (_ : Unit) (t : State) => va_P (dC, dI) vwCl [(h0, .inr (6, [.ref qt, .int 0, .ref qr, .ref qc, .ref qs, .int 0, .ref qn, .ref qp, .int 0, .int 0, .ref qm, .ref qf, .ref qx, .long 1]))] t.heap ∧ va_K (dC, dI) vwCl [] t ∧ va_D (va_A [(h0, .inr (6, [.ref qt, .int 0, .ref qr, .ref qc, .ref qs, .int 0, .ref qn, .ref qp, .int 0, .int 0, .ref qm, .ref qf, .ref qx, .long 1]))] sz) [(h0, .inr (6, [.ref qt, .int 0, .ref qr, .ref qc, .ref qs, .int 0, .ref qn, .ref qp, .int 0, .int 0, .ref qm, .ref qf, .ref qx, .long 1]))]) (va_A [(h0, .inr (6, [.ref qt, .int 0, .ref qr, .ref qc, .ref qs, .int 0, .ref qn, .ref qp, .int 0, .int 0, .ref qm, .ref qf, .ref qx, .long 1]))] sz)) 0 0 (va_A [(h0, .inr (6, [.ref qt, .int 0, .ref qr, .ref qc, .ref qs, .int 0, .ref qn, .ref qp, .int 0, .int 0, .ref qm, .ref qf, .ref qx, .long 1]))] sz) := by
  refine Met.ofW (cc := cX6_hasWarp) (maxL := 2) (ret := (some .boolean)) (by decide) rfl ?_
  intro p e s m args below meth c s₁ B hml hv
  obtain ⟨rfl, hsz, hP, hK, hD0, hN⟩ := hv
  have hx := B.exec
  have hb := B.bytes
  have hr := B.returns
  have hts : ∀ w ∈ T0, w.before _ s = true := fun w h => atoms_spec (ws := Cond.code yX6_hasWarp cX6_hasWarp 2 (some .boolean) :: T0) B.pre w (List.mem_cons_of_mem _ h)
  have hown : s.vm.findClass RX6 = some m.cls := findClass_of_methodNamed B.named
  have hlocks := B.notSynchronized
  subst hsz
  have hD := hD0.self (sz := s.heap.size)
  generalize hAe : va_A [(h0, .inr (6, [.ref qt, .int 0, .ref qr, .ref qc, .ref qs, .int 0, .ref qn, .ref qp, .int 0, .int 0, .ref qm, .ref qf, .ref qx, .long 1]))] s.heap.size = A at hD ⊢
  have hA : ∀ q : Nat, s.heap.size ≤ q → A q := fun q h => by rw [← hAe]; exact Or.inr h
  have hS : va_S A s.heap s.heap [] := va_S.rf
  have hP : va_P (dC, dI) vwCl [(h0, .inr (6, [.ref qt, .int 0, .ref qr, .ref qc, .ref qs, .int 0, .ref qn, .ref qp, .int 0, .int 0, .ref qm, .ref qf, .ref qx, .long 1]))] s.heap := hP
  have hl := lv_entry ([.ref h0, .int p0]) (n := 2) (Nat.le_of_ble_eq_true rfl)
  rw [lg_entry_eq]
  generalize (lg_sl ([.ref h0, .int p0]) ++ List.replicate (2 - (lg_sl ([.ref h0, .int p0])).length) Slot.unset).toArray = ls at hl ⊢
  refine ax_gen hP hD hS (fun H locs hP hD hS => ?_)
  have hl : lv_has ls 2 [(0, .ref h0), (1, .int p0)] := hl
  refine lv_aload_n hx hb dX6_hasWarp_0 rfl (lv_at hl 0 rfl) ?_
  refine va_get (D := (dC, dI)) (ci := 6) (v := .int 0) (C := RX6) (T := TX6) (N := 14) hx hb hts inX6 hown hK hP 0 rfl rfl 5 (by decide) (hts _ T_143) (fun _ h9 => h9) rfl dX6_hasWarp_1 ?_
  refine lv_if_eq (tgt := 26) hx hb dX6_hasWarp_4 (by decide) (fun _ => ?_) (fun c => absurd (by decide) c)
  refine lv_iconst (v := 0) hx hb dX6_hasWarp_26 (by decide) ?_
  have hP9 := hP.sub (ws' := [(h0, .inr (6, [.ref qt, .int 0, .ref qr, .ref qc, .ref qs, .int 0, .ref qn, .ref qp, .int 0, .int 0, .ref qm, .ref qf, .ref qx, .long 1]))]) [0] rfl
  have hD9 := hD.sub (ws' := [(h0, .inr (6, [.ref qt, .int 0, .ref qr, .ref qc, .ref qs, .int 0, .ref qn, .ref qp, .int 0, .int 0, .ref qm, .ref qf, .ref qx, .long 1]))]) [0] (by decide) rfl
  have hK9 := hK.sub (tys' := []) [] rfl
  exact W.zret (v := 0) (ty := .boolean) hx hb hr (by decide) (fun t ht hW => ⟨⟨0, (), rfl, rfl, by rw [ht]; exact hP9, va_K.moved hW.alike hK9, hD9⟩, hS.F ht⟩) hS.2.2 dX6_hasWarp_27

set_option maxHeartbeats 4000000 in
set_option maxRecDepth 100000 in
theorem c_X6_hasLane (l : Launch) (dC : Nat → ClassId) (dI : Nat → Nat → Nat) (sz : Nat) (h0 : Nat) (qt : Nat) (qr : Nat) (qc : Nat) (qs : Nat) (qn : Nat) (qp : Nat) (qm : Nat) (qf : Nat) (qx : Nat) (p0 : Int32) (p1 : Int32) : Met l yX6_hasLane (Cond.code yX6_hasLane cX6_hasLane 3 (some .boolean) :: T0) ({ frames := 1, cells := 0, slots := 0, locals := 21 }) (va_Pc [.ref h0, .int p0, .int p1] (ax_W dC dI sz [(h0, .inr (6, [.ref qt, .int 0, .ref qr, .ref qc, .ref qs, .int 0, .ref qn, .ref qp, .int 0, .int 0, .ref qm, .ref qf, .ref qx, .long 1]))] [])) (va_Qi (fun (r : Int32) (_ : Unit) => r = 0) (fun (_ : Unit) (t : State) => va_P (dC, dI) vwCl [(h0, .inr (6, [.ref qt, .int 0, .ref qr, .ref qc, .ref qs, .int 0, .ref qn, .ref qp, .int 0, .int 0, .ref qm, .ref qf, .ref qx, .long 1]))] t.heap ∧ va_K (dC, dI) vwCl [] t ∧ va_D (va_A [(h0, .inr (6, [.ref qt, .int 0, .ref qr, .ref qc, .ref qs, .int 0, .ref qn, .ref qp, .int 0, .int 0, .ref qm, .ref qf, .ref qx, .long 1]))] sz) [(h0, .inr (6, [.ref qt, .int 0, .ref qr, .ref qc, .ref qs, .int 0, .ref qn, .ref qp, .int 0, .int 0, .ref qm, .ref qf, .ref qx, .long 1]))]) (va_A [(h0, .inr (6, [.ref qt, .int 0, .ref qr, .ref qc, .ref qs, .int 0, .ref qn, .ref qp, .int 0, .int 0, .ref qm, .ref qf, .ref qx, .long 1]))] sz)) 0 0 (va_A [(h0, .inr (6, [.ref qt, .int 0, .ref qr, .ref qc, .ref qs, .int 0, .ref qn, .ref qp, .int 0, .int 0, .ref qm, .ref qf, .ref qx, .long 1]))] sz) := by
  refine Met.ofW (cc := cX6_hasLane) (maxL := 3) (ret := (some .boolean)) (by decide) rfl ?_
  intro p e s m args below meth c s₁ B hml hv
  obtain ⟨rfl, hsz, hP, hK, hD0, hN⟩ := hv
  have hx := B.exec
  have hb := B.bytes
  have hr := B.returns
  have hts : ∀ w ∈ T0, w.before _ s = true := fun w h => atoms_spec (ws := Cond.code yX6_hasLane cX6_hasLane 3 (some .boolean) :: T0) B.pre w (List.mem_cons_of_mem _ h)
  have hown : s.vm.findClass RX6 = some m.cls := findClass_of_methodNamed B.named
  have hlocks := B.notSynchronized
  subst hsz
  have hD := hD0.self (sz := s.heap.size)
  generalize hAe : va_A [(h0, .inr (6, [.ref qt, .int 0, .ref qr, .ref qc, .ref qs, .int 0, .ref qn, .ref qp, .int 0, .int 0, .ref qm, .ref qf, .ref qx, .long 1]))] s.heap.size = A at hD ⊢
  have hA : ∀ q : Nat, s.heap.size ≤ q → A q := fun q h => by rw [← hAe]; exact Or.inr h
  have hS : va_S A s.heap s.heap [] := va_S.rf
  have hP : va_P (dC, dI) vwCl [(h0, .inr (6, [.ref qt, .int 0, .ref qr, .ref qc, .ref qs, .int 0, .ref qn, .ref qp, .int 0, .int 0, .ref qm, .ref qf, .ref qx, .long 1]))] s.heap := hP
  have hl := lv_entry ([.ref h0, .int p0, .int p1]) (n := 3) (Nat.le_of_ble_eq_true rfl)
  rw [lg_entry_eq]
  generalize (lg_sl ([.ref h0, .int p0, .int p1]) ++ List.replicate (3 - (lg_sl ([.ref h0, .int p0, .int p1])).length) Slot.unset).toArray = ls at hl ⊢
  refine ax_gen hP hD hS (fun H locs hP hD hS => ?_)
  have hl : lv_has ls 3 [(0, .ref h0), (1, .int p0), (2, .int p1)] := hl
  refine lv_aload_n hx hb dX6_hasLane_0 rfl (lv_at hl 0 rfl) ?_
  refine lv_iload_n hx hb dX6_hasLane_1 rfl (lv_at hl 1 rfl) ?_
  have hPc := hP.sub (ws' := [(h0, .inr (6, [.ref qt, .int 0, .ref qr, .ref qc, .ref qs, .int 0, .ref qn, .ref qp, .int 0, .int 0, .ref qm, .ref qf, .ref qx, .long 1]))]) [0] rfl
  have hDc := hD.sub (ws' := [(h0, .inr (6, [.ref qt, .int 0, .ref qr, .ref qc, .ref qs, .int 0, .ref qn, .ref qp, .int 0, .int 0, .ref qm, .ref qf, .ref qx, .long 1]))]) [0] (by decide) rfl
  have hKc := hK.sub (tys' := []) [] rfl
  have hFc := va_free (wc := [(h0, .inr (6, [.ref qt, .int 0, .ref qr, .ref qc, .ref qs, .int 0, .ref qn, .ref qp, .int 0, .int 0, .ref qm, .ref qf, .ref qx, .long 1]))]) hD hS hA [0] rfl
  refine va_calli (va_runV (As := [.int p0]) (rest := []) ⟨hx, hb, hml, hown, hts⟩ (c_X6_hasWarp l dC dI H.size h0 qt qr qc qs qn qp qm qf qx p0) (cwV 1 hts (ax_gV T_145 T_146 T_147 T_106 T_144) rfl rfl rfl (by decide +kernel) ⟨Nat.le_of_ble_eq_true rfl, Nat.le_of_ble_eq_true rfl⟩) ⟨fun a U g mk q => ⟨q.1, ax_pc rfl rfl q.2⟩, va_recv hKc hPc (ci := 6) (q0 := 0) rfl rfl, fun U hU hW => ⟨rfl, ax_pw hU hW hPc hKc hDc hN⟩⟩ rfl rfl hl.1 rfl (lv_room (Nat.le_of_ble_eq_true rfl)) dX6_hasLane_2 ⟨Nat.le_of_ble_eq_true rfl, Nat.le_of_ble_eq_true rfl⟩) hS (fun q _ h => hFc q h) hFc (fun r1 _ t H1 locs ht hvm hw hB hz1 hk1 hS => ?_)
  obtain ⟨hP1, hK1, hD1⟩ := hB
  rw [ht] at hP1
  have hK1 := va_K.moved hvm.symm hK1
  obtain ⟨hP, hD⟩ := va_join (wr := []) (w1 := [(h0, .inr (6, [.ref qt, .int 0, .ref qr, .ref qc, .ref qs, .int 0, .ref qn, .ref qp, .int 0, .int 0, .ref qm, .ref qf, .ref qx, .long 1]))]) hP hD [0] [] rfl rfl (by decide) (by decide) hk1 hFc hP1 hD1
  generalize H1 = H at hP hS ⊢
  have hP : va_P (dC, dI) vwCl [(h0, .inr (6, [.ref qt, .int 0, .ref qr, .ref qc, .ref qs, .int 0, .ref qn, .ref qp, .int 0, .int 0, .ref qm, .ref qf, .ref qx, .long 1]))] H := hP
  have hD : va_D A [(h0, .inr (6, [.ref qt, .int 0, .ref qr, .ref qc, .ref qs, .int 0, .ref qn, .ref qp, .int 0, .int 0, .ref qm, .ref qf, .ref qx, .long 1]))] := hD
  subst hw
  refine lv_if_eq (tgt := 22) hx hb dX6_hasLane_5 (by decide) (fun _ => ?_) (fun c => absurd (by decide) c)
  refine lv_iconst (v := 0) hx hb dX6_hasLane_22 (by decide) ?_
  have hP9 := hP.sub (ws' := [(h0, .inr (6, [.ref qt, .int 0, .ref qr, .ref qc, .ref qs, .int 0, .ref qn, .ref qp, .int 0, .int 0, .ref qm, .ref qf, .ref qx, .long 1]))]) [0] rfl
  have hD9 := hD.sub (ws' := [(h0, .inr (6, [.ref qt, .int 0, .ref qr, .ref qc, .ref qs, .int 0, .ref qn, .ref qp, .int 0, .int 0, .ref qm, .ref qf, .ref qx, .long 1]))]) [0] (by decide) rfl
  have hK9 := hK.sub (tys' := []) [] rfl
  exact W.zret (v := 0) (ty := .boolean) hx hb hr (by decide) (fun t ht hW => ⟨⟨0, (), rfl, rfl, by rw [ht]; exact hP9, va_K.moved hW.alike hK9, hD9⟩, hS.F ht⟩) hS.2.2 dX6_hasLane_23

set_option maxHeartbeats 4000000 in
set_option maxRecDepth 100000 in
theorem c_X6_hasWord (l : Launch) (dC : Nat → ClassId) (dI : Nat → Nat → Nat) (sz : Nat) (h0 : Nat) (qt : Nat) (qr : Nat) (qc : Nat) (qs : Nat) (qn : Nat) (qp : Nat) (qm : Nat) (qf : Nat) (qx : Nat) (p0 : Int32) (p1 : Int32) : Met l yX6_hasWord (Cond.code yX6_hasWord cX6_hasWord 3 (some .boolean) :: T0) ({ frames := 0, cells := 0, slots := 0, locals := 0 }) (va_Pc [.ref h0, .int p0, .int p1] (ax_W dC dI sz [(h0, .inr (6, [.ref qt, .int 0, .ref qr, .ref qc, .ref qs, .int 0, .ref qn, .ref qp, .int 0, .int 0, .ref qm, .ref qf, .ref qx, .long 1]))] [])) (va_Qi (fun (r : Int32) (_ : Unit) => r = 0) (fun (_ : Unit) (t : State) => va_P (dC, dI) vwCl [(h0, .inr (6, [.ref qt, .int 0, .ref qr, .ref qc, .ref qs, .int 0, .ref qn, .ref qp, .int 0, .int 0, .ref qm, .ref qf, .ref qx, .long 1]))] t.heap ∧ va_K (dC, dI) vwCl [] t ∧ va_D (va_A [(h0, .inr (6, [.ref qt, .int 0, .ref qr, .ref qc, .ref qs, .int 0, .ref qn, .ref qp, .int 0, .int 0, .ref qm, .ref qf, .ref qx, .long 1]))] sz) [(h0, .inr (6, [.ref qt, .int 0, .ref qr, .ref qc, .ref qs, .int 0, .ref qn, .ref qp, .int 0, .int 0, .ref qm, .ref qf, .ref qx, .long 1]))]) (va_A [(h0, .inr (6, [.ref qt, .int 0, .ref qr, .ref qc, .ref qs, .int 0, .ref qn, .ref qp, .int 0, .int 0, .ref qm, .ref qf, .ref qx, .long 1]))] sz)) 0 0 (va_A [(h0, .inr (6, [.ref qt, .int 0, .ref qr, .ref qc, .ref qs, .int 0, .ref qn, .ref qp, .int 0, .int 0, .ref qm, .ref qf, .ref qx, .long 1]))] sz) := by
  refine Met.ofW (cc := cX6_hasWord) (maxL := 3) (ret := (some .boolean)) (by decide) rfl ?_
  intro p e s m args below meth c s₁ B hml hv
  obtain ⟨rfl, hsz, hP, hK, hD0, hN⟩ := hv
  have hx := B.exec
  have hb := B.bytes
  have hr := B.returns
  have hts : ∀ w ∈ T0, w.before _ s = true := fun w h => atoms_spec (ws := Cond.code yX6_hasWord cX6_hasWord 3 (some .boolean) :: T0) B.pre w (List.mem_cons_of_mem _ h)
  have hown : s.vm.findClass RX6 = some m.cls := findClass_of_methodNamed B.named
  have hlocks := B.notSynchronized
  subst hsz
  have hD := hD0.self (sz := s.heap.size)
  generalize hAe : va_A [(h0, .inr (6, [.ref qt, .int 0, .ref qr, .ref qc, .ref qs, .int 0, .ref qn, .ref qp, .int 0, .int 0, .ref qm, .ref qf, .ref qx, .long 1]))] s.heap.size = A at hD ⊢
  have hA : ∀ q : Nat, s.heap.size ≤ q → A q := fun q h => by rw [← hAe]; exact Or.inr h
  have hS : va_S A s.heap s.heap [] := va_S.rf
  have hP : va_P (dC, dI) vwCl [(h0, .inr (6, [.ref qt, .int 0, .ref qr, .ref qc, .ref qs, .int 0, .ref qn, .ref qp, .int 0, .int 0, .ref qm, .ref qf, .ref qx, .long 1]))] s.heap := hP
  have hl := lv_entry ([.ref h0, .int p0, .int p1]) (n := 3) (Nat.le_of_ble_eq_true rfl)
  rw [lg_entry_eq]
  generalize (lg_sl ([.ref h0, .int p0, .int p1]) ++ List.replicate (3 - (lg_sl ([.ref h0, .int p0, .int p1])).length) Slot.unset).toArray = ls at hl ⊢
  refine ax_gen hP hD hS (fun H locs hP hD hS => ?_)
  have hl : lv_has ls 3 [(0, .ref h0), (1, .int p0), (2, .int p1)] := hl
  refine lv_aload_n hx hb dX6_hasWord_0 rfl (lv_at hl 0 rfl) ?_
  refine va_get (D := (dC, dI)) (ci := 6) (v := .int 0) (C := RX6) (T := TX6) (N := 14) hx hb hts inX6 hown hK hP 0 rfl rfl 5 (by decide) (hts _ T_143) (fun _ h9 => h9) rfl dX6_hasWord_1 ?_
  refine lv_if_eq (tgt := 30) hx hb dX6_hasWord_4 (by decide) (fun _ => ?_) (fun c => absurd (by decide) c)
  refine lv_iconst (v := 0) hx hb dX6_hasWord_30 (by decide) ?_
  have hP9 := hP.sub (ws' := [(h0, .inr (6, [.ref qt, .int 0, .ref qr, .ref qc, .ref qs, .int 0, .ref qn, .ref qp, .int 0, .int 0, .ref qm, .ref qf, .ref qx, .long 1]))]) [0] rfl
  have hD9 := hD.sub (ws' := [(h0, .inr (6, [.ref qt, .int 0, .ref qr, .ref qc, .ref qs, .int 0, .ref qn, .ref qp, .int 0, .int 0, .ref qm, .ref qf, .ref qx, .long 1]))]) [0] (by decide) rfl
  have hK9 := hK.sub (tys' := []) [] rfl
  exact W.zret (v := 0) (ty := .boolean) hx hb hr (by decide) (fun t ht hW => ⟨⟨0, (), rfl, rfl, by rw [ht]; exact hP9, va_K.moved hW.alike hK9, hD9⟩, hS.F ht⟩) hS.2.2 dX6_hasWord_31

set_option maxHeartbeats 4000000 in
set_option maxRecDepth 100000 in
/-- line -/
theorem c_X6_line (l : Launch) (dC : Nat → ClassId) (dI : Nat → Nat → Nat) (sz : Nat) (h0 : Nat) (qt : Nat) (qr : Nat) (qc : Nat) (qs : Nat) (qn : Nat) (qp : Nat) (qm : Nat) (qf : Nat) (qx : Nat) (p0 : Int32) (p1 : Int32) : Met l yX6_line (Cond.code yX6_line cX6_line 3 (some .int) :: T0) ({ frames := 0, cells := 0, slots := 0, locals := 0 }) (va_Pc [.ref h0, .int p0, .int p1] (ax_W dC dI sz [(h0, .inr (6, [.ref qt, .int 0, .ref qr, .ref qc, .ref qs, .int 0, .ref qn, .ref qp, .int 0, .int 0, .ref qm, .ref qf, .ref qx, .long 1]))] [])) (va_Qi (fun (r : Int32) (_ : Unit) => r = (-1000000)) (fun (_ : Unit) (t : State) => va_P (dC, dI) vwCl [] t.heap ∧ va_K (dC, dI) vwCl [] t ∧ va_D (va_A [(h0, .inr (6, [.ref qt, .int 0, .ref qr, .ref qc, .ref qs, .int 0, .ref qn, .ref qp, .int 0, .int 0, .ref qm, .ref qf, .ref qx, .long 1]))] sz) []) (va_A [(h0, .inr (6, [.ref qt, .int 0, .ref qr, .ref qc, .ref qs, .int 0, .ref qn, .ref qp, .int 0, .int 0, .ref qm, .ref qf, .ref qx, .long 1]))] sz)) 0 0 (va_A [(h0, .inr (6, [.ref qt, .int 0, .ref qr, .ref qc, .ref qs, .int 0, .ref qn, .ref qp, .int 0, .int 0, .ref qm, .ref qf, .ref qx, .long 1]))] sz) := by
  refine Met.ofW (cc := cX6_line) (maxL := 3) (ret := (some .int)) (by decide) rfl ?_
  intro p e s m args below meth c s₁ B hml hv
  obtain ⟨rfl, hsz, hP, hK, hD0, hN⟩ := hv
  have hx := B.exec
  have hb := B.bytes
  have hr := B.returns
  have hts : ∀ w ∈ T0, w.before _ s = true := fun w h => atoms_spec (ws := Cond.code yX6_line cX6_line 3 (some .int) :: T0) B.pre w (List.mem_cons_of_mem _ h)
  have hown : s.vm.findClass RX6 = some m.cls := findClass_of_methodNamed B.named
  have hlocks := B.notSynchronized
  subst hsz
  have hD := hD0.self (sz := s.heap.size)
  generalize hAe : va_A [(h0, .inr (6, [.ref qt, .int 0, .ref qr, .ref qc, .ref qs, .int 0, .ref qn, .ref qp, .int 0, .int 0, .ref qm, .ref qf, .ref qx, .long 1]))] s.heap.size = A at hD ⊢
  have hA : ∀ q : Nat, s.heap.size ≤ q → A q := fun q h => by rw [← hAe]; exact Or.inr h
  have hS : va_S A s.heap s.heap [] := va_S.rf
  have hP : va_P (dC, dI) vwCl [(h0, .inr (6, [.ref qt, .int 0, .ref qr, .ref qc, .ref qs, .int 0, .ref qn, .ref qp, .int 0, .int 0, .ref qm, .ref qf, .ref qx, .long 1]))] s.heap := hP
  have hl := lv_entry ([.ref h0, .int p0, .int p1]) (n := 3) (Nat.le_of_ble_eq_true rfl)
  rw [lg_entry_eq]
  generalize (lg_sl ([.ref h0, .int p0, .int p1]) ++ List.replicate (3 - (lg_sl ([.ref h0, .int p0, .int p1])).length) Slot.unset).toArray = ls at hl ⊢
  refine ax_gen hP hD hS (fun H locs hP hD hS => ?_)
  have hl : lv_has ls 3 [(0, .ref h0), (1, .int p0), (2, .int p1)] := hl
  refine lv_aload_n hx hb dX6_line_0 rfl (lv_at hl 0 rfl) ?_
  refine va_get (D := (dC, dI)) (ci := 6) (v := .int 0) (C := RX6) (T := TX6) (N := 14) hx hb hts inX6 hown hK hP 0 rfl rfl 5 (by decide) (hts _ T_143) (fun _ h9 => h9) rfl dX6_line_1 ?_
  refine lv_if_eq (tgt := 32) hx hb dX6_line_4 (by decide) (fun _ => ?_) (fun c => absurd (by decide) c)
  refine lv_ldc hx hb hown (hts _ T_148) dX6_line_32 ?_
  have hP9 := hP.sub (ws' := []) [] rfl
  have hD9 := hD.sub (ws' := []) [] (by decide) rfl
  have hK9 := hK.sub (tys' := []) [] rfl
  exact W.iret (v := (-1000000)) hx hb hr (fun t ht hW => ⟨⟨(-1000000), (), rfl, rfl, by rw [ht]; exact hP9, va_K.moved hW.alike hK9, hD9⟩, hS.F ht⟩) hS.2.2 dX6_line_34

set_option maxHeartbeats 4000000 in
set_option maxRecDepth 100000 in
/-- lane -/
theorem c_X6_lane (l : Launch) (dC : Nat → ClassId) (dI : Nat → Nat → Nat) (sz : Nat) (h0 : Nat) (qt : Nat) (qr : Nat) (qc : Nat) (qs : Nat) (qn : Nat) (qp : Nat) (qm : Nat) (qf : Nat) (qx : Nat) (p0 : Int32) (p1 : Int32) (p2 : Int32) : Met l yX6_lane (Cond.code yX6_lane cX6_lane 6 (some .int) :: T0) ({ frames := 2, cells := 0, slots := 0, locals := 43 }) (va_Pc [.ref h0, .int p0, .int p1, .int p2] (ax_W dC dI sz [(h0, .inr (6, [.ref qt, .int 0, .ref qr, .ref qc, .ref qs, .int 0, .ref qn, .ref qp, .int 0, .int 0, .ref qm, .ref qf, .ref qx, .long 1]))] [])) (va_Qi (fun (r : Int32) (_ : Unit) => r = (-1000000)) (fun (_ : Unit) (t : State) => va_P (dC, dI) vwCl [] t.heap ∧ va_K (dC, dI) vwCl [] t ∧ va_D (va_A [(h0, .inr (6, [.ref qt, .int 0, .ref qr, .ref qc, .ref qs, .int 0, .ref qn, .ref qp, .int 0, .int 0, .ref qm, .ref qf, .ref qx, .long 1]))] sz) []) (va_A [(h0, .inr (6, [.ref qt, .int 0, .ref qr, .ref qc, .ref qs, .int 0, .ref qn, .ref qp, .int 0, .int 0, .ref qm, .ref qf, .ref qx, .long 1]))] sz)) 0 0 (va_A [(h0, .inr (6, [.ref qt, .int 0, .ref qr, .ref qc, .ref qs, .int 0, .ref qn, .ref qp, .int 0, .int 0, .ref qm, .ref qf, .ref qx, .long 1]))] sz) := by
  refine Met.ofW (cc := cX6_lane) (maxL := 6) (ret := (some .int)) (by decide) rfl ?_
  intro p e s m args below meth c s₁ B hml hv
  obtain ⟨rfl, hsz, hP, hK, hD0, hN⟩ := hv
  have hx := B.exec
  have hb := B.bytes
  have hr := B.returns
  have hts : ∀ w ∈ T0, w.before _ s = true := fun w h => atoms_spec (ws := Cond.code yX6_lane cX6_lane 6 (some .int) :: T0) B.pre w (List.mem_cons_of_mem _ h)
  have hown : s.vm.findClass RX6 = some m.cls := findClass_of_methodNamed B.named
  have hlocks := B.notSynchronized
  subst hsz
  have hD := hD0.self (sz := s.heap.size)
  generalize hAe : va_A [(h0, .inr (6, [.ref qt, .int 0, .ref qr, .ref qc, .ref qs, .int 0, .ref qn, .ref qp, .int 0, .int 0, .ref qm, .ref qf, .ref qx, .long 1]))] s.heap.size = A at hD ⊢
  have hA : ∀ q : Nat, s.heap.size ≤ q → A q := fun q h => by rw [← hAe]; exact Or.inr h
  have hS : va_S A s.heap s.heap [] := va_S.rf
  have hP : va_P (dC, dI) vwCl [(h0, .inr (6, [.ref qt, .int 0, .ref qr, .ref qc, .ref qs, .int 0, .ref qn, .ref qp, .int 0, .int 0, .ref qm, .ref qf, .ref qx, .long 1]))] s.heap := hP
  have hl := lv_entry ([.ref h0, .int p0, .int p1, .int p2]) (n := 6) (Nat.le_of_ble_eq_true rfl)
  rw [lg_entry_eq]
  generalize (lg_sl ([.ref h0, .int p0, .int p1, .int p2]) ++ List.replicate (6 - (lg_sl ([.ref h0, .int p0, .int p1, .int p2])).length) Slot.unset).toArray = ls at hl ⊢
  refine ax_gen hP hD hS (fun H locs hP hD hS => ?_)
  have hl : lv_has ls 6 [(0, .ref h0), (1, .int p0), (2, .int p1), (3, .int p2)] := hl
  refine lv_aload_n hx hb dX6_lane_0 rfl (lv_at hl 0 rfl) ?_
  refine lv_iload_n hx hb dX6_lane_1 rfl (lv_at hl 1 rfl) ?_
  refine lv_iload_n hx hb dX6_lane_2 rfl (lv_at hl 2 rfl) ?_
  have hPc := hP.sub (ws' := [(h0, .inr (6, [.ref qt, .int 0, .ref qr, .ref qc, .ref qs, .int 0, .ref qn, .ref qp, .int 0, .int 0, .ref qm, .ref qf, .ref qx, .long 1]))]) [0] rfl
  have hDc := hD.sub (ws' := [(h0, .inr (6, [.ref qt, .int 0, .ref qr, .ref qc, .ref qs, .int 0, .ref qn, .ref qp, .int 0, .int 0, .ref qm, .ref qf, .ref qx, .long 1]))]) [0] (by decide) rfl
  have hKc := hK.sub (tys' := []) [] rfl
  have hFc := va_free (wc := [(h0, .inr (6, [.ref qt, .int 0, .ref qr, .ref qc, .ref qs, .int 0, .ref qn, .ref qp, .int 0, .int 0, .ref qm, .ref qf, .ref qx, .long 1]))]) hD hS hA [0] rfl
  refine va_calli (va_runV (As := [.int p0, .int p1]) (rest := []) ⟨hx, hb, hml, hown, hts⟩ (c_X6_hasLane l dC dI H.size h0 qt qr qc qs qn qp qm qf qx p0 p1) (cwV 2 hts (ax_gV T_150 T_151 T_152 T_106 T_149) rfl rfl rfl (by decide +kernel) ⟨Nat.le_of_ble_eq_true rfl, Nat.le_of_ble_eq_true rfl⟩) ⟨fun a U g mk q => ⟨q.1, ax_pc rfl rfl q.2⟩, va_recv hKc hPc (ci := 6) (q0 := 0) rfl rfl, fun U hU hW => ⟨rfl, ax_pw hU hW hPc hKc hDc hN⟩⟩ rfl rfl hl.1 rfl (lv_room (Nat.le_of_ble_eq_true rfl)) dX6_lane_3 ⟨Nat.le_of_ble_eq_true rfl, Nat.le_of_ble_eq_true rfl⟩) hS (fun q _ h => hFc q h) hFc (fun r1 _ t H1 locs ht hvm hw hB hz1 hk1 hS => ?_)
  obtain ⟨hP1, hK1, hD1⟩ := hB
  rw [ht] at hP1
  have hK1 := va_K.moved hvm.symm hK1
  obtain ⟨hP, hD⟩ := va_join (wr := []) (w1 := [(h0, .inr (6, [.ref qt, .int 0, .ref qr, .ref qc, .ref qs, .int 0, .ref qn, .ref qp, .int 0, .int 0, .ref qm, .ref qf, .ref qx, .long 1]))]) hP hD [0] [] rfl rfl (by decide) (by decide) hk1 hFc hP1 hD1
  generalize H1 = H at hP hS ⊢
  have hP : va_P (dC, dI) vwCl [(h0, .inr (6, [.ref qt, .int 0, .ref qr, .ref qc, .ref qs, .int 0, .ref qn, .ref qp, .int 0, .int 0, .ref qm, .ref qf, .ref qx, .long 1]))] H := hP
  have hD : va_D A [(h0, .inr (6, [.ref qt, .int 0, .ref qr, .ref qc, .ref qs, .int 0, .ref qn, .ref qp, .int 0, .int 0, .ref qm, .ref qf, .ref qx, .long 1]))] := hD
  subst hw
  refine lv_if_eq (tgt := 19) hx hb dX6_lane_6 (by decide) (fun _ => ?_) (fun c => absurd (by decide) c)
  refine lv_ldc hx hb hown (hts _ T_148) dX6_lane_19 ?_
  have hP9 := hP.sub (ws' := []) [] rfl
  have hD9 := hD.sub (ws' := []) [] (by decide) rfl
  have hK9 := hK.sub (tys' := []) [] rfl
  exact W.iret (v := (-1000000)) hx hb hr (fun t ht hW => ⟨⟨(-1000000), (), rfl, rfl, by rw [ht]; exact hP9, va_K.moved hW.alike hK9, hD9⟩, hS.F ht⟩) hS.2.2 dX6_lane_21

set_option maxHeartbeats 4000000 in
set_option maxRecDepth 100000 in
/-- warp -/
theorem c_X6_warp (l : Launch) (dC : Nat → ClassId) (dI : Nat → Nat → Nat) (sz : Nat) (h0 : Nat) (qt : Nat) (qr : Nat) (qc : Nat) (qs : Nat) (qn : Nat) (qp : Nat) (qm : Nat) (qf : Nat) (qx : Nat) (p0 : Int32) (p1 : Int32) : Met l yX6_warp (Cond.code yX6_warp cX6_warp 4 (some .int) :: T0) ({ frames := 1, cells := 0, slots := 0, locals := 21 }) (va_Pc [.ref h0, .int p0, .int p1] (ax_W dC dI sz [(h0, .inr (6, [.ref qt, .int 0, .ref qr, .ref qc, .ref qs, .int 0, .ref qn, .ref qp, .int 0, .int 0, .ref qm, .ref qf, .ref qx, .long 1]))] [])) (va_Qi (fun (r : Int32) (_ : Unit) => r = (-1)) (fun (_ : Unit) (t : State) => va_P (dC, dI) vwCl [] t.heap ∧ va_K (dC, dI) vwCl [] t ∧ va_D (va_A [(h0, .inr (6, [.ref qt, .int 0, .ref qr, .ref qc, .ref qs, .int 0, .ref qn, .ref qp, .int 0, .int 0, .ref qm, .ref qf, .ref qx, .long 1]))] sz) []) (va_A [(h0, .inr (6, [.ref qt, .int 0, .ref qr, .ref qc, .ref qs, .int 0, .ref qn, .ref qp, .int 0, .int 0, .ref qm, .ref qf, .ref qx, .long 1]))] sz)) 0 0 (va_A [(h0, .inr (6, [.ref qt, .int 0, .ref qr, .ref qc, .ref qs, .int 0, .ref qn, .ref qp, .int 0, .int 0, .ref qm, .ref qf, .ref qx, .long 1]))] sz) := by
  refine Met.ofW (cc := cX6_warp) (maxL := 4) (ret := (some .int)) (by decide) rfl ?_
  intro p e s m args below meth c s₁ B hml hv
  obtain ⟨rfl, hsz, hP, hK, hD0, hN⟩ := hv
  have hx := B.exec
  have hb := B.bytes
  have hr := B.returns
  have hts : ∀ w ∈ T0, w.before _ s = true := fun w h => atoms_spec (ws := Cond.code yX6_warp cX6_warp 4 (some .int) :: T0) B.pre w (List.mem_cons_of_mem _ h)
  have hown : s.vm.findClass RX6 = some m.cls := findClass_of_methodNamed B.named
  have hlocks := B.notSynchronized
  subst hsz
  have hD := hD0.self (sz := s.heap.size)
  generalize hAe : va_A [(h0, .inr (6, [.ref qt, .int 0, .ref qr, .ref qc, .ref qs, .int 0, .ref qn, .ref qp, .int 0, .int 0, .ref qm, .ref qf, .ref qx, .long 1]))] s.heap.size = A at hD ⊢
  have hA : ∀ q : Nat, s.heap.size ≤ q → A q := fun q h => by rw [← hAe]; exact Or.inr h
  have hS : va_S A s.heap s.heap [] := va_S.rf
  have hP : va_P (dC, dI) vwCl [(h0, .inr (6, [.ref qt, .int 0, .ref qr, .ref qc, .ref qs, .int 0, .ref qn, .ref qp, .int 0, .int 0, .ref qm, .ref qf, .ref qx, .long 1]))] s.heap := hP
  have hl := lv_entry ([.ref h0, .int p0, .int p1]) (n := 4) (Nat.le_of_ble_eq_true rfl)
  rw [lg_entry_eq]
  generalize (lg_sl ([.ref h0, .int p0, .int p1]) ++ List.replicate (4 - (lg_sl ([.ref h0, .int p0, .int p1])).length) Slot.unset).toArray = ls at hl ⊢
  refine ax_gen hP hD hS (fun H locs hP hD hS => ?_)
  have hl : lv_has ls 4 [(0, .ref h0), (1, .int p0), (2, .int p1)] := hl
  refine lv_aload_n hx hb dX6_warp_0 rfl (lv_at hl 0 rfl) ?_
  refine lv_iload_n hx hb dX6_warp_1 rfl (lv_at hl 1 rfl) ?_
  have hPc := hP.sub (ws' := [(h0, .inr (6, [.ref qt, .int 0, .ref qr, .ref qc, .ref qs, .int 0, .ref qn, .ref qp, .int 0, .int 0, .ref qm, .ref qf, .ref qx, .long 1]))]) [0] rfl
  have hDc := hD.sub (ws' := [(h0, .inr (6, [.ref qt, .int 0, .ref qr, .ref qc, .ref qs, .int 0, .ref qn, .ref qp, .int 0, .int 0, .ref qm, .ref qf, .ref qx, .long 1]))]) [0] (by decide) rfl
  have hKc := hK.sub (tys' := []) [] rfl
  have hFc := va_free (wc := [(h0, .inr (6, [.ref qt, .int 0, .ref qr, .ref qc, .ref qs, .int 0, .ref qn, .ref qp, .int 0, .int 0, .ref qm, .ref qf, .ref qx, .long 1]))]) hD hS hA [0] rfl
  refine va_calli (va_runV (As := [.int p0]) (rest := []) ⟨hx, hb, hml, hown, hts⟩ (c_X6_hasWarp l dC dI H.size h0 qt qr qc qs qn qp qm qf qx p0) (cwV 1 hts (ax_gV T_145 T_146 T_147 T_106 T_144) rfl rfl rfl (by decide +kernel) ⟨Nat.le_of_ble_eq_true rfl, Nat.le_of_ble_eq_true rfl⟩) ⟨fun a U g mk q => ⟨q.1, ax_pc rfl rfl q.2⟩, va_recv hKc hPc (ci := 6) (q0 := 0) rfl rfl, fun U hU hW => ⟨rfl, ax_pw hU hW hPc hKc hDc hN⟩⟩ rfl rfl hl.1 rfl (lv_room (Nat.le_of_ble_eq_true rfl)) dX6_warp_2 ⟨Nat.le_of_ble_eq_true rfl, Nat.le_of_ble_eq_true rfl⟩) hS (fun q _ h => hFc q h) hFc (fun r1 _ t H1 locs ht hvm hw hB hz1 hk1 hS => ?_)
  obtain ⟨hP1, hK1, hD1⟩ := hB
  rw [ht] at hP1
  have hK1 := va_K.moved hvm.symm hK1
  obtain ⟨hP, hD⟩ := va_join (wr := []) (w1 := [(h0, .inr (6, [.ref qt, .int 0, .ref qr, .ref qc, .ref qs, .int 0, .ref qn, .ref qp, .int 0, .int 0, .ref qm, .ref qf, .ref qx, .long 1]))]) hP hD [0] [] rfl rfl (by decide) (by decide) hk1 hFc hP1 hD1
  generalize H1 = H at hP hS ⊢
  have hP : va_P (dC, dI) vwCl [(h0, .inr (6, [.ref qt, .int 0, .ref qr, .ref qc, .ref qs, .int 0, .ref qn, .ref qp, .int 0, .int 0, .ref qm, .ref qf, .ref qx, .long 1]))] H := hP
  have hD : va_D A [(h0, .inr (6, [.ref qt, .int 0, .ref qr, .ref qc, .ref qs, .int 0, .ref qn, .ref qp, .int 0, .int 0, .ref qm, .ref qf, .ref qx, .long 1]))] := hD
  subst hw
  refine lv_if_ne (tgt := 10) hx hb dX6_warp_5 (by decide) (fun c => absurd (by decide) c) (fun _ => ?_)
  refine lv_iconst (v := (-1)) hx hb dX6_warp_8 (by decide) ?_
  have hP9 := hP.sub (ws' := []) [] rfl
  have hD9 := hD.sub (ws' := []) [] (by decide) rfl
  have hK9 := hK.sub (tys' := []) [] rfl
  exact W.iret (v := (-1)) hx hb hr (fun t ht hW => ⟨⟨(-1), (), rfl, rfl, by rw [ht]; exact hP9, va_K.moved hW.alike hK9, hD9⟩, hS.F ht⟩) hS.2.2 dX6_warp_9

set_option maxHeartbeats 4000000 in
set_option maxRecDepth 100000 in
/-- part -/
theorem c_X6_part (l : Launch) (dC : Nat → ClassId) (dI : Nat → Nat → Nat) (sz : Nat) (h0 : Nat) (qt : Nat) (qr : Nat) (qc : Nat) (qs : Nat) (qn : Nat) (qp : Nat) (qm : Nat) (qf : Nat) (qx : Nat) (p0 : Int32) (p1 : Int32) (p2 : Int32) : Met l yX6_part (Cond.code yX6_part cX6_part 5 (some .int) :: T0) ({ frames := 1, cells := 0, slots := 0, locals := 21 }) (va_Pc [.ref h0, .int p0, .int p1, .int p2] (ax_W dC dI sz [(h0, .inr (6, [.ref qt, .int 0, .ref qr, .ref qc, .ref qs, .int 0, .ref qn, .ref qp, .int 0, .int 0, .ref qm, .ref qf, .ref qx, .long 1]))] [])) (va_Qi (fun (r : Int32) (_ : Unit) => r = (-1)) (fun (_ : Unit) (t : State) => va_P (dC, dI) vwCl [] t.heap ∧ va_K (dC, dI) vwCl [] t ∧ va_D (va_A [(h0, .inr (6, [.ref qt, .int 0, .ref qr, .ref qc, .ref qs, .int 0, .ref qn, .ref qp, .int 0, .int 0, .ref qm, .ref qf, .ref qx, .long 1]))] sz) []) (va_A [(h0, .inr (6, [.ref qt, .int 0, .ref qr, .ref qc, .ref qs, .int 0, .ref qn, .ref qp, .int 0, .int 0, .ref qm, .ref qf, .ref qx, .long 1]))] sz)) 0 0 (va_A [(h0, .inr (6, [.ref qt, .int 0, .ref qr, .ref qc, .ref qs, .int 0, .ref qn, .ref qp, .int 0, .int 0, .ref qm, .ref qf, .ref qx, .long 1]))] sz) := by
  refine Met.ofW (cc := cX6_part) (maxL := 5) (ret := (some .int)) (by decide) rfl ?_
  intro p e s m args below meth c s₁ B hml hv
  obtain ⟨rfl, hsz, hP, hK, hD0, hN⟩ := hv
  have hx := B.exec
  have hb := B.bytes
  have hr := B.returns
  have hts : ∀ w ∈ T0, w.before _ s = true := fun w h => atoms_spec (ws := Cond.code yX6_part cX6_part 5 (some .int) :: T0) B.pre w (List.mem_cons_of_mem _ h)
  have hown : s.vm.findClass RX6 = some m.cls := findClass_of_methodNamed B.named
  have hlocks := B.notSynchronized
  subst hsz
  have hD := hD0.self (sz := s.heap.size)
  generalize hAe : va_A [(h0, .inr (6, [.ref qt, .int 0, .ref qr, .ref qc, .ref qs, .int 0, .ref qn, .ref qp, .int 0, .int 0, .ref qm, .ref qf, .ref qx, .long 1]))] s.heap.size = A at hD ⊢
  have hA : ∀ q : Nat, s.heap.size ≤ q → A q := fun q h => by rw [← hAe]; exact Or.inr h
  have hS : va_S A s.heap s.heap [] := va_S.rf
  have hP : va_P (dC, dI) vwCl [(h0, .inr (6, [.ref qt, .int 0, .ref qr, .ref qc, .ref qs, .int 0, .ref qn, .ref qp, .int 0, .int 0, .ref qm, .ref qf, .ref qx, .long 1]))] s.heap := hP
  have hl := lv_entry ([.ref h0, .int p0, .int p1, .int p2]) (n := 5) (Nat.le_of_ble_eq_true rfl)
  rw [lg_entry_eq]
  generalize (lg_sl ([.ref h0, .int p0, .int p1, .int p2]) ++ List.replicate (5 - (lg_sl ([.ref h0, .int p0, .int p1, .int p2])).length) Slot.unset).toArray = ls at hl ⊢
  refine ax_gen hP hD hS (fun H locs hP hD hS => ?_)
  have hl : lv_has ls 5 [(0, .ref h0), (1, .int p0), (2, .int p1), (3, .int p2)] := hl
  refine lv_aload_n hx hb dX6_part_0 rfl (lv_at hl 0 rfl) ?_
  refine lv_iload_n hx hb dX6_part_1 rfl (lv_at hl 1 rfl) ?_
  have hPc := hP.sub (ws' := [(h0, .inr (6, [.ref qt, .int 0, .ref qr, .ref qc, .ref qs, .int 0, .ref qn, .ref qp, .int 0, .int 0, .ref qm, .ref qf, .ref qx, .long 1]))]) [0] rfl
  have hDc := hD.sub (ws' := [(h0, .inr (6, [.ref qt, .int 0, .ref qr, .ref qc, .ref qs, .int 0, .ref qn, .ref qp, .int 0, .int 0, .ref qm, .ref qf, .ref qx, .long 1]))]) [0] (by decide) rfl
  have hKc := hK.sub (tys' := []) [] rfl
  have hFc := va_free (wc := [(h0, .inr (6, [.ref qt, .int 0, .ref qr, .ref qc, .ref qs, .int 0, .ref qn, .ref qp, .int 0, .int 0, .ref qm, .ref qf, .ref qx, .long 1]))]) hD hS hA [0] rfl
  refine va_calli (va_runV (As := [.int p0]) (rest := []) ⟨hx, hb, hml, hown, hts⟩ (c_X6_hasWarp l dC dI H.size h0 qt qr qc qs qn qp qm qf qx p0) (cwV 1 hts (ax_gV T_145 T_146 T_147 T_106 T_144) rfl rfl rfl (by decide +kernel) ⟨Nat.le_of_ble_eq_true rfl, Nat.le_of_ble_eq_true rfl⟩) ⟨fun a U g mk q => ⟨q.1, ax_pc rfl rfl q.2⟩, va_recv hKc hPc (ci := 6) (q0 := 0) rfl rfl, fun U hU hW => ⟨rfl, ax_pw hU hW hPc hKc hDc hN⟩⟩ rfl rfl hl.1 rfl (lv_room (Nat.le_of_ble_eq_true rfl)) dX6_part_2 ⟨Nat.le_of_ble_eq_true rfl, Nat.le_of_ble_eq_true rfl⟩) hS (fun q _ h => hFc q h) hFc (fun r1 _ t H1 locs ht hvm hw hB hz1 hk1 hS => ?_)
  obtain ⟨hP1, hK1, hD1⟩ := hB
  rw [ht] at hP1
  have hK1 := va_K.moved hvm.symm hK1
  obtain ⟨hP, hD⟩ := va_join (wr := []) (w1 := [(h0, .inr (6, [.ref qt, .int 0, .ref qr, .ref qc, .ref qs, .int 0, .ref qn, .ref qp, .int 0, .int 0, .ref qm, .ref qf, .ref qx, .long 1]))]) hP hD [0] [] rfl rfl (by decide) (by decide) hk1 hFc hP1 hD1
  generalize H1 = H at hP hS ⊢
  have hP : va_P (dC, dI) vwCl [(h0, .inr (6, [.ref qt, .int 0, .ref qr, .ref qc, .ref qs, .int 0, .ref qn, .ref qp, .int 0, .int 0, .ref qm, .ref qf, .ref qx, .long 1]))] H := hP
  have hD : va_D A [(h0, .inr (6, [.ref qt, .int 0, .ref qr, .ref qc, .ref qs, .int 0, .ref qn, .ref qp, .int 0, .int 0, .ref qm, .ref qf, .ref qx, .long 1]))] := hD
  subst hw
  refine lv_if_eq (tgt := 28) hx hb dX6_part_5 (by decide) (fun _ => ?_) (fun c => absurd (by decide) c)
  refine lv_iconst (v := (-1)) hx hb dX6_part_28 (by decide) ?_
  have hP9 := hP.sub (ws' := []) [] rfl
  have hD9 := hD.sub (ws' := []) [] (by decide) rfl
  have hK9 := hK.sub (tys' := []) [] rfl
  exact W.iret (v := (-1)) hx hb hr (fun t ht hW => ⟨⟨(-1), (), rfl, rfl, by rw [ht]; exact hP9, va_K.moved hW.alike hK9, hD9⟩, hS.F ht⟩) hS.2.2 dX6_part_29

set_option maxHeartbeats 4000000 in
set_option maxRecDepth 100000 in
/-- word -/
theorem c_X6_word (l : Launch) (dC : Nat → ClassId) (dI : Nat → Nat → Nat) (sz : Nat) (h0 : Nat) (qt : Nat) (qr : Nat) (qc : Nat) (qs : Nat) (qn : Nat) (qp : Nat) (qm : Nat) (qf : Nat) (qx : Nat) (p0 : Int32) (p1 : Int32) : Met l yX6_word (Cond.code yX6_word cX6_word 3 (some .int) :: T0) ({ frames := 1, cells := 0, slots := 0, locals := 22 }) (va_Pc [.ref h0, .int p0, .int p1] (ax_W dC dI sz [(h0, .inr (6, [.ref qt, .int 0, .ref qr, .ref qc, .ref qs, .int 0, .ref qn, .ref qp, .int 0, .int 0, .ref qm, .ref qf, .ref qx, .long 1]))] [])) (va_Qi (fun (r : Int32) (_ : Unit) => r = (-1000000)) (fun (_ : Unit) (t : State) => va_P (dC, dI) vwCl [] t.heap ∧ va_K (dC, dI) vwCl [] t ∧ va_D (va_A [(h0, .inr (6, [.ref qt, .int 0, .ref qr, .ref qc, .ref qs, .int 0, .ref qn, .ref qp, .int 0, .int 0, .ref qm, .ref qf, .ref qx, .long 1]))] sz) []) (va_A [(h0, .inr (6, [.ref qt, .int 0, .ref qr, .ref qc, .ref qs, .int 0, .ref qn, .ref qp, .int 0, .int 0, .ref qm, .ref qf, .ref qx, .long 1]))] sz)) 0 0 (va_A [(h0, .inr (6, [.ref qt, .int 0, .ref qr, .ref qc, .ref qs, .int 0, .ref qn, .ref qp, .int 0, .int 0, .ref qm, .ref qf, .ref qx, .long 1]))] sz) := by
  refine Met.ofW (cc := cX6_word) (maxL := 3) (ret := (some .int)) (by decide) rfl ?_
  intro p e s m args below meth c s₁ B hml hv
  obtain ⟨rfl, hsz, hP, hK, hD0, hN⟩ := hv
  have hx := B.exec
  have hb := B.bytes
  have hr := B.returns
  have hts : ∀ w ∈ T0, w.before _ s = true := fun w h => atoms_spec (ws := Cond.code yX6_word cX6_word 3 (some .int) :: T0) B.pre w (List.mem_cons_of_mem _ h)
  have hown : s.vm.findClass RX6 = some m.cls := findClass_of_methodNamed B.named
  have hlocks := B.notSynchronized
  subst hsz
  have hD := hD0.self (sz := s.heap.size)
  generalize hAe : va_A [(h0, .inr (6, [.ref qt, .int 0, .ref qr, .ref qc, .ref qs, .int 0, .ref qn, .ref qp, .int 0, .int 0, .ref qm, .ref qf, .ref qx, .long 1]))] s.heap.size = A at hD ⊢
  have hA : ∀ q : Nat, s.heap.size ≤ q → A q := fun q h => by rw [← hAe]; exact Or.inr h
  have hS : va_S A s.heap s.heap [] := va_S.rf
  have hP : va_P (dC, dI) vwCl [(h0, .inr (6, [.ref qt, .int 0, .ref qr, .ref qc, .ref qs, .int 0, .ref qn, .ref qp, .int 0, .int 0, .ref qm, .ref qf, .ref qx, .long 1]))] s.heap := hP
  have hl := lv_entry ([.ref h0, .int p0, .int p1]) (n := 3) (Nat.le_of_ble_eq_true rfl)
  rw [lg_entry_eq]
  generalize (lg_sl ([.ref h0, .int p0, .int p1]) ++ List.replicate (3 - (lg_sl ([.ref h0, .int p0, .int p1])).length) Slot.unset).toArray = ls at hl ⊢
  refine ax_gen hP hD hS (fun H locs hP hD hS => ?_)
  have hl : lv_has ls 3 [(0, .ref h0), (1, .int p0), (2, .int p1)] := hl
  refine lv_aload_n hx hb dX6_word_0 rfl (lv_at hl 0 rfl) ?_
  refine lv_iload_n hx hb dX6_word_1 rfl (lv_at hl 1 rfl) ?_
  refine lv_iload_n hx hb dX6_word_2 rfl (lv_at hl 2 rfl) ?_
  have hPc := hP.sub (ws' := [(h0, .inr (6, [.ref qt, .int 0, .ref qr, .ref qc, .ref qs, .int 0, .ref qn, .ref qp, .int 0, .int 0, .ref qm, .ref qf, .ref qx, .long 1]))]) [0] rfl
  have hDc := hD.sub (ws' := [(h0, .inr (6, [.ref qt, .int 0, .ref qr, .ref qc, .ref qs, .int 0, .ref qn, .ref qp, .int 0, .int 0, .ref qm, .ref qf, .ref qx, .long 1]))]) [0] (by decide) rfl
  have hKc := hK.sub (tys' := []) [] rfl
  have hFc := va_free (wc := [(h0, .inr (6, [.ref qt, .int 0, .ref qr, .ref qc, .ref qs, .int 0, .ref qn, .ref qp, .int 0, .int 0, .ref qm, .ref qf, .ref qx, .long 1]))]) hD hS hA [0] rfl
  refine va_calli (va_runV (As := [.int p0, .int p1]) (rest := []) ⟨hx, hb, hml, hown, hts⟩ (c_X6_hasWord l dC dI H.size h0 qt qr qc qs qn qp qm qf qx p0 p1) (cwV 2 hts (ax_gV T_154 T_155 T_156 T_106 T_153) rfl rfl rfl (by decide +kernel) ⟨Nat.le_of_ble_eq_true rfl, Nat.le_of_ble_eq_true rfl⟩) ⟨fun a U g mk q => ⟨q.1, ax_pc rfl rfl q.2⟩, va_recv hKc hPc (ci := 6) (q0 := 0) rfl rfl, fun U hU hW => ⟨rfl, ax_pw hU hW hPc hKc hDc hN⟩⟩ rfl rfl hl.1 rfl (lv_room (Nat.le_of_ble_eq_true rfl)) dX6_word_3 ⟨Nat.le_of_ble_eq_true rfl, Nat.le_of_ble_eq_true rfl⟩) hS (fun q _ h => hFc q h) hFc (fun r1 _ t H1 locs ht hvm hw hB hz1 hk1 hS => ?_)
  obtain ⟨hP1, hK1, hD1⟩ := hB
  rw [ht] at hP1
  have hK1 := va_K.moved hvm.symm hK1
  obtain ⟨hP, hD⟩ := va_join (wr := []) (w1 := [(h0, .inr (6, [.ref qt, .int 0, .ref qr, .ref qc, .ref qs, .int 0, .ref qn, .ref qp, .int 0, .int 0, .ref qm, .ref qf, .ref qx, .long 1]))]) hP hD [0] [] rfl rfl (by decide) (by decide) hk1 hFc hP1 hD1
  generalize H1 = H at hP hS ⊢
  have hP : va_P (dC, dI) vwCl [(h0, .inr (6, [.ref qt, .int 0, .ref qr, .ref qc, .ref qs, .int 0, .ref qn, .ref qp, .int 0, .int 0, .ref qm, .ref qf, .ref qx, .long 1]))] H := hP
  have hD : va_D A [(h0, .inr (6, [.ref qt, .int 0, .ref qr, .ref qc, .ref qs, .int 0, .ref qn, .ref qp, .int 0, .int 0, .ref qm, .ref qf, .ref qx, .long 1]))] := hD
  subst hw
  refine lv_if_ne (tgt := 12) hx hb dX6_word_6 (by decide) (fun c => absurd (by decide) c) (fun _ => ?_)
  refine lv_ldc hx hb hown (hts _ T_148) dX6_word_9 ?_
  have hP9 := hP.sub (ws' := []) [] rfl
  have hD9 := hD.sub (ws' := []) [] (by decide) rfl
  have hK9 := hK.sub (tys' := []) [] rfl
  exact W.iret (v := (-1000000)) hx hb hr (fun t ht hW => ⟨⟨(-1000000), (), rfl, rfl, by rw [ht]; exact hP9, va_K.moved hW.alike hK9, hD9⟩, hS.F ht⟩) hS.2.2 dX6_word_11

set_option maxHeartbeats 4000000 in
set_option maxRecDepth 100000 in
/-- raced -/
theorem c_X6_raced (l : Launch) (dC : Nat → ClassId) (dI : Nat → Nat → Nat) (sz : Nat) (h0 : Nat) (qt : Nat) (qr : Nat) (qc : Nat) (qs : Nat) (qn : Nat) (qp : Nat) (qm : Nat) (qf : Nat) (qx : Nat) (p0 : Int32) (p1 : Int32) : Met l yX6_raced (Cond.code yX6_raced cX6_raced 3 (some .int) :: T0) ({ frames := 1, cells := 0, slots := 0, locals := 22 }) (va_Pc [.ref h0, .int p0, .int p1] (ax_W dC dI sz [(h0, .inr (6, [.ref qt, .int 0, .ref qr, .ref qc, .ref qs, .int 0, .ref qn, .ref qp, .int 0, .int 0, .ref qm, .ref qf, .ref qx, .long 1]))] [])) (va_Qi (fun (r : Int32) (_ : Unit) => r = (-1)) (fun (_ : Unit) (t : State) => va_P (dC, dI) vwCl [] t.heap ∧ va_K (dC, dI) vwCl [] t ∧ va_D (va_A [(h0, .inr (6, [.ref qt, .int 0, .ref qr, .ref qc, .ref qs, .int 0, .ref qn, .ref qp, .int 0, .int 0, .ref qm, .ref qf, .ref qx, .long 1]))] sz) []) (va_A [(h0, .inr (6, [.ref qt, .int 0, .ref qr, .ref qc, .ref qs, .int 0, .ref qn, .ref qp, .int 0, .int 0, .ref qm, .ref qf, .ref qx, .long 1]))] sz)) 0 0 (va_A [(h0, .inr (6, [.ref qt, .int 0, .ref qr, .ref qc, .ref qs, .int 0, .ref qn, .ref qp, .int 0, .int 0, .ref qm, .ref qf, .ref qx, .long 1]))] sz) := by
  refine Met.ofW (cc := cX6_raced) (maxL := 3) (ret := (some .int)) (by decide) rfl ?_
  intro p e s m args below meth c s₁ B hml hv
  obtain ⟨rfl, hsz, hP, hK, hD0, hN⟩ := hv
  have hx := B.exec
  have hb := B.bytes
  have hr := B.returns
  have hts : ∀ w ∈ T0, w.before _ s = true := fun w h => atoms_spec (ws := Cond.code yX6_raced cX6_raced 3 (some .int) :: T0) B.pre w (List.mem_cons_of_mem _ h)
  have hown : s.vm.findClass RX6 = some m.cls := findClass_of_methodNamed B.named
  have hlocks := B.notSynchronized
  subst hsz
  have hD := hD0.self (sz := s.heap.size)
  generalize hAe : va_A [(h0, .inr (6, [.ref qt, .int 0, .ref qr, .ref qc, .ref qs, .int 0, .ref qn, .ref qp, .int 0, .int 0, .ref qm, .ref qf, .ref qx, .long 1]))] s.heap.size = A at hD ⊢
  have hA : ∀ q : Nat, s.heap.size ≤ q → A q := fun q h => by rw [← hAe]; exact Or.inr h
  have hS : va_S A s.heap s.heap [] := va_S.rf
  have hP : va_P (dC, dI) vwCl [(h0, .inr (6, [.ref qt, .int 0, .ref qr, .ref qc, .ref qs, .int 0, .ref qn, .ref qp, .int 0, .int 0, .ref qm, .ref qf, .ref qx, .long 1]))] s.heap := hP
  have hl := lv_entry ([.ref h0, .int p0, .int p1]) (n := 3) (Nat.le_of_ble_eq_true rfl)
  rw [lg_entry_eq]
  generalize (lg_sl ([.ref h0, .int p0, .int p1]) ++ List.replicate (3 - (lg_sl ([.ref h0, .int p0, .int p1])).length) Slot.unset).toArray = ls at hl ⊢
  refine ax_gen hP hD hS (fun H locs hP hD hS => ?_)
  have hl : lv_has ls 3 [(0, .ref h0), (1, .int p0), (2, .int p1)] := hl
  refine lv_aload_n hx hb dX6_raced_0 rfl (lv_at hl 0 rfl) ?_
  refine lv_iload_n hx hb dX6_raced_1 rfl (lv_at hl 1 rfl) ?_
  refine lv_iload_n hx hb dX6_raced_2 rfl (lv_at hl 2 rfl) ?_
  have hPc := hP.sub (ws' := [(h0, .inr (6, [.ref qt, .int 0, .ref qr, .ref qc, .ref qs, .int 0, .ref qn, .ref qp, .int 0, .int 0, .ref qm, .ref qf, .ref qx, .long 1]))]) [0] rfl
  have hDc := hD.sub (ws' := [(h0, .inr (6, [.ref qt, .int 0, .ref qr, .ref qc, .ref qs, .int 0, .ref qn, .ref qp, .int 0, .int 0, .ref qm, .ref qf, .ref qx, .long 1]))]) [0] (by decide) rfl
  have hKc := hK.sub (tys' := []) [] rfl
  have hFc := va_free (wc := [(h0, .inr (6, [.ref qt, .int 0, .ref qr, .ref qc, .ref qs, .int 0, .ref qn, .ref qp, .int 0, .int 0, .ref qm, .ref qf, .ref qx, .long 1]))]) hD hS hA [0] rfl
  refine va_calli (va_runV (As := [.int p0, .int p1]) (rest := []) ⟨hx, hb, hml, hown, hts⟩ (c_X6_hasWord l dC dI H.size h0 qt qr qc qs qn qp qm qf qx p0 p1) (cwV 2 hts (ax_gV T_154 T_155 T_156 T_106 T_153) rfl rfl rfl (by decide +kernel) ⟨Nat.le_of_ble_eq_true rfl, Nat.le_of_ble_eq_true rfl⟩) ⟨fun a U g mk q => ⟨q.1, ax_pc rfl rfl q.2⟩, va_recv hKc hPc (ci := 6) (q0 := 0) rfl rfl, fun U hU hW => ⟨rfl, ax_pw hU hW hPc hKc hDc hN⟩⟩ rfl rfl hl.1 rfl (lv_room (Nat.le_of_ble_eq_true rfl)) dX6_raced_3 ⟨Nat.le_of_ble_eq_true rfl, Nat.le_of_ble_eq_true rfl⟩) hS (fun q _ h => hFc q h) hFc (fun r1 _ t H1 locs ht hvm hw hB hz1 hk1 hS => ?_)
  obtain ⟨hP1, hK1, hD1⟩ := hB
  rw [ht] at hP1
  have hK1 := va_K.moved hvm.symm hK1
  obtain ⟨hP, hD⟩ := va_join (wr := []) (w1 := [(h0, .inr (6, [.ref qt, .int 0, .ref qr, .ref qc, .ref qs, .int 0, .ref qn, .ref qp, .int 0, .int 0, .ref qm, .ref qf, .ref qx, .long 1]))]) hP hD [0] [] rfl rfl (by decide) (by decide) hk1 hFc hP1 hD1
  generalize H1 = H at hP hS ⊢
  have hP : va_P (dC, dI) vwCl [(h0, .inr (6, [.ref qt, .int 0, .ref qr, .ref qc, .ref qs, .int 0, .ref qn, .ref qp, .int 0, .int 0, .ref qm, .ref qf, .ref qx, .long 1]))] H := hP
  have hD : va_D A [(h0, .inr (6, [.ref qt, .int 0, .ref qr, .ref qc, .ref qs, .int 0, .ref qn, .ref qp, .int 0, .int 0, .ref qm, .ref qf, .ref qx, .long 1]))] := hD
  subst hw
  refine lv_if_ne (tgt := 11) hx hb dX6_raced_6 (by decide) (fun c => absurd (by decide) c) (fun _ => ?_)
  refine lv_iconst (v := (-1)) hx hb dX6_raced_9 (by decide) ?_
  have hP9 := hP.sub (ws' := []) [] rfl
  have hD9 := hD.sub (ws' := []) [] (by decide) rfl
  have hK9 := hK.sub (tys' := []) [] rfl
  exact W.iret (v := (-1)) hx hb hr (fun t ht hW => ⟨⟨(-1), (), rfl, rfl, by rw [ht]; exact hP9, va_K.moved hW.alike hK9, hD9⟩, hS.F ht⟩) hS.2.2 dX6_raced_10

set_option maxHeartbeats 4000000 in
set_option maxRecDepth 100000 in
/-- next -/
theorem c_X6_next (l : Launch) (dC : Nat → ClassId) (dI : Nat → Nat → Nat) (sz : Nat) (h0 : Nat) (qt : Nat) (qr : Nat) (qc : Nat) (qs : Nat) (qn : Nat) (qp : Nat) (qm : Nat) (qf : Nat) (qx : Nat) (p0 : Int32) : Met l yX6_next (Cond.code yX6_next cX6_next 2 (some .int) :: T0) ({ frames := 0, cells := 0, slots := 0, locals := 0 }) (va_Pc [.ref h0, .int p0] (ax_W dC dI sz [(h0, .inr (6, [.ref qt, .int 0, .ref qr, .ref qc, .ref qs, .int 0, .ref qn, .ref qp, .int 0, .int 0, .ref qm, .ref qf, .ref qx, .long 1]))] [])) (va_Qi (fun (r : Int32) (_ : Unit) => r = (-1)) (fun (_ : Unit) (t : State) => va_P (dC, dI) vwCl [] t.heap ∧ va_K (dC, dI) vwCl [] t ∧ va_D (va_A [(h0, .inr (6, [.ref qt, .int 0, .ref qr, .ref qc, .ref qs, .int 0, .ref qn, .ref qp, .int 0, .int 0, .ref qm, .ref qf, .ref qx, .long 1]))] sz) []) (va_A [(h0, .inr (6, [.ref qt, .int 0, .ref qr, .ref qc, .ref qs, .int 0, .ref qn, .ref qp, .int 0, .int 0, .ref qm, .ref qf, .ref qx, .long 1]))] sz)) 0 0 (va_A [(h0, .inr (6, [.ref qt, .int 0, .ref qr, .ref qc, .ref qs, .int 0, .ref qn, .ref qp, .int 0, .int 0, .ref qm, .ref qf, .ref qx, .long 1]))] sz) := by
  refine Met.ofW (cc := cX6_next) (maxL := 2) (ret := (some .int)) (by decide) rfl ?_
  intro p e s m args below meth c s₁ B hml hv
  obtain ⟨rfl, hsz, hP, hK, hD0, hN⟩ := hv
  have hx := B.exec
  have hb := B.bytes
  have hr := B.returns
  have hts : ∀ w ∈ T0, w.before _ s = true := fun w h => atoms_spec (ws := Cond.code yX6_next cX6_next 2 (some .int) :: T0) B.pre w (List.mem_cons_of_mem _ h)
  have hown : s.vm.findClass RX6 = some m.cls := findClass_of_methodNamed B.named
  have hlocks := B.notSynchronized
  subst hsz
  have hD := hD0.self (sz := s.heap.size)
  generalize hAe : va_A [(h0, .inr (6, [.ref qt, .int 0, .ref qr, .ref qc, .ref qs, .int 0, .ref qn, .ref qp, .int 0, .int 0, .ref qm, .ref qf, .ref qx, .long 1]))] s.heap.size = A at hD ⊢
  have hA : ∀ q : Nat, s.heap.size ≤ q → A q := fun q h => by rw [← hAe]; exact Or.inr h
  have hS : va_S A s.heap s.heap [] := va_S.rf
  have hP : va_P (dC, dI) vwCl [(h0, .inr (6, [.ref qt, .int 0, .ref qr, .ref qc, .ref qs, .int 0, .ref qn, .ref qp, .int 0, .int 0, .ref qm, .ref qf, .ref qx, .long 1]))] s.heap := hP
  have hl := lv_entry ([.ref h0, .int p0]) (n := 2) (Nat.le_of_ble_eq_true rfl)
  rw [lg_entry_eq]
  generalize (lg_sl ([.ref h0, .int p0]) ++ List.replicate (2 - (lg_sl ([.ref h0, .int p0])).length) Slot.unset).toArray = ls at hl ⊢
  refine ax_gen hP hD hS (fun H locs hP hD hS => ?_)
  have hl : lv_has ls 2 [(0, .ref h0), (1, .int p0)] := hl
  refine lv_aload_n hx hb dX6_next_0 rfl (lv_at hl 0 rfl) ?_
  refine va_get (D := (dC, dI)) (ci := 6) (v := .int 0) (C := RX6) (T := TX6) (N := 14) hx hb hts inX6 hown hK hP 0 rfl rfl 5 (by decide) (hts _ T_143) (fun _ h9 => h9) rfl dX6_next_1 ?_
  refine lv_if_eq (tgt := 34) hx hb dX6_next_4 (by decide) (fun _ => ?_) (fun c => absurd (by decide) c)
  refine lv_iconst (v := (-1)) hx hb dX6_next_34 (by decide) ?_
  have hP9 := hP.sub (ws' := []) [] rfl
  have hD9 := hD.sub (ws' := []) [] (by decide) rfl
  have hK9 := hK.sub (tys' := []) [] rfl
  exact W.iret (v := (-1)) hx hb hr (fun t ht hW => ⟨⟨(-1), (), rfl, rfl, by rw [ht]; exact hP9, va_K.moved hW.alike hK9, hD9⟩, hS.F ht⟩) hS.2.2 dX6_next_35

set_option maxHeartbeats 4000000 in
set_option maxRecDepth 100000 in
/-- goes -/
theorem c_X6_goes (l : Launch) (dC : Nat → ClassId) (dI : Nat → Nat → Nat) (sz : Nat) (h0 : Nat) (qt : Nat) (qr : Nat) (qc : Nat) (qs : Nat) (qn : Nat) (qp : Nat) (qm : Nat) (qf : Nat) (qx : Nat) (p0 : Int32) : Met l yX6_goes (Cond.code yX6_goes cX6_goes 2 (some .int) :: T0) ({ frames := 0, cells := 0, slots := 0, locals := 0 }) (va_Pc [.ref h0, .int p0] (ax_W dC dI sz [(h0, .inr (6, [.ref qt, .int 0, .ref qr, .ref qc, .ref qs, .int 0, .ref qn, .ref qp, .int 0, .int 0, .ref qm, .ref qf, .ref qx, .long 1]))] [])) (va_Qi (fun (r : Int32) (_ : Unit) => r = (-1)) (fun (_ : Unit) (t : State) => va_P (dC, dI) vwCl [] t.heap ∧ va_K (dC, dI) vwCl [] t ∧ va_D (va_A [(h0, .inr (6, [.ref qt, .int 0, .ref qr, .ref qc, .ref qs, .int 0, .ref qn, .ref qp, .int 0, .int 0, .ref qm, .ref qf, .ref qx, .long 1]))] sz) []) (va_A [(h0, .inr (6, [.ref qt, .int 0, .ref qr, .ref qc, .ref qs, .int 0, .ref qn, .ref qp, .int 0, .int 0, .ref qm, .ref qf, .ref qx, .long 1]))] sz)) 0 0 (va_A [(h0, .inr (6, [.ref qt, .int 0, .ref qr, .ref qc, .ref qs, .int 0, .ref qn, .ref qp, .int 0, .int 0, .ref qm, .ref qf, .ref qx, .long 1]))] sz) := by
  refine Met.ofW (cc := cX6_goes) (maxL := 2) (ret := (some .int)) (by decide) rfl ?_
  intro p e s m args below meth c s₁ B hml hv
  obtain ⟨rfl, hsz, hP, hK, hD0, hN⟩ := hv
  have hx := B.exec
  have hb := B.bytes
  have hr := B.returns
  have hts : ∀ w ∈ T0, w.before _ s = true := fun w h => atoms_spec (ws := Cond.code yX6_goes cX6_goes 2 (some .int) :: T0) B.pre w (List.mem_cons_of_mem _ h)
  have hown : s.vm.findClass RX6 = some m.cls := findClass_of_methodNamed B.named
  have hlocks := B.notSynchronized
  subst hsz
  have hD := hD0.self (sz := s.heap.size)
  generalize hAe : va_A [(h0, .inr (6, [.ref qt, .int 0, .ref qr, .ref qc, .ref qs, .int 0, .ref qn, .ref qp, .int 0, .int 0, .ref qm, .ref qf, .ref qx, .long 1]))] s.heap.size = A at hD ⊢
  have hA : ∀ q : Nat, s.heap.size ≤ q → A q := fun q h => by rw [← hAe]; exact Or.inr h
  have hS : va_S A s.heap s.heap [] := va_S.rf
  have hP : va_P (dC, dI) vwCl [(h0, .inr (6, [.ref qt, .int 0, .ref qr, .ref qc, .ref qs, .int 0, .ref qn, .ref qp, .int 0, .int 0, .ref qm, .ref qf, .ref qx, .long 1]))] s.heap := hP
  have hl := lv_entry ([.ref h0, .int p0]) (n := 2) (Nat.le_of_ble_eq_true rfl)
  rw [lg_entry_eq]
  generalize (lg_sl ([.ref h0, .int p0]) ++ List.replicate (2 - (lg_sl ([.ref h0, .int p0])).length) Slot.unset).toArray = ls at hl ⊢
  refine ax_gen hP hD hS (fun H locs hP hD hS => ?_)
  have hl : lv_has ls 2 [(0, .ref h0), (1, .int p0)] := hl
  refine lv_aload_n hx hb dX6_goes_0 rfl (lv_at hl 0 rfl) ?_
  refine va_get (D := (dC, dI)) (ci := 6) (v := .int 0) (C := RX6) (T := TX6) (N := 14) hx hb hts inX6 hown hK hP 0 rfl rfl 5 (by decide) (hts _ T_143) (fun _ h9 => h9) rfl dX6_goes_1 ?_
  refine lv_if_eq (tgt := 16) hx hb dX6_goes_4 (by decide) (fun _ => ?_) (fun c => absurd (by decide) c)
  refine lv_iconst (v := (-1)) hx hb dX6_goes_16 (by decide) ?_
  have hP9 := hP.sub (ws' := []) [] rfl
  have hD9 := hD.sub (ws' := []) [] (by decide) rfl
  have hK9 := hK.sub (tys' := []) [] rfl
  exact W.iret (v := (-1)) hx hb hr (fun t ht hW => ⟨⟨(-1), (), rfl, rfl, by rw [ht]; exact hP9, va_K.moved hW.alike hK9, hD9⟩, hS.F ht⟩) hS.2.2 dX6_goes_17

set_option maxHeartbeats 4000000 in
set_option maxRecDepth 100000 in
/-- later -/
theorem c_X6_later (l : Launch) (dC : Nat → ClassId) (dI : Nat → Nat → Nat) (sz : Nat) (h0 : Nat) (qt : Nat) (qr : Nat) (qc : Nat) (qs : Nat) (qn : Nat) (qp : Nat) (qm : Nat) (qf : Nat) (qx : Nat) (p0 : Int32) (p1 : Int32) (p2 : Int32) (p3 : Int32) : Met l yX6_later (Cond.code yX6_later cX6_later 6 (some .int) :: T0) ({ frames := 2, cells := 0, slots := 0, locals := 43 }) (va_Pc [.ref h0, .int p0, .int p1, .int p2, .int p3] (ax_W dC dI sz [(h0, .inr (6, [.ref qt, .int 0, .ref qr, .ref qc, .ref qs, .int 0, .ref qn, .ref qp, .int 0, .int 0, .ref qm, .ref qf, .ref qx, .long 1]))] [])) (va_Qi (fun (r : Int32) (_ : Unit) => r = (-1000000)) (fun (_ : Unit) (t : State) => va_P (dC, dI) vwCl [] t.heap ∧ va_K (dC, dI) vwCl [] t ∧ va_D (va_A [(h0, .inr (6, [.ref qt, .int 0, .ref qr, .ref qc, .ref qs, .int 0, .ref qn, .ref qp, .int 0, .int 0, .ref qm, .ref qf, .ref qx, .long 1]))] sz) []) (va_A [(h0, .inr (6, [.ref qt, .int 0, .ref qr, .ref qc, .ref qs, .int 0, .ref qn, .ref qp, .int 0, .int 0, .ref qm, .ref qf, .ref qx, .long 1]))] sz)) 0 0 (va_A [(h0, .inr (6, [.ref qt, .int 0, .ref qr, .ref qc, .ref qs, .int 0, .ref qn, .ref qp, .int 0, .int 0, .ref qm, .ref qf, .ref qx, .long 1]))] sz) := by
  refine Met.ofW (cc := cX6_later) (maxL := 6) (ret := (some .int)) (by decide) rfl ?_
  intro p e s m args below meth c s₁ B hml hv
  obtain ⟨rfl, hsz, hP, hK, hD0, hN⟩ := hv
  have hx := B.exec
  have hb := B.bytes
  have hr := B.returns
  have hts : ∀ w ∈ T0, w.before _ s = true := fun w h => atoms_spec (ws := Cond.code yX6_later cX6_later 6 (some .int) :: T0) B.pre w (List.mem_cons_of_mem _ h)
  have hown : s.vm.findClass RX6 = some m.cls := findClass_of_methodNamed B.named
  have hlocks := B.notSynchronized
  subst hsz
  have hD := hD0.self (sz := s.heap.size)
  generalize hAe : va_A [(h0, .inr (6, [.ref qt, .int 0, .ref qr, .ref qc, .ref qs, .int 0, .ref qn, .ref qp, .int 0, .int 0, .ref qm, .ref qf, .ref qx, .long 1]))] s.heap.size = A at hD ⊢
  have hA : ∀ q : Nat, s.heap.size ≤ q → A q := fun q h => by rw [← hAe]; exact Or.inr h
  have hS : va_S A s.heap s.heap [] := va_S.rf
  have hP : va_P (dC, dI) vwCl [(h0, .inr (6, [.ref qt, .int 0, .ref qr, .ref qc, .ref qs, .int 0, .ref qn, .ref qp, .int 0, .int 0, .ref qm, .ref qf, .ref qx, .long 1]))] s.heap := hP
  have hl := lv_entry ([.ref h0, .int p0, .int p1, .int p2, .int p3]) (n := 6) (Nat.le_of_ble_eq_true rfl)
  rw [lg_entry_eq]
  generalize (lg_sl ([.ref h0, .int p0, .int p1, .int p2, .int p3]) ++ List.replicate (6 - (lg_sl ([.ref h0, .int p0, .int p1, .int p2, .int p3])).length) Slot.unset).toArray = ls at hl ⊢
  refine ax_gen hP hD hS (fun H locs hP hD hS => ?_)
  have hl : lv_has ls 6 [(0, .ref h0), (1, .int p0), (2, .int p1), (3, .int p2), (4, .int p3)] := hl
  refine lv_aload_n hx hb dX6_later_0 rfl (lv_at hl 0 rfl) ?_
  refine lv_iload_n hx hb dX6_later_1 rfl (lv_at hl 2 rfl) ?_
  refine lv_iload_n hx hb dX6_later_2 rfl (lv_at hl 3 rfl) ?_
  have hPc := hP.sub (ws' := [(h0, .inr (6, [.ref qt, .int 0, .ref qr, .ref qc, .ref qs, .int 0, .ref qn, .ref qp, .int 0, .int 0, .ref qm, .ref qf, .ref qx, .long 1]))]) [0] rfl
  have hDc := hD.sub (ws' := [(h0, .inr (6, [.ref qt, .int 0, .ref qr, .ref qc, .ref qs, .int 0, .ref qn, .ref qp, .int 0, .int 0, .ref qm, .ref qf, .ref qx, .long 1]))]) [0] (by decide) rfl
  have hKc := hK.sub (tys' := []) [] rfl
  have hFc := va_free (wc := [(h0, .inr (6, [.ref qt, .int 0, .ref qr, .ref qc, .ref qs, .int 0, .ref qn, .ref qp, .int 0, .int 0, .ref qm, .ref qf, .ref qx, .long 1]))]) hD hS hA [0] rfl
  refine va_calli (va_runV (As := [.int p1, .int p2]) (rest := []) ⟨hx, hb, hml, hown, hts⟩ (c_X6_hasLane l dC dI H.size h0 qt qr qc qs qn qp qm qf qx p1 p2) (cwV 2 hts (ax_gV T_150 T_151 T_152 T_106 T_149) rfl rfl rfl (by decide +kernel) ⟨Nat.le_of_ble_eq_true rfl, Nat.le_of_ble_eq_true rfl⟩) ⟨fun a U g mk q => ⟨q.1, ax_pc rfl rfl q.2⟩, va_recv hKc hPc (ci := 6) (q0 := 0) rfl rfl, fun U hU hW => ⟨rfl, ax_pw hU hW hPc hKc hDc hN⟩⟩ rfl rfl hl.1 rfl (lv_room (Nat.le_of_ble_eq_true rfl)) dX6_later_3 ⟨Nat.le_of_ble_eq_true rfl, Nat.le_of_ble_eq_true rfl⟩) hS (fun q _ h => hFc q h) hFc (fun r1 _ t H1 locs ht hvm hw hB hz1 hk1 hS => ?_)
  obtain ⟨hP1, hK1, hD1⟩ := hB
  rw [ht] at hP1
  have hK1 := va_K.moved hvm.symm hK1
  obtain ⟨hP, hD⟩ := va_join (wr := []) (w1 := [(h0, .inr (6, [.ref qt, .int 0, .ref qr, .ref qc, .ref qs, .int 0, .ref qn, .ref qp, .int 0, .int 0, .ref qm, .ref qf, .ref qx, .long 1]))]) hP hD [0] [] rfl rfl (by decide) (by decide) hk1 hFc hP1 hD1
  generalize H1 = H at hP hS ⊢
  have hP : va_P (dC, dI) vwCl [(h0, .inr (6, [.ref qt, .int 0, .ref qr, .ref qc, .ref qs, .int 0, .ref qn, .ref qp, .int 0, .int 0, .ref qm, .ref qf, .ref qx, .long 1]))] H := hP
  have hD : va_D A [(h0, .inr (6, [.ref qt, .int 0, .ref qr, .ref qc, .ref qs, .int 0, .ref qn, .ref qp, .int 0, .int 0, .ref qm, .ref qf, .ref qx, .long 1]))] := hD
  subst hw
  refine lv_if_eq (tgt := 31) hx hb dX6_later_6 (by decide) (fun _ => ?_) (fun c => absurd (by decide) c)
  refine lv_ldc hx hb hown (hts _ T_148) dX6_later_31 ?_
  have hP9 := hP.sub (ws' := []) [] rfl
  have hD9 := hD.sub (ws' := []) [] (by decide) rfl
  have hK9 := hK.sub (tys' := []) [] rfl
  exact W.iret (v := (-1000000)) hx hb hr (fun t ht hW => ⟨⟨(-1000000), (), rfl, rfl, by rw [ht]; exact hP9, va_K.moved hW.alike hK9, hD9⟩, hS.F ht⟩) hS.2.2 dX6_later_33

set_option maxHeartbeats 4000000 in
set_option maxRecDepth 100000 in
/-- by -/
theorem c_X6_by (l : Launch) (dC : Nat → ClassId) (dI : Nat → Nat → Nat) (sz : Nat) (h0 : Nat) (qt : Nat) (qr : Nat) (qc : Nat) (qs : Nat) (qn : Nat) (qp : Nat) (qm : Nat) (qf : Nat) (qx : Nat) (p0 : Int32) (p1 : Int32) (p2 : Int32) : Met l yX6_by (Cond.code yX6_by cX6_by 4 (some .int) :: T0) ({ frames := 0, cells := 0, slots := 0, locals := 0 }) (va_Pc [.ref h0, .int p0, .int p1, .int p2] (ax_W dC dI sz [(h0, .inr (6, [.ref qt, .int 0, .ref qr, .ref qc, .ref qs, .int 0, .ref qn, .ref qp, .int 0, .int 0, .ref qm, .ref qf, .ref qx, .long 1]))] [])) (va_Qi (fun (r : Int32) (_ : Unit) => r = (-1)) (fun (_ : Unit) (t : State) => va_P (dC, dI) vwCl [] t.heap ∧ va_K (dC, dI) vwCl [] t ∧ va_D (va_A [(h0, .inr (6, [.ref qt, .int 0, .ref qr, .ref qc, .ref qs, .int 0, .ref qn, .ref qp, .int 0, .int 0, .ref qm, .ref qf, .ref qx, .long 1]))] sz) []) (va_A [(h0, .inr (6, [.ref qt, .int 0, .ref qr, .ref qc, .ref qs, .int 0, .ref qn, .ref qp, .int 0, .int 0, .ref qm, .ref qf, .ref qx, .long 1]))] sz)) 0 0 (va_A [(h0, .inr (6, [.ref qt, .int 0, .ref qr, .ref qc, .ref qs, .int 0, .ref qn, .ref qp, .int 0, .int 0, .ref qm, .ref qf, .ref qx, .long 1]))] sz) := by
  refine Met.ofW (cc := cX6_by) (maxL := 4) (ret := (some .int)) (by decide) rfl ?_
  intro p e s m args below meth c s₁ B hml hv
  obtain ⟨rfl, hsz, hP, hK, hD0, hN⟩ := hv
  have hx := B.exec
  have hb := B.bytes
  have hr := B.returns
  have hts : ∀ w ∈ T0, w.before _ s = true := fun w h => atoms_spec (ws := Cond.code yX6_by cX6_by 4 (some .int) :: T0) B.pre w (List.mem_cons_of_mem _ h)
  have hown : s.vm.findClass RX6 = some m.cls := findClass_of_methodNamed B.named
  have hlocks := B.notSynchronized
  subst hsz
  have hD := hD0.self (sz := s.heap.size)
  generalize hAe : va_A [(h0, .inr (6, [.ref qt, .int 0, .ref qr, .ref qc, .ref qs, .int 0, .ref qn, .ref qp, .int 0, .int 0, .ref qm, .ref qf, .ref qx, .long 1]))] s.heap.size = A at hD ⊢
  have hA : ∀ q : Nat, s.heap.size ≤ q → A q := fun q h => by rw [← hAe]; exact Or.inr h
  have hS : va_S A s.heap s.heap [] := va_S.rf
  have hP : va_P (dC, dI) vwCl [(h0, .inr (6, [.ref qt, .int 0, .ref qr, .ref qc, .ref qs, .int 0, .ref qn, .ref qp, .int 0, .int 0, .ref qm, .ref qf, .ref qx, .long 1]))] s.heap := hP
  have hl := lv_entry ([.ref h0, .int p0, .int p1, .int p2]) (n := 4) (Nat.le_of_ble_eq_true rfl)
  rw [lg_entry_eq]
  generalize (lg_sl ([.ref h0, .int p0, .int p1, .int p2]) ++ List.replicate (4 - (lg_sl ([.ref h0, .int p0, .int p1, .int p2])).length) Slot.unset).toArray = ls at hl ⊢
  refine ax_gen hP hD hS (fun H locs hP hD hS => ?_)
  have hl : lv_has ls 4 [(0, .ref h0), (1, .int p0), (2, .int p1), (3, .int p2)] := hl
  refine lv_aload_n hx hb dX6_by_0 rfl (lv_at hl 0 rfl) ?_
  refine va_get (D := (dC, dI)) (ci := 6) (v := .int 0) (C := RX6) (T := TX6) (N := 14) hx hb hts inX6 hown hK hP 0 rfl rfl 5 (by decide) (hts _ T_143) (fun _ h9 => h9) rfl dX6_by_1 ?_
  refine lv_if_eq (tgt := 30) hx hb dX6_by_4 (by decide) (fun _ => ?_) (fun c => absurd (by decide) c)
  refine lv_iconst (v := (-1)) hx hb dX6_by_30 (by decide) ?_
  have hP9 := hP.sub (ws' := []) [] rfl
  have hD9 := hD.sub (ws' := []) [] (by decide) rfl
  have hK9 := hK.sub (tys' := []) [] rfl
  exact W.iret (v := (-1)) hx hb hr (fun t ht hW => ⟨⟨(-1), (), rfl, rfl, by rw [ht]; exact hP9, va_K.moved hW.alike hK9, hD9⟩, hS.F ht⟩) hS.2.2 dX6_by_31

set_option maxHeartbeats 4000000 in
set_option maxRecDepth 100000 in
/-- skew -/
theorem c_X6_skew (l : Launch) (dC : Nat → ClassId) (dI : Nat → Nat → Nat) (sz : Nat) (h0 : Nat) (qt : Nat) (qr : Nat) (qc : Nat) (qs : Nat) (qn : Nat) (qp : Nat) (qm : Nat) (qf : Nat) (qx : Nat) (p0 : Int32) : Met l yX6_skew (Cond.code yX6_skew cX6_skew 9 (some .int) :: T0) ({ frames := 0, cells := 0, slots := 0, locals := 0 }) (va_Pc [.ref h0, .int p0] (ax_W dC dI sz [(h0, .inr (6, [.ref qt, .int 0, .ref qr, .ref qc, .ref qs, .int 0, .ref qn, .ref qp, .int 0, .int 0, .ref qm, .ref qf, .ref qx, .long 1]))] [])) (va_Qi (fun (r : Int32) (_ : Unit) => r = (-1)) (fun (_ : Unit) (t : State) => va_P (dC, dI) vwCl [] t.heap ∧ va_K (dC, dI) vwCl [] t ∧ va_D (va_A [(h0, .inr (6, [.ref qt, .int 0, .ref qr, .ref qc, .ref qs, .int 0, .ref qn, .ref qp, .int 0, .int 0, .ref qm, .ref qf, .ref qx, .long 1]))] sz) []) (va_A [(h0, .inr (6, [.ref qt, .int 0, .ref qr, .ref qc, .ref qs, .int 0, .ref qn, .ref qp, .int 0, .int 0, .ref qm, .ref qf, .ref qx, .long 1]))] sz)) 0 0 (va_A [(h0, .inr (6, [.ref qt, .int 0, .ref qr, .ref qc, .ref qs, .int 0, .ref qn, .ref qp, .int 0, .int 0, .ref qm, .ref qf, .ref qx, .long 1]))] sz) := by
  refine Met.ofW (cc := cX6_skew) (maxL := 9) (ret := (some .int)) (by decide) rfl ?_
  intro p e s m args below meth c s₁ B hml hv
  obtain ⟨rfl, hsz, hP, hK, hD0, hN⟩ := hv
  have hx := B.exec
  have hb := B.bytes
  have hr := B.returns
  have hts : ∀ w ∈ T0, w.before _ s = true := fun w h => atoms_spec (ws := Cond.code yX6_skew cX6_skew 9 (some .int) :: T0) B.pre w (List.mem_cons_of_mem _ h)
  have hown : s.vm.findClass RX6 = some m.cls := findClass_of_methodNamed B.named
  have hlocks := B.notSynchronized
  subst hsz
  have hD := hD0.self (sz := s.heap.size)
  generalize hAe : va_A [(h0, .inr (6, [.ref qt, .int 0, .ref qr, .ref qc, .ref qs, .int 0, .ref qn, .ref qp, .int 0, .int 0, .ref qm, .ref qf, .ref qx, .long 1]))] s.heap.size = A at hD ⊢
  have hA : ∀ q : Nat, s.heap.size ≤ q → A q := fun q h => by rw [← hAe]; exact Or.inr h
  have hS : va_S A s.heap s.heap [] := va_S.rf
  have hP : va_P (dC, dI) vwCl [(h0, .inr (6, [.ref qt, .int 0, .ref qr, .ref qc, .ref qs, .int 0, .ref qn, .ref qp, .int 0, .int 0, .ref qm, .ref qf, .ref qx, .long 1]))] s.heap := hP
  have hl := lv_entry ([.ref h0, .int p0]) (n := 9) (Nat.le_of_ble_eq_true rfl)
  rw [lg_entry_eq]
  generalize (lg_sl ([.ref h0, .int p0]) ++ List.replicate (9 - (lg_sl ([.ref h0, .int p0])).length) Slot.unset).toArray = ls at hl ⊢
  refine ax_gen hP hD hS (fun H locs hP hD hS => ?_)
  have hl : lv_has ls 9 [(0, .ref h0), (1, .int p0)] := hl
  refine lv_aload_n hx hb dX6_skew_0 rfl (lv_at hl 0 rfl) ?_
  refine va_get (D := (dC, dI)) (ci := 6) (v := .int 0) (C := RX6) (T := TX6) (N := 14) hx hb hts inX6 hown hK hP 0 rfl rfl 5 (by decide) (hts _ T_143) (fun _ h9 => h9) rfl dX6_skew_1 ?_
  refine lv_if_eq (tgt := 16) hx hb dX6_skew_4 (by decide) (fun _ => ?_) (fun c => absurd (by decide) c)
  refine lv_iconst (v := (-1)) hx hb dX6_skew_16 (by decide) ?_
  have hP9 := hP.sub (ws' := []) [] rfl
  have hD9 := hD.sub (ws' := []) [] (by decide) rfl
  have hK9 := hK.sub (tys' := []) [] rfl
  exact W.iret (v := (-1)) hx hb hr (fun t ht hW => ⟨⟨(-1), (), rfl, rfl, by rw [ht]; exact hP9, va_K.moved hW.alike hK9, hD9⟩, hS.F ht⟩) hS.2.2 dX6_skew_17

set_option maxHeartbeats 4000000 in
set_option maxRecDepth 100000 in
/-- alone -/
theorem c_X6_alone (l : Launch) (dC : Nat → ClassId) (dI : Nat → Nat → Nat) (sz : Nat) (h0 : Nat) (qt : Nat) (qr : Nat) (qc : Nat) (qs : Nat) (qn : Nat) (qp : Nat) (qm : Nat) (qf : Nat) (qx : Nat) (p0 : Int32) (p1 : Int32) (p2 : Int32) : Met l yX6_alone (Cond.code yX6_alone cX6_alone 4 (some .int) :: T0) ({ frames := 2, cells := 0, slots := 0, locals := 43 }) (va_Pc [.ref h0, .int p0, .int p1, .int p2] (ax_W dC dI sz [(h0, .inr (6, [.ref qt, .int 0, .ref qr, .ref qc, .ref qs, .int 0, .ref qn, .ref qp, .int 0, .int 0, .ref qm, .ref qf, .ref qx, .long 1]))] [])) (va_Qi (fun (r : Int32) (_ : Unit) => r = (-1000000)) (fun (_ : Unit) (t : State) => va_P (dC, dI) vwCl [] t.heap ∧ va_K (dC, dI) vwCl [] t ∧ va_D (va_A [(h0, .inr (6, [.ref qt, .int 0, .ref qr, .ref qc, .ref qs, .int 0, .ref qn, .ref qp, .int 0, .int 0, .ref qm, .ref qf, .ref qx, .long 1]))] sz) []) (va_A [(h0, .inr (6, [.ref qt, .int 0, .ref qr, .ref qc, .ref qs, .int 0, .ref qn, .ref qp, .int 0, .int 0, .ref qm, .ref qf, .ref qx, .long 1]))] sz)) 0 0 (va_A [(h0, .inr (6, [.ref qt, .int 0, .ref qr, .ref qc, .ref qs, .int 0, .ref qn, .ref qp, .int 0, .int 0, .ref qm, .ref qf, .ref qx, .long 1]))] sz) := by
  refine Met.ofW (cc := cX6_alone) (maxL := 4) (ret := (some .int)) (by decide) rfl ?_
  intro p e s m args below meth c s₁ B hml hv
  obtain ⟨rfl, hsz, hP, hK, hD0, hN⟩ := hv
  have hx := B.exec
  have hb := B.bytes
  have hr := B.returns
  have hts : ∀ w ∈ T0, w.before _ s = true := fun w h => atoms_spec (ws := Cond.code yX6_alone cX6_alone 4 (some .int) :: T0) B.pre w (List.mem_cons_of_mem _ h)
  have hown : s.vm.findClass RX6 = some m.cls := findClass_of_methodNamed B.named
  have hlocks := B.notSynchronized
  subst hsz
  have hD := hD0.self (sz := s.heap.size)
  generalize hAe : va_A [(h0, .inr (6, [.ref qt, .int 0, .ref qr, .ref qc, .ref qs, .int 0, .ref qn, .ref qp, .int 0, .int 0, .ref qm, .ref qf, .ref qx, .long 1]))] s.heap.size = A at hD ⊢
  have hA : ∀ q : Nat, s.heap.size ≤ q → A q := fun q h => by rw [← hAe]; exact Or.inr h
  have hS : va_S A s.heap s.heap [] := va_S.rf
  have hP : va_P (dC, dI) vwCl [(h0, .inr (6, [.ref qt, .int 0, .ref qr, .ref qc, .ref qs, .int 0, .ref qn, .ref qp, .int 0, .int 0, .ref qm, .ref qf, .ref qx, .long 1]))] s.heap := hP
  have hl := lv_entry ([.ref h0, .int p0, .int p1, .int p2]) (n := 4) (Nat.le_of_ble_eq_true rfl)
  rw [lg_entry_eq]
  generalize (lg_sl ([.ref h0, .int p0, .int p1, .int p2]) ++ List.replicate (4 - (lg_sl ([.ref h0, .int p0, .int p1, .int p2])).length) Slot.unset).toArray = ls at hl ⊢
  refine ax_gen hP hD hS (fun H locs hP hD hS => ?_)
  have hl : lv_has ls 4 [(0, .ref h0), (1, .int p0), (2, .int p1), (3, .int p2)] := hl
  refine lv_aload_n hx hb dX6_alone_0 rfl (lv_at hl 0 rfl) ?_
  refine lv_iload_n hx hb dX6_alone_1 rfl (lv_at hl 1 rfl) ?_
  refine lv_iload_n hx hb dX6_alone_2 rfl (lv_at hl 2 rfl) ?_
  have hPc := hP.sub (ws' := [(h0, .inr (6, [.ref qt, .int 0, .ref qr, .ref qc, .ref qs, .int 0, .ref qn, .ref qp, .int 0, .int 0, .ref qm, .ref qf, .ref qx, .long 1]))]) [0] rfl
  have hDc := hD.sub (ws' := [(h0, .inr (6, [.ref qt, .int 0, .ref qr, .ref qc, .ref qs, .int 0, .ref qn, .ref qp, .int 0, .int 0, .ref qm, .ref qf, .ref qx, .long 1]))]) [0] (by decide) rfl
  have hKc := hK.sub (tys' := []) [] rfl
  have hFc := va_free (wc := [(h0, .inr (6, [.ref qt, .int 0, .ref qr, .ref qc, .ref qs, .int 0, .ref qn, .ref qp, .int 0, .int 0, .ref qm, .ref qf, .ref qx, .long 1]))]) hD hS hA [0] rfl
  refine va_calli (va_runV (As := [.int p0, .int p1]) (rest := []) ⟨hx, hb, hml, hown, hts⟩ (c_X6_hasLane l dC dI H.size h0 qt qr qc qs qn qp qm qf qx p0 p1) (cwV 2 hts (ax_gV T_150 T_151 T_152 T_106 T_149) rfl rfl rfl (by decide +kernel) ⟨Nat.le_of_ble_eq_true rfl, Nat.le_of_ble_eq_true rfl⟩) ⟨fun a U g mk q => ⟨q.1, ax_pc rfl rfl q.2⟩, va_recv hKc hPc (ci := 6) (q0 := 0) rfl rfl, fun U hU hW => ⟨rfl, ax_pw hU hW hPc hKc hDc hN⟩⟩ rfl rfl hl.1 rfl (lv_room (Nat.le_of_ble_eq_true rfl)) dX6_alone_3 ⟨Nat.le_of_ble_eq_true rfl, Nat.le_of_ble_eq_true rfl⟩) hS (fun q _ h => hFc q h) hFc (fun r1 _ t H1 locs ht hvm hw hB hz1 hk1 hS => ?_)
  obtain ⟨hP1, hK1, hD1⟩ := hB
  rw [ht] at hP1
  have hK1 := va_K.moved hvm.symm hK1
  obtain ⟨hP, hD⟩ := va_join (wr := []) (w1 := [(h0, .inr (6, [.ref qt, .int 0, .ref qr, .ref qc, .ref qs, .int 0, .ref qn, .ref qp, .int 0, .int 0, .ref qm, .ref qf, .ref qx, .long 1]))]) hP hD [0] [] rfl rfl (by decide) (by decide) hk1 hFc hP1 hD1
  generalize H1 = H at hP hS ⊢
  have hP : va_P (dC, dI) vwCl [(h0, .inr (6, [.ref qt, .int 0, .ref qr, .ref qc, .ref qs, .int 0, .ref qn, .ref qp, .int 0, .int 0, .ref qm, .ref qf, .ref qx, .long 1]))] H := hP
  have hD : va_D A [(h0, .inr (6, [.ref qt, .int 0, .ref qr, .ref qc, .ref qs, .int 0, .ref qn, .ref qp, .int 0, .int 0, .ref qm, .ref qf, .ref qx, .long 1]))] := hD
  subst hw
  refine lv_if_eq (tgt := 18) hx hb dX6_alone_6 (by decide) (fun _ => ?_) (fun c => absurd (by decide) c)
  refine lv_ldc hx hb hown (hts _ T_148) dX6_alone_18 ?_
  have hP9 := hP.sub (ws' := []) [] rfl
  have hD9 := hD.sub (ws' := []) [] (by decide) rfl
  have hK9 := hK.sub (tys' := []) [] rfl
  exact W.iret (v := (-1000000)) hx hb hr (fun t ht hW => ⟨⟨(-1000000), (), rfl, rfl, by rw [ht]; exact hP9, va_K.moved hW.alike hK9, hD9⟩, hS.F ht⟩) hS.2.2 dX6_alone_20

set_option maxHeartbeats 4000000 in
set_option maxRecDepth 100000 in
/-- agrees -/
theorem c_X6_agrees (l : Launch) (dC : Nat → ClassId) (dI : Nat → Nat → Nat) (sz : Nat) (h0 : Nat) (qt : Nat) (qr : Nat) (qc : Nat) (qs : Nat) (qn : Nat) (qp : Nat) (qm : Nat) (qf : Nat) (qx : Nat) : Met l yX6_agrees (Cond.code yX6_agrees cX6_agrees 4 (some .int) :: T0) ({ frames := 0, cells := 0, slots := 0, locals := 0 }) (va_Pc [.ref h0] (ax_W dC dI sz [(h0, .inr (6, [.ref qt, .int 0, .ref qr, .ref qc, .ref qs, .int 0, .ref qn, .ref qp, .int 0, .int 0, .ref qm, .ref qf, .ref qx, .long 1]))] [])) (va_Qi (fun (r : Int32) (_ : Unit) => r = (-1)) (fun (_ : Unit) (t : State) => va_P (dC, dI) vwCl [] t.heap ∧ va_K (dC, dI) vwCl [] t ∧ va_D (va_A [(h0, .inr (6, [.ref qt, .int 0, .ref qr, .ref qc, .ref qs, .int 0, .ref qn, .ref qp, .int 0, .int 0, .ref qm, .ref qf, .ref qx, .long 1]))] sz) []) (va_A [(h0, .inr (6, [.ref qt, .int 0, .ref qr, .ref qc, .ref qs, .int 0, .ref qn, .ref qp, .int 0, .int 0, .ref qm, .ref qf, .ref qx, .long 1]))] sz)) 0 0 (va_A [(h0, .inr (6, [.ref qt, .int 0, .ref qr, .ref qc, .ref qs, .int 0, .ref qn, .ref qp, .int 0, .int 0, .ref qm, .ref qf, .ref qx, .long 1]))] sz) := by
  refine Met.ofW (cc := cX6_agrees) (maxL := 4) (ret := (some .int)) (by decide) rfl ?_
  intro p e s m args below meth c s₁ B hml hv
  obtain ⟨rfl, hsz, hP, hK, hD0, hN⟩ := hv
  have hx := B.exec
  have hb := B.bytes
  have hr := B.returns
  have hts : ∀ w ∈ T0, w.before _ s = true := fun w h => atoms_spec (ws := Cond.code yX6_agrees cX6_agrees 4 (some .int) :: T0) B.pre w (List.mem_cons_of_mem _ h)
  have hown : s.vm.findClass RX6 = some m.cls := findClass_of_methodNamed B.named
  have hlocks := B.notSynchronized
  subst hsz
  have hD := hD0.self (sz := s.heap.size)
  generalize hAe : va_A [(h0, .inr (6, [.ref qt, .int 0, .ref qr, .ref qc, .ref qs, .int 0, .ref qn, .ref qp, .int 0, .int 0, .ref qm, .ref qf, .ref qx, .long 1]))] s.heap.size = A at hD ⊢
  have hA : ∀ q : Nat, s.heap.size ≤ q → A q := fun q h => by rw [← hAe]; exact Or.inr h
  have hS : va_S A s.heap s.heap [] := va_S.rf
  have hP : va_P (dC, dI) vwCl [(h0, .inr (6, [.ref qt, .int 0, .ref qr, .ref qc, .ref qs, .int 0, .ref qn, .ref qp, .int 0, .int 0, .ref qm, .ref qf, .ref qx, .long 1]))] s.heap := hP
  have hl := lv_entry ([.ref h0]) (n := 4) (Nat.le_of_ble_eq_true rfl)
  rw [lg_entry_eq]
  generalize (lg_sl ([.ref h0]) ++ List.replicate (4 - (lg_sl ([.ref h0])).length) Slot.unset).toArray = ls at hl ⊢
  refine ax_gen hP hD hS (fun H locs hP hD hS => ?_)
  have hl : lv_has ls 4 [(0, .ref h0)] := hl
  refine lv_aload_n hx hb dX6_agrees_0 rfl (lv_at hl 0 rfl) ?_
  refine va_get (D := (dC, dI)) (ci := 6) (v := .int 0) (C := RX6) (T := TX6) (N := 14) hx hb hts inX6 hown hK hP 0 rfl rfl 5 (by decide) (hts _ T_143) (fun _ h9 => h9) rfl dX6_agrees_1 ?_
  refine lv_if_ne (tgt := 9) hx hb dX6_agrees_4 (by decide) (fun c => absurd (by decide) c) (fun _ => ?_)
  refine lv_iconst (v := (-1)) hx hb dX6_agrees_7 (by decide) ?_
  have hP9 := hP.sub (ws' := []) [] rfl
  have hD9 := hD.sub (ws' := []) [] (by decide) rfl
  have hK9 := hK.sub (tys' := []) [] rfl
  exact W.iret (v := (-1)) hx hb hr (fun t ht hW => ⟨⟨(-1), (), rfl, rfl, by rw [ht]; exact hP9, va_K.moved hW.alike hK9, hD9⟩, hS.F ht⟩) hS.2.2 dX6_agrees_8

set_option maxHeartbeats 4000000 in
set_option maxRecDepth 100000 in
/-- likely -/
theorem c_X6_likely (l : Launch) (dC : Nat → ClassId) (dI : Nat → Nat → Nat) (sz : Nat) (h0 : Nat) (qt : Nat) (qr : Nat) (qc : Nat) (qs : Nat) (qn : Nat) (qp : Nat) (qm : Nat) (qf : Nat) (qx : Nat) (p0 : Int32) (p1 : Int32) (p2 : Int32) : Met l yX6_likely (Cond.code yX6_likely cX6_likely 6 (some .int) :: T0) ({ frames := 0, cells := 0, slots := 0, locals := 0 }) (va_Pc [.ref h0, .int p0, .int p1, .int p2] (ax_W dC dI sz [(h0, .inr (6, [.ref qt, .int 0, .ref qr, .ref qc, .ref qs, .int 0, .ref qn, .ref qp, .int 0, .int 0, .ref qm, .ref qf, .ref qx, .long 1]))] [])) (va_Qi (fun (r : Int32) (_ : Unit) => r = (-1)) (fun (_ : Unit) (t : State) => va_P (dC, dI) vwCl [] t.heap ∧ va_K (dC, dI) vwCl [] t ∧ va_D (va_A [(h0, .inr (6, [.ref qt, .int 0, .ref qr, .ref qc, .ref qs, .int 0, .ref qn, .ref qp, .int 0, .int 0, .ref qm, .ref qf, .ref qx, .long 1]))] sz) []) (va_A [(h0, .inr (6, [.ref qt, .int 0, .ref qr, .ref qc, .ref qs, .int 0, .ref qn, .ref qp, .int 0, .int 0, .ref qm, .ref qf, .ref qx, .long 1]))] sz)) 0 0 (va_A [(h0, .inr (6, [.ref qt, .int 0, .ref qr, .ref qc, .ref qs, .int 0, .ref qn, .ref qp, .int 0, .int 0, .ref qm, .ref qf, .ref qx, .long 1]))] sz) := by
  refine Met.ofW (cc := cX6_likely) (maxL := 6) (ret := (some .int)) (by decide) rfl ?_
  intro p e s m args below meth c s₁ B hml hv
  obtain ⟨rfl, hsz, hP, hK, hD0, hN⟩ := hv
  have hx := B.exec
  have hb := B.bytes
  have hr := B.returns
  have hts : ∀ w ∈ T0, w.before _ s = true := fun w h => atoms_spec (ws := Cond.code yX6_likely cX6_likely 6 (some .int) :: T0) B.pre w (List.mem_cons_of_mem _ h)
  have hown : s.vm.findClass RX6 = some m.cls := findClass_of_methodNamed B.named
  have hlocks := B.notSynchronized
  subst hsz
  have hD := hD0.self (sz := s.heap.size)
  generalize hAe : va_A [(h0, .inr (6, [.ref qt, .int 0, .ref qr, .ref qc, .ref qs, .int 0, .ref qn, .ref qp, .int 0, .int 0, .ref qm, .ref qf, .ref qx, .long 1]))] s.heap.size = A at hD ⊢
  have hA : ∀ q : Nat, s.heap.size ≤ q → A q := fun q h => by rw [← hAe]; exact Or.inr h
  have hS : va_S A s.heap s.heap [] := va_S.rf
  have hP : va_P (dC, dI) vwCl [(h0, .inr (6, [.ref qt, .int 0, .ref qr, .ref qc, .ref qs, .int 0, .ref qn, .ref qp, .int 0, .int 0, .ref qm, .ref qf, .ref qx, .long 1]))] s.heap := hP
  have hl := lv_entry ([.ref h0, .int p0, .int p1, .int p2]) (n := 6) (Nat.le_of_ble_eq_true rfl)
  rw [lg_entry_eq]
  generalize (lg_sl ([.ref h0, .int p0, .int p1, .int p2]) ++ List.replicate (6 - (lg_sl ([.ref h0, .int p0, .int p1, .int p2])).length) Slot.unset).toArray = ls at hl ⊢
  refine ax_gen hP hD hS (fun H locs hP hD hS => ?_)
  have hl : lv_has ls 6 [(0, .ref h0), (1, .int p0), (2, .int p1), (3, .int p2)] := hl
  refine lv_aload_n hx hb dX6_likely_0 rfl (lv_at hl 0 rfl) ?_
  refine va_get (D := (dC, dI)) (ci := 6) (v := .int 0) (C := RX6) (T := TX6) (N := 14) hx hb hts inX6 hown hK hP 0 rfl rfl 5 (by decide) (hts _ T_143) (fun _ h9 => h9) rfl dX6_likely_1 ?_
  refine lv_if_eq (tgt := 33) hx hb dX6_likely_4 (by decide) (fun _ => ?_) (fun c => absurd (by decide) c)
  refine lv_iconst (v := (-1)) hx hb dX6_likely_33 (by decide) ?_
  have hP9 := hP.sub (ws' := []) [] rfl
  have hD9 := hD.sub (ws' := []) [] (by decide) rfl
  have hK9 := hK.sub (tys' := []) [] rfl
  exact W.iret (v := (-1)) hx hb hr (fun t ht hW => ⟨⟨(-1), (), rfl, rfl, by rw [ht]; exact hP9, va_K.moved hW.alike hK9, hD9⟩, hS.F ht⟩) hS.2.2 dX6_likely_34

set_option maxHeartbeats 4000000 in
set_option maxRecDepth 100000 in
/-- tells -/
theorem c_X6_tells (l : Launch) (dC : Nat → ClassId) (dI : Nat → Nat → Nat) (sz : Nat) (h0 : Nat) (qt : Nat) (qr : Nat) (qc : Nat) (qs : Nat) (qn : Nat) (qp : Nat) (qm : Nat) (qf : Nat) (qx : Nat) (p0 : Int32) : Met l yX6_tells (Cond.code yX6_tells cX6_tells 6 (some .int) :: T0) ({ frames := 0, cells := 0, slots := 0, locals := 0 }) (va_Pc [.ref h0, .int p0] (ax_W dC dI sz [(h0, .inr (6, [.ref qt, .int 0, .ref qr, .ref qc, .ref qs, .int 0, .ref qn, .ref qp, .int 0, .int 0, .ref qm, .ref qf, .ref qx, .long 1]))] [])) (va_Qi (fun (r : Int32) (_ : Unit) => r = (-1)) (fun (_ : Unit) (t : State) => va_P (dC, dI) vwCl [] t.heap ∧ va_K (dC, dI) vwCl [] t ∧ va_D (va_A [(h0, .inr (6, [.ref qt, .int 0, .ref qr, .ref qc, .ref qs, .int 0, .ref qn, .ref qp, .int 0, .int 0, .ref qm, .ref qf, .ref qx, .long 1]))] sz) []) (va_A [(h0, .inr (6, [.ref qt, .int 0, .ref qr, .ref qc, .ref qs, .int 0, .ref qn, .ref qp, .int 0, .int 0, .ref qm, .ref qf, .ref qx, .long 1]))] sz)) 0 0 (va_A [(h0, .inr (6, [.ref qt, .int 0, .ref qr, .ref qc, .ref qs, .int 0, .ref qn, .ref qp, .int 0, .int 0, .ref qm, .ref qf, .ref qx, .long 1]))] sz) := by
  refine Met.ofW (cc := cX6_tells) (maxL := 6) (ret := (some .int)) (by decide) rfl ?_
  intro p e s m args below meth c s₁ B hml hv
  obtain ⟨rfl, hsz, hP, hK, hD0, hN⟩ := hv
  have hx := B.exec
  have hb := B.bytes
  have hr := B.returns
  have hts : ∀ w ∈ T0, w.before _ s = true := fun w h => atoms_spec (ws := Cond.code yX6_tells cX6_tells 6 (some .int) :: T0) B.pre w (List.mem_cons_of_mem _ h)
  have hown : s.vm.findClass RX6 = some m.cls := findClass_of_methodNamed B.named
  have hlocks := B.notSynchronized
  subst hsz
  have hD := hD0.self (sz := s.heap.size)
  generalize hAe : va_A [(h0, .inr (6, [.ref qt, .int 0, .ref qr, .ref qc, .ref qs, .int 0, .ref qn, .ref qp, .int 0, .int 0, .ref qm, .ref qf, .ref qx, .long 1]))] s.heap.size = A at hD ⊢
  have hA : ∀ q : Nat, s.heap.size ≤ q → A q := fun q h => by rw [← hAe]; exact Or.inr h
  have hS : va_S A s.heap s.heap [] := va_S.rf
  have hP : va_P (dC, dI) vwCl [(h0, .inr (6, [.ref qt, .int 0, .ref qr, .ref qc, .ref qs, .int 0, .ref qn, .ref qp, .int 0, .int 0, .ref qm, .ref qf, .ref qx, .long 1]))] s.heap := hP
  have hl := lv_entry ([.ref h0, .int p0]) (n := 6) (Nat.le_of_ble_eq_true rfl)
  rw [lg_entry_eq]
  generalize (lg_sl ([.ref h0, .int p0]) ++ List.replicate (6 - (lg_sl ([.ref h0, .int p0])).length) Slot.unset).toArray = ls at hl ⊢
  refine ax_gen hP hD hS (fun H locs hP hD hS => ?_)
  have hl : lv_has ls 6 [(0, .ref h0), (1, .int p0)] := hl
  refine lv_aload_n hx hb dX6_tells_0 rfl (lv_at hl 0 rfl) ?_
  refine va_get (D := (dC, dI)) (ci := 6) (v := .int 0) (C := RX6) (T := TX6) (N := 14) hx hb hts inX6 hown hK hP 0 rfl rfl 5 (by decide) (hts _ T_143) (fun _ h9 => h9) rfl dX6_tells_1 ?_
  refine lv_if_eq (tgt := 16) hx hb dX6_tells_4 (by decide) (fun _ => ?_) (fun c => absurd (by decide) c)
  refine lv_iconst (v := (-1)) hx hb dX6_tells_16 (by decide) ?_
  have hP9 := hP.sub (ws' := []) [] rfl
  have hD9 := hD.sub (ws' := []) [] (by decide) rfl
  have hK9 := hK.sub (tys' := []) [] rfl
  exact W.iret (v := (-1)) hx hb hr (fun t ht hW => ⟨⟨(-1), (), rfl, rfl, by rw [ht]; exact hP9, va_K.moved hW.alike hK9, hD9⟩, hS.F ht⟩) hS.2.2 dX6_tells_17

set_option maxHeartbeats 4000000 in
set_option maxRecDepth 100000 in
/-- kept -/
theorem c_X6_kept (l : Launch) (dC : Nat → ClassId) (dI : Nat → Nat → Nat) (sz : Nat) (h0 : Nat) (qt : Nat) (qr : Nat) (qc : Nat) (qs : Nat) (qn : Nat) (qp : Nat) (qm : Nat) (qf : Nat) (qx : Nat) (na0 : Nat) (na1 : Nat) (na2 : Nat) (na3 : Nat) (na4 : Nat) (na5 : Nat) (na6 : Nat) (p0 : Int32) (p1 : Int32) : Met l yX6_kept (Cond.code yX6_kept cX6_kept 4 (some .int) :: T0) ({ frames := 1, cells := 0, slots := 0, locals := 13 }) (va_Pc [.ref h0, .int p0, .int p1] (ax_W dC dI sz [(h0, .inr (6, [.ref qt, .int 0, .ref qr, .ref qc, .ref qs, .int 0, .ref qn, .ref qp, .int 0, .int 0, .ref qm, .ref qf, .ref qx, .long 1])), (qn, .inr (4, [.ref na0, .ref na1, .ref na2, .ref na3, .ref na4, .ref na5, .ref na6, .int 0, .int 0, .int 0, .int 0, .int 0, .int 0, .int 0, .int (-1)]))] [])) (va_Qi (fun (r : Int32) (_ : Unit) => r = (-1)) (fun (_ : Unit) (t : State) => va_P (dC, dI) vwCl [] t.heap ∧ va_K (dC, dI) vwCl [] t ∧ va_D (va_A [(h0, .inr (6, [.ref qt, .int 0, .ref qr, .ref qc, .ref qs, .int 0, .ref qn, .ref qp, .int 0, .int 0, .ref qm, .ref qf, .ref qx, .long 1])), (qn, .inr (4, [.ref na0, .ref na1, .ref na2, .ref na3, .ref na4, .ref na5, .ref na6, .int 0, .int 0, .int 0, .int 0, .int 0, .int 0, .int 0, .int (-1)]))] sz) []) (va_A [(h0, .inr (6, [.ref qt, .int 0, .ref qr, .ref qc, .ref qs, .int 0, .ref qn, .ref qp, .int 0, .int 0, .ref qm, .ref qf, .ref qx, .long 1])), (qn, .inr (4, [.ref na0, .ref na1, .ref na2, .ref na3, .ref na4, .ref na5, .ref na6, .int 0, .int 0, .int 0, .int 0, .int 0, .int 0, .int 0, .int (-1)]))] sz)) 0 0 (va_A [(h0, .inr (6, [.ref qt, .int 0, .ref qr, .ref qc, .ref qs, .int 0, .ref qn, .ref qp, .int 0, .int 0, .ref qm, .ref qf, .ref qx, .long 1])), (qn, .inr (4, [.ref na0, .ref na1, .ref na2, .ref na3, .ref na4, .ref na5, .ref na6, .int 0, .int 0, .int 0, .int 0, .int 0, .int 0, .int 0, .int (-1)]))] sz) := by
  refine Met.ofW (cc := cX6_kept) (maxL := 4) (ret := (some .int)) (by decide) rfl ?_
  intro p e s m args below meth c s₁ B hml hv
  obtain ⟨rfl, hsz, hP, hK, hD0, hN⟩ := hv
  have hx := B.exec
  have hb := B.bytes
  have hr := B.returns
  have hts : ∀ w ∈ T0, w.before _ s = true := fun w h => atoms_spec (ws := Cond.code yX6_kept cX6_kept 4 (some .int) :: T0) B.pre w (List.mem_cons_of_mem _ h)
  have hown : s.vm.findClass RX6 = some m.cls := findClass_of_methodNamed B.named
  have hlocks := B.notSynchronized
  subst hsz
  have hD := hD0.self (sz := s.heap.size)
  generalize hAe : va_A [(h0, .inr (6, [.ref qt, .int 0, .ref qr, .ref qc, .ref qs, .int 0, .ref qn, .ref qp, .int 0, .int 0, .ref qm, .ref qf, .ref qx, .long 1])), (qn, .inr (4, [.ref na0, .ref na1, .ref na2, .ref na3, .ref na4, .ref na5, .ref na6, .int 0, .int 0, .int 0, .int 0, .int 0, .int 0, .int 0, .int (-1)]))] s.heap.size = A at hD ⊢
  have hA : ∀ q : Nat, s.heap.size ≤ q → A q := fun q h => by rw [← hAe]; exact Or.inr h
  have hS : va_S A s.heap s.heap [] := va_S.rf
  have hP : va_P (dC, dI) vwCl [(h0, .inr (6, [.ref qt, .int 0, .ref qr, .ref qc, .ref qs, .int 0, .ref qn, .ref qp, .int 0, .int 0, .ref qm, .ref qf, .ref qx, .long 1])), (qn, .inr (4, [.ref na0, .ref na1, .ref na2, .ref na3, .ref na4, .ref na5, .ref na6, .int 0, .int 0, .int 0, .int 0, .int 0, .int 0, .int 0, .int (-1)]))] s.heap := hP
  have hl := lv_entry ([.ref h0, .int p0, .int p1]) (n := 4) (Nat.le_of_ble_eq_true rfl)
  rw [lg_entry_eq]
  generalize (lg_sl ([.ref h0, .int p0, .int p1]) ++ List.replicate (4 - (lg_sl ([.ref h0, .int p0, .int p1])).length) Slot.unset).toArray = ls at hl ⊢
  refine ax_gen hP hD hS (fun H locs hP hD hS => ?_)
  have hl : lv_has ls 4 [(0, .ref h0), (1, .int p0), (2, .int p1)] := hl
  refine lv_aload_n hx hb dX6_kept_0 rfl (lv_at hl 0 rfl) ?_
  refine va_get (D := (dC, dI)) (ci := 6) (v := .ref qn) (C := RX6) (T := TX6) (N := 14) hx hb hts inX6 hown hK hP 0 rfl rfl 6 (by decide) (hts _ T_84) (fun _ h9 => h9) rfl dX6_kept_1 ?_
  refine va_getN (D := (dC, dI)) (ci := 4) (v := .int 0) (C := RX4) (T := TX4) (N := 15) hx hb hts inX4 hown hK hP 1 rfl rfl 12 (by decide) (va_Nw.use rfl hN.2.2.2.2.2.2.2.2.2.2.2.2) (fun _ h9 => h9) rfl dX6_kept_4 ?_
  refine lv_bipush (v := 30) hx hb dX6_kept_7 (by decide) ?_
  refine va_mmin hx hb (by rw [hml]; exact hl.1.symm) hown (hts _ T_157) (hts _ T_158) (hts _ T_159) (hts _ T_160) (Nat.le_of_ble_eq_true rfl) (Nat.le_of_ble_eq_true rfl) (Nat.zero_le _) (Nat.zero_le _) dX6_kept_9 ?_
  refine ax_eqi (y := 0) (by decide) ?_
  refine lv_istore_n (lv' := [(3, .int 0), (0, .ref h0), (1, .int p0), (2, .int p1)]) hx hb dX6_kept_12 rfl hl (by decide) rfl (fun ls hl => ?_)
  refine lv_aload_n hx hb dX6_kept_13 rfl (lv_at hl 1 rfl) ?_
  refine va_get (D := (dC, dI)) (ci := 6) (v := .int 0) (C := RX6) (T := TX6) (N := 14) hx hb hts inX6 hown hK hP 0 rfl rfl 5 (by decide) (hts _ T_143) (fun _ h9 => h9) rfl dX6_kept_14 ?_
  refine lv_if_eq (tgt := 38) hx hb dX6_kept_17 (by decide) (fun _ => ?_) (fun c => absurd (by decide) c)
  refine lv_iconst (v := (-1)) hx hb dX6_kept_38 (by decide) ?_
  have hP9 := hP.sub (ws' := []) [] rfl
  have hD9 := hD.sub (ws' := []) [] (by decide) rfl
  have hK9 := hK.sub (tys' := []) [] rfl
  exact W.iret (v := (-1)) hx hb hr (fun t ht hW => ⟨⟨(-1), (), rfl, rfl, by rw [ht]; exact hP9, va_K.moved hW.alike hK9, hD9⟩, hS.F ht⟩) hS.2.2 dX6_kept_39
end
section
set_option maxHeartbeats 4000000 in
set_option maxRecDepth 100000 in
/-- cycles -/
theorem c_X6_cycles (l : Launch) (dC : Nat → ClassId) (dI : Nat → Nat → Nat) (sz : Nat) (h0 : Nat) (qt : Nat) (qr : Nat) (qc : Nat) (qs : Nat) (qn : Nat) (qp : Nat) (qm : Nat) (qf : Nat) (qx : Nat) (kr : ClassId) (p0 : Int32) : Met l yX6_cycles (Cond.code yX6_cycles cX6_cycles 2 (some .int) :: T0) ({ frames := 1, cells := 0, slots := 0, locals := 21 }) (va_Pc [.ref h0, .int p0] (ax_W dC dI sz [(h0, .inr (6, [.ref qt, .int 0, .ref qr, .ref qc, .ref qs, .int 0, .ref qn, .ref qp, .int 0, .int 0, .ref qm, .ref qf, .ref qx, .long 1])), (qx, .inl (kr, 6, .inl (fun _ => 0)))] [(kr, .int)])) (va_Qi (fun (r : Int32) (_ : Unit) => r = (-1)) (fun (_ : Unit) (t : State) => va_P (dC, dI) vwCl [] t.heap ∧ va_K (dC, dI) vwCl [] t ∧ va_D (va_A [(h0, .inr (6, [.ref qt, .int 0, .ref qr, .ref qc, .ref qs, .int 0, .ref qn, .ref qp, .int 0, .int 0, .ref qm, .ref qf, .ref qx, .long 1])), (qx, .inl (kr, 6, .inl (fun _ => 0)))] sz) []) (va_A [(h0, .inr (6, [.ref qt, .int 0, .ref qr, .ref qc, .ref qs, .int 0, .ref qn, .ref qp, .int 0, .int 0, .ref qm, .ref qf, .ref qx, .long 1])), (qx, .inl (kr, 6, .inl (fun _ => 0)))] sz)) 0 0 (va_A [(h0, .inr (6, [.ref qt, .int 0, .ref qr, .ref qc, .ref qs, .int 0, .ref qn, .ref qp, .int 0, .int 0, .ref qm, .ref qf, .ref qx, .long 1])), (qx, .inl (kr, 6, .inl (fun _ => 0)))] sz) := by
  refine Met.ofW (cc := cX6_cycles) (maxL := 2) (ret := (some .int)) (by decide) rfl ?_
  intro p e s m args below meth c s₁ B hml hv
  obtain ⟨rfl, hsz, hP, hK, hD0, hN⟩ := hv
  have hx := B.exec
  have hb := B.bytes
  have hr := B.returns
  have hts : ∀ w ∈ T0, w.before _ s = true := fun w h => atoms_spec (ws := Cond.code yX6_cycles cX6_cycles 2 (some .int) :: T0) B.pre w (List.mem_cons_of_mem _ h)
  have hown : s.vm.findClass RX6 = some m.cls := findClass_of_methodNamed B.named
  have hlocks := B.notSynchronized
  subst hsz
  have hD := hD0.self (sz := s.heap.size)
  generalize hAe : va_A [(h0, .inr (6, [.ref qt, .int 0, .ref qr, .ref qc, .ref qs, .int 0, .ref qn, .ref qp, .int 0, .int 0, .ref qm, .ref qf, .ref qx, .long 1])), (qx, .inl (kr, 6, .inl (fun _ => 0)))] s.heap.size = A at hD ⊢
  have hA : ∀ q : Nat, s.heap.size ≤ q → A q := fun q h => by rw [← hAe]; exact Or.inr h
  have hS : va_S A s.heap s.heap [] := va_S.rf
  have hP : va_P (dC, dI) vwCl [(h0, .inr (6, [.ref qt, .int 0, .ref qr, .ref qc, .ref qs, .int 0, .ref qn, .ref qp, .int 0, .int 0, .ref qm, .ref qf, .ref qx, .long 1])), (qx, .inl (kr, 6, .inl (fun _ => 0)))] s.heap := hP
  have hl := lv_entry ([.ref h0, .int p0]) (n := 2) (Nat.le_of_ble_eq_true rfl)
  rw [lg_entry_eq]
  generalize (lg_sl ([.ref h0, .int p0]) ++ List.replicate (2 - (lg_sl ([.ref h0, .int p0])).length) Slot.unset).toArray = ls at hl ⊢
  refine ax_gen hP hD hS (fun H locs hP hD hS => ?_)
  have hl : lv_has ls 2 [(0, .ref h0), (1, .int p0)] := hl
  refine lv_aload_n hx hb dX6_cycles_0 rfl (lv_at hl 0 rfl) ?_
  refine va_get (D := (dC, dI)) (ci := 6) (v := .int 0) (C := RX6) (T := TX6) (N := 14) hx hb hts inX6 hown hK hP 0 rfl rfl 5 (by decide) (hts _ T_143) (fun _ h9 => h9) rfl dX6_cycles_1 ?_
  refine lv_if_eq (tgt := 34) hx hb dX6_cycles_4 (by decide) (fun _ => ?_) (fun c => absurd (by decide) c)
  refine lv_aload_n hx hb dX6_cycles_34 rfl (lv_at hl 0 rfl) ?_
  refine lv_iconst (v := 2) hx hb dX6_cycles_35 (by decide) ?_
  have hPc := hP.sub (ws' := [(h0, .inr (6, [.ref qt, .int 0, .ref qr, .ref qc, .ref qs, .int 0, .ref qn, .ref qp, .int 0, .int 0, .ref qm, .ref qf, .ref qx, .long 1])), (qx, .inl (kr, 6, .inl (fun _ => 0)))]) [0, 1] rfl
  have hDc := hD.sub (ws' := [(h0, .inr (6, [.ref qt, .int 0, .ref qr, .ref qc, .ref qs, .int 0, .ref qn, .ref qp, .int 0, .int 0, .ref qm, .ref qf, .ref qx, .long 1])), (qx, .inl (kr, 6, .inl (fun _ => 0)))]) [0, 1] (by decide) rfl
  have hKc := hK.sub (tys' := [(kr, .int)]) [0] rfl
  have hFc := va_free (wc := [(h0, .inr (6, [.ref qt, .int 0, .ref qr, .ref qc, .ref qs, .int 0, .ref qn, .ref qp, .int 0, .int 0, .ref qm, .ref qf, .ref qx, .long 1])), (qx, .inl (kr, 6, .inl (fun _ => 0)))]) hD hS hA [0, 1] rfl
  refine va_calli (va_runV (As := [.int 2]) (rest := []) ⟨hx, hb, hml, hown, hts⟩ (c_X6_refuse l dC dI H.size h0 qt qr qc qs qn qp qm qf qx kr (fun _ => 0) 2 (ax_in (by decide))) (cwV 1 hts (ax_gV T_108 T_109 T_110 T_106 T_107) rfl rfl rfl (by decide +kernel) ⟨Nat.le_of_ble_eq_true rfl, Nat.le_of_ble_eq_true rfl⟩) ⟨fun a U g mk q => ⟨q.1, ax_pc rfl rfl q.2⟩, va_recv hKc hPc (ci := 6) (q0 := 0) rfl rfl, fun U hU hW => ⟨rfl, ax_pw hU hW hPc hKc hDc hN⟩⟩ rfl rfl hl.1 rfl (lv_room (Nat.le_of_ble_eq_true rfl)) dX6_cycles_36 ⟨Nat.le_of_ble_eq_true rfl, Nat.le_of_ble_eq_true rfl⟩) hS (fun q _ h => hFc q h) hFc (fun r1 _ t H1 locs ht hvm hw hB hz1 hk1 hS => ?_)
  obtain ⟨hP1, hK1, hD1⟩ := hB
  rw [ht] at hP1
  have hK1 := va_K.moved hvm.symm hK1
  obtain ⟨hP, hD⟩ := va_join (wr := []) (w1 := []) hP hD [0, 1] [] rfl rfl (by decide) (by decide) hk1 hFc hP1 hD1
  generalize H1 = H at hP hS ⊢
  have hP : va_P (dC, dI) vwCl [] H := hP
  have hD : va_D A [] := hD
  subst hw
  have hP9 := hP.sub (ws' := []) [] rfl
  have hD9 := hD.sub (ws' := []) [] (by decide) rfl
  have hK9 := hK.sub (tys' := []) [] rfl
  exact W.iret (v := (-1)) hx hb hr (fun t ht hW => ⟨⟨(-1), (), rfl, rfl, by rw [ht]; exact hP9, va_K.moved hW.alike hK9, hD9⟩, hS.F ht⟩) hS.2.2 dX6_cycles_39

set_option maxHeartbeats 4000000 in
set_option maxRecDepth 100000 in
/-- set -/
theorem c_X6_set (l : Launch) (dC : Nat → ClassId) (dI : Nat → Nat → Nat) (sz : Nat) (h0 : Nat) (qt : Nat) (qr : Nat) (qc : Nat) (qs : Nat) (qn : Nat) (qp : Nat) (qm : Nat) (qf : Nat) (qx : Nat) (kr : ClassId) (p0 : Int32) (p1 : Int32) (p2 : Int32) : Met l yX6_set (Cond.code yX6_set cX6_set 4 (some .boolean) :: T0) ({ frames := 1, cells := 0, slots := 0, locals := 21 }) (va_Pc [.ref h0, .int p0, .int p1, .int p2] (ax_W dC dI sz [(h0, .inr (6, [.ref qt, .int 0, .ref qr, .ref qc, .ref qs, .int 0, .ref qn, .ref qp, .int 0, .int 0, .ref qm, .ref qf, .ref qx, .long 1])), (qx, .inl (kr, 6, .inl (fun _ => 0)))] [(kr, .int)])) (va_Qi (fun (r : Int32) (_ : Unit) => r = 0) (fun (_ : Unit) (t : State) => va_P (dC, dI) vwCl [] t.heap ∧ va_K (dC, dI) vwCl [] t ∧ va_D (va_A [(h0, .inr (6, [.ref qt, .int 0, .ref qr, .ref qc, .ref qs, .int 0, .ref qn, .ref qp, .int 0, .int 0, .ref qm, .ref qf, .ref qx, .long 1])), (qx, .inl (kr, 6, .inl (fun _ => 0)))] sz) []) (va_A [(h0, .inr (6, [.ref qt, .int 0, .ref qr, .ref qc, .ref qs, .int 0, .ref qn, .ref qp, .int 0, .int 0, .ref qm, .ref qf, .ref qx, .long 1])), (qx, .inl (kr, 6, .inl (fun _ => 0)))] sz)) 0 0 (va_A [(h0, .inr (6, [.ref qt, .int 0, .ref qr, .ref qc, .ref qs, .int 0, .ref qn, .ref qp, .int 0, .int 0, .ref qm, .ref qf, .ref qx, .long 1])), (qx, .inl (kr, 6, .inl (fun _ => 0)))] sz) := by
  refine Met.ofW (cc := cX6_set) (maxL := 4) (ret := (some .boolean)) (by decide) rfl ?_
  intro p e s m args below meth c s₁ B hml hv
  obtain ⟨rfl, hsz, hP, hK, hD0, hN⟩ := hv
  have hx := B.exec
  have hb := B.bytes
  have hr := B.returns
  have hts : ∀ w ∈ T0, w.before _ s = true := fun w h => atoms_spec (ws := Cond.code yX6_set cX6_set 4 (some .boolean) :: T0) B.pre w (List.mem_cons_of_mem _ h)
  have hown : s.vm.findClass RX6 = some m.cls := findClass_of_methodNamed B.named
  have hlocks := B.notSynchronized
  subst hsz
  have hD := hD0.self (sz := s.heap.size)
  generalize hAe : va_A [(h0, .inr (6, [.ref qt, .int 0, .ref qr, .ref qc, .ref qs, .int 0, .ref qn, .ref qp, .int 0, .int 0, .ref qm, .ref qf, .ref qx, .long 1])), (qx, .inl (kr, 6, .inl (fun _ => 0)))] s.heap.size = A at hD ⊢
  have hA : ∀ q : Nat, s.heap.size ≤ q → A q := fun q h => by rw [← hAe]; exact Or.inr h
  have hS : va_S A s.heap s.heap [] := va_S.rf
  have hP : va_P (dC, dI) vwCl [(h0, .inr (6, [.ref qt, .int 0, .ref qr, .ref qc, .ref qs, .int 0, .ref qn, .ref qp, .int 0, .int 0, .ref qm, .ref qf, .ref qx, .long 1])), (qx, .inl (kr, 6, .inl (fun _ => 0)))] s.heap := hP
  have hl := lv_entry ([.ref h0, .int p0, .int p1, .int p2]) (n := 4) (Nat.le_of_ble_eq_true rfl)
  rw [lg_entry_eq]
  generalize (lg_sl ([.ref h0, .int p0, .int p1, .int p2]) ++ List.replicate (4 - (lg_sl ([.ref h0, .int p0, .int p1, .int p2])).length) Slot.unset).toArray = ls at hl ⊢
  refine ax_gen hP hD hS (fun H locs hP hD hS => ?_)
  have hl : lv_has ls 4 [(0, .ref h0), (1, .int p0), (2, .int p1), (3, .int p2)] := hl
  refine lv_aload_n hx hb dX6_set_0 rfl (lv_at hl 0 rfl) ?_
  refine va_get (D := (dC, dI)) (ci := 6) (v := .int 0) (C := RX6) (T := TX6) (N := 14) hx hb hts inX6 hown hK hP 0 rfl rfl 5 (by decide) (hts _ T_143) (fun _ h9 => h9) rfl dX6_set_1 ?_
  refine lv_if_eq (tgt := 30) hx hb dX6_set_4 (by decide) (fun _ => ?_) (fun c => absurd (by decide) c)
  refine lv_aload_n hx hb dX6_set_30 rfl (lv_at hl 0 rfl) ?_
  refine lv_iconst (v := 3) hx hb dX6_set_31 (by decide) ?_
  have hPc := hP.sub (ws' := [(h0, .inr (6, [.ref qt, .int 0, .ref qr, .ref qc, .ref qs, .int 0, .ref qn, .ref qp, .int 0, .int 0, .ref qm, .ref qf, .ref qx, .long 1])), (qx, .inl (kr, 6, .inl (fun _ => 0)))]) [0, 1] rfl
  have hDc := hD.sub (ws' := [(h0, .inr (6, [.ref qt, .int 0, .ref qr, .ref qc, .ref qs, .int 0, .ref qn, .ref qp, .int 0, .int 0, .ref qm, .ref qf, .ref qx, .long 1])), (qx, .inl (kr, 6, .inl (fun _ => 0)))]) [0, 1] (by decide) rfl
  have hKc := hK.sub (tys' := [(kr, .int)]) [0] rfl
  have hFc := va_free (wc := [(h0, .inr (6, [.ref qt, .int 0, .ref qr, .ref qc, .ref qs, .int 0, .ref qn, .ref qp, .int 0, .int 0, .ref qm, .ref qf, .ref qx, .long 1])), (qx, .inl (kr, 6, .inl (fun _ => 0)))]) hD hS hA [0, 1] rfl
  refine va_calli (va_runV (As := [.int 3]) (rest := []) ⟨hx, hb, hml, hown, hts⟩ (c_X6_refuse l dC dI H.size h0 qt qr qc qs qn qp qm qf qx kr (fun _ => 0) 3 (ax_in (by decide))) (cwV 1 hts (ax_gV T_108 T_109 T_110 T_106 T_107) rfl rfl rfl (by decide +kernel) ⟨Nat.le_of_ble_eq_true rfl, Nat.le_of_ble_eq_true rfl⟩) ⟨fun a U g mk q => ⟨q.1, ax_pc rfl rfl q.2⟩, va_recv hKc hPc (ci := 6) (q0 := 0) rfl rfl, fun U hU hW => ⟨rfl, ax_pw hU hW hPc hKc hDc hN⟩⟩ rfl rfl hl.1 rfl (lv_room (Nat.le_of_ble_eq_true rfl)) dX6_set_32 ⟨Nat.le_of_ble_eq_true rfl, Nat.le_of_ble_eq_true rfl⟩) hS (fun q _ h => hFc q h) hFc (fun r1 _ t H1 locs ht hvm hw hB hz1 hk1 hS => ?_)
  obtain ⟨hP1, hK1, hD1⟩ := hB
  rw [ht] at hP1
  have hK1 := va_K.moved hvm.symm hK1
  obtain ⟨hP, hD⟩ := va_join (wr := []) (w1 := []) hP hD [0, 1] [] rfl rfl (by decide) (by decide) hk1 hFc hP1 hD1
  generalize H1 = H at hP hS ⊢
  have hP : va_P (dC, dI) vwCl [] H := hP
  have hD : va_D A [] := hD
  subst hw
  refine lv_pop hx hb dX6_set_35 rfl ?_
  refine lv_iconst (v := 0) hx hb dX6_set_36 (by decide) ?_
  have hP9 := hP.sub (ws' := []) [] rfl
  have hD9 := hD.sub (ws' := []) [] (by decide) rfl
  have hK9 := hK.sub (tys' := []) [] rfl
  exact W.zret (v := 0) (ty := .boolean) hx hb hr (by decide) (fun t ht hW => ⟨⟨0, (), rfl, rfl, by rw [ht]; exact hP9, va_K.moved hW.alike hK9, hD9⟩, hS.F ht⟩) hS.2.2 dX6_set_37

set_option maxHeartbeats 4000000 in
set_option maxRecDepth 100000 in
/-- begin -/
theorem c_X6_begin (l : Launch) (dC : Nat → ClassId) (dI : Nat → Nat → Nat) (sz : Nat) (h0 : Nat) (qt : Nat) (qr : Nat) (qc : Nat) (qs : Nat) (qn : Nat) (qp : Nat) (qm : Nat) (qf : Nat) (qx : Nat) (kr : ClassId) : Met l yX6_begin (Cond.code yX6_begin cX6_begin 1 (some .boolean) :: T0) ({ frames := 1, cells := 0, slots := 0, locals := 21 }) (va_Pc [.ref h0] (ax_W dC dI sz [(h0, .inr (6, [.ref qt, .int 0, .ref qr, .ref qc, .ref qs, .int 0, .ref qn, .ref qp, .int 0, .int 0, .ref qm, .ref qf, .ref qx, .long 1])), (qx, .inl (kr, 6, .inl (fun _ => 0)))] [(kr, .int)])) (va_Qi (fun (r : Int32) (_ : Unit) => r = 0) (fun (_ : Unit) (t : State) => va_P (dC, dI) vwCl [] t.heap ∧ va_K (dC, dI) vwCl [] t ∧ va_D (va_A [(h0, .inr (6, [.ref qt, .int 0, .ref qr, .ref qc, .ref qs, .int 0, .ref qn, .ref qp, .int 0, .int 0, .ref qm, .ref qf, .ref qx, .long 1])), (qx, .inl (kr, 6, .inl (fun _ => 0)))] sz) []) (va_A [(h0, .inr (6, [.ref qt, .int 0, .ref qr, .ref qc, .ref qs, .int 0, .ref qn, .ref qp, .int 0, .int 0, .ref qm, .ref qf, .ref qx, .long 1])), (qx, .inl (kr, 6, .inl (fun _ => 0)))] sz)) 0 0 (va_A [(h0, .inr (6, [.ref qt, .int 0, .ref qr, .ref qc, .ref qs, .int 0, .ref qn, .ref qp, .int 0, .int 0, .ref qm, .ref qf, .ref qx, .long 1])), (qx, .inl (kr, 6, .inl (fun _ => 0)))] sz) := by
  refine Met.ofW (cc := cX6_begin) (maxL := 1) (ret := (some .boolean)) (by decide) rfl ?_
  intro p e s m args below meth c s₁ B hml hv
  obtain ⟨rfl, hsz, hP, hK, hD0, hN⟩ := hv
  have hx := B.exec
  have hb := B.bytes
  have hr := B.returns
  have hts : ∀ w ∈ T0, w.before _ s = true := fun w h => atoms_spec (ws := Cond.code yX6_begin cX6_begin 1 (some .boolean) :: T0) B.pre w (List.mem_cons_of_mem _ h)
  have hown : s.vm.findClass RX6 = some m.cls := findClass_of_methodNamed B.named
  have hlocks := B.notSynchronized
  subst hsz
  have hD := hD0.self (sz := s.heap.size)
  generalize hAe : va_A [(h0, .inr (6, [.ref qt, .int 0, .ref qr, .ref qc, .ref qs, .int 0, .ref qn, .ref qp, .int 0, .int 0, .ref qm, .ref qf, .ref qx, .long 1])), (qx, .inl (kr, 6, .inl (fun _ => 0)))] s.heap.size = A at hD ⊢
  have hA : ∀ q : Nat, s.heap.size ≤ q → A q := fun q h => by rw [← hAe]; exact Or.inr h
  have hS : va_S A s.heap s.heap [] := va_S.rf
  have hP : va_P (dC, dI) vwCl [(h0, .inr (6, [.ref qt, .int 0, .ref qr, .ref qc, .ref qs, .int 0, .ref qn, .ref qp, .int 0, .int 0, .ref qm, .ref qf, .ref qx, .long 1])), (qx, .inl (kr, 6, .inl (fun _ => 0)))] s.heap := hP
  have hl := lv_entry ([.ref h0]) (n := 1) (Nat.le_of_ble_eq_true rfl)
  rw [lg_entry_eq]
  generalize (lg_sl ([.ref h0]) ++ List.replicate (1 - (lg_sl ([.ref h0])).length) Slot.unset).toArray = ls at hl ⊢
  refine ax_gen hP hD hS (fun H locs hP hD hS => ?_)
  have hl : lv_has ls 1 [(0, .ref h0)] := hl
  refine lv_aload_n hx hb dX6_begin_0 rfl (lv_at hl 0 rfl) ?_
  refine va_get (D := (dC, dI)) (ci := 6) (v := .int 0) (C := RX6) (T := TX6) (N := 14) hx hb hts inX6 hown hK hP 0 rfl rfl 5 (by decide) (hts _ T_143) (fun _ h9 => h9) rfl dX6_begin_1 ?_
  refine lv_if_ne (tgt := 15) hx hb dX6_begin_4 (by decide) (fun c => absurd (by decide) c) (fun _ => ?_)
  refine lv_aload_n hx hb dX6_begin_7 rfl (lv_at hl 0 rfl) ?_
  refine lv_iconst (v := 3) hx hb dX6_begin_8 (by decide) ?_
  have hPc := hP.sub (ws' := [(h0, .inr (6, [.ref qt, .int 0, .ref qr, .ref qc, .ref qs, .int 0, .ref qn, .ref qp, .int 0, .int 0, .ref qm, .ref qf, .ref qx, .long 1])), (qx, .inl (kr, 6, .inl (fun _ => 0)))]) [0, 1] rfl
  have hDc := hD.sub (ws' := [(h0, .inr (6, [.ref qt, .int 0, .ref qr, .ref qc, .ref qs, .int 0, .ref qn, .ref qp, .int 0, .int 0, .ref qm, .ref qf, .ref qx, .long 1])), (qx, .inl (kr, 6, .inl (fun _ => 0)))]) [0, 1] (by decide) rfl
  have hKc := hK.sub (tys' := [(kr, .int)]) [0] rfl
  have hFc := va_free (wc := [(h0, .inr (6, [.ref qt, .int 0, .ref qr, .ref qc, .ref qs, .int 0, .ref qn, .ref qp, .int 0, .int 0, .ref qm, .ref qf, .ref qx, .long 1])), (qx, .inl (kr, 6, .inl (fun _ => 0)))]) hD hS hA [0, 1] rfl
  refine va_calli (va_runV (As := [.int 3]) (rest := []) ⟨hx, hb, hml, hown, hts⟩ (c_X6_refuse l dC dI H.size h0 qt qr qc qs qn qp qm qf qx kr (fun _ => 0) 3 (ax_in (by decide))) (cwV 1 hts (ax_gV T_108 T_109 T_110 T_106 T_107) rfl rfl rfl (by decide +kernel) ⟨Nat.le_of_ble_eq_true rfl, Nat.le_of_ble_eq_true rfl⟩) ⟨fun a U g mk q => ⟨q.1, ax_pc rfl rfl q.2⟩, va_recv hKc hPc (ci := 6) (q0 := 0) rfl rfl, fun U hU hW => ⟨rfl, ax_pw hU hW hPc hKc hDc hN⟩⟩ rfl rfl hl.1 rfl (lv_room (Nat.le_of_ble_eq_true rfl)) dX6_begin_9 ⟨Nat.le_of_ble_eq_true rfl, Nat.le_of_ble_eq_true rfl⟩) hS (fun q _ h => hFc q h) hFc (fun r1 _ t H1 locs ht hvm hw hB hz1 hk1 hS => ?_)
  obtain ⟨hP1, hK1, hD1⟩ := hB
  rw [ht] at hP1
  have hK1 := va_K.moved hvm.symm hK1
  obtain ⟨hP, hD⟩ := va_join (wr := []) (w1 := []) hP hD [0, 1] [] rfl rfl (by decide) (by decide) hk1 hFc hP1 hD1
  generalize H1 = H at hP hS ⊢
  have hP : va_P (dC, dI) vwCl [] H := hP
  have hD : va_D A [] := hD
  subst hw
  refine lv_pop hx hb dX6_begin_12 rfl ?_
  refine lv_iconst (v := 0) hx hb dX6_begin_13 (by decide) ?_
  have hP9 := hP.sub (ws' := []) [] rfl
  have hD9 := hD.sub (ws' := []) [] (by decide) rfl
  have hK9 := hK.sub (tys' := []) [] rfl
  exact W.zret (v := 0) (ty := .boolean) hx hb hr (by decide) (fun t ht hW => ⟨⟨0, (), rfl, rfl, by rw [ht]; exact hP9, va_K.moved hW.alike hK9, hD9⟩, hS.F ht⟩) hS.2.2 dX6_begin_14

set_option maxHeartbeats 4000000 in
set_option maxRecDepth 100000 in
/-- chance -/
theorem c_X6_chance (l : Launch) (dC : Nat → ClassId) (dI : Nat → Nat → Nat) (sz : Nat) (h0 : Nat) (qt : Nat) (qr : Nat) (qc : Nat) (qs : Nat) (qn : Nat) (qp : Nat) (qm : Nat) (qf : Nat) (qx : Nat) (kr : ClassId) (p0 : Int32) : Met l yX6_chance (Cond.code yX6_chance cX6_chance 6 (some .int) :: T0) ({ frames := 1, cells := 0, slots := 0, locals := 21 }) (va_Pc [.ref h0, .int p0] (ax_W dC dI sz [(h0, .inr (6, [.ref qt, .int 0, .ref qr, .ref qc, .ref qs, .int 0, .ref qn, .ref qp, .int 0, .int 0, .ref qm, .ref qf, .ref qx, .long 1])), (qx, .inl (kr, 6, .inl (fun _ => 0)))] [(kr, .int)])) (va_Qi (fun (r : Int32) (_ : Unit) => r = (-1)) (fun (_ : Unit) (t : State) => va_P (dC, dI) vwCl [] t.heap ∧ va_K (dC, dI) vwCl [] t ∧ va_D (va_A [(h0, .inr (6, [.ref qt, .int 0, .ref qr, .ref qc, .ref qs, .int 0, .ref qn, .ref qp, .int 0, .int 0, .ref qm, .ref qf, .ref qx, .long 1])), (qx, .inl (kr, 6, .inl (fun _ => 0)))] sz) []) (va_A [(h0, .inr (6, [.ref qt, .int 0, .ref qr, .ref qc, .ref qs, .int 0, .ref qn, .ref qp, .int 0, .int 0, .ref qm, .ref qf, .ref qx, .long 1])), (qx, .inl (kr, 6, .inl (fun _ => 0)))] sz)) 0 0 (va_A [(h0, .inr (6, [.ref qt, .int 0, .ref qr, .ref qc, .ref qs, .int 0, .ref qn, .ref qp, .int 0, .int 0, .ref qm, .ref qf, .ref qx, .long 1])), (qx, .inl (kr, 6, .inl (fun _ => 0)))] sz) := by
  refine Met.ofW (cc := cX6_chance) (maxL := 6) (ret := (some .int)) (by decide) rfl ?_
  intro p e s m args below meth c s₁ B hml hv
  obtain ⟨rfl, hsz, hP, hK, hD0, hN⟩ := hv
  have hx := B.exec
  have hb := B.bytes
  have hr := B.returns
  have hts : ∀ w ∈ T0, w.before _ s = true := fun w h => atoms_spec (ws := Cond.code yX6_chance cX6_chance 6 (some .int) :: T0) B.pre w (List.mem_cons_of_mem _ h)
  have hown : s.vm.findClass RX6 = some m.cls := findClass_of_methodNamed B.named
  have hlocks := B.notSynchronized
  subst hsz
  have hD := hD0.self (sz := s.heap.size)
  generalize hAe : va_A [(h0, .inr (6, [.ref qt, .int 0, .ref qr, .ref qc, .ref qs, .int 0, .ref qn, .ref qp, .int 0, .int 0, .ref qm, .ref qf, .ref qx, .long 1])), (qx, .inl (kr, 6, .inl (fun _ => 0)))] s.heap.size = A at hD ⊢
  have hA : ∀ q : Nat, s.heap.size ≤ q → A q := fun q h => by rw [← hAe]; exact Or.inr h
  have hS : va_S A s.heap s.heap [] := va_S.rf
  have hP : va_P (dC, dI) vwCl [(h0, .inr (6, [.ref qt, .int 0, .ref qr, .ref qc, .ref qs, .int 0, .ref qn, .ref qp, .int 0, .int 0, .ref qm, .ref qf, .ref qx, .long 1])), (qx, .inl (kr, 6, .inl (fun _ => 0)))] s.heap := hP
  have hl := lv_entry ([.ref h0, .int p0]) (n := 6) (Nat.le_of_ble_eq_true rfl)
  rw [lg_entry_eq]
  generalize (lg_sl ([.ref h0, .int p0]) ++ List.replicate (6 - (lg_sl ([.ref h0, .int p0])).length) Slot.unset).toArray = ls at hl ⊢
  refine ax_gen hP hD hS (fun H locs hP hD hS => ?_)
  have hl : lv_has ls 6 [(0, .ref h0), (1, .int p0)] := hl
  refine lv_aload_n hx hb dX6_chance_0 rfl (lv_at hl 0 rfl) ?_
  refine va_get (D := (dC, dI)) (ci := 6) (v := .int 0) (C := RX6) (T := TX6) (N := 14) hx hb hts inX6 hown hK hP 0 rfl rfl 5 (by decide) (hts _ T_143) (fun _ h9 => h9) rfl dX6_chance_1 ?_
  refine lv_if_eq (tgt := 18) hx hb dX6_chance_4 (by decide) (fun _ => ?_) (fun c => absurd (by decide) c)
  refine lv_aload_n hx hb dX6_chance_18 rfl (lv_at hl 0 rfl) ?_
  refine lv_iconst (v := 2) hx hb dX6_chance_19 (by decide) ?_
  have hPc := hP.sub (ws' := [(h0, .inr (6, [.ref qt, .int 0, .ref qr, .ref qc, .ref qs, .int 0, .ref qn, .ref qp, .int 0, .int 0, .ref qm, .ref qf, .ref qx, .long 1])), (qx, .inl (kr, 6, .inl (fun _ => 0)))]) [0, 1] rfl
  have hDc := hD.sub (ws' := [(h0, .inr (6, [.ref qt, .int 0, .ref qr, .ref qc, .ref qs, .int 0, .ref qn, .ref qp, .int 0, .int 0, .ref qm, .ref qf, .ref qx, .long 1])), (qx, .inl (kr, 6, .inl (fun _ => 0)))]) [0, 1] (by decide) rfl
  have hKc := hK.sub (tys' := [(kr, .int)]) [0] rfl
  have hFc := va_free (wc := [(h0, .inr (6, [.ref qt, .int 0, .ref qr, .ref qc, .ref qs, .int 0, .ref qn, .ref qp, .int 0, .int 0, .ref qm, .ref qf, .ref qx, .long 1])), (qx, .inl (kr, 6, .inl (fun _ => 0)))]) hD hS hA [0, 1] rfl
  refine va_calli (va_runV (As := [.int 2]) (rest := []) ⟨hx, hb, hml, hown, hts⟩ (c_X6_refuse l dC dI H.size h0 qt qr qc qs qn qp qm qf qx kr (fun _ => 0) 2 (ax_in (by decide))) (cwV 1 hts (ax_gV T_108 T_109 T_110 T_106 T_107) rfl rfl rfl (by decide +kernel) ⟨Nat.le_of_ble_eq_true rfl, Nat.le_of_ble_eq_true rfl⟩) ⟨fun a U g mk q => ⟨q.1, ax_pc rfl rfl q.2⟩, va_recv hKc hPc (ci := 6) (q0 := 0) rfl rfl, fun U hU hW => ⟨rfl, ax_pw hU hW hPc hKc hDc hN⟩⟩ rfl rfl hl.1 rfl (lv_room (Nat.le_of_ble_eq_true rfl)) dX6_chance_20 ⟨Nat.le_of_ble_eq_true rfl, Nat.le_of_ble_eq_true rfl⟩) hS (fun q _ h => hFc q h) hFc (fun r1 _ t H1 locs ht hvm hw hB hz1 hk1 hS => ?_)
  obtain ⟨hP1, hK1, hD1⟩ := hB
  rw [ht] at hP1
  have hK1 := va_K.moved hvm.symm hK1
  obtain ⟨hP, hD⟩ := va_join (wr := []) (w1 := []) hP hD [0, 1] [] rfl rfl (by decide) (by decide) hk1 hFc hP1 hD1
  generalize H1 = H at hP hS ⊢
  have hP : va_P (dC, dI) vwCl [] H := hP
  have hD : va_D A [] := hD
  subst hw
  have hP9 := hP.sub (ws' := []) [] rfl
  have hD9 := hD.sub (ws' := []) [] (by decide) rfl
  have hK9 := hK.sub (tys' := []) [] rfl
  exact W.iret (v := (-1)) hx hb hr (fun t ht hW => ⟨⟨(-1), (), rfl, rfl, by rw [ht]; exact hP9, va_K.moved hW.alike hK9, hD9⟩, hS.F ht⟩) hS.2.2 dX6_chance_23

set_option maxHeartbeats 4000000 in
set_option maxRecDepth 100000 in
/-- undo -/
theorem c_X6_undo (l : Launch) (dC : Nat → ClassId) (dI : Nat → Nat → Nat) (sz : Nat) (h0 : Nat) (qt : Nat) (qr : Nat) (qc : Nat) (qs : Nat) (qn : Nat) (qp : Nat) (qm : Nat) (qf : Nat) (qx : Nat) (kr : ClassId) : Met l yX6_undo (Cond.code yX6_undo cX6_undo 1 (some .boolean) :: T0) ({ frames := 1, cells := 0, slots := 0, locals := 21 }) (va_Pc [.ref h0] (ax_W dC dI sz [(h0, .inr (6, [.ref qt, .int 0, .ref qr, .ref qc, .ref qs, .int 0, .ref qn, .ref qp, .int 0, .int 0, .ref qm, .ref qf, .ref qx, .long 1])), (qx, .inl (kr, 6, .inl (fun _ => 0)))] [(kr, .int)])) (va_Qi (fun (r : Int32) (_ : Unit) => r = 0) (fun (_ : Unit) (t : State) => va_P (dC, dI) vwCl [] t.heap ∧ va_K (dC, dI) vwCl [] t ∧ va_D (va_A [(h0, .inr (6, [.ref qt, .int 0, .ref qr, .ref qc, .ref qs, .int 0, .ref qn, .ref qp, .int 0, .int 0, .ref qm, .ref qf, .ref qx, .long 1])), (qx, .inl (kr, 6, .inl (fun _ => 0)))] sz) []) (va_A [(h0, .inr (6, [.ref qt, .int 0, .ref qr, .ref qc, .ref qs, .int 0, .ref qn, .ref qp, .int 0, .int 0, .ref qm, .ref qf, .ref qx, .long 1])), (qx, .inl (kr, 6, .inl (fun _ => 0)))] sz)) 0 0 (va_A [(h0, .inr (6, [.ref qt, .int 0, .ref qr, .ref qc, .ref qs, .int 0, .ref qn, .ref qp, .int 0, .int 0, .ref qm, .ref qf, .ref qx, .long 1])), (qx, .inl (kr, 6, .inl (fun _ => 0)))] sz) := by
  refine Met.ofW (cc := cX6_undo) (maxL := 1) (ret := (some .boolean)) (by decide) rfl ?_
  intro p e s m args below meth c s₁ B hml hv
  obtain ⟨rfl, hsz, hP, hK, hD0, hN⟩ := hv
  have hx := B.exec
  have hb := B.bytes
  have hr := B.returns
  have hts : ∀ w ∈ T0, w.before _ s = true := fun w h => atoms_spec (ws := Cond.code yX6_undo cX6_undo 1 (some .boolean) :: T0) B.pre w (List.mem_cons_of_mem _ h)
  have hown : s.vm.findClass RX6 = some m.cls := findClass_of_methodNamed B.named
  have hlocks := B.notSynchronized
  subst hsz
  have hD := hD0.self (sz := s.heap.size)
  generalize hAe : va_A [(h0, .inr (6, [.ref qt, .int 0, .ref qr, .ref qc, .ref qs, .int 0, .ref qn, .ref qp, .int 0, .int 0, .ref qm, .ref qf, .ref qx, .long 1])), (qx, .inl (kr, 6, .inl (fun _ => 0)))] s.heap.size = A at hD ⊢
  have hA : ∀ q : Nat, s.heap.size ≤ q → A q := fun q h => by rw [← hAe]; exact Or.inr h
  have hS : va_S A s.heap s.heap [] := va_S.rf
  have hP : va_P (dC, dI) vwCl [(h0, .inr (6, [.ref qt, .int 0, .ref qr, .ref qc, .ref qs, .int 0, .ref qn, .ref qp, .int 0, .int 0, .ref qm, .ref qf, .ref qx, .long 1])), (qx, .inl (kr, 6, .inl (fun _ => 0)))] s.heap := hP
  have hl := lv_entry ([.ref h0]) (n := 1) (Nat.le_of_ble_eq_true rfl)
  rw [lg_entry_eq]
  generalize (lg_sl ([.ref h0]) ++ List.replicate (1 - (lg_sl ([.ref h0])).length) Slot.unset).toArray = ls at hl ⊢
  refine ax_gen hP hD hS (fun H locs hP hD hS => ?_)
  have hl : lv_has ls 1 [(0, .ref h0)] := hl
  refine lv_aload_n hx hb dX6_undo_0 rfl (lv_at hl 0 rfl) ?_
  refine va_get (D := (dC, dI)) (ci := 6) (v := .int 0) (C := RX6) (T := TX6) (N := 14) hx hb hts inX6 hown hK hP 0 rfl rfl 9 (by decide) (hts _ T_161) (fun _ h9 => h9) rfl dX6_undo_1 ?_
  refine lv_if_ne (tgt := 15) hx hb dX6_undo_4 (by decide) (fun c => absurd (by decide) c) (fun _ => ?_)
  refine lv_aload_n hx hb dX6_undo_7 rfl (lv_at hl 0 rfl) ?_
  refine lv_iconst (v := 4) hx hb dX6_undo_8 (by decide) ?_
  have hPc := hP.sub (ws' := [(h0, .inr (6, [.ref qt, .int 0, .ref qr, .ref qc, .ref qs, .int 0, .ref qn, .ref qp, .int 0, .int 0, .ref qm, .ref qf, .ref qx, .long 1])), (qx, .inl (kr, 6, .inl (fun _ => 0)))]) [0, 1] rfl
  have hDc := hD.sub (ws' := [(h0, .inr (6, [.ref qt, .int 0, .ref qr, .ref qc, .ref qs, .int 0, .ref qn, .ref qp, .int 0, .int 0, .ref qm, .ref qf, .ref qx, .long 1])), (qx, .inl (kr, 6, .inl (fun _ => 0)))]) [0, 1] (by decide) rfl
  have hKc := hK.sub (tys' := [(kr, .int)]) [0] rfl
  have hFc := va_free (wc := [(h0, .inr (6, [.ref qt, .int 0, .ref qr, .ref qc, .ref qs, .int 0, .ref qn, .ref qp, .int 0, .int 0, .ref qm, .ref qf, .ref qx, .long 1])), (qx, .inl (kr, 6, .inl (fun _ => 0)))]) hD hS hA [0, 1] rfl
  refine va_calli (va_runV (As := [.int 4]) (rest := []) ⟨hx, hb, hml, hown, hts⟩ (c_X6_refuse l dC dI H.size h0 qt qr qc qs qn qp qm qf qx kr (fun _ => 0) 4 (ax_in (by decide))) (cwV 1 hts (ax_gV T_108 T_109 T_110 T_106 T_107) rfl rfl rfl (by decide +kernel) ⟨Nat.le_of_ble_eq_true rfl, Nat.le_of_ble_eq_true rfl⟩) ⟨fun a U g mk q => ⟨q.1, ax_pc rfl rfl q.2⟩, va_recv hKc hPc (ci := 6) (q0 := 0) rfl rfl, fun U hU hW => ⟨rfl, ax_pw hU hW hPc hKc hDc hN⟩⟩ rfl rfl hl.1 rfl (lv_room (Nat.le_of_ble_eq_true rfl)) dX6_undo_9 ⟨Nat.le_of_ble_eq_true rfl, Nat.le_of_ble_eq_true rfl⟩) hS (fun q _ h => hFc q h) hFc (fun r1 _ t H1 locs ht hvm hw hB hz1 hk1 hS => ?_)
  obtain ⟨hP1, hK1, hD1⟩ := hB
  rw [ht] at hP1
  have hK1 := va_K.moved hvm.symm hK1
  obtain ⟨hP, hD⟩ := va_join (wr := []) (w1 := []) hP hD [0, 1] [] rfl rfl (by decide) (by decide) hk1 hFc hP1 hD1
  generalize H1 = H at hP hS ⊢
  have hP : va_P (dC, dI) vwCl [] H := hP
  have hD : va_D A [] := hD
  subst hw
  refine lv_pop hx hb dX6_undo_12 rfl ?_
  refine lv_iconst (v := 0) hx hb dX6_undo_13 (by decide) ?_
  have hP9 := hP.sub (ws' := []) [] rfl
  have hD9 := hD.sub (ws' := []) [] (by decide) rfl
  have hK9 := hK.sub (tys' := []) [] rfl
  exact W.zret (v := 0) (ty := .boolean) hx hb hr (by decide) (fun t ht hW => ⟨⟨0, (), rfl, rfl, by rw [ht]; exact hP9, va_K.moved hW.alike hK9, hD9⟩, hS.F ht⟩) hS.2.2 dX6_undo_14

set_option maxHeartbeats 4000000 in
set_option maxRecDepth 100000 in
/-- poke -/
theorem c_X6_poke (l : Launch) (dC : Nat → ClassId) (dI : Nat → Nat → Nat) (sz : Nat) (h0 : Nat) (qt : Nat) (qr : Nat) (qc : Nat) (qs : Nat) (qn : Nat) (qp : Nat) (qm : Nat) (qf : Nat) (qx : Nat) (kr : ClassId) (p0 : Int32) (p1 : Int32) (p2 : Int32) : Met l yX6_poke (Cond.code yX6_poke cX6_poke 6 (some .int) :: T0) ({ frames := 1, cells := 0, slots := 0, locals := 22 }) (va_Pc [.ref h0, .int p0, .int p1, .int p2] (ax_W dC dI sz [(h0, .inr (6, [.ref qt, .int 0, .ref qr, .ref qc, .ref qs, .int 0, .ref qn, .ref qp, .int 0, .int 0, .ref qm, .ref qf, .ref qx, .long 1])), (qx, .inl (kr, 6, .inl (fun _ => 0)))] [(kr, .int)])) (va_Qi (fun (r : Int32) (_ : Unit) => r = (-1000000)) (fun (_ : Unit) (t : State) => va_P (dC, dI) vwCl [] t.heap ∧ va_K (dC, dI) vwCl [] t ∧ va_D (va_A [(h0, .inr (6, [.ref qt, .int 0, .ref qr, .ref qc, .ref qs, .int 0, .ref qn, .ref qp, .int 0, .int 0, .ref qm, .ref qf, .ref qx, .long 1])), (qx, .inl (kr, 6, .inl (fun _ => 0)))] sz) []) (va_A [(h0, .inr (6, [.ref qt, .int 0, .ref qr, .ref qc, .ref qs, .int 0, .ref qn, .ref qp, .int 0, .int 0, .ref qm, .ref qf, .ref qx, .long 1])), (qx, .inl (kr, 6, .inl (fun _ => 0)))] sz)) 0 0 (va_A [(h0, .inr (6, [.ref qt, .int 0, .ref qr, .ref qc, .ref qs, .int 0, .ref qn, .ref qp, .int 0, .int 0, .ref qm, .ref qf, .ref qx, .long 1])), (qx, .inl (kr, 6, .inl (fun _ => 0)))] sz) := by
  refine Met.ofW (cc := cX6_poke) (maxL := 6) (ret := (some .int)) (by decide) rfl ?_
  intro p e s m args below meth c s₁ B hml hv
  obtain ⟨rfl, hsz, hP, hK, hD0, hN⟩ := hv
  have hx := B.exec
  have hb := B.bytes
  have hr := B.returns
  have hts : ∀ w ∈ T0, w.before _ s = true := fun w h => atoms_spec (ws := Cond.code yX6_poke cX6_poke 6 (some .int) :: T0) B.pre w (List.mem_cons_of_mem _ h)
  have hown : s.vm.findClass RX6 = some m.cls := findClass_of_methodNamed B.named
  have hlocks := B.notSynchronized
  subst hsz
  have hD := hD0.self (sz := s.heap.size)
  generalize hAe : va_A [(h0, .inr (6, [.ref qt, .int 0, .ref qr, .ref qc, .ref qs, .int 0, .ref qn, .ref qp, .int 0, .int 0, .ref qm, .ref qf, .ref qx, .long 1])), (qx, .inl (kr, 6, .inl (fun _ => 0)))] s.heap.size = A at hD ⊢
  have hA : ∀ q : Nat, s.heap.size ≤ q → A q := fun q h => by rw [← hAe]; exact Or.inr h
  have hS : va_S A s.heap s.heap [] := va_S.rf
  have hP : va_P (dC, dI) vwCl [(h0, .inr (6, [.ref qt, .int 0, .ref qr, .ref qc, .ref qs, .int 0, .ref qn, .ref qp, .int 0, .int 0, .ref qm, .ref qf, .ref qx, .long 1])), (qx, .inl (kr, 6, .inl (fun _ => 0)))] s.heap := hP
  have hl := lv_entry ([.ref h0, .int p0, .int p1, .int p2]) (n := 6) (Nat.le_of_ble_eq_true rfl)
  rw [lg_entry_eq]
  generalize (lg_sl ([.ref h0, .int p0, .int p1, .int p2]) ++ List.replicate (6 - (lg_sl ([.ref h0, .int p0, .int p1, .int p2])).length) Slot.unset).toArray = ls at hl ⊢
  refine ax_gen hP hD hS (fun H locs hP hD hS => ?_)
  have hl : lv_has ls 6 [(0, .ref h0), (1, .int p0), (2, .int p1), (3, .int p2)] := hl
  refine lv_aload_n hx hb dX6_poke_0 rfl (lv_at hl 0 rfl) ?_
  refine lv_iload_n hx hb dX6_poke_1 rfl (lv_at hl 1 rfl) ?_
  refine lv_iload_n hx hb dX6_poke_2 rfl (lv_at hl 2 rfl) ?_
  have hPc := hP.sub (ws' := [(h0, .inr (6, [.ref qt, .int 0, .ref qr, .ref qc, .ref qs, .int 0, .ref qn, .ref qp, .int 0, .int 0, .ref qm, .ref qf, .ref qx, .long 1]))]) [0] rfl
  have hDc := hD.sub (ws' := [(h0, .inr (6, [.ref qt, .int 0, .ref qr, .ref qc, .ref qs, .int 0, .ref qn, .ref qp, .int 0, .int 0, .ref qm, .ref qf, .ref qx, .long 1]))]) [0] (by decide) rfl
  have hKc := hK.sub (tys' := []) [] rfl
  have hFc := va_free (wc := [(h0, .inr (6, [.ref qt, .int 0, .ref qr, .ref qc, .ref qs, .int 0, .ref qn, .ref qp, .int 0, .int 0, .ref qm, .ref qf, .ref qx, .long 1]))]) hD hS hA [0] rfl
  refine va_calli (va_runV (As := [.int p0, .int p1]) (rest := []) ⟨hx, hb, hml, hown, hts⟩ (c_X6_hasWord l dC dI H.size h0 qt qr qc qs qn qp qm qf qx p0 p1) (cwV 2 hts (ax_gV T_154 T_155 T_156 T_106 T_153) rfl rfl rfl (by decide +kernel) ⟨Nat.le_of_ble_eq_true rfl, Nat.le_of_ble_eq_true rfl⟩) ⟨fun a U g mk q => ⟨q.1, ax_pc rfl rfl q.2⟩, va_recv hKc hPc (ci := 6) (q0 := 0) rfl rfl, fun U hU hW => ⟨rfl, ax_pw hU hW hPc hKc hDc hN⟩⟩ rfl rfl hl.1 rfl (lv_room (Nat.le_of_ble_eq_true rfl)) dX6_poke_3 ⟨Nat.le_of_ble_eq_true rfl, Nat.le_of_ble_eq_true rfl⟩) hS (fun q _ h => hFc q h) hFc (fun r1 _ t H1 locs ht hvm hw hB hz1 hk1 hS => ?_)
  obtain ⟨hP1, hK1, hD1⟩ := hB
  rw [ht] at hP1
  have hK1 := va_K.moved hvm.symm hK1
  obtain ⟨hP, hD⟩ := va_join (wr := [(qx, .inl (kr, 6, .inl (fun _ => 0)))]) (w1 := [(h0, .inr (6, [.ref qt, .int 0, .ref qr, .ref qc, .ref qs, .int 0, .ref qn, .ref qp, .int 0, .int 0, .ref qm, .ref qf, .ref qx, .long 1]))]) hP hD [0] [1] rfl rfl (by decide) (by decide) hk1 hFc hP1 hD1
  generalize H1 = H at hP hS ⊢
  have hP : va_P (dC, dI) vwCl [(qx, .inl (kr, 6, .inl (fun _ => 0))), (h0, .inr (6, [.ref qt, .int 0, .ref qr, .ref qc, .ref qs, .int 0, .ref qn, .ref qp, .int 0, .int 0, .ref qm, .ref qf, .ref qx, .long 1]))] H := hP
  have hD : va_D A [(qx, .inl (kr, 6, .inl (fun _ => 0))), (h0, .inr (6, [.ref qt, .int 0, .ref qr, .ref qc, .ref qs, .int 0, .ref qn, .ref qp, .int 0, .int 0, .ref qm, .ref qf, .ref qx, .long 1]))] := hD
  subst hw
  refine lv_if_eq (tgt := 23) hx hb dX6_poke_6 (by decide) (fun _ => ?_) (fun c => absurd (by decide) c)
  refine lv_aload_n hx hb dX6_poke_23 rfl (lv_at hl 0 rfl) ?_
  refine lv_iconst (v := 3) hx hb dX6_poke_24 (by decide) ?_
  have hPc := hP.sub (ws' := [(h0, .inr (6, [.ref qt, .int 0, .ref qr, .ref qc, .ref qs, .int 0, .ref qn, .ref qp, .int 0, .int 0, .ref qm, .ref qf, .ref qx, .long 1])), (qx, .inl (kr, 6, .inl (fun _ => 0)))]) [1, 0] rfl
  have hDc := hD.sub (ws' := [(h0, .inr (6, [.ref qt, .int 0, .ref qr, .ref qc, .ref qs, .int 0, .ref qn, .ref qp, .int 0, .int 0, .ref qm, .ref qf, .ref qx, .long 1])), (qx, .inl (kr, 6, .inl (fun _ => 0)))]) [1, 0] (by decide) rfl
  have hKc := hK.sub (tys' := [(kr, .int)]) [0] rfl
  have hFc := va_free (wc := [(h0, .inr (6, [.ref qt, .int 0, .ref qr, .ref qc, .ref qs, .int 0, .ref qn, .ref qp, .int 0, .int 0, .ref qm, .ref qf, .ref qx, .long 1])), (qx, .inl (kr, 6, .inl (fun _ => 0)))]) hD hS hA [1, 0] rfl
  refine va_calli (va_runV (As := [.int 3]) (rest := []) ⟨hx, hb, hml, hown, hts⟩ (c_X6_refuse l dC dI H.size h0 qt qr qc qs qn qp qm qf qx kr (fun _ => 0) 3 (ax_in (by decide))) (cwV 1 hts (ax_gV T_108 T_109 T_110 T_106 T_107) rfl rfl rfl (by decide +kernel) ⟨Nat.le_of_ble_eq_true rfl, Nat.le_of_ble_eq_true rfl⟩) ⟨fun a U g mk q => ⟨q.1, ax_pc rfl rfl q.2⟩, va_recv hKc hPc (ci := 6) (q0 := 0) rfl rfl, fun U hU hW => ⟨rfl, ax_pw hU hW hPc hKc hDc hN⟩⟩ rfl rfl hl.1 rfl (lv_room (Nat.le_of_ble_eq_true rfl)) dX6_poke_25 ⟨Nat.le_of_ble_eq_true rfl, Nat.le_of_ble_eq_true rfl⟩) hS (fun q _ h => hFc q h) hFc (fun r2 _ t H1 locs ht hvm hw hB hz1 hk1 hS => ?_)
  obtain ⟨hP1, hK1, hD1⟩ := hB
  rw [ht] at hP1
  have hK1 := va_K.moved hvm.symm hK1
  obtain ⟨hP, hD⟩ := va_join (wr := []) (w1 := []) hP hD [1, 0] [] rfl rfl (by decide) (by decide) hk1 hFc hP1 hD1
  generalize H1 = H at hP hS ⊢
  have hP : va_P (dC, dI) vwCl [] H := hP
  have hD : va_D A [] := hD
  subst hw
  refine lv_pop hx hb dX6_poke_28 rfl ?_
  refine lv_ldc hx hb hown (hts _ T_148) dX6_poke_29 ?_
  have hP9 := hP.sub (ws' := []) [] rfl
  have hD9 := hD.sub (ws' := []) [] (by decide) rfl
  have hK9 := hK.sub (tys' := []) [] rfl
  exact W.iret (v := (-1000000)) hx hb hr (fun t ht hW => ⟨⟨(-1000000), (), rfl, rfl, by rw [ht]; exact hP9, va_K.moved hW.alike hK9, hD9⟩, hS.F ht⟩) hS.2.2 dX6_poke_31

set_option maxHeartbeats 4000000 in
set_option maxRecDepth 100000 in
/-- seed -/
theorem c_X6_seed (l : Launch) (dC : Nat → ClassId) (dI : Nat → Nat → Nat) (sz : Nat) (h0 : Nat) (qt : Nat) (qr : Nat) (qc : Nat) (qs : Nat) (qn : Nat) (qp : Nat) (qm : Nat) (qf : Nat) (qx : Nat) (kr : ClassId) (p0 : Int32) : Met l yX6_seed (Cond.code yX6_seed cX6_seed 2 (some .boolean) :: T0) ({ frames := 1, cells := 0, slots := 0, locals := 21 }) (va_Pc [.ref h0, .int p0] (ax_W dC dI sz [(h0, .inr (6, [.ref qt, .int 0, .ref qr, .ref qc, .ref qs, .int 0, .ref qn, .ref qp, .int 0, .int 0, .ref qm, .ref qf, .ref qx, .long 1])), (qx, .inl (kr, 6, .inl (fun _ => 0)))] [(kr, .int)])) (va_Qi (fun (r : Int32) (_ : Unit) => r = a_seed p0) (fun (_ : Unit) (t : State) => va_P (dC, dI) vwCl [] t.heap ∧ va_K (dC, dI) vwCl [] t ∧ va_D (va_A [(h0, .inr (6, [.ref qt, .int 0, .ref qr, .ref qc, .ref qs, .int 0, .ref qn, .ref qp, .int 0, .int 0, .ref qm, .ref qf, .ref qx, .long 1])), (qx, .inl (kr, 6, .inl (fun _ => 0)))] sz) []) (va_A [(h0, .inr (6, [.ref qt, .int 0, .ref qr, .ref qc, .ref qs, .int 0, .ref qn, .ref qp, .int 0, .int 0, .ref qm, .ref qf, .ref qx, .long 1])), (qx, .inl (kr, 6, .inl (fun _ => 0)))] sz)) 0 0 (va_A [(h0, .inr (6, [.ref qt, .int 0, .ref qr, .ref qc, .ref qs, .int 0, .ref qn, .ref qp, .int 0, .int 0, .ref qm, .ref qf, .ref qx, .long 1])), (qx, .inl (kr, 6, .inl (fun _ => 0)))] sz) := by
  refine Met.ofW (cc := cX6_seed) (maxL := 2) (ret := (some .boolean)) (by decide) rfl ?_
  intro p e s m args below meth c s₁ B hml hv
  obtain ⟨rfl, hsz, hP, hK, hD0, hN⟩ := hv
  have hx := B.exec
  have hb := B.bytes
  have hr := B.returns
  have hts : ∀ w ∈ T0, w.before _ s = true := fun w h => atoms_spec (ws := Cond.code yX6_seed cX6_seed 2 (some .boolean) :: T0) B.pre w (List.mem_cons_of_mem _ h)
  have hown : s.vm.findClass RX6 = some m.cls := findClass_of_methodNamed B.named
  have hlocks := B.notSynchronized
  subst hsz
  have hD := hD0.self (sz := s.heap.size)
  generalize hAe : va_A [(h0, .inr (6, [.ref qt, .int 0, .ref qr, .ref qc, .ref qs, .int 0, .ref qn, .ref qp, .int 0, .int 0, .ref qm, .ref qf, .ref qx, .long 1])), (qx, .inl (kr, 6, .inl (fun _ => 0)))] s.heap.size = A at hD ⊢
  have hA : ∀ q : Nat, s.heap.size ≤ q → A q := fun q h => by rw [← hAe]; exact Or.inr h
  have hS : va_S A s.heap s.heap [] := va_S.rf
  have hP : va_P (dC, dI) vwCl [(h0, .inr (6, [.ref qt, .int 0, .ref qr, .ref qc, .ref qs, .int 0, .ref qn, .ref qp, .int 0, .int 0, .ref qm, .ref qf, .ref qx, .long 1])), (qx, .inl (kr, 6, .inl (fun _ => 0)))] s.heap := hP
  have hl := lv_entry ([.ref h0, .int p0]) (n := 2) (Nat.le_of_ble_eq_true rfl)
  rw [lg_entry_eq]
  generalize (lg_sl ([.ref h0, .int p0]) ++ List.replicate (2 - (lg_sl ([.ref h0, .int p0])).length) Slot.unset).toArray = ls at hl ⊢
  refine ax_gen hP hD hS (fun H locs hP hD hS => ?_)
  have hl : lv_has ls 2 [(0, .ref h0), (1, .int p0)] := hl
  refine lv_iload_n hx hb dX6_seed_0 rfl (lv_at hl 1 rfl) ?_
  refine lv_if_ge (tgt := 12) hx hb dX6_seed_1 (by decide) (fun c1 => ?_) (fun c1 => ?_)
  · refine lv_aload_n hx hb dX6_seed_12 rfl (lv_at hl 0 rfl) ?_
    refine lv_iload_n hx hb dX6_seed_13 rfl (lv_at hl 1 rfl) ?_
    refine lv_i2l (v := p0.toInt64) hx hb dX6_seed_14 rfl ?_
    refine va_put (D := (dC, dI)) (ci := 6) (v := .long p0.toInt64) (ty := .long) (C := RX6) (T := TX6) (N := 14) hx hb hts inX6 tyX6 tyX6_ok nmX6 hown hK hP hD hS 0 rfl rfl 13 (by decide) (hts _ T_95) (fun _ h9 => h9) rfl (by decide +kernel) rfl rfl (Nat.le_of_ble_eq_true rfl) dX6_seed_15 (fun H locs hP hD hS => ?_)
    have hP : va_P (dC, dI) vwCl [(h0, .inr (6, [.ref qt, .int 0, .ref qr, .ref qc, .ref qs, .int 0, .ref qn, .ref qp, .int 0, .int 0, .ref qm, .ref qf, .ref qx, .long p0.toInt64])), (qx, .inl (kr, 6, .inl (fun _ => 0)))] H := hP
    have hD : va_D A [(h0, .inr (6, [.ref qt, .int 0, .ref qr, .ref qc, .ref qs, .int 0, .ref qn, .ref qp, .int 0, .int 0, .ref qm, .ref qf, .ref qx, .long p0.toInt64])), (qx, .inl (kr, 6, .inl (fun _ => 0)))] := hD
    refine lv_iconst (v := 1) hx hb dX6_seed_18 (by decide) ?_
    have hP9 := hP.sub (ws' := []) [] rfl
    have hD9 := hD.sub (ws' := []) [] (by decide) rfl
    have hK9 := hK.sub (tys' := []) [] rfl
    exact W.zret (v := 1) (ty := .boolean) hx hb hr (by decide) (fun t ht hW => ⟨⟨1, (), rfl, (by have h_0 := (ax_ge (n := 0) (by decide)).mp c1; unfold a_seed; first | (rw [if_pos (by omega)]; done) | (rw [if_neg (by omega)]; done)), by rw [ht]; exact hP9, va_K.moved hW.alike hK9, hD9⟩, hS.F ht⟩) hS.2.2 dX6_seed_19
  · refine lv_aload_n hx hb dX6_seed_4 rfl (lv_at hl 0 rfl) ?_
    refine lv_iconst (v := 5) hx hb dX6_seed_5 (by decide) ?_
    have hPc := hP.sub (ws' := [(h0, .inr (6, [.ref qt, .int 0, .ref qr, .ref qc, .ref qs, .int 0, .ref qn, .ref qp, .int 0, .int 0, .ref qm, .ref qf, .ref qx, .long 1])), (qx, .inl (kr, 6, .inl (fun _ => 0)))]) [0, 1] rfl
    have hDc := hD.sub (ws' := [(h0, .inr (6, [.ref qt, .int 0, .ref qr, .ref qc, .ref qs, .int 0, .ref qn, .ref qp, .int 0, .int 0, .ref qm, .ref qf, .ref qx, .long 1])), (qx, .inl (kr, 6, .inl (fun _ => 0)))]) [0, 1] (by decide) rfl
    have hKc := hK.sub (tys' := [(kr, .int)]) [0] rfl
    have hFc := va_free (wc := [(h0, .inr (6, [.ref qt, .int 0, .ref qr, .ref qc, .ref qs, .int 0, .ref qn, .ref qp, .int 0, .int 0, .ref qm, .ref qf, .ref qx, .long 1])), (qx, .inl (kr, 6, .inl (fun _ => 0)))]) hD hS hA [0, 1] rfl
    refine va_calli (va_runV (As := [.int 5]) (rest := []) ⟨hx, hb, hml, hown, hts⟩ (c_X6_refuse l dC dI H.size h0 qt qr qc qs qn qp qm qf qx kr (fun _ => 0) 5 (ax_in (by decide))) (cwV 1 hts (ax_gV T_108 T_109 T_110 T_106 T_107) rfl rfl rfl (by decide +kernel) ⟨Nat.le_of_ble_eq_true rfl, Nat.le_of_ble_eq_true rfl⟩) ⟨fun a U g mk q => ⟨q.1, ax_pc rfl rfl q.2⟩, va_recv hKc hPc (ci := 6) (q0 := 0) rfl rfl, fun U hU hW => ⟨rfl, ax_pw hU hW hPc hKc hDc hN⟩⟩ rfl rfl hl.1 rfl (lv_room (Nat.le_of_ble_eq_true rfl)) dX6_seed_6 ⟨Nat.le_of_ble_eq_true rfl, Nat.le_of_ble_eq_true rfl⟩) hS (fun q _ h => hFc q h) hFc (fun r2 _ t H1 locs ht hvm hw hB hz1 hk1 hS => ?_)
    obtain ⟨hP1, hK1, hD1⟩ := hB
    rw [ht] at hP1
    have hK1 := va_K.moved hvm.symm hK1
    obtain ⟨hP, hD⟩ := va_join (wr := []) (w1 := []) hP hD [0, 1] [] rfl rfl (by decide) (by decide) hk1 hFc hP1 hD1
    generalize H1 = H at hP hS ⊢
    have hP : va_P (dC, dI) vwCl [] H := hP
    have hD : va_D A [] := hD
    subst hw
    refine lv_pop hx hb dX6_seed_9 rfl ?_
    refine lv_iconst (v := 0) hx hb dX6_seed_10 (by decide) ?_
    have hP9 := hP.sub (ws' := []) [] rfl
    have hD9 := hD.sub (ws' := []) [] (by decide) rfl
    have hK9 := hK.sub (tys' := []) [] rfl
    exact W.zret (v := 0) (ty := .boolean) hx hb hr (by decide) (fun t ht hW => ⟨⟨0, (), rfl, (by have h_0 := mt (ax_ge (n := 0) (by decide)).mpr c1; unfold a_seed; first | (rw [if_pos (by omega)]; done) | (rw [if_neg (by omega)]; done)), by rw [ht]; exact hP9, va_K.moved hW.alike hK9, hD9⟩, hS.F ht⟩) hS.2.2 dX6_seed_11

set_option maxHeartbeats 4000000 in
set_option maxRecDepth 100000 in
/-- status -/
theorem c_X6_status (l : Launch) (dC : Nat → ClassId) (dI : Nat → Nat → Nat) (sz : Nat) (h0 : Nat) (qt : Nat) (qr : Nat) (qc : Nat) (qs : Nat) (qn : Nat) (qp : Nat) (qm : Nat) (qf : Nat) (qx : Nat) (kr : ClassId) (p0 : Int32) : Met l yX6_status (Cond.code yX6_status cX6_status 2 (some .int) :: T0) ({ frames := 0, cells := 0, slots := 0, locals := 0 }) (va_Pc [.ref h0, .int p0] (ax_W dC dI sz [(h0, .inr (6, [.ref qt, .int 0, .ref qr, .ref qc, .ref qs, .int 0, .ref qn, .ref qp, .int 0, .int 0, .ref qm, .ref qf, .ref qx, .long 1])), (qx, .inl (kr, 6, .inl (fun _ => 0)))] [(kr, .int)])) (va_Qi (fun (r : Int32) (_ : Unit) => r = a_status p0) (fun (_ : Unit) (t : State) => va_P (dC, dI) vwCl [] t.heap ∧ va_K (dC, dI) vwCl [] t ∧ va_D (va_A [(h0, .inr (6, [.ref qt, .int 0, .ref qr, .ref qc, .ref qs, .int 0, .ref qn, .ref qp, .int 0, .int 0, .ref qm, .ref qf, .ref qx, .long 1])), (qx, .inl (kr, 6, .inl (fun _ => 0)))] sz) []) (va_A [(h0, .inr (6, [.ref qt, .int 0, .ref qr, .ref qc, .ref qs, .int 0, .ref qn, .ref qp, .int 0, .int 0, .ref qm, .ref qf, .ref qx, .long 1])), (qx, .inl (kr, 6, .inl (fun _ => 0)))] sz)) 0 0 (va_A [(h0, .inr (6, [.ref qt, .int 0, .ref qr, .ref qc, .ref qs, .int 0, .ref qn, .ref qp, .int 0, .int 0, .ref qm, .ref qf, .ref qx, .long 1])), (qx, .inl (kr, 6, .inl (fun _ => 0)))] sz) := by
  refine Met.ofW (cc := cX6_status) (maxL := 2) (ret := (some .int)) (by decide) rfl ?_
  intro p e s m args below meth c s₁ B hml hv
  obtain ⟨rfl, hsz, hP, hK, hD0, hN⟩ := hv
  have hx := B.exec
  have hb := B.bytes
  have hr := B.returns
  have hts : ∀ w ∈ T0, w.before _ s = true := fun w h => atoms_spec (ws := Cond.code yX6_status cX6_status 2 (some .int) :: T0) B.pre w (List.mem_cons_of_mem _ h)
  have hown : s.vm.findClass RX6 = some m.cls := findClass_of_methodNamed B.named
  have hlocks := B.notSynchronized
  subst hsz
  have hD := hD0.self (sz := s.heap.size)
  generalize hAe : va_A [(h0, .inr (6, [.ref qt, .int 0, .ref qr, .ref qc, .ref qs, .int 0, .ref qn, .ref qp, .int 0, .int 0, .ref qm, .ref qf, .ref qx, .long 1])), (qx, .inl (kr, 6, .inl (fun _ => 0)))] s.heap.size = A at hD ⊢
  have hA : ∀ q : Nat, s.heap.size ≤ q → A q := fun q h => by rw [← hAe]; exact Or.inr h
  have hS : va_S A s.heap s.heap [] := va_S.rf
  have hP : va_P (dC, dI) vwCl [(h0, .inr (6, [.ref qt, .int 0, .ref qr, .ref qc, .ref qs, .int 0, .ref qn, .ref qp, .int 0, .int 0, .ref qm, .ref qf, .ref qx, .long 1])), (qx, .inl (kr, 6, .inl (fun _ => 0)))] s.heap := hP
  have hl := lv_entry ([.ref h0, .int p0]) (n := 2) (Nat.le_of_ble_eq_true rfl)
  rw [lg_entry_eq]
  generalize (lg_sl ([.ref h0, .int p0]) ++ List.replicate (2 - (lg_sl ([.ref h0, .int p0])).length) Slot.unset).toArray = ls at hl ⊢
  refine ax_gen hP hD hS (fun H locs hP hD hS => ?_)
  have hl : lv_has ls 2 [(0, .ref h0), (1, .int p0)] := hl
  refine lv_iload_n hx hb dX6_status_0 rfl (lv_at hl 1 rfl) ?_
  refine lv_if_lt (tgt := 10) hx hb dX6_status_1 (by decide) (fun c1 => ?_) (fun c1 => ?_)
  · refine lv_iconst (v := (-1)) hx hb dX6_status_10 (by decide) ?_
    refine lv_goto (tgt := 20) hx hb dX6_status_11 (by decide) ?_
    have hP9 := hP.sub (ws' := []) [] rfl
    have hD9 := hD.sub (ws' := []) [] (by decide) rfl
    have hK9 := hK.sub (tys' := []) [] rfl
    exact W.iret (v := (-1)) hx hb hr (fun t ht hW => ⟨⟨(-1), (), rfl, (by have h_0 := (ax_lt (n := 0) (by decide)).mp c1; unfold a_status; first | (rw [if_pos (by omega)]; done) | (rw [if_neg (by omega)]; done)), by rw [ht]; exact hP9, va_K.moved hW.alike hK9, hD9⟩, hS.F ht⟩) hS.2.2 dX6_status_20
  · refine lv_iload_n hx hb dX6_status_4 rfl (lv_at hl 1 rfl) ?_
    refine lv_bipush (v := 6) hx hb dX6_status_5 (by decide) ?_
    refine lv_icmp_lt (tgt := 14) hx hb dX6_status_7 (by decide) (fun c2 => ?_) (fun c2 => ?_)
    · refine lv_aload_n hx hb dX6_status_14 rfl (lv_at hl 0 rfl) ?_
      refine va_get (D := (dC, dI)) (ci := 6) (v := .ref qx) (C := RX6) (T := TX6) (N := 14) hx hb hts inX6 hown hK hP 0 rfl rfl 12 (by decide) (hts _ T_94) (fun _ h9 => h9) rfl dX6_status_15 ?_
      refine lv_iload_n hx hb dX6_status_18 rfl (lv_at hl 1 rfl) ?_
      refine va_iald hx hb hK hP 1 0 rfl rfl (by have h_0 := mt (ax_lt (n := 0) (by decide)).mpr c1; have h_1 := (ax_lt (n := 6) (by decide)).mp c2; exact vp_in_iff.mpr ⟨by omega, by omega⟩) dX6_status_19 ?_
      refine ax_eqi (y := 0) rfl ?_
      have hP9 := hP.sub (ws' := []) [] rfl
      have hD9 := hD.sub (ws' := []) [] (by decide) rfl
      have hK9 := hK.sub (tys' := []) [] rfl
      exact W.iret (v := 0) hx hb hr (fun t ht hW => ⟨⟨0, (), rfl, (by have h_0 := mt (ax_lt (n := 0) (by decide)).mpr c1; have h_1 := (ax_lt (n := 6) (by decide)).mp c2; unfold a_status; first | (rw [if_pos (by omega)]; done) | (rw [if_neg (by omega)]; done)), by rw [ht]; exact hP9, va_K.moved hW.alike hK9, hD9⟩, hS.F ht⟩) hS.2.2 dX6_status_20
    · refine lv_iconst (v := (-1)) hx hb dX6_status_10 (by decide) ?_
      refine lv_goto (tgt := 20) hx hb dX6_status_11 (by decide) ?_
      have hP9 := hP.sub (ws' := []) [] rfl
      have hD9 := hD.sub (ws' := []) [] (by decide) rfl
      have hK9 := hK.sub (tys' := []) [] rfl
      exact W.iret (v := (-1)) hx hb hr (fun t ht hW => ⟨⟨(-1), (), rfl, (by have h_0 := mt (ax_lt (n := 0) (by decide)).mpr c1; have h_1 := mt (ax_lt (n := 6) (by decide)).mpr c2; unfold a_status; first | (rw [if_pos (by omega)]; done) | (rw [if_neg (by omega)]; done)), by rw [ht]; exact hP9, va_K.moved hW.alike hK9, hD9⟩, hS.F ht⟩) hS.2.2 dX6_status_20
end
