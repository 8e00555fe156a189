def RX0 : String := "FallRows$BestSearch"
def RX1 : String := "FallRows$ChainSearch"
def RX2 : String := "FallRows$Costs"
def RX3 : String := "FallRows$Layout"
def RX4 : String := "FallRows$LocalSearch"
def RX5 : String := "FallRows$Orders"
def RX6 : String := "FallRows$Picture"
def RX7 : String := "FallRows$Program"
def RX8 : String := "FallRows$Runner"
def RX9 : String := "FallRows$Tape"
def RX10 : String := "FallRows$Trace"
def RX11 : String := "FallRows"
def RX12 : String := "FallRowsModel"
def RJ6 : String := "java/lang/Integer"
def RJ9 : String := "java/lang/Math"
def RJ7 : String := "java/util/Arrays"
def TX0 : u_T := fun k => match k with
  | 0 => ("FallRows$BestSearch", "costs", "LFallRows$Costs;", true)
  | _ => ("FallRows$BestSearch", "rest", "[I", true)
def tyX0 : Nat → FieldType := fun k => match k with
  | 0 => .object "FallRows$Costs"
  | _ => .array .int
abbrev wsX00 : List Cond := u_ws RX0 TX0 2
theorem nmX0 : ∀ a, a < 2 → ∀ b, b < 2 → a ≠ b → (TX0 a).2.1 ≠ (TX0 b).2.1 := by decide +kernel
theorem tyX0_ok : ∀ k, k < 2 → parseFieldDescriptor (TX0 k).2.2.1 = some (tyX0 k) := by decide +kernel
def TX1 : u_T := fun k => match k with
  | 0 => ("FallRows$ChainSearch", "program", "LFallRows$Program;", true)
  | 1 => ("FallRows$ChainSearch", "firstOf", "[I", true)
  | 2 => ("FallRows$ChainSearch", "follower", "[I", true)
  | 3 => ("FallRows$ChainSearch", "isUsed", "[Z", true)
  | 4 => ("FallRows$ChainSearch", "isPlaced", "[Z", true)
  | 5 => ("FallRows$ChainSearch", "routine", "I", false)
  | 6 => ("FallRows$ChainSearch", "n", "I", false)
  | _ => ("FallRows$ChainSearch", "placed", "I", false)
def tyX1 : Nat → FieldType := fun k => match k with
  | 0 => .object "FallRows$Program"
  | 1 => .array .int
  | 2 => .array .int
  | 3 => .array .boolean
  | 4 => .array .boolean
  | 5 => .int
  | 6 => .int
  | _ => .int
abbrev wsX10 : List Cond := u_ws RX1 TX1 8
theorem nmX1 : ∀ a, a < 8 → ∀ b, b < 8 → a ≠ b → (TX1 a).2.1 ≠ (TX1 b).2.1 := by decide +kernel
theorem tyX1_ok : ∀ k, k < 8 → parseFieldDescriptor (TX1 k).2.2.1 = some (tyX1 k) := by decide +kernel
def TX2 : u_T := fun k => match k with
  | 0 => ("FallRows$Costs", "program", "LFallRows$Program;", true)
  | 1 => ("FallRows$Costs", "price", "[I", true)
  | _ => ("FallRows$Costs", "n", "I", false)
def tyX2 : Nat → FieldType := fun k => match k with
  | 0 => .object "FallRows$Program"
  | 1 => .array .int
  | _ => .int
abbrev wsX20 : List Cond := u_ws RX2 TX2 3
theorem nmX2 : ∀ a, a < 3 → ∀ b, b < 3 → a ≠ b → (TX2 a).2.1 ≠ (TX2 b).2.1 := by decide +kernel
theorem tyX2_ok : ∀ k, k < 3 → parseFieldDescriptor (TX2 k).2.2.1 = some (tyX2 k) := by decide +kernel
def TX3 : u_T := fun k => match k with
  | 0 => ("FallRows$Layout", "program", "LFallRows$Program;", true)
  | 1 => ("FallRows$Layout", "orders", "LFallRows$Orders;", true)
  | 2 => ("FallRows$Layout", "line", "[I", true)
  | 3 => ("FallRows$Layout", "next", "[I", true)
  | 4 => ("FallRows$Layout", "address", "[I", true)
  | 5 => ("FallRows$Layout", "behind", "[I", true)
  | 6 => ("FallRows$Layout", "target", "[I", true)
  | 7 => ("FallRows$Layout", "slotBehind", "[I", true)
  | 8 => ("FallRows$Layout", "isLong", "[Z", true)
  | 9 => ("FallRows$Layout", "isTurned", "[Z", true)
  | 10 => ("FallRows$Layout", "latestTurn", "[I", true)
  | 11 => ("FallRows$Layout", "align", "I", false)
  | 12 => ("FallRows$Layout", "apart", "Z", false)
  | 13 => ("FallRows$Layout", "turns", "I", false)
  | 14 => ("FallRows$Layout", "gaps", "I", false)
  | 15 => ("FallRows$Layout", "tableFrom", "I", false)
  | 16 => ("FallRows$Layout", "total", "I", false)
  | 17 => ("FallRows$Layout", "version", "I", false)
  | _ => ("FallRows$Layout", "settled", "Z", false)
def tyX3 : Nat → FieldType := fun k => match k with
  | 0 => .object "FallRows$Program"
  | 1 => .object "FallRows$Orders"
  | 2 => .array .int
  | 3 => .array .int
  | 4 => .array .int
  | 5 => .array .int
  | 6 => .array .int
  | 7 => .array .int
  | 8 => .array .boolean
  | 9 => .array .boolean
  | 10 => .array .int
  | 11 => .int
  | 12 => .boolean
  | 13 => .int
  | 14 => .int
  | 15 => .int
  | 16 => .int
  | 17 => .int
  | _ => .boolean
abbrev wsX30 : List Cond := u_ws RX3 TX3 19
theorem nmX3 : ∀ a, a < 19 → ∀ b, b < 19 → a ≠ b → (TX3 a).2.1 ≠ (TX3 b).2.1 := by decide +kernel
theorem tyX3_ok : ∀ k, k < 19 → parseFieldDescriptor (TX3 k).2.2.1 = some (tyX3 k) := by decide +kernel
def TX4 : u_T := fun k => match k with
  | 0 => ("FallRows$LocalSearch", "costs", "LFallRows$Costs;", true)
  | _ => ("FallRows$LocalSearch", "trial", "[I", true)
def tyX4 : Nat → FieldType := fun k => match k with
  | 0 => .object "FallRows$Costs"
  | _ => .array .int
abbrev wsX40 : List Cond := u_ws RX4 TX4 2
theorem nmX4 : ∀ a, a < 2 → ∀ b, b < 2 → a ≠ b → (TX4 a).2.1 ≠ (TX4 b).2.1 := by decide +kernel
theorem tyX4_ok : ∀ k, k < 2 → parseFieldDescriptor (TX4 k).2.2.1 = some (tyX4 k) := by decide +kernel
def TX5 : u_T := fun k => match k with
  | 0 => ("FallRows$Orders", "program", "LFallRows$Program;", true)
  | 1 => ("FallRows$Orders", "blockAt", "[I", true)
  | 2 => ("FallRows$Orders", "placeOf", "[I", true)
  | 3 => ("FallRows$Orders", "keptBlocks", "[I", true)
  | 4 => ("FallRows$Orders", "keptRoutine", "[I", true)
  | _ => ("FallRows$Orders", "keptCount", "I", false)
def tyX5 : Nat → FieldType := fun k => match k with
  | 0 => .object "FallRows$Program"
  | 1 => .array .int
  | 2 => .array .int
  | 3 => .array .int
  | 4 => .array .int
  | _ => .int
abbrev wsX50 : List Cond := u_ws RX5 TX5 6
theorem nmX5 : ∀ a, a < 6 → ∀ b, b < 6 → a ≠ b → (TX5 a).2.1 ≠ (TX5 b).2.1 := by decide +kernel
theorem tyX5_ok : ∀ k, k < 6 → parseFieldDescriptor (TX5 k).2.2.1 = some (tyX5 k) := by decide +kernel
def TX6 : u_T := fun k => match k with
  | 0 => ("FallRows$Picture", "program", "LFallRows$Program;", true)
  | 1 => ("FallRows$Picture", "layout", "LFallRows$Layout;", true)
  | 2 => ("FallRows$Picture", "bytes", "[B", true)
  | 3 => ("FallRows$Picture", "guardAt", "[I", true)
  | 4 => ("FallRows$Picture", "version", "I", false)
  | _ => ("FallRows$Picture", "at", "I", false)
def tyX6 : Nat → FieldType := fun k => match k with
  | 0 => .object "FallRows$Program"
  | 1 => .object "FallRows$Layout"
  | 2 => .array .byte
  | 3 => .array .int
  | 4 => .int
  | _ => .int
abbrev wsX60 : List Cond := u_ws RX6 TX6 6
theorem nmX6 : ∀ a, a < 6 → ∀ b, b < 6 → a ≠ b → (TX6 a).2.1 ≠ (TX6 b).2.1 := by decide +kernel
theorem tyX6_ok : ∀ k, k < 6 → parseFieldDescriptor (TX6 k).2.2.1 = some (tyX6 k) := by decide +kernel
def TX7 : u_T := fun k => match k with
  | 0 => ("FallRows$Program", "routineCount", "I", false)
  | 1 => ("FallRows$Program", "blockCount", "I", false)
  | 2 => ("FallRows$Program", "ownCount", "[I", true)
  | 3 => ("FallRows$Program", "own", "[I", true)
  | 4 => ("FallRows$Program", "routineOf", "[I", true)
  | 5 => ("FallRows$Program", "rank", "[I", true)
  | 6 => ("FallRows$Program", "size", "[I", true)
  | 7 => ("FallRows$Program", "kind", "[I", true)
  | 8 => ("FallRows$Program", "wayCount", "[I", true)
  | 9 => ("FallRows$Program", "called", "[I", true)
  | 10 => ("FallRows$Program", "isCold", "[Z", true)
  | 11 => ("FallRows$Program", "ways", "[I", true)
  | _ => ("FallRows$Program", "counts", "[I", true)
def tyX7 : Nat → FieldType := fun k => match k with
  | 0 => .int
  | 1 => .int
  | 2 => .array .int
  | 3 => .array .int
  | 4 => .array .int
  | 5 => .array .int
  | 6 => .array .int
  | 7 => .array .int
  | 8 => .array .int
  | 9 => .array .int
  | 10 => .array .boolean
  | 11 => .array .int
  | _ => .array .int
abbrev wsX70 : List Cond := u_ws RX7 TX7 13
theorem nmX7 : ∀ a, a < 13 → ∀ b, b < 13 → a ≠ b → (TX7 a).2.1 ≠ (TX7 b).2.1 := by decide +kernel
theorem tyX7_ok : ∀ k, k < 13 → parseFieldDescriptor (TX7 k).2.2.1 = some (tyX7 k) := by decide +kernel
def TX8 : u_T := fun k => match k with
  | 0 => ("FallRows$Runner", "program", "LFallRows$Program;", true)
  | 1 => ("FallRows$Runner", "layout", "LFallRows$Layout;", true)
  | 2 => ("FallRows$Runner", "picture", "LFallRows$Picture;", true)
  | 3 => ("FallRows$Runner", "tape", "LFallRows$Tape;", true)
  | 4 => ("FallRows$Runner", "reading", "I", false)
  | _ => ("FallRows$Runner", "at", "I", false)
def tyX8 : Nat → FieldType := fun k => match k with
  | 0 => .object "FallRows$Program"
  | 1 => .object "FallRows$Layout"
  | 2 => .object "FallRows$Picture"
  | 3 => .object "FallRows$Tape"
  | 4 => .int
  | _ => .int
abbrev wsX80 : List Cond := u_ws RX8 TX8 6
theorem nmX8 : ∀ a, a < 6 → ∀ b, b < 6 → a ≠ b → (TX8 a).2.1 ≠ (TX8 b).2.1 := by decide +kernel
theorem tyX8_ok : ∀ k, k < 6 → parseFieldDescriptor (TX8 k).2.2.1 = some (tyX8 k) := by decide +kernel
def TX9 : u_T := fun k => match k with
  | 0 => ("FallRows$Tape", "bytes", "[B", true)
  | _ => ("FallRows$Tape", "length", "I", false)
def tyX9 : Nat → FieldType := fun k => match k with
  | 0 => .array .byte
  | _ => .int
abbrev wsX90 : List Cond := u_ws RX9 TX9 2
theorem nmX9 : ∀ a, a < 2 → ∀ b, b < 2 → a ≠ b → (TX9 a).2.1 ≠ (TX9 b).2.1 := by decide +kernel
theorem tyX9_ok : ∀ k, k < 2 → parseFieldDescriptor (TX9 k).2.2.1 = some (tyX9 k) := by decide +kernel
def TX10 : u_T := fun k => match k with
  | 0 => ("FallRows$Trace", "made", "Z", false)
  | 1 => ("FallRows$Trace", "ending", "I", false)
  | 2 => ("FallRows$Trace", "blocks", "I", false)
  | 3 => ("FallRows$Trace", "choices", "I", false)
  | 4 => ("FallRows$Trace", "open", "I", false)
  | 5 => ("FallRows$Trace", "mostOpen", "I", false)
  | 6 => ("FallRows$Trace", "jumps", "I", false)
  | 7 => ("FallRows$Trace", "testsJumped", "I", false)
  | 8 => ("FallRows$Trace", "testsStayed", "I", false)
  | 9 => ("FallRows$Trace", "missed", "I", false)
  | 10 => ("FallRows$Trace", "blockAt", "[I", true)
  | 11 => ("FallRows$Trace", "pageAt", "[I", true)
  | 12 => ("FallRows$Trace", "taken", "[I", true)
  | 13 => ("FallRows$Trace", "caller", "[I", true)
  | 14 => ("FallRows$Trace", "returnTo", "[I", true)
  | _ => ("FallRows$Trace", "pagesHeld", "[I", true)
def tyX10 : Nat → FieldType := fun k => match k with
  | 0 => .boolean
  | 1 => .int
  | 2 => .int
  | 3 => .int
  | 4 => .int
  | 5 => .int
  | 6 => .int
  | 7 => .int
  | 8 => .int
  | 9 => .int
  | 10 => .array .int
  | 11 => .array .int
  | 12 => .array .int
  | 13 => .array .int
  | 14 => .array .int
  | _ => .array .int
abbrev wsX100 : List Cond := u_ws RX10 TX10 16
theorem nmX10 : ∀ a, a < 16 → ∀ b, b < 16 → a ≠ b → (TX10 a).2.1 ≠ (TX10 b).2.1 := by decide +kernel
theorem tyX10_ok : ∀ k, k < 16 → parseFieldDescriptor (TX10 k).2.2.1 = some (tyX10 k) := by decide +kernel
def TX11 : u_T := fun k => match k with
  | 0 => ("FallRows", "program", "LFallRows$Program;", true)
  | 1 => ("FallRows", "orders", "LFallRows$Orders;", true)
  | 2 => ("FallRows", "costs", "LFallRows$Costs;", true)
  | 3 => ("FallRows", "bestSearch", "LFallRows$BestSearch;", true)
  | 4 => ("FallRows", "localSearch", "LFallRows$LocalSearch;", true)
  | 5 => ("FallRows", "chainSearch", "LFallRows$ChainSearch;", true)
  | 6 => ("FallRows", "layout", "LFallRows$Layout;", true)
  | 7 => ("FallRows", "picture", "LFallRows$Picture;", true)
  | 8 => ("FallRows", "tape", "LFallRows$Tape;", true)
  | 9 => ("FallRows", "runner", "LFallRows$Runner;", true)
  | 10 => ("FallRows", "plainTrace", "LFallRows$Trace;", true)
  | 11 => ("FallRows", "laidTrace", "LFallRows$Trace;", true)
  | 12 => ("FallRows", "sparePlain", "LFallRows$Trace;", true)
  | 13 => ("FallRows", "spareLaid", "LFallRows$Trace;", true)
  | 14 => ("FallRows", "offered", "[I", true)
  | 15 => ("FallRows", "ranks", "[I", true)
  | 16 => ("FallRows", "pagesKept", "I", false)
  | _ => ("FallRows", "learnable", "Z", false)
def tyX11 : Nat → FieldType := fun k => match k with
  | 0 => .object "FallRows$Program"
  | 1 => .object "FallRows$Orders"
  | 2 => .object "FallRows$Costs"
  | 3 => .object "FallRows$BestSearch"
  | 4 => .object "FallRows$LocalSearch"
  | 5 => .object "FallRows$ChainSearch"
  | 6 => .object "FallRows$Layout"
  | 7 => .object "FallRows$Picture"
  | 8 => .object "FallRows$Tape"
  | 9 => .object "FallRows$Runner"
  | 10 => .object "FallRows$Trace"
  | 11 => .object "FallRows$Trace"
  | 12 => .object "FallRows$Trace"
  | 13 => .object "FallRows$Trace"
  | 14 => .array .int
  | 15 => .array .int
  | 16 => .int
  | _ => .boolean
abbrev wsX110 : List Cond := u_ws RX11 TX11 18
theorem nmX11 : ∀ a, a < 18 → ∀ b, b < 18 → a ≠ b → (TX11 a).2.1 ≠ (TX11 b).2.1 := by decide +kernel
theorem tyX11_ok : ∀ k, k < 18 → parseFieldDescriptor (TX11 k).2.2.1 = some (tyX11 k) := by decide +kernel
def TX12 : u_T := fun k => match k with
  | 0 => ("FallRowsModel", "routines", "I", false)
  | 1 => ("FallRowsModel", "many", "[I", true)
  | 2 => ("FallRowsModel", "came", "[I", true)
  | 3 => ("FallRowsModel", "order", "[I", true)
  | 4 => ("FallRowsModel", "blocks", "I", false)
  | 5 => ("FallRowsModel", "routineOf", "[I", true)
  | 6 => ("FallRowsModel", "sizeOf", "[I", true)
  | 7 => ("FallRowsModel", "isCold", "[Z", true)
  | 8 => ("FallRowsModel", "endOf", "[I", true)
  | 9 => ("FallRowsModel", "waysOf", "[I", true)
  | 10 => ("FallRowsModel", "way", "[I", true)
  | 11 => ("FallRowsModel", "countOf", "[I", true)
  | 12 => ("FallRowsModel", "callOf", "[I", true)
  | 13 => ("FallRowsModel", "isApart", "Z", false)
  | 14 => ("FallRowsModel", "align", "I", false)
  | 15 => ("FallRowsModel", "keptPages", "I", false)
  | 16 => ("FallRowsModel", "tape", "[I", true)
  | 17 => ("FallRowsModel", "size", "I", false)
  | 18 => ("FallRowsModel", "undos", "I", false)
  | 19 => ("FallRowsModel", "undoRoutine", "[I", true)
  | 20 => ("FallRowsModel", "undoOrder", "[I", true)
  | 21 => ("FallRowsModel", "toldWay", "[I", true)
  | 22 => ("FallRowsModel", "least", "[I", true)
  | 23 => ("FallRowsModel", "behind", "[I", true)
  | 24 => ("FallRowsModel", "ahead", "[I", true)
  | 25 => ("FallRowsModel", "wayDone", "[Z", true)
  | 26 => ("FallRowsModel", "isPlaced", "[Z", true)
  | 27 => ("FallRowsModel", "rowOf", "[I", true)
  | 28 => ("FallRowsModel", "rows", "I", false)
  | 29 => ("FallRowsModel", "nextOf", "[I", true)
  | 30 => ("FallRowsModel", "addr", "[I", true)
  | 31 => ("FallRowsModel", "endAt", "[I", true)
  | 32 => ("FallRowsModel", "afterEnd", "[I", true)
  | 33 => ("FallRowsModel", "jumpTo", "[I", true)
  | 34 => ("FallRowsModel", "isLong", "[Z", true)
  | 35 => ("FallRowsModel", "longIn", "[I", true)
  | 36 => ("FallRowsModel", "jumpEnd", "[I", true)
  | 37 => ("FallRowsModel", "turns", "I", false)
  | 38 => ("FallRowsModel", "codeEnd", "I", false)
  | 39 => ("FallRowsModel", "total", "I", false)
  | 40 => ("FallRowsModel", "grows", "[Z", true)
  | 41 => ("FallRowsModel", "mayLearn", "Z", false)
  | 42 => ("FallRowsModel", "hasRun", "[Z", true)
  | 43 => ("FallRowsModel", "ranTold", "[I", true)
  | 44 => ("FallRowsModel", "passedBlock", "[I", true)
  | 45 => ("FallRowsModel", "taken", "[I", true)
  | 46 => ("FallRowsModel", "pageOf", "[I", true)
  | 47 => ("FallRowsModel", "now", "[I", true)
  | 48 => ("FallRowsModel", "path", "[I", true)
  | 49 => ("FallRowsModel", "calls", "[I", true)
  | 50 => ("FallRowsModel", "open", "I", false)
  | 51 => ("FallRowsModel", "lately", "[I", true)
  | 52 => ("FallRowsModel", "latelyMany", "I", false)
  | 53 => ("FallRowsModel", "nowTaken", "[I", true)
  | 54 => ("FallRowsModel", "nowPage", "[I", true)
  | 55 => ("FallRowsModel", "other", "[I", true)
  | _ => ("FallRowsModel", "otherTold", "[I", true)
def tyX12 : Nat → FieldType := fun k => match k with
  | 0 => .int
  | 1 => .array .int
  | 2 => .array .int
  | 3 => .array .int
  | 4 => .int
  | 5 => .array .int
  | 6 => .array .int
  | 7 => .array .boolean
  | 8 => .array .int
  | 9 => .array .int
  | 10 => .array .int
  | 11 => .array .int
  | 12 => .array .int
  | 13 => .boolean
  | 14 => .int
  | 15 => .int
  | 16 => .array .int
  | 17 => .int
  | 18 => .int
  | 19 => .array .int
  | 20 => .array .int
  | 21 => .array .int
  | 22 => .array .int
  | 23 => .array .int
  | 24 => .array .int
  | 25 => .array .boolean
  | 26 => .array .boolean
  | 27 => .array .int
  | 28 => .int
  | 29 => .array .int
  | 30 => .array .int
  | 31 => .array .int
  | 32 => .array .int
  | 33 => .array .int
  | 34 => .array .boolean
  | 35 => .array .int
  | 36 => .array .int
  | 37 => .int
  | 38 => .int
  | 39 => .int
  | 40 => .array .boolean
  | 41 => .boolean
  | 42 => .array .boolean
  | 43 => .array .int
  | 44 => .array .int
  | 45 => .array .int
  | 46 => .array .int
  | 47 => .array .int
  | 48 => .array .int
  | 49 => .array .int
  | 50 => .int
  | 51 => .array .int
  | 52 => .int
  | 53 => .array .int
  | 54 => .array .int
  | 55 => .array .int
  | _ => .array .int
abbrev wsX120 : List Cond := u_ws RX12 TX12 57
theorem nmX12 : ∀ a, a < 57 → ∀ b, b < 57 → a ≠ b → (TX12 a).2.1 ≠ (TX12 b).2.1 := by decide +kernel
theorem tyX12_ok : ∀ k, k < 57 → parseFieldDescriptor (TX12 k).2.2.1 = some (tyX12 k) := by decide +kernel
abbrev vwCl : List vw_C := [(RX0, TX0, 2), (RX1, TX1, 8), (RX2, TX2, 3), (RX3, TX3, 19), (RX4, TX4, 2), (RX5, TX5, 6), (RX6, TX6, 6), (RX7, TX7, 13), (RX8, TX8, 6), (RX9, TX9, 2), (RX10, TX10, 16), (RX11, TX11, 18), (RX12, TX12, 57)]
theorem inX0 : ∀ w ∈ wsX00, w ∈ lw_tbl := by
  have h : u_ws RX0 TX0 2 = ([247,249] : List Nat).filterMap (fun i => lw_tbl[i]?) := by decide +kernel
  intro w hw
  rw [show wsX00 = u_ws RX0 TX0 2 from rfl, h] at hw
  obtain ⟨i, -, hi⟩ := List.mem_filterMap.mp hw
  exact List.mem_of_getElem? hi
theorem inX1 : ∀ w ∈ wsX10, w ∈ lw_tbl := by
  have h : u_ws RX1 TX1 8 = ([279,281,283,285,287,289,291,293] : List Nat).filterMap (fun i => lw_tbl[i]?) := by decide +kernel
  intro w hw
  rw [show wsX10 = u_ws RX1 TX1 8 from rfl, h] at hw
  obtain ⟨i, -, hi⟩ := List.mem_filterMap.mp hw
  exact List.mem_of_getElem? hi
theorem inX2 : ∀ w ∈ wsX20, w ∈ lw_tbl := by
  have h : u_ws RX2 TX2 3 = ([232,234,236] : List Nat).filterMap (fun i => lw_tbl[i]?) := by decide +kernel
  intro w hw
  rw [show wsX20 = u_ws RX2 TX2 3 from rfl, h] at hw
  obtain ⟨i, -, hi⟩ := List.mem_filterMap.mp hw
  exact List.mem_of_getElem? hi
theorem inX3 : ∀ w ∈ wsX30, w ∈ lw_tbl := by
  have h : u_ws RX3 TX3 19 = ([340,342,344,346,348,350,352,354,356,358,360,362,364,366,368,370,372,374,376] : List Nat).filterMap (fun i => lw_tbl[i]?) := by decide +kernel
  intro w hw
  rw [show wsX30 = u_ws RX3 TX3 19 from rfl, h] at hw
  obtain ⟨i, -, hi⟩ := List.mem_filterMap.mp hw
  exact List.mem_of_getElem? hi
theorem inX4 : ∀ w ∈ wsX40, w ∈ lw_tbl := by
  have h : u_ws RX4 TX4 2 = ([260,262] : List Nat).filterMap (fun i => lw_tbl[i]?) := by decide +kernel
  intro w hw
  rw [show wsX40 = u_ws RX4 TX4 2 from rfl, h] at hw
  obtain ⟨i, -, hi⟩ := List.mem_filterMap.mp hw
  exact List.mem_of_getElem? hi
theorem inX5 : ∀ w ∈ wsX50, w ∈ lw_tbl := by
  have h : u_ws RX5 TX5 6 = ([207,209,211,213,215,217] : List Nat).filterMap (fun i => lw_tbl[i]?) := by decide +kernel
  intro w hw
  rw [show wsX50 = u_ws RX5 TX5 6 from rfl, h] at hw
  obtain ⟨i, -, hi⟩ := List.mem_filterMap.mp hw
  exact List.mem_of_getElem? hi
theorem inX6 : ∀ w ∈ wsX60, w ∈ lw_tbl := by
  have h : u_ws RX6 TX6 6 = ([392,394,396,398,400,402] : List Nat).filterMap (fun i => lw_tbl[i]?) := by decide +kernel
  intro w hw
  rw [show wsX60 = u_ws RX6 TX6 6 from rfl, h] at hw
  obtain ⟨i, -, hi⟩ := List.mem_filterMap.mp hw
  exact List.mem_of_getElem? hi
theorem inX7 : ∀ w ∈ wsX70, w ∈ lw_tbl := by
  have h : u_ws RX7 TX7 13 = ([163,165,167,169,171,173,175,177,179,181,183,185,187] : List Nat).filterMap (fun i => lw_tbl[i]?) := by decide +kernel
  intro w hw
  rw [show wsX70 = u_ws RX7 TX7 13 from rfl, h] at hw
  obtain ⟨i, -, hi⟩ := List.mem_filterMap.mp hw
  exact List.mem_of_getElem? hi
theorem inX8 : ∀ w ∈ wsX80, w ∈ lw_tbl := by
  have h : u_ws RX8 TX8 6 = ([432,434,436,438,440,442] : List Nat).filterMap (fun i => lw_tbl[i]?) := by decide +kernel
  intro w hw
  rw [show wsX80 = u_ws RX8 TX8 6 from rfl, h] at hw
  obtain ⟨i, -, hi⟩ := List.mem_filterMap.mp hw
  exact List.mem_of_getElem? hi
theorem inX9 : ∀ w ∈ wsX90, w ∈ lw_tbl := by
  have h : u_ws RX9 TX9 2 = ([415,417] : List Nat).filterMap (fun i => lw_tbl[i]?) := by decide +kernel
  intro w hw
  rw [show wsX90 = u_ws RX9 TX9 2 from rfl, h] at hw
  obtain ⟨i, -, hi⟩ := List.mem_filterMap.mp hw
  exact List.mem_of_getElem? hi
theorem inX10 : ∀ w ∈ wsX100, w ∈ lw_tbl := by
  have h : u_ws RX10 TX10 16 = ([486,488,490,492,494,496,498,500,502,504,506,508,510,512,514,516] : List Nat).filterMap (fun i => lw_tbl[i]?) := by decide +kernel
  intro w hw
  rw [show wsX100 = u_ws RX10 TX10 16 from rfl, h] at hw
  obtain ⟨i, -, hi⟩ := List.mem_filterMap.mp hw
  exact List.mem_of_getElem? hi
theorem inX11 : ∀ w ∈ wsX110, w ∈ lw_tbl := by
  have h : u_ws RX11 TX11 18 = ([537,539,541,543,545,547,549,551,553,555,557,559,561,563,565,567,569,571] : List Nat).filterMap (fun i => lw_tbl[i]?) := by decide +kernel
  intro w hw
  rw [show wsX110 = u_ws RX11 TX11 18 from rfl, h] at hw
  obtain ⟨i, -, hi⟩ := List.mem_filterMap.mp hw
  exact List.mem_of_getElem? hi
theorem inX12 : ∀ w ∈ wsX120, w ∈ lw_tbl := by
  have h : u_ws RX12 TX12 57 = ([1191,1193,1195,1197,1199,1201,1203,1205,1207,1209,1211,1213,1215,1217,1219,1221,1223,1225,1227,1229,1231,1233,1235,1237,1239,1241,1243,1245,1247,1249,1251,1253,1255,1257,1259,1261,1263,1265,1267,1269,1271,1273,1275,1277,1279,1281,1283,1285,1287,1289,1291,1293,1295,1297,1299,1301,1303] : List Nat).filterMap (fun i => lw_tbl[i]?) := by decide +kernel
  intro w hw
  rw [show wsX120 = u_ws RX12 TX12 57 from rfl, h] at hw
  obtain ⟨i, -, hi⟩ := List.mem_filterMap.mp hw
  exact List.mem_of_getElem? hi
