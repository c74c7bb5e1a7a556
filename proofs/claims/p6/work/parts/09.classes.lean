def FT0 : u_T := fun k => match k with
  | 0 => ("BigRunner", "line", "[C", true)
  | 1 => ("BigRunner", "lineLength", "I", false)
  | 2 => ("BigRunner", "reader", "LBigRunner$Reader;", true)
  | 3 => ("BigRunner", "runner", "LBigRunner$Runner;", true)
  | _ => ("BigRunner", "loaded", "Z", false)
def TY0 : Nat → FieldType := fun k => match k with
  | 0 => (.array .char)
  | 1 => .int
  | 2 => (.object "BigRunner$Reader")
  | 3 => (.object "BigRunner$Runner")
  | _ => .boolean
theorem nm0 : ∀ a, a < 5 → ∀ b, b < 5 → a ≠ b → (FT0 a).2.1 ≠ (FT0 b).2.1 := by decide +kernel
theorem ok0 : ∀ k, k < 5 → parseFieldDescriptor (FT0 k).2.2.1 = some (TY0 k) := by decide +kernel
theorem hw0 {U : State} (h : TB U) (args : Array Value) : ∀ w ∈ u_ws "BigRunner" FT0 5, w.before args U = true := h.all _ [383, 385, 387, 389, 391] (by decide +kernel) (by decide +kernel) args
def FT1 : u_T := fun k => match k with
  | 0 => ("BigRunner$Inputs", "ring", "[I", true)
  | 1 => ("BigRunner$Inputs", "first", "I", false)
  | _ => ("BigRunner$Inputs", "waiting", "I", false)
def TY1 : Nat → FieldType := fun k => match k with
  | 0 => (.array .int)
  | 1 => .int
  | _ => .int
theorem nm1 : ∀ a, a < 3 → ∀ b, b < 3 → a ≠ b → (FT1 a).2.1 ≠ (FT1 b).2.1 := by decide +kernel
theorem ok1 : ∀ k, k < 3 → parseFieldDescriptor (FT1 k).2.2.1 = some (TY1 k) := by decide +kernel
theorem hw1 {U : State} (h : TB U) (args : Array Value) : ∀ w ∈ u_ws "BigRunner$Inputs" FT1 3, w.before args U = true := h.all _ [303, 305, 307] (by decide +kernel) (by decide +kernel) args
def FT2 : u_T := fun k => match k with
  | 0 => ("BigRunner$Interval", "least", "J", false)
  | _ => ("BigRunner$Interval", "greatest", "J", false)
def TY2 : Nat → FieldType := fun k => match k with
  | 0 => .long
  | _ => .long
theorem nm2 : ∀ a, a < 2 → ∀ b, b < 2 → a ≠ b → (FT2 a).2.1 ≠ (FT2 b).2.1 := by decide +kernel
theorem ok2 : ∀ k, k < 2 → parseFieldDescriptor (FT2 k).2.2.1 = some (TY2 k) := by decide +kernel
theorem hw2 {U : State} (h : TB U) (args : Array Value) : ∀ w ∈ u_ws "BigRunner$Interval" FT2 2, w.before args U = true := h.all _ [132, 134] (by decide +kernel) (by decide +kernel) args
def FT3 : u_T := fun k => match k with
  | 0 => ("BigRunner$LongDivision", "dividend", "[I", true)
  | 1 => ("BigRunner$LongDivision", "divisor", "[I", true)
  | _ => ("BigRunner$LongDivision", "size", "I", false)
def TY3 : Nat → FieldType := fun k => match k with
  | 0 => (.array .int)
  | 1 => (.array .int)
  | _ => .int
theorem nm3 : ∀ a, a < 3 → ∀ b, b < 3 → a ≠ b → (FT3 a).2.1 ≠ (FT3 b).2.1 := by decide +kernel
theorem ok3 : ∀ k, k < 3 → parseFieldDescriptor (FT3 k).2.2.1 = some (TY3 k) := by decide +kernel
theorem hw3 {U : State} (h : TB U) (args : Array Value) : ∀ w ∈ u_ws "BigRunner$LongDivision" FT3 3, w.before args U = true := h.all _ [322, 324, 326] (by decide +kernel) (by decide +kernel) args
def FT4 : u_T := fun k => match k with
  | 0 => ("BigRunner$LongNumber", "sign", "I", false)
  | 1 => ("BigRunner$LongNumber", "size", "I", false)
  | _ => ("BigRunner$LongNumber", "limbs", "[I", true)
def TY4 : Nat → FieldType := fun k => match k with
  | 0 => .int
  | 1 => .int
  | _ => (.array .int)
theorem nm4 : ∀ a, a < 3 → ∀ b, b < 3 → a ≠ b → (FT4 a).2.1 ≠ (FT4 b).2.1 := by decide +kernel
theorem ok4 : ∀ k, k < 3 → parseFieldDescriptor (FT4 k).2.2.1 = some (TY4 k) := by decide +kernel
theorem hw4 {U : State} (h : TB U) (args : Array Value) : ∀ w ∈ u_ws "BigRunner$LongNumber" FT4 3, w.before args U = true := h.all _ [194, 196, 198] (by decide +kernel) (by decide +kernel) args
def FT5 : u_T := fun k => match k with
  | 0 => ("BigRunner$Node", "kind", "I", false)
  | 1 => ("BigRunner$Node", "left", "I", false)
  | 2 => ("BigRunner$Node", "right", "I", false)
  | 3 => ("BigRunner$Node", "interval", "LBigRunner$Interval;", true)
  | 4 => ("BigRunner$Node", "isSmall", "Z", false)
  | 5 => ("BigRunner$Node", "machine", "J", false)
  | _ => ("BigRunner$Node", "wide", "LBigRunner$LongNumber;", true)
def TY5 : Nat → FieldType := fun k => match k with
  | 0 => .int
  | 1 => .int
  | 2 => .int
  | 3 => (.object "BigRunner$Interval")
  | 4 => .boolean
  | 5 => .long
  | _ => (.object "BigRunner$LongNumber")
theorem nm5 : ∀ a, a < 7 → ∀ b, b < 7 → a ≠ b → (FT5 a).2.1 ≠ (FT5 b).2.1 := by decide +kernel
theorem ok5 : ∀ k, k < 7 → parseFieldDescriptor (FT5 k).2.2.1 = some (TY5 k) := by decide +kernel
theorem hw5 {U : State} (h : TB U) (args : Array Value) : ∀ w ∈ u_ws "BigRunner$Node" FT5 7, w.before args U = true := h.all _ [225, 227, 229, 231, 233, 235, 237] (by decide +kernel) (by decide +kernel) args
def FT6 : u_T := fun k => match k with
  | 0 => ("BigRunner$Program", "statements", "[LBigRunner$Statement;", true)
  | 1 => ("BigRunner$Program", "statementCount", "I", false)
  | 2 => ("BigRunner$Program", "nodes", "[LBigRunner$Node;", true)
  | 3 => ("BigRunner$Program", "nodeCount", "I", false)
  | 4 => ("BigRunner$Program", "variables", "[LBigRunner$Interval;", true)
  | _ => ("BigRunner$Program", "ofInput", "LBigRunner$Interval;", true)
def TY6 : Nat → FieldType := fun k => match k with
  | 0 => (.array (.object "BigRunner$Statement"))
  | 1 => .int
  | 2 => (.array (.object "BigRunner$Node"))
  | 3 => .int
  | 4 => (.array (.object "BigRunner$Interval"))
  | _ => (.object "BigRunner$Interval")
theorem nm6 : ∀ a, a < 6 → ∀ b, b < 6 → a ≠ b → (FT6 a).2.1 ≠ (FT6 b).2.1 := by decide +kernel
theorem ok6 : ∀ k, k < 6 → parseFieldDescriptor (FT6 k).2.2.1 = some (TY6 k) := by decide +kernel
theorem hw6 {U : State} (h : TB U) (args : Array Value) : ∀ w ∈ u_ws "BigRunner$Program" FT6 6, w.before args U = true := h.all _ [257, 259, 261, 263, 265, 267] (by decide +kernel) (by decide +kernel) args
def FT7 : u_T := fun k => match k with
  | 0 => ("BigRunner$Reader", "text", "[C", false)
  | 1 => ("BigRunner$Reader", "length", "I", false)
  | 2 => ("BigRunner$Reader", "at", "I", false)
  | _ => ("BigRunner$Reader", "program", "LBigRunner$Program;", false)
def TY7 : Nat → FieldType := fun k => match k with
  | 0 => (.array .char)
  | 1 => .int
  | 2 => .int
  | _ => (.object "BigRunner$Program")
theorem nm7 : ∀ a, a < 4 → ∀ b, b < 4 → a ≠ b → (FT7 a).2.1 ≠ (FT7 b).2.1 := by decide +kernel
theorem ok7 : ∀ k, k < 4 → parseFieldDescriptor (FT7 k).2.2.1 = some (TY7 k) := by decide +kernel
theorem hw7 {U : State} (h : TB U) (args : Array Value) : ∀ w ∈ u_ws "BigRunner$Reader" FT7 4, w.before args U = true := h.all _ [275, 277, 279, 281] (by decide +kernel) (by decide +kernel) args
def FT8 : u_T := fun k => match k with
  | 0 => ("BigRunner$Runner", "program", "LBigRunner$Program;", false)
  | 1 => ("BigRunner$Runner", "inputs", "LBigRunner$Inputs;", true)
  | 2 => ("BigRunner$Runner", "at", "I", false)
  | 3 => ("BigRunner$Runner", "machine", "[J", true)
  | 4 => ("BigRunner$Runner", "wide", "[LBigRunner$LongNumber;", true)
  | 5 => ("BigRunner$Runner", "shown", "LBigRunner$LongNumber;", true)
  | 6 => ("BigRunner$Runner", "division", "LBigRunner$LongDivision;", true)
  | 7 => ("BigRunner$Runner", "kept", "[LBigRunner$LongNumber;", true)
  | 8 => ("BigRunner$Runner", "outputs", "I", false)
  | 9 => ("BigRunner$Runner", "steps", "I", false)
  | 10 => ("BigRunner$Runner", "machineOperations", "I", false)
  | 11 => ("BigRunner$Runner", "longOperations", "I", false)
  | _ => ("BigRunner$Runner", "trap", "I", false)
def TY8 : Nat → FieldType := fun k => match k with
  | 0 => (.object "BigRunner$Program")
  | 1 => (.object "BigRunner$Inputs")
  | 2 => .int
  | 3 => (.array .long)
  | 4 => (.array (.object "BigRunner$LongNumber"))
  | 5 => (.object "BigRunner$LongNumber")
  | 6 => (.object "BigRunner$LongDivision")
  | 7 => (.array (.object "BigRunner$LongNumber"))
  | 8 => .int
  | 9 => .int
  | 10 => .int
  | 11 => .int
  | _ => .int
theorem nm8 : ∀ a, a < 13 → ∀ b, b < 13 → a ≠ b → (FT8 a).2.1 ≠ (FT8 b).2.1 := by decide +kernel
theorem ok8 : ∀ k, k < 13 → parseFieldDescriptor (FT8 k).2.2.1 = some (TY8 k) := by decide +kernel
theorem hw8 {U : State} (h : TB U) (args : Array Value) : ∀ w ∈ u_ws "BigRunner$Runner" FT8 13, w.before args U = true := h.all _ [351, 353, 355, 357, 359, 361, 363, 365, 367, 369, 371, 373, 375] (by decide +kernel) (by decide +kernel) args
def FT9 : u_T := fun k => match k with
  | 0 => ("BigRunner$Statement", "kind", "I", false)
  | 1 => ("BigRunner$Statement", "name", "I", false)
  | 2 => ("BigRunner$Statement", "firstNode", "I", false)
  | 3 => ("BigRunner$Statement", "lastNode", "I", false)
  | _ => ("BigRunner$Statement", "target", "I", false)
def TY9 : Nat → FieldType := fun k => match k with
  | 0 => .int
  | 1 => .int
  | 2 => .int
  | 3 => .int
  | _ => .int
theorem nm9 : ∀ a, a < 5 → ∀ b, b < 5 → a ≠ b → (FT9 a).2.1 ≠ (FT9 b).2.1 := by decide +kernel
theorem ok9 : ∀ k, k < 5 → parseFieldDescriptor (FT9 k).2.2.1 = some (TY9 k) := by decide +kernel
theorem hw9 {U : State} (h : TB U) (args : Array Value) : ∀ w ∈ u_ws "BigRunner$Statement" FT9 5, w.before args U = true := h.all _ [162, 164, 166, 168, 170] (by decide +kernel) (by decide +kernel) args
def FT10 : u_T := fun k => match k with
  | 0 => ("BigRunnerModel", "thrown", "I", false)
  | 1 => ("BigRunnerModel", "text", "[C", true)
  | 2 => ("BigRunnerModel", "length", "I", false)
  | 3 => ("BigRunnerModel", "draft", "[I", true)
  | 4 => ("BigRunnerModel", "draftArg", "[I", true)
  | 5 => ("BigRunnerModel", "drafts", "I", false)
  | 6 => ("BigRunnerModel", "code", "[I", true)
  | 7 => ("BigRunnerModel", "arg", "[I", true)
  | 8 => ("BigRunnerModel", "machineSign", "[Z", true)
  | 9 => ("BigRunnerModel", "size", "I", false)
  | 10 => ("BigRunnerModel", "at", "I", false)
  | 11 => ("BigRunnerModel", "depth", "I", false)
  | 12 => ("BigRunnerModel", "wait", "[C", true)
  | 13 => ("BigRunnerModel", "waits", "I", false)
  | 14 => ("BigRunnerModel", "begins", "[I", true)
  | 15 => ("BigRunnerModel", "kinds", "[I", true)
  | 16 => ("BigRunnerModel", "opened", "I", false)
  | 17 => ("BigRunnerModel", "low", "[J", true)
  | 18 => ("BigRunnerModel", "high", "[J", true)
  | 19 => ("BigRunnerModel", "under", "[Z", true)
  | 20 => ("BigRunnerModel", "over", "[Z", true)
  | 21 => ("BigRunnerModel", "a", "[J", true)
  | 22 => ("BigRunnerModel", "b", "[J", true)
  | 23 => ("BigRunnerModel", "ua", "[Z", true)
  | 24 => ("BigRunnerModel", "ub", "[Z", true)
  | 25 => ("BigRunnerModel", "bounded", "[Z", true)
  | 26 => ("BigRunnerModel", "varLimbs", "[I", true)
  | 27 => ("BigRunnerModel", "varSign", "[I", true)
  | 28 => ("BigRunnerModel", "outLimbs", "[I", true)
  | 29 => ("BigRunnerModel", "outSign", "[I", true)
  | 30 => ("BigRunnerModel", "limbs", "[I", true)
  | 31 => ("BigRunnerModel", "sign", "[I", true)
  | 32 => ("BigRunnerModel", "top", "I", false)
  | 33 => ("BigRunnerModel", "result", "[I", true)
  | 34 => ("BigRunnerModel", "rest", "[I", true)
  | 35 => ("BigRunnerModel", "inputs", "[I", true)
  | 36 => ("BigRunnerModel", "waiting", "I", false)
  | 37 => ("BigRunnerModel", "given", "I", false)
  | 38 => ("BigRunnerModel", "pc", "I", false)
  | 39 => ("BigRunnerModel", "state", "I", false)
  | 40 => ("BigRunnerModel", "trap", "I", false)
  | 41 => ("BigRunnerModel", "steps", "I", false)
  | 42 => ("BigRunnerModel", "machine", "I", false)
  | 43 => ("BigRunnerModel", "longs", "I", false)
  | _ => ("BigRunnerModel", "dueStatement", "Z", false)
def TY10 : Nat → FieldType := fun k => match k with
  | 0 => .int
  | 1 => (.array .char)
  | 2 => .int
  | 3 => (.array .int)
  | 4 => (.array .int)
  | 5 => .int
  | 6 => (.array .int)
  | 7 => (.array .int)
  | 8 => (.array .boolean)
  | 9 => .int
  | 10 => .int
  | 11 => .int
  | 12 => (.array .char)
  | 13 => .int
  | 14 => (.array .int)
  | 15 => (.array .int)
  | 16 => .int
  | 17 => (.array .long)
  | 18 => (.array .long)
  | 19 => (.array .boolean)
  | 20 => (.array .boolean)
  | 21 => (.array .long)
  | 22 => (.array .long)
  | 23 => (.array .boolean)
  | 24 => (.array .boolean)
  | 25 => (.array .boolean)
  | 26 => (.array .int)
  | 27 => (.array .int)
  | 28 => (.array .int)
  | 29 => (.array .int)
  | 30 => (.array .int)
  | 31 => (.array .int)
  | 32 => .int
  | 33 => (.array .int)
  | 34 => (.array .int)
  | 35 => (.array .int)
  | 36 => .int
  | 37 => .int
  | 38 => .int
  | 39 => .int
  | 40 => .int
  | 41 => .int
  | 42 => .int
  | 43 => .int
  | _ => .boolean
theorem nm10 : ∀ a, a < 45 → ∀ b, b < 45 → a ≠ b → (FT10 a).2.1 ≠ (FT10 b).2.1 := by decide +kernel
theorem ok10 : ∀ k, k < 45 → parseFieldDescriptor (FT10 k).2.2.1 = some (TY10 k) := by decide +kernel
theorem hw10 {U : State} (h : TB U) (args : Array Value) : ∀ w ∈ u_ws "BigRunnerModel" FT10 45, w.before args U = true := h.all _ [992, 994, 996, 998, 1000, 1002, 1004, 1006, 1008, 1010, 1012, 1014, 1016, 1018, 1020, 1022, 1024, 1026, 1028, 1030, 1032, 1034, 1036, 1038, 1040, 1042, 1044, 1046, 1048, 1050, 1052, 1054, 1056, 1058, 1060, 1062, 1064, 1066, 1068, 1070, 1072, 1074, 1076, 1078, 1080] (by decide +kernel) (by decide +kernel) args
abbrev vcl : List vw_C := [("BigRunner", FT0, 5), ("BigRunner$Inputs", FT1, 3), ("BigRunner$Interval", FT2, 2), ("BigRunner$LongDivision", FT3, 3), ("BigRunner$LongNumber", FT4, 3), ("BigRunner$Node", FT5, 7), ("BigRunner$Program", FT6, 6), ("BigRunner$Reader", FT7, 4), ("BigRunner$Runner", FT8, 13), ("BigRunner$Statement", FT9, 5), ("BigRunnerModel", FT10, 45)]

