def FT0 : u_T := fun k => match k with
  | 0 => ("BigRunner", "line", "[C", true)
  | 1 => ("BigRunner", "lineLength", "I", false)
  | 2 => ("BigRunner", "reader", "LBigRunner$Reader;", true)
  | 3 => ("BigRunner", "runner", "LBigRunner$Runner;", true)
  | _ => ("BigRunner", "loaded", "Z", false)
def TY0 : Nat → FieldType := fun k => match k with
  | 0 => (.array .char)
  | 1 => .int
  | 2 => (.object "BigRunner$Reader")
  | 3 => (.object "BigRunner$Runner")
  | _ => .boolean
theorem nm0 : ∀ a, a < 5 → ∀ b, b < 5 → a ≠ b → (FT0 a).2.1 ≠ (FT0 b).2.1 := by decide +kernel
theorem ok0 : ∀ k, k < 5 → parseFieldDescriptor (FT0 k).2.2.1 = some (TY0 k) := by decide +kernel
theorem hw0 {U : State} (h : TB U) (args : Array Value) : ∀ w ∈ u_ws "BigRunner" FT0 5, w.before args U = true := h.all _ [383, 385, 387, 389, 391] (by decide +kernel) (by decide +kernel) args
def FT1 : u_T := fun k => match k with
  | 0 => ("BigRunner$Inputs", "ring", "[I", true)
  | 1 => ("BigRunner$Inputs", "first", "I", false)
  | _ => ("BigRunner$Inputs", "waiting", "I", false)
def TY1 : Nat → FieldType := fun k => match k with
  | 0 => (.array .int)
  | 1 => .int
  | _ => .int
theorem nm1 : ∀ a, a < 3 → ∀ b, b < 3 → a ≠ b → (FT1 a).2.1 ≠ (FT1 b).2.1 := by decide +kernel
theorem ok1 : ∀ k, k < 3 → parseFieldDescriptor (FT1 k).2.2.1 = some (TY1 k) := by decide +kernel
theorem hw1 {U : State} (h : TB U) (args : Array Value) : ∀ w ∈ u_ws "BigRunner$Inputs" FT1 3, w.before args U = true := h.all _ [303, 305, 307] (by decide +kernel) (by decide +kernel) args
def FT2 : u_T := fun k => match k with
  | 0 => ("BigRunner$Interval", "least", "J", false)
  | _ => ("BigRunner$Interval", "greatest", "J", false)
def TY2 : Nat → FieldType := fun k => match k with
  | 0 => .long
  | _ => .long
theorem nm2 : ∀ a, a < 2 → ∀ b, b < 2 → a ≠ b → (FT2 a).2.1 ≠ (FT2 b).2.1 := by decide +kernel
theorem ok2 : ∀ k, k < 2 → parseFieldDescriptor (FT2 k).2.2.1 = some (TY2 k) := by decide +kernel
theorem hw2 {U : State} (h : TB U) (args : Array Value) : ∀ w ∈ u_ws "BigRunner$Interval" FT2 2, w.before args U = true := h.all _ [132, 134] (by decide +kernel) (by decide +kernel) args
def FT3 : u_T := fun k => match k with
  | 0 => ("BigRunner$LongDivision", "dividend", "[I", true)
  | 1 => ("BigRunner$LongDivision", "divisor", "[I", true)
  | _ => ("BigRunner$LongDivision", "size", "I", false)
def TY3 : Nat → FieldType := fun k => match k with
  | 0 => (.array .int)
  | 1 => (.array .int)
  | _ => .int
theorem nm3 : ∀ a, a < 3 → ∀ b, b < 3 → a ≠ b → (FT3 a).2.1 ≠ (FT3 b).2.1 := by decide +kernel
theorem ok3 : ∀ k, k < 3 → parseFieldDescriptor (FT3 k).2.2.1 = some (TY3 k) := by decide +kernel
theorem hw3 {U : State} (h : TB U) (args : Array Value) : ∀ w ∈ u_ws "BigRunner$LongDivision" FT3 3, w.before args U = true := h.all _ [322, 324, 326] (by decide +kernel) (by decide +kernel) args
def FT4 : u_T := fun k => match k with
  | 0 => ("BigRunner$LongNumber", "sign", "I", false)
  | 1 => ("BigRunner$LongNumber", "size", "I", false)
  | _ => ("BigRunner$LongNumber", "limbs", "[I", true)
def TY4 : Nat → FieldType := fun k => match k with
  | 0 => .int
  | 1 => .int
  | _ => (.array .int)
theorem nm4 : ∀ a, a < 3 → ∀ b, b < 3 → a ≠ b → (FT4 a).2.1 ≠ (FT4 b).2.1 := by decide +kernel
theorem ok4 : ∀ k, k < 3 → parseFieldDescriptor (FT4 k).2.2.1 = some (TY4 k) := by decide +kernel
theorem hw4 {U : State} (h : TB U) (args : Array Value) : ∀ w ∈ u_ws "BigRunner$LongNumber" FT4 3, w.before args U = true := h.all _ [194, 196, 198] (by decide +kernel) (by decide +kernel) args
def FT5 : u_T := fun k => match k with
  | 0 => ("BigRunner$Node", "kind", "I", false)
  | 1 => ("BigRunner$Node", "left", "I", false)
  | 2 => ("BigRunner$Node", "right", "I", false)
  | 3 => ("BigRunner$Node", "interval", "LBigRunner$Interval;", true)
  | 4 => ("BigRunner$Node", "isSmall", "Z", false)
  | 5 => ("BigRunner$Node", "machine", "J", false)
  | _ => ("BigRunner$Node", "wide", "LBigRunner$LongNumber;", true)
def TY5 : Nat → FieldType := fun k => match k with
  | 0 => .int
  | 1 => .int
  | 2 => .int
  | 3 => (.object "BigRunner$Interval")
  | 4 => .boolean
  | 5 => .long
  | _ => (.object "BigRunner$LongNumber")
theorem nm5 : ∀ a, a < 7 → ∀ b, b < 7 → a ≠ b → (FT5 a).2.1 ≠ (FT5 b).2.1 := by decide +kernel
theorem ok5 : ∀ k, k < 7 → parseFieldDescriptor (FT5 k).2.2.1 = some (TY5 k) := by decide +kernel
theorem hw5 {U : State} (h : TB U) (args : Array Value) : ∀ w ∈ u_ws "BigRunner$Node" FT5 7, w.before args U = true := h.all _ [225, 227, 229, 231, 233, 235, 237] (by decide +kernel) (by decide +kernel) args
def FT6 : u_T := fun k => match k with
  | 0 => ("BigRunner$Program", "statements", "[LBigRunner$Statement;", true)
  | 1 => ("BigRunner$Program", "statementCount", "I", false)
  | 2 => ("BigRunner$Program", "nodes", "[LBigRunner$Node;", true)
  | 3 => ("BigRunner$Program", "nodeCount", "I", false)
  | 4 => ("BigRunner$Program", "variables", "[LBigRunner$Interval;", true)
  | _ => ("BigRunner$Program", "ofInput", "LBigRunner$Interval;", true)
def TY6 : Nat → FieldType := fun k => match k with
  | 0 => (.array (.object "BigRunner$Statement"))
  | 1 => .int
  | 2 => (.array (.object "BigRunner$Node"))
  | 3 => .int
  | 4 => (.array (.object "BigRunner$Interval"))
  | _ => (.object "BigRunner$Interval")
theorem nm6 : ∀ a, a < 6 → ∀ b, b < 6 → a ≠ b → (FT6 a).2.1 ≠ (FT6 b).2.1 := by decide +kernel
theorem ok6 : ∀ k, k < 6 → parseFieldDescriptor (FT6 k).2.2.1 = some (TY6 k) := by decide +kernel
theorem hw6 {U : State} (h : TB U) (args : Array Value) : ∀ w ∈ u_ws "BigRunner$Program" FT6 6, w.before args U = true := h.all _ [257, 259, 261, 263, 265, 267] (by decide +kernel) (by decide +kernel) args
def FT7 : u_T := fun k => match k with
  | 0 => ("BigRunner$Reader", "text", "[C", false)
  | 1 => ("BigRunner$Reader", "length", "I", false)
  | 2 => ("BigRunner$Reader", "at", "I", false)
  | _ => ("BigRunner$Reader", "program", "LBigRunner$Program;", false)
def TY7 : Nat → FieldType := fun k => match k with
  | 0 => (.array .char)
  | 1 => .int
  | 2 => .int
  | _ => (.object "BigRunner$Program")
theorem nm7 : ∀ a, a < 4 → ∀ b, b < 4 → a ≠ b → (FT7 a).2.1 ≠ (FT7 b).2.1 := by decide +kernel
theorem ok7 : ∀ k, k < 4 → parseFieldDescriptor (FT7 k).2.2.1 = some (TY7 k) := by decide +kernel
theorem hw7 {U : State} (h : TB U) (args : Array Value) : ∀ w ∈ u_ws "BigRunner$Reader" FT7 4, w.before args U = true := h.all _ [275, 277, 279, 281] (by decide +kernel) (by decide +kernel) args
def FT8 : u_T := fun k => match k with
  | 0 => ("BigRunner$Runner", "program", "LBigRunner$Program;", false)
  | 1 => ("BigRunner$Runner", "inputs", "LBigRunner$Inputs;", true)
  | 2 => ("BigRunner$Runner", "at", "I", false)
  | 3 => ("BigRunner$Runner", "machine", "[J", true)
  | 4 => ("BigRunner$Runner", "wide", "[LBigRunner$LongNumber;", true)
  | 5 => ("BigRunner$Runner", "shown", "LBigRunner$LongNumber;", true)
  | 6 => ("BigRunner$Runner", "division", "LBigRunner$LongDivision;", true)
  | 7 => ("BigRunner$Runner", "kept", "[LBigRunner$LongNumber;", true)
  | 8 => ("BigRunner$Runner", "outputs", "I", false)
  | 9 => ("BigRunner$Runner", "steps", "I", false)
  | 10 => ("BigRunner$Runner", "machineOperations", "I", false)
  | 11 => ("BigRunner$Runner", "longOperations", "I", false)
  | _ => ("BigRunner$Runner", "trap", "I", false)
def TY8 : Nat → FieldType := fun k => match k with
  | 0 => (.object "BigRunner$Program")
  | 1 => (.object "BigRunner$Inputs")
  | 2 => .int
  | 3 => (.array .long)
  | 4 => (.array (.object "BigRunner$LongNumber"))
  | 5 => (.object "BigRunner$LongNumber")
  | 6 => (.object "BigRunner$LongDivision")
  | 7 => (.array (.object "BigRunner$LongNumber"))
  | 8 => .int
  | 9 => .int
  | 10 => .int
  | 11 => .int
  | _ => .int
theorem nm8 : ∀ a, a < 13 → ∀ b, b < 13 → a ≠ b → (FT8 a).2.1 ≠ (FT8 b).2.1 := by decide +kernel
theorem ok8 : ∀ k, k < 13 → parseFieldDescriptor (FT8 k).2.2.1 = some (TY8 k) := by decide +kernel
theorem hw8 {U : State} (h : TB U) (args : Array Value) : ∀ w ∈ u_ws "BigRunner$Runner" FT8 13, w.before args U = true := h.all _ [351, 353, 355, 357, 359, 361, 363, 365, 367, 369, 371, 373, 375] (by decide +kernel) (by decide +kernel) args
def FT9 : u_T := fun k => match k with
  | 0 => ("BigRunner$Statement", "kind", "I", false)
  | 1 => ("BigRunner$Statement", "name", "I", false)
  | 2 => ("BigRunner$Statement", "firstNode", "I", false)
  | 3 => ("BigRunner$Statement", "lastNode", "I", false)
  | _ => ("BigRunner$Statement", "target", "I", false)
def TY9 : Nat → FieldType := fun k => match k with
  | 0 => .int
  | 1 => .int
  | 2 => .int
  | 3 => .int
  | _ => .int
theorem nm9 : ∀ a, a < 5 → ∀ b, b < 5 → a ≠ b → (FT9 a).2.1 ≠ (FT9 b).2.1 := by decide +kernel
theorem ok9 : ∀ k, k < 5 → parseFieldDescriptor (FT9 k).2.2.1 = some (TY9 k) := by decide +kernel
theorem hw9 {U : State} (h : TB U) (args : Array Value) : ∀ w ∈ u_ws "BigRunner$Statement" FT9 5, w.before args U = true := h.all _ [162, 164, 166, 168, 170] (by decide +kernel) (by decide +kernel) args
def FT10 : u_T := fun k => match k with
  | 0 => ("BigRunnerModel", "thrown", "I", false)
  | 1 => ("BigRunnerModel", "text", "[C", true)
  | 2 => ("BigRunnerModel", "length", "I", false)
  | 3 => ("BigRunnerModel", "draft", "[I", true)
  | 4 => ("BigRunnerModel", "draftArg", "[I", true)
  | 5 => ("BigRunnerModel", "drafts", "I", false)
  | 6 => ("BigRunnerModel", "code", "[I", true)
  | 7 => ("BigRunnerModel", "arg", "[I", true)
  | 8 => ("BigRunnerModel", "machineSign", "[Z", true)
  | 9 => ("BigRunnerModel", "size", "I", false)
  | 10 => ("BigRunnerModel", "at", "I", false)
  | 11 => ("BigRunnerModel", "depth", "I", false)
  | 12 => ("BigRunnerModel", "wait", "[C", true)
  | 13 => ("BigRunnerModel", "waits", "I", false)
  | 14 => ("BigRunnerModel", "begins", "[I", true)
  | 15 => ("BigRunnerModel", "kinds", "[I", true)
  | 16 => ("BigRunnerModel", "opened", "I", false)
  | 17 => ("BigRunnerModel", "low", "[J", true)
  | 18 => ("BigRunnerModel", "high", "[J", true)
  | 19 => ("BigRunnerModel", "under", "[Z", true)
  | 20 => ("BigRunnerModel", "over", "[Z", true)
  | 21 => ("BigRunnerModel", "a", "[J", true)
  | 22 => ("BigRunnerModel", "b", "[J", true)
  | 23 => ("BigRunnerModel", "ua", "[Z", true)
  | 24 => ("BigRunnerModel", "ub", "[Z", true)
  | 25 => ("BigRunnerModel", "bounded", "[Z", true)
  | 26 => ("BigRunnerModel", "varLimbs", "[I", true)
  | 27 => ("BigRunnerModel", "varSign", "[I", true)
  | 28 => ("BigRunnerModel", "outLimbs", "[I", true)
  | 29 => ("BigRunnerModel", "outSign", "[I", true)
  | 30 => ("BigRunnerModel", "limbs", "[I", true)
  | 31 => ("BigRunnerModel", "sign", "[I", true)
  | 32 => ("BigRunnerModel", "top", "I", false)
  | 33 => ("BigRunnerModel", "result", "[I", true)
  | 34 => ("BigRunnerModel", "rest", "[I", true)
  | 35 => ("BigRunnerModel", "inputs", "[I", true)
  | 36 => ("BigRunnerModel", "waiting", "I", false)
  | 37 => ("BigRunnerModel", "given", "I", false)
  | 38 => ("BigRunnerModel", "pc", "I", false)
  | 39 => ("BigRunnerModel", "state", "I", false)
  | 40 => ("BigRunnerModel", "trap", "I", false)
  | 41 => ("BigRunnerModel", "steps", "I", false)
  | 42 => ("BigRunnerModel", "machine", "I", false)
  | 43 => ("BigRunnerModel", "longs", "I", false)
  | _ => ("BigRunnerModel", "dueStatement", "Z", false)
def TY10 : Nat → FieldType := fun k => match k with
  | 0 => .int
  | 1 => (.array .char)
  | 2 => .int
  | 3 => (.array .int)
  | 4 => (.array .int)
  | 5 => .int
  | 6 => (.array .int)
  | 7 => (.array .int)
  | 8 => (.array .boolean)
  | 9 => .int
  | 10 => .int
  | 11 => .int
  | 12 => (.array .char)
  | 13 => .int
  | 14 => (.array .int)
  | 15 => (.array .int)
  | 16 => .int
  | 17 => (.array .long)
  | 18 => (.array .long)
  | 19 => (.array .boolean)
  | 20 => (.array .boolean)
  | 21 => (.array .long)
  | 22 => (.array .long)
  | 23 => (.array .boolean)
  | 24 => (.array .boolean)
  | 25 => (.array .boolean)
  | 26 => (.array .int)
  | 27 => (.array .int)
  | 28 => (.array .int)
  | 29 => (.array .int)
  | 30 => (.array .int)
  | 31 => (.array .int)
  | 32 => .int
  | 33 => (.array .int)
  | 34 => (.array .int)
  | 35 => (.array .int)
  | 36 => .int
  | 37 => .int
  | 38 => .int
  | 39 => .int
  | 40 => .int
  | 41 => .int
  | 42 => .int
  | 43 => .int
  | _ => .boolean
theorem nm10 : ∀ a, a < 45 → ∀ b, b < 45 → a ≠ b → (FT10 a).2.1 ≠ (FT10 b).2.1 := by decide +kernel
theorem ok10 : ∀ k, k < 45 → parseFieldDescriptor (FT10 k).2.2.1 = some (TY10 k) := by decide +kernel
theorem hw10 {U : State} (h : TB U) (args : Array Value) : ∀ w ∈ u_ws "BigRunnerModel" FT10 45, w.before args U = true := h.all _ [992, 994, 996, 998, 1000, 1002, 1004, 1006, 1008, 1010, 1012, 1014, 1016, 1018, 1020, 1022, 1024, 1026, 1028, 1030, 1032, 1034, 1036, 1038, 1040, 1042, 1044, 1046, 1048, 1050, 1052, 1054, 1056, 1058, 1060, 1062, 1064, 1066, 1068, 1070, 1072, 1074, 1076, 1078, 1080] (by decide +kernel) (by decide +kernel) args
abbrev vcl : List vw_C := [("BigRunner", FT0, 5), ("BigRunner$Inputs", FT1, 3), ("BigRunner$Interval", FT2, 2), ("BigRunner$LongDivision", FT3, 3), ("BigRunner$LongNumber", FT4, 3), ("BigRunner$Node", FT5, 7), ("BigRunner$Program", FT6, 6), ("BigRunner$Reader", FT7, 4), ("BigRunner$Runner", FT8, 13), ("BigRunner$Statement", FT9, 5), ("BigRunnerModel", FT10, 45)]
theorem wd_0 {U : State} (h : TB U) (args : Array Value) : (Cond.selects "BigRunner" ⟨"BigRunner", "state", "()I"⟩ ⟨"BigRunner", "state", "()I"⟩).before args U = true := h.w 0 (by decide +kernel) rfl args
theorem wd_1 {U : State} (h : TB U) (args : Array Value) : (Cond.selects "BigRunner" ⟨"BigRunner", "hasVariable", "(I)Z"⟩ ⟨"BigRunner", "hasVariable", "(I)Z"⟩).before args U = true := h.w 1 (by decide +kernel) rfl args
theorem wd_2 {U : State} (h : TB U) (args : Array Value) : (Cond.selects "BigRunner$Reader" ⟨"BigRunner$Reader", "readProgram", "(I)Z"⟩ ⟨"BigRunner$Reader", "readProgram", "(I)Z"⟩).before args U = true := h.w 2 (by decide +kernel) rfl args
theorem wd_3 {U : State} (h : TB U) (args : Array Value) : (Cond.selects "BigRunner$Reader" ⟨"BigRunner$Reader", "readStatement", "(I)Z"⟩ ⟨"BigRunner$Reader", "readStatement", "(I)Z"⟩).before args U = true := h.w 3 (by decide +kernel) rfl args
theorem wd_4 {U : State} (h : TB U) (args : Array Value) : (Cond.selects "BigRunner$Reader" ⟨"BigRunner$Reader", "accept", "(C)Z"⟩ ⟨"BigRunner$Reader", "accept", "(C)Z"⟩).before args U = true := h.w 4 (by decide +kernel) rfl args
theorem wd_5 {U : State} (h : TB U) (args : Array Value) : (Cond.selects "BigRunner$Reader" ⟨"BigRunner$Reader", "next", "()C"⟩ ⟨"BigRunner$Reader", "next", "()C"⟩).before args U = true := h.w 5 (by decide +kernel) rfl args
theorem wd_6 {U : State} (h : TB U) (args : Array Value) : (Cond.selects "BigRunner$Reader" ⟨"BigRunner$Reader", "addStatement", "(I)I"⟩ ⟨"BigRunner$Reader", "addStatement", "(I)I"⟩).before args U = true := h.w 6 (by decide +kernel) rfl args
theorem wd_7 {U : State} (h : TB U) (args : Array Value) : (Cond.selects "BigRunner$Reader" ⟨"BigRunner$Reader", "readName", "(I)Z"⟩ ⟨"BigRunner$Reader", "readName", "(I)Z"⟩).before args U = true := h.w 7 (by decide +kernel) rfl args
theorem wd_72 {U : State} (h : TB U) (args : Array Value) : (Cond.initialized "BigRunner").before args U = true := h.w 72 (by decide +kernel) rfl args
theorem wd_73 {U : State} (h : TB U) (args : Array Value) : (Cond.initialized "BigRunner$Reader").before args U = true := h.w 73 (by decide +kernel) rfl args
theorem wd_74 {U : State} (h : TB U) (args : Array Value) : (Cond.initialized "BigRunner$Program").before args U = true := h.w 74 (by decide +kernel) rfl args
theorem wd_75 {U : State} (h : TB U) (args : Array Value) : (Cond.initialized "BigRunner$Interval").before args U = true := h.w 75 (by decide +kernel) rfl args
theorem wd_76 {U : State} (h : TB U) (args : Array Value) : (Cond.initialized "BigRunner$Statement").before args U = true := h.w 76 (by decide +kernel) rfl args
theorem wd_77 {U : State} (h : TB U) (args : Array Value) : (Cond.initialized "BigRunner$Node").before args U = true := h.w 77 (by decide +kernel) rfl args
theorem wd_78 {U : State} (h : TB U) (args : Array Value) : (Cond.initialized "BigRunner$LongNumber").before args U = true := h.w 78 (by decide +kernel) rfl args
theorem wd_79 {U : State} (h : TB U) (args : Array Value) : (Cond.initialized "BigRunner$Runner").before args U = true := h.w 79 (by decide +kernel) rfl args
theorem wd_80 {U : State} (h : TB U) (args : Array Value) : (Cond.initialized "BigRunner$Inputs").before args U = true := h.w 80 (by decide +kernel) rfl args
theorem wd_81 {U : State} (h : TB U) (args : Array Value) : (Cond.initialized "BigRunner$LongDivision").before args U = true := h.w 81 (by decide +kernel) rfl args
theorem wd_83 {U : State} (h : TB U) (args : Array Value) : (Cond.initialized "java/lang/Math").before args U = true := h.w 83 (by decide +kernel) rfl args
theorem wd_100 {U : State} (h : TB U) (args : Array Value) : (Cond.methodLink "BigRunner" 1 ⟨"java/lang/Object", "<init>", "()V"⟩).before args U = true := h.w 100 (by decide +kernel) rfl args
theorem wd_101 {U : State} (h : TB U) (args : Array Value) : (Cond.instanceMethod ⟨"java/lang/Object", "<init>", "()V"⟩).before args U = true := h.w 101 (by decide +kernel) rfl args
theorem wd_102 {U : State} (h : TB U) (args : Array Value) : (Cond.code ⟨"java/lang/Object", "<init>", "()V"⟩ ⟨#[0xb1]⟩ 1 none).before args U = true := h.w 102 (by decide +kernel) rfl args
theorem wd_103 {U : State} (h : TB U) (args : Array Value) : (Cond.classLink "BigRunner" 17 "BigRunner$Reader").before args U = true := h.w 103 (by decide +kernel) rfl args
theorem wd_104 {U : State} (h : TB U) (args : Array Value) : (Cond.instantiable "BigRunner$Reader" 4).before args U = true := h.w 104 (by decide +kernel) rfl args
theorem wd_105 {U : State} (h : TB U) (args : Array Value) : (Cond.methodLinkNest "BigRunner" 19 ⟨"BigRunner$Reader", "<init>", "()V"⟩ "BigRunner").before args U = true := h.w 105 (by decide +kernel) rfl args
theorem wd_106 {U : State} (h : TB U) (args : Array Value) : (Cond.instanceMethod ⟨"BigRunner$Reader", "<init>", "()V"⟩).before args U = true := h.w 106 (by decide +kernel) rfl args
theorem wd_107 {U : State} (h : TB U) (args : Array Value) : (Cond.code ⟨"BigRunner$Reader", "<init>", "()V"⟩ prog_8_method_1_code 1 none).before args U = true := h.w 107 (by decide +kernel) rfl args
theorem wd_108 {U : State} (h : TB U) (args : Array Value) : (Cond.methodLink "BigRunner$Reader" 3 ⟨"java/lang/Object", "<init>", "()V"⟩).before args U = true := h.w 108 (by decide +kernel) rfl args
theorem wd_109 {U : State} (h : TB U) (args : Array Value) : (Cond.classLink "BigRunner$Reader" 22 "BigRunner$Program").before args U = true := h.w 109 (by decide +kernel) rfl args
theorem wd_110 {U : State} (h : TB U) (args : Array Value) : (Cond.instantiable "BigRunner$Program" 6).before args U = true := h.w 110 (by decide +kernel) rfl args
theorem wd_111 {U : State} (h : TB U) (args : Array Value) : (Cond.methodLink "BigRunner$Reader" 24 ⟨"BigRunner$Program", "<init>", "()V"⟩).before args U = true := h.w 111 (by decide +kernel) rfl args
theorem wd_112 {U : State} (h : TB U) (args : Array Value) : (Cond.instanceMethod ⟨"BigRunner$Program", "<init>", "()V"⟩).before args U = true := h.w 112 (by decide +kernel) rfl args
theorem wd_113 {U : State} (h : TB U) (args : Array Value) : (Cond.code ⟨"BigRunner$Program", "<init>", "()V"⟩ prog_7_method_1_code 2 none).before args U = true := h.w 113 (by decide +kernel) rfl args
theorem wd_114 {U : State} (h : TB U) (args : Array Value) : (Cond.methodLink "BigRunner$Program" 5 ⟨"java/lang/Object", "<init>", "()V"⟩).before args U = true := h.w 114 (by decide +kernel) rfl args
theorem wd_115 {U : State} (h : TB U) (args : Array Value) : (Cond.classLink "BigRunner$Program" 11 "BigRunner$Statement").before args U = true := h.w 115 (by decide +kernel) rfl args
theorem wd_116 {U : State} (h : TB U) (args : Array Value) : (Cond.arrayOver (.object "BigRunner$Statement")).before args U = true := h.w 116 (by decide +kernel) rfl args
theorem wd_117 {U : State} (h : TB U) (args : Array Value) : (Cond.classLink "BigRunner$Program" 21 "BigRunner$Node").before args U = true := h.w 117 (by decide +kernel) rfl args
theorem wd_118 {U : State} (h : TB U) (args : Array Value) : (Cond.arrayOver (.object "BigRunner$Node")).before args U = true := h.w 118 (by decide +kernel) rfl args
theorem wd_119 {U : State} (h : TB U) (args : Array Value) : (Cond.classLink "BigRunner$Program" 30 "BigRunner$Interval").before args U = true := h.w 119 (by decide +kernel) rfl args
theorem wd_120 {U : State} (h : TB U) (args : Array Value) : (Cond.arrayOver (.object "BigRunner$Interval")).before args U = true := h.w 120 (by decide +kernel) rfl args
theorem wd_121 {U : State} (h : TB U) (args : Array Value) : (Cond.instantiable "BigRunner$Interval" 2).before args U = true := h.w 121 (by decide +kernel) rfl args
theorem wd_122 {U : State} (h : TB U) (args : Array Value) : (Cond.methodLinkNest "BigRunner$Program" 36 ⟨"BigRunner$Interval", "<init>", "()V"⟩ "BigRunner").before args U = true := h.w 122 (by decide +kernel) rfl args
theorem wd_123 {U : State} (h : TB U) (args : Array Value) : (Cond.instanceMethod ⟨"BigRunner$Interval", "<init>", "()V"⟩).before args U = true := h.w 123 (by decide +kernel) rfl args
theorem wd_124 {U : State} (h : TB U) (args : Array Value) : (Cond.code ⟨"BigRunner$Interval", "<init>", "()V"⟩ prog_3_method_1_code 1 none).before args U = true := h.w 124 (by decide +kernel) rfl args
theorem wd_125 {U : State} (h : TB U) (args : Array Value) : (Cond.methodLink "BigRunner$Interval" 5 ⟨"java/lang/Object", "<init>", "()V"⟩).before args U = true := h.w 125 (by decide +kernel) rfl args
theorem wd_126 {U : State} (h : TB U) (args : Array Value) : (Cond.fieldLink "BigRunner$Interval" 11 "BigRunner$Interval" "least" "J").before args U = true := h.w 126 (by decide +kernel) rfl args
theorem wd_127 {U : State} (h : TB U) (args : Array Value) : (Cond.fieldLink "BigRunner$Program" 47 "BigRunner$Interval" "least" "J").before args U = true := h.w 127 (by decide +kernel) rfl args
theorem wd_129 {U : State} (h : TB U) (args : Array Value) : (Cond.fieldLink "BigRunner$Interval" 15 "BigRunner$Interval" "greatest" "J").before args U = true := h.w 129 (by decide +kernel) rfl args
theorem wd_130 {U : State} (h : TB U) (args : Array Value) : (Cond.fieldLink "BigRunner$Program" 53 "BigRunner$Interval" "greatest" "J").before args U = true := h.w 130 (by decide +kernel) rfl args
theorem wd_137 {U : State} (h : TB U) (args : Array Value) : (Cond.arrayClass .char).before args U = true := h.w 137 (by decide +kernel) rfl args
theorem wd_138 {U : State} (h : TB U) (args : Array Value) : (Cond.instantiable "BigRunner$Statement" 5).before args U = true := h.w 138 (by decide +kernel) rfl args
theorem wd_139 {U : State} (h : TB U) (args : Array Value) : (Cond.methodLinkNest "BigRunner$Program" 41 ⟨"BigRunner$Statement", "<init>", "()V"⟩ "BigRunner").before args U = true := h.w 139 (by decide +kernel) rfl args
theorem wd_140 {U : State} (h : TB U) (args : Array Value) : (Cond.instanceMethod ⟨"BigRunner$Statement", "<init>", "()V"⟩).before args U = true := h.w 140 (by decide +kernel) rfl args
theorem wd_141 {U : State} (h : TB U) (args : Array Value) : (Cond.code ⟨"BigRunner$Statement", "<init>", "()V"⟩ prog_10_method_1_code 1 none).before args U = true := h.w 141 (by decide +kernel) rfl args
theorem wd_142 {U : State} (h : TB U) (args : Array Value) : (Cond.methodLink "BigRunner$Statement" 1 ⟨"java/lang/Object", "<init>", "()V"⟩).before args U = true := h.w 142 (by decide +kernel) rfl args
theorem wd_143 {U : State} (h : TB U) (args : Array Value) : (Cond.fieldLink "BigRunner$Statement" 9 "BigRunner$Statement" "kind" "I").before args U = true := h.w 143 (by decide +kernel) rfl args
theorem wd_146 {U : State} (h : TB U) (args : Array Value) : (Cond.fieldLink "BigRunner$Reader" 127 "BigRunner$Statement" "kind" "I").before args U = true := h.w 146 (by decide +kernel) rfl args
theorem wd_147 {U : State} (h : TB U) (args : Array Value) : (Cond.fieldLink "BigRunner$Statement" 13 "BigRunner$Statement" "name" "I").before args U = true := h.w 147 (by decide +kernel) rfl args
theorem wd_151 {U : State} (h : TB U) (args : Array Value) : (Cond.fieldLink "BigRunner$Statement" 16 "BigRunner$Statement" "firstNode" "I").before args U = true := h.w 151 (by decide +kernel) rfl args
theorem wd_155 {U : State} (h : TB U) (args : Array Value) : (Cond.fieldLink "BigRunner$Statement" 19 "BigRunner$Statement" "lastNode" "I").before args U = true := h.w 155 (by decide +kernel) rfl args
theorem wd_159 {U : State} (h : TB U) (args : Array Value) : (Cond.fieldLink "BigRunner$Statement" 22 "BigRunner$Statement" "target" "I").before args U = true := h.w 159 (by decide +kernel) rfl args
theorem wd_173 {U : State} (h : TB U) (args : Array Value) : (Cond.instantiable "BigRunner$Node" 7).before args U = true := h.w 173 (by decide +kernel) rfl args
theorem wd_174 {U : State} (h : TB U) (args : Array Value) : (Cond.methodLinkNest "BigRunner$Program" 42 ⟨"BigRunner$Node", "<init>", "()V"⟩ "BigRunner").before args U = true := h.w 174 (by decide +kernel) rfl args
theorem wd_175 {U : State} (h : TB U) (args : Array Value) : (Cond.instanceMethod ⟨"BigRunner$Node", "<init>", "()V"⟩).before args U = true := h.w 175 (by decide +kernel) rfl args
theorem wd_176 {U : State} (h : TB U) (args : Array Value) : (Cond.code ⟨"BigRunner$Node", "<init>", "()V"⟩ prog_6_method_1_code 1 none).before args U = true := h.w 176 (by decide +kernel) rfl args
theorem wd_177 {U : State} (h : TB U) (args : Array Value) : (Cond.methodLink "BigRunner$Node" 1 ⟨"java/lang/Object", "<init>", "()V"⟩).before args U = true := h.w 177 (by decide +kernel) rfl args
theorem wd_178 {U : State} (h : TB U) (args : Array Value) : (Cond.classLink "BigRunner$Node" 19 "BigRunner$Interval").before args U = true := h.w 178 (by decide +kernel) rfl args
theorem wd_179 {U : State} (h : TB U) (args : Array Value) : (Cond.methodLinkNest "BigRunner$Node" 21 ⟨"BigRunner$Interval", "<init>", "()V"⟩ "BigRunner").before args U = true := h.w 179 (by decide +kernel) rfl args
theorem wd_180 {U : State} (h : TB U) (args : Array Value) : (Cond.classLink "BigRunner$Node" 34 "BigRunner$LongNumber").before args U = true := h.w 180 (by decide +kernel) rfl args
theorem wd_181 {U : State} (h : TB U) (args : Array Value) : (Cond.instantiable "BigRunner$LongNumber" 3).before args U = true := h.w 181 (by decide +kernel) rfl args
theorem wd_182 {U : State} (h : TB U) (args : Array Value) : (Cond.methodLinkNest "BigRunner$Node" 36 ⟨"BigRunner$LongNumber", "<init>", "()V"⟩ "BigRunner").before args U = true := h.w 182 (by decide +kernel) rfl args
theorem wd_183 {U : State} (h : TB U) (args : Array Value) : (Cond.instanceMethod ⟨"BigRunner$LongNumber", "<init>", "()V"⟩).before args U = true := h.w 183 (by decide +kernel) rfl args
theorem wd_184 {U : State} (h : TB U) (args : Array Value) : (Cond.code ⟨"BigRunner$LongNumber", "<init>", "()V"⟩ prog_5_method_1_code 1 none).before args U = true := h.w 184 (by decide +kernel) rfl args
theorem wd_185 {U : State} (h : TB U) (args : Array Value) : (Cond.methodLink "BigRunner$LongNumber" 1 ⟨"java/lang/Object", "<init>", "()V"⟩).before args U = true := h.w 185 (by decide +kernel) rfl args
theorem wd_186 {U : State} (h : TB U) (args : Array Value) : (Cond.fieldLink "BigRunner$LongNumber" 7 "BigRunner$LongNumber" "sign" "I").before args U = true := h.w 186 (by decide +kernel) rfl args
theorem wd_190 {U : State} (h : TB U) (args : Array Value) : (Cond.fieldLink "BigRunner$LongNumber" 13 "BigRunner$LongNumber" "size" "I").before args U = true := h.w 190 (by decide +kernel) rfl args
theorem wd_192 {U : State} (h : TB U) (args : Array Value) : (Cond.fieldLink "BigRunner$LongNumber" 16 "BigRunner$LongNumber" "limbs" "[I").before args U = true := h.w 192 (by decide +kernel) rfl args
theorem wd_201 {U : State} (h : TB U) (args : Array Value) : (Cond.arrayClass .int).before args U = true := h.w 201 (by decide +kernel) rfl args
theorem wd_202 {U : State} (h : TB U) (args : Array Value) : (Cond.fieldLink "BigRunner$Node" 9 "BigRunner$Node" "kind" "I").before args U = true := h.w 202 (by decide +kernel) rfl args
theorem wd_206 {U : State} (h : TB U) (args : Array Value) : (Cond.fieldLink "BigRunner$Node" 13 "BigRunner$Node" "left" "I").before args U = true := h.w 206 (by decide +kernel) rfl args
theorem wd_210 {U : State} (h : TB U) (args : Array Value) : (Cond.fieldLink "BigRunner$Node" 16 "BigRunner$Node" "right" "I").before args U = true := h.w 210 (by decide +kernel) rfl args
theorem wd_214 {U : State} (h : TB U) (args : Array Value) : (Cond.fieldLink "BigRunner$Node" 22 "BigRunner$Node" "interval" "LBigRunner$Interval;").before args U = true := h.w 214 (by decide +kernel) rfl args
theorem wd_216 {U : State} (h : TB U) (args : Array Value) : (Cond.fieldLink "BigRunner$Node" 26 "BigRunner$Node" "isSmall" "Z").before args U = true := h.w 216 (by decide +kernel) rfl args
theorem wd_219 {U : State} (h : TB U) (args : Array Value) : (Cond.fieldLink "BigRunner$Node" 30 "BigRunner$Node" "machine" "J").before args U = true := h.w 219 (by decide +kernel) rfl args
theorem wd_223 {U : State} (h : TB U) (args : Array Value) : (Cond.fieldLink "BigRunner$Node" 37 "BigRunner$Node" "wide" "LBigRunner$LongNumber;").before args U = true := h.w 223 (by decide +kernel) rfl args
theorem wd_240 {U : State} (h : TB U) (args : Array Value) : (Cond.constantLong "BigRunner$Program" 45 (-1000000000)).before args U = true := h.w 240 (by decide +kernel) rfl args
theorem wd_241 {U : State} (h : TB U) (args : Array Value) : (Cond.constantLong "BigRunner$Program" 51 1000000000).before args U = true := h.w 241 (by decide +kernel) rfl args
theorem wd_242 {U : State} (h : TB U) (args : Array Value) : (Cond.fieldLink "BigRunner$Program" 13 "BigRunner$Program" "statements" "[LBigRunner$Statement;").before args U = true := h.w 242 (by decide +kernel) rfl args
theorem wd_244 {U : State} (h : TB U) (args : Array Value) : (Cond.fieldLink "BigRunner$Reader" 78 "BigRunner$Program" "statements" "[LBigRunner$Statement;").before args U = true := h.w 244 (by decide +kernel) rfl args
theorem wd_245 {U : State} (h : TB U) (args : Array Value) : (Cond.fieldLink "BigRunner$Program" 17 "BigRunner$Program" "statementCount" "I").before args U = true := h.w 245 (by decide +kernel) rfl args
theorem wd_246 {U : State} (h : TB U) (args : Array Value) : (Cond.fieldLink "BigRunner$Reader" 35 "BigRunner$Program" "statementCount" "I").before args U = true := h.w 246 (by decide +kernel) rfl args
theorem wd_248 {U : State} (h : TB U) (args : Array Value) : (Cond.fieldLink "BigRunner$Program" 23 "BigRunner$Program" "nodes" "[LBigRunner$Node;").before args U = true := h.w 248 (by decide +kernel) rfl args
theorem wd_251 {U : State} (h : TB U) (args : Array Value) : (Cond.fieldLink "BigRunner$Program" 27 "BigRunner$Program" "nodeCount" "I").before args U = true := h.w 251 (by decide +kernel) rfl args
theorem wd_252 {U : State} (h : TB U) (args : Array Value) : (Cond.fieldLink "BigRunner$Reader" 38 "BigRunner$Program" "nodeCount" "I").before args U = true := h.w 252 (by decide +kernel) rfl args
theorem wd_253 {U : State} (h : TB U) (args : Array Value) : (Cond.fieldLink "BigRunner$Program" 32 "BigRunner$Program" "variables" "[LBigRunner$Interval;").before args U = true := h.w 253 (by decide +kernel) rfl args
theorem wd_256 {U : State} (h : TB U) (args : Array Value) : (Cond.fieldLink "BigRunner$Program" 37 "BigRunner$Program" "ofInput" "LBigRunner$Interval;").before args U = true := h.w 256 (by decide +kernel) rfl args
theorem wd_270 {U : State} (h : TB U) (args : Array Value) : (Cond.fieldLink "BigRunner$Reader" 9 "BigRunner$Reader" "text" "[C").before args U = true := h.w 270 (by decide +kernel) rfl args
theorem wd_271 {U : State} (h : TB U) (args : Array Value) : (Cond.fieldLink "BigRunner$Reader" 15 "BigRunner$Reader" "length" "I").before args U = true := h.w 271 (by decide +kernel) rfl args
theorem wd_272 {U : State} (h : TB U) (args : Array Value) : (Cond.fieldLink "BigRunner$Reader" 19 "BigRunner$Reader" "at" "I").before args U = true := h.w 272 (by decide +kernel) rfl args
theorem wd_273 {U : State} (h : TB U) (args : Array Value) : (Cond.fieldLink "BigRunner$Reader" 25 "BigRunner$Reader" "program" "LBigRunner$Program;").before args U = true := h.w 273 (by decide +kernel) rfl args
theorem wd_284 {U : State} (h : TB U) (args : Array Value) : (Cond.classLink "BigRunner" 24 "BigRunner$Runner").before args U = true := h.w 284 (by decide +kernel) rfl args
theorem wd_285 {U : State} (h : TB U) (args : Array Value) : (Cond.instantiable "BigRunner$Runner" 13).before args U = true := h.w 285 (by decide +kernel) rfl args
theorem wd_286 {U : State} (h : TB U) (args : Array Value) : (Cond.methodLink "BigRunner" 26 ⟨"BigRunner$Runner", "<init>", "()V"⟩).before args U = true := h.w 286 (by decide +kernel) rfl args
theorem wd_287 {U : State} (h : TB U) (args : Array Value) : (Cond.instanceMethod ⟨"BigRunner$Runner", "<init>", "()V"⟩).before args U = true := h.w 287 (by decide +kernel) rfl args
theorem wd_288 {U : State} (h : TB U) (args : Array Value) : (Cond.code ⟨"BigRunner$Runner", "<init>", "()V"⟩ prog_9_method_1_code 2 none).before args U = true := h.w 288 (by decide +kernel) rfl args
theorem wd_289 {U : State} (h : TB U) (args : Array Value) : (Cond.methodLink "BigRunner$Runner" 3 ⟨"java/lang/Object", "<init>", "()V"⟩).before args U = true := h.w 289 (by decide +kernel) rfl args
theorem wd_290 {U : State} (h : TB U) (args : Array Value) : (Cond.classLink "BigRunner$Runner" 9 "BigRunner$Program").before args U = true := h.w 290 (by decide +kernel) rfl args
theorem wd_291 {U : State} (h : TB U) (args : Array Value) : (Cond.methodLink "BigRunner$Runner" 11 ⟨"BigRunner$Program", "<init>", "()V"⟩).before args U = true := h.w 291 (by decide +kernel) rfl args
theorem wd_292 {U : State} (h : TB U) (args : Array Value) : (Cond.classLink "BigRunner$Runner" 18 "BigRunner$Inputs").before args U = true := h.w 292 (by decide +kernel) rfl args
theorem wd_293 {U : State} (h : TB U) (args : Array Value) : (Cond.instantiable "BigRunner$Inputs" 3).before args U = true := h.w 293 (by decide +kernel) rfl args
theorem wd_294 {U : State} (h : TB U) (args : Array Value) : (Cond.methodLinkNest "BigRunner$Runner" 20 ⟨"BigRunner$Inputs", "<init>", "()V"⟩ "BigRunner").before args U = true := h.w 294 (by decide +kernel) rfl args
theorem wd_295 {U : State} (h : TB U) (args : Array Value) : (Cond.instanceMethod ⟨"BigRunner$Inputs", "<init>", "()V"⟩).before args U = true := h.w 295 (by decide +kernel) rfl args
theorem wd_296 {U : State} (h : TB U) (args : Array Value) : (Cond.code ⟨"BigRunner$Inputs", "<init>", "()V"⟩ prog_2_method_1_code 1 none).before args U = true := h.w 296 (by decide +kernel) rfl args
theorem wd_297 {U : State} (h : TB U) (args : Array Value) : (Cond.methodLink "BigRunner$Inputs" 1 ⟨"java/lang/Object", "<init>", "()V"⟩).before args U = true := h.w 297 (by decide +kernel) rfl args
theorem wd_298 {U : State} (h : TB U) (args : Array Value) : (Cond.fieldLink "BigRunner$Inputs" 9 "BigRunner$Inputs" "ring" "[I").before args U = true := h.w 298 (by decide +kernel) rfl args
theorem wd_299 {U : State} (h : TB U) (args : Array Value) : (Cond.fieldLink "BigRunner$Inputs" 13 "BigRunner$Inputs" "first" "I").before args U = true := h.w 299 (by decide +kernel) rfl args
theorem wd_300 {U : State} (h : TB U) (args : Array Value) : (Cond.fieldLink "BigRunner$Inputs" 17 "BigRunner$Inputs" "waiting" "I").before args U = true := h.w 300 (by decide +kernel) rfl args
theorem wd_302 {U : State} (h : TB U) (args : Array Value) : (Cond.fieldLink "BigRunner" 116 "BigRunner$Inputs" "waiting" "I").before args U = true := h.w 302 (by decide +kernel) rfl args
theorem wd_310 {U : State} (h : TB U) (args : Array Value) : (Cond.classLink "BigRunner$Runner" 33 "BigRunner$LongNumber").before args U = true := h.w 310 (by decide +kernel) rfl args
theorem wd_311 {U : State} (h : TB U) (args : Array Value) : (Cond.arrayOver (.object "BigRunner$LongNumber")).before args U = true := h.w 311 (by decide +kernel) rfl args
theorem wd_312 {U : State} (h : TB U) (args : Array Value) : (Cond.methodLinkNest "BigRunner$Runner" 39 ⟨"BigRunner$LongNumber", "<init>", "()V"⟩ "BigRunner").before args U = true := h.w 312 (by decide +kernel) rfl args
theorem wd_313 {U : State} (h : TB U) (args : Array Value) : (Cond.classLink "BigRunner$Runner" 44 "BigRunner$LongDivision").before args U = true := h.w 313 (by decide +kernel) rfl args
theorem wd_314 {U : State} (h : TB U) (args : Array Value) : (Cond.instantiable "BigRunner$LongDivision" 3).before args U = true := h.w 314 (by decide +kernel) rfl args
theorem wd_315 {U : State} (h : TB U) (args : Array Value) : (Cond.methodLinkNest "BigRunner$Runner" 46 ⟨"BigRunner$LongDivision", "<init>", "()V"⟩ "BigRunner").before args U = true := h.w 315 (by decide +kernel) rfl args
theorem wd_316 {U : State} (h : TB U) (args : Array Value) : (Cond.instanceMethod ⟨"BigRunner$LongDivision", "<init>", "()V"⟩).before args U = true := h.w 316 (by decide +kernel) rfl args
theorem wd_317 {U : State} (h : TB U) (args : Array Value) : (Cond.code ⟨"BigRunner$LongDivision", "<init>", "()V"⟩ prog_4_method_1_code 1 none).before args U = true := h.w 317 (by decide +kernel) rfl args
theorem wd_318 {U : State} (h : TB U) (args : Array Value) : (Cond.methodLink "BigRunner$LongDivision" 3 ⟨"java/lang/Object", "<init>", "()V"⟩).before args U = true := h.w 318 (by decide +kernel) rfl args
theorem wd_319 {U : State} (h : TB U) (args : Array Value) : (Cond.fieldLink "BigRunner$LongDivision" 9 "BigRunner$LongDivision" "dividend" "[I").before args U = true := h.w 319 (by decide +kernel) rfl args
theorem wd_320 {U : State} (h : TB U) (args : Array Value) : (Cond.fieldLink "BigRunner$LongDivision" 15 "BigRunner$LongDivision" "divisor" "[I").before args U = true := h.w 320 (by decide +kernel) rfl args
theorem wd_321 {U : State} (h : TB U) (args : Array Value) : (Cond.fieldLink "BigRunner$LongDivision" 18 "BigRunner$LongDivision" "size" "I").before args U = true := h.w 321 (by decide +kernel) rfl args
theorem wd_329 {U : State} (h : TB U) (args : Array Value) : (Cond.arrayClass .long).before args U = true := h.w 329 (by decide +kernel) rfl args
theorem wd_330 {U : State} (h : TB U) (args : Array Value) : (Cond.fieldLink "BigRunner$Runner" 12 "BigRunner$Runner" "program" "LBigRunner$Program;").before args U = true := h.w 330 (by decide +kernel) rfl args
theorem wd_332 {U : State} (h : TB U) (args : Array Value) : (Cond.fieldLink "BigRunner$Runner" 21 "BigRunner$Runner" "inputs" "LBigRunner$Inputs;").before args U = true := h.w 332 (by decide +kernel) rfl args
theorem wd_333 {U : State} (h : TB U) (args : Array Value) : (Cond.fieldLink "BigRunner" 61 "BigRunner$Runner" "inputs" "LBigRunner$Inputs;").before args U = true := h.w 333 (by decide +kernel) rfl args
theorem wd_334 {U : State} (h : TB U) (args : Array Value) : (Cond.fieldLink "BigRunner$Runner" 25 "BigRunner$Runner" "at" "I").before args U = true := h.w 334 (by decide +kernel) rfl args
theorem wd_335 {U : State} (h : TB U) (args : Array Value) : (Cond.fieldLink "BigRunner$Runner" 29 "BigRunner$Runner" "machine" "[J").before args U = true := h.w 335 (by decide +kernel) rfl args
theorem wd_336 {U : State} (h : TB U) (args : Array Value) : (Cond.fieldLink "BigRunner$Runner" 35 "BigRunner$Runner" "wide" "[LBigRunner$LongNumber;").before args U = true := h.w 336 (by decide +kernel) rfl args
theorem wd_337 {U : State} (h : TB U) (args : Array Value) : (Cond.fieldLink "BigRunner$Runner" 40 "BigRunner$Runner" "shown" "LBigRunner$LongNumber;").before args U = true := h.w 337 (by decide +kernel) rfl args
theorem wd_338 {U : State} (h : TB U) (args : Array Value) : (Cond.fieldLink "BigRunner$Runner" 47 "BigRunner$Runner" "division" "LBigRunner$LongDivision;").before args U = true := h.w 338 (by decide +kernel) rfl args
theorem wd_339 {U : State} (h : TB U) (args : Array Value) : (Cond.fieldLink "BigRunner$Runner" 51 "BigRunner$Runner" "kept" "[LBigRunner$LongNumber;").before args U = true := h.w 339 (by decide +kernel) rfl args
theorem wd_341 {U : State} (h : TB U) (args : Array Value) : (Cond.fieldLink "BigRunner$Runner" 54 "BigRunner$Runner" "outputs" "I").before args U = true := h.w 341 (by decide +kernel) rfl args
theorem wd_342 {U : State} (h : TB U) (args : Array Value) : (Cond.fieldLink "BigRunner" 113 "BigRunner$Runner" "outputs" "I").before args U = true := h.w 342 (by decide +kernel) rfl args
theorem wd_343 {U : State} (h : TB U) (args : Array Value) : (Cond.fieldLink "BigRunner$Runner" 57 "BigRunner$Runner" "steps" "I").before args U = true := h.w 343 (by decide +kernel) rfl args
theorem wd_344 {U : State} (h : TB U) (args : Array Value) : (Cond.fieldLink "BigRunner" 104 "BigRunner$Runner" "steps" "I").before args U = true := h.w 344 (by decide +kernel) rfl args
theorem wd_345 {U : State} (h : TB U) (args : Array Value) : (Cond.fieldLink "BigRunner$Runner" 60 "BigRunner$Runner" "machineOperations" "I").before args U = true := h.w 345 (by decide +kernel) rfl args
theorem wd_346 {U : State} (h : TB U) (args : Array Value) : (Cond.fieldLink "BigRunner" 107 "BigRunner$Runner" "machineOperations" "I").before args U = true := h.w 346 (by decide +kernel) rfl args
theorem wd_347 {U : State} (h : TB U) (args : Array Value) : (Cond.fieldLink "BigRunner$Runner" 63 "BigRunner$Runner" "longOperations" "I").before args U = true := h.w 347 (by decide +kernel) rfl args
theorem wd_348 {U : State} (h : TB U) (args : Array Value) : (Cond.fieldLink "BigRunner" 110 "BigRunner$Runner" "longOperations" "I").before args U = true := h.w 348 (by decide +kernel) rfl args
theorem wd_349 {U : State} (h : TB U) (args : Array Value) : (Cond.fieldLink "BigRunner$Runner" 66 "BigRunner$Runner" "trap" "I").before args U = true := h.w 349 (by decide +kernel) rfl args
theorem wd_350 {U : State} (h : TB U) (args : Array Value) : (Cond.fieldLink "BigRunner" 75 "BigRunner$Runner" "trap" "I").before args U = true := h.w 350 (by decide +kernel) rfl args
theorem wd_378 {U : State} (h : TB U) (args : Array Value) : (Cond.fieldLink "BigRunner" 9 "BigRunner" "line" "[C").before args U = true := h.w 378 (by decide +kernel) rfl args
theorem wd_379 {U : State} (h : TB U) (args : Array Value) : (Cond.fieldLink "BigRunner" 13 "BigRunner" "lineLength" "I").before args U = true := h.w 379 (by decide +kernel) rfl args
theorem wd_380 {U : State} (h : TB U) (args : Array Value) : (Cond.fieldLink "BigRunner" 20 "BigRunner" "reader" "LBigRunner$Reader;").before args U = true := h.w 380 (by decide +kernel) rfl args
theorem wd_381 {U : State} (h : TB U) (args : Array Value) : (Cond.fieldLink "BigRunner" 27 "BigRunner" "runner" "LBigRunner$Runner;").before args U = true := h.w 381 (by decide +kernel) rfl args
theorem wd_382 {U : State} (h : TB U) (args : Array Value) : (Cond.fieldLink "BigRunner" 31 "BigRunner" "loaded" "Z").before args U = true := h.w 382 (by decide +kernel) rfl args
theorem wd_406 {U : State} (h : TB U) (args : Array Value) : (Cond.methodLink "BigRunner" 65 ⟨"BigRunner$Inputs", "append", "(I)Z"⟩).before args U = true := h.w 406 (by decide +kernel) rfl args
theorem wd_407 {U : State} (h : TB U) (args : Array Value) : (Cond.instanceMethod ⟨"BigRunner$Inputs", "append", "(I)Z"⟩).before args U = true := h.w 407 (by decide +kernel) rfl args
theorem wd_408 {U : State} (h : TB U) (args : Array Value) : (Cond.selects "BigRunner$Inputs" ⟨"BigRunner$Inputs", "append", "(I)Z"⟩ ⟨"BigRunner$Inputs", "append", "(I)Z"⟩).before args U = true := h.w 408 (by decide +kernel) rfl args
theorem wd_409 {U : State} (h : TB U) (args : Array Value) : (Cond.code ⟨"BigRunner$Inputs", "append", "(I)Z"⟩ prog_2_method_2_code 2 (some .boolean)).before args U = true := h.w 409 (by decide +kernel) rfl args
theorem wd_410 {U : State} (h : TB U) (args : Array Value) : (Cond.constant "BigRunner$Inputs" 20 (-1000000000)).before args U = true := h.w 410 (by decide +kernel) rfl args
theorem wd_411 {U : State} (h : TB U) (args : Array Value) : (Cond.constant "BigRunner$Inputs" 21 1000000000).before args U = true := h.w 411 (by decide +kernel) rfl args
theorem wd_416 {U : State} (h : TB U) (args : Array Value) : (Cond.methodLink "BigRunner" 101 ⟨"BigRunner", "state", "()I"⟩).before args U = true := h.w 416 (by decide +kernel) rfl args
theorem wd_418 {U : State} (h : TB U) (args : Array Value) : (Cond.instanceMethod ⟨"BigRunner", "state", "()I"⟩).before args U = true := h.w 418 (by decide +kernel) rfl args
theorem wd_419 {U : State} (h : TB U) (args : Array Value) : (Cond.code ⟨"BigRunner", "state", "()I"⟩ prog_1_method_13_code 1 (some .int)).before args U = true := h.w 419 (by decide +kernel) rfl args
theorem wd_433 {U : State} (h : TB U) (args : Array Value) : (Cond.methodLink "BigRunner" 119 ⟨"BigRunner", "hasVariable", "(I)Z"⟩).before args U = true := h.w 433 (by decide +kernel) rfl args
theorem wd_435 {U : State} (h : TB U) (args : Array Value) : (Cond.instanceMethod ⟨"BigRunner", "hasVariable", "(I)Z"⟩).before args U = true := h.w 435 (by decide +kernel) rfl args
theorem wd_436 {U : State} (h : TB U) (args : Array Value) : (Cond.code ⟨"BigRunner", "hasVariable", "(I)Z"⟩ prog_1_method_12_code 2 (some .boolean)).before args U = true := h.w 436 (by decide +kernel) rfl args
theorem wd_458 {U : State} (h : TB U) (args : Array Value) : (Cond.methodLink "BigRunner$Reader" 29 ⟨"java/lang/Math", "min", "(II)I"⟩).before args U = true := h.w 458 (by decide +kernel) rfl args
theorem wd_459 {U : State} (h : TB U) (args : Array Value) : (Cond.static ⟨"java/lang/Math", "min", "(II)I"⟩).before args U = true := h.w 459 (by decide +kernel) rfl args
theorem wd_460 {U : State} (h : TB U) (args : Array Value) : (Cond.code Lib.Math.min.name Lib.Math.min.code 2 (some .int)).before args U = true := h.w 460 (by decide +kernel) rfl args
theorem wd_461 {U : State} (h : TB U) (args : Array Value) : (Cond.methodLink "BigRunner$Reader" 41 ⟨"BigRunner$Reader", "readProgram", "(I)Z"⟩).before args U = true := h.w 461 (by decide +kernel) rfl args
theorem wd_463 {U : State} (h : TB U) (args : Array Value) : (Cond.instanceMethod ⟨"BigRunner$Reader", "readProgram", "(I)Z"⟩).before args U = true := h.w 463 (by decide +kernel) rfl args
theorem wd_464 {U : State} (h : TB U) (args : Array Value) : (Cond.code ⟨"BigRunner$Reader", "readProgram", "(I)Z"⟩ prog_8_method_5_code 3 (some .boolean)).before args U = true := h.w 464 (by decide +kernel) rfl args
theorem wd_465 {U : State} (h : TB U) (args : Array Value) : (Cond.methodLink "BigRunner$Reader" 49 ⟨"BigRunner$Reader", "readStatement", "(I)Z"⟩).before args U = true := h.w 465 (by decide +kernel) rfl args
theorem wd_467 {U : State} (h : TB U) (args : Array Value) : (Cond.instanceMethod ⟨"BigRunner$Reader", "readStatement", "(I)Z"⟩).before args U = true := h.w 467 (by decide +kernel) rfl args
theorem wd_468 {U : State} (h : TB U) (args : Array Value) : (Cond.code ⟨"BigRunner$Reader", "readStatement", "(I)Z"⟩ prog_8_method_6_code 3 (some .boolean)).before args U = true := h.w 468 (by decide +kernel) rfl args
theorem wd_469 {U : State} (h : TB U) (args : Array Value) : (Cond.methodLink "BigRunner$Reader" 52 ⟨"BigRunner$Reader", "accept", "(C)Z"⟩).before args U = true := h.w 469 (by decide +kernel) rfl args
theorem wd_471 {U : State} (h : TB U) (args : Array Value) : (Cond.instanceMethod ⟨"BigRunner$Reader", "accept", "(C)Z"⟩).before args U = true := h.w 471 (by decide +kernel) rfl args
theorem wd_472 {U : State} (h : TB U) (args : Array Value) : (Cond.code ⟨"BigRunner$Reader", "accept", "(C)Z"⟩ prog_8_method_4_code 2 (some .boolean)).before args U = true := h.w 472 (by decide +kernel) rfl args
theorem wd_473 {U : State} (h : TB U) (args : Array Value) : (Cond.methodLink "BigRunner$Reader" 45 ⟨"BigRunner$Reader", "next", "()C"⟩).before args U = true := h.w 473 (by decide +kernel) rfl args
theorem wd_475 {U : State} (h : TB U) (args : Array Value) : (Cond.instanceMethod ⟨"BigRunner$Reader", "next", "()C"⟩).before args U = true := h.w 475 (by decide +kernel) rfl args
theorem wd_476 {U : State} (h : TB U) (args : Array Value) : (Cond.code ⟨"BigRunner$Reader", "next", "()C"⟩ prog_8_method_3_code 1 (some .char)).before args U = true := h.w 476 (by decide +kernel) rfl args
theorem wd_477 {U : State} (h : TB U) (args : Array Value) : (Cond.methodLink "BigRunner$Reader" 58 ⟨"BigRunner$Reader", "addStatement", "(I)I"⟩).before args U = true := h.w 477 (by decide +kernel) rfl args
theorem wd_479 {U : State} (h : TB U) (args : Array Value) : (Cond.instanceMethod ⟨"BigRunner$Reader", "addStatement", "(I)I"⟩).before args U = true := h.w 479 (by decide +kernel) rfl args
theorem wd_480 {U : State} (h : TB U) (args : Array Value) : (Cond.code ⟨"BigRunner$Reader", "addStatement", "(I)I"⟩ prog_8_method_16_code 2 (some .int)).before args U = true := h.w 480 (by decide +kernel) rfl args
theorem wd_481 {U : State} (h : TB U) (args : Array Value) : (Cond.methodLink "BigRunner$Reader" 62 ⟨"BigRunner$Reader", "readName", "(I)Z"⟩).before args U = true := h.w 481 (by decide +kernel) rfl args
theorem wd_483 {U : State} (h : TB U) (args : Array Value) : (Cond.instanceMethod ⟨"BigRunner$Reader", "readName", "(I)Z"⟩).before args U = true := h.w 483 (by decide +kernel) rfl args
theorem wd_484 {U : State} (h : TB U) (args : Array Value) : (Cond.code ⟨"BigRunner$Reader", "readName", "(I)Z"⟩ prog_8_method_9_code 3 (some .boolean)).before args U = true := h.w 484 (by decide +kernel) rfl args
theorem wd_939 {U : State} (h : TB U) (args : Array Value) : (Cond.methodLink "BigRunner$Runner" 92 ⟨"java/lang/Math", "min", "(II)I"⟩).before args U = true := h.w 939 (by decide +kernel) rfl args
theorem d_B_init_0 : decode prog_1_method_1_code 0 = .ok (.aload_n 0, 1) := by decide +kernel
theorem d_B_init_1 : decode prog_1_method_1_code 1 = .ok (.invokespecial 1, 3) := by decide +kernel
theorem d_B_init_4 : decode prog_1_method_1_code 4 = .ok (.aload_n 0, 1) := by decide +kernel
theorem d_B_init_5 : decode prog_1_method_1_code 5 = .ok (.bipush 72, 2) := by decide +kernel
theorem d_B_init_7 : decode prog_1_method_1_code 7 = .ok (.newarray .char, 2) := by decide +kernel
theorem d_B_init_9 : decode prog_1_method_1_code 9 = .ok (.putfield 9, 3) := by decide +kernel
theorem d_B_init_12 : decode prog_1_method_1_code 12 = .ok (.aload_n 0, 1) := by decide +kernel
theorem d_B_init_13 : decode prog_1_method_1_code 13 = .ok (.iconst 0, 1) := by decide +kernel
theorem d_B_init_14 : decode prog_1_method_1_code 14 = .ok (.putfield 13, 3) := by decide +kernel
theorem d_B_init_17 : decode prog_1_method_1_code 17 = .ok (.aload_n 0, 1) := by decide +kernel
theorem d_B_init_18 : decode prog_1_method_1_code 18 = .ok (.new 17, 3) := by decide +kernel
theorem d_B_init_21 : decode prog_1_method_1_code 21 = .ok (.dup, 1) := by decide +kernel
theorem d_B_init_22 : decode prog_1_method_1_code 22 = .ok (.invokespecial 19, 3) := by decide +kernel
theorem d_B_init_25 : decode prog_1_method_1_code 25 = .ok (.putfield 20, 3) := by decide +kernel
theorem d_B_init_28 : decode prog_1_method_1_code 28 = .ok (.aload_n 0, 1) := by decide +kernel
theorem d_B_init_29 : decode prog_1_method_1_code 29 = .ok (.new 24, 3) := by decide +kernel
theorem d_B_init_32 : decode prog_1_method_1_code 32 = .ok (.dup, 1) := by decide +kernel
theorem d_B_init_33 : decode prog_1_method_1_code 33 = .ok (.invokespecial 26, 3) := by decide +kernel
theorem d_B_init_36 : decode prog_1_method_1_code 36 = .ok (.putfield 27, 3) := by decide +kernel
theorem d_B_init_39 : decode prog_1_method_1_code 39 = .ok (.aload_n 0, 1) := by decide +kernel
theorem d_B_init_40 : decode prog_1_method_1_code 40 = .ok (.iconst 0, 1) := by decide +kernel
theorem d_B_init_41 : decode prog_1_method_1_code 41 = .ok (.putfield 31, 3) := by decide +kernel
theorem d_B_init_44 : decode prog_1_method_1_code 44 = .ok (.return_, 1) := by decide +kernel
theorem d_B_give_0 : decode prog_1_method_5_code 0 = .ok (.aload_n 0, 1) := by decide +kernel
theorem d_B_give_1 : decode prog_1_method_5_code 1 = .ok (.getfield 27, 3) := by decide +kernel
theorem d_B_give_4 : decode prog_1_method_5_code 4 = .ok (.getfield 61, 3) := by decide +kernel
theorem d_B_give_7 : decode prog_1_method_5_code 7 = .ok (.iload_n 1, 1) := by decide +kernel
theorem d_B_give_8 : decode prog_1_method_5_code 8 = .ok (.invokevirtual 65, 3) := by decide +kernel
theorem d_B_give_11 : decode prog_1_method_5_code 11 = .ok (.ireturn, 1) := by decide +kernel
theorem d_B_hasVariable_0 : decode prog_1_method_12_code 0 = .ok (.aload_n 0, 1) := by decide +kernel
theorem d_B_hasVariable_1 : decode prog_1_method_12_code 1 = .ok (.getfield 31, 3) := by decide +kernel
theorem d_B_hasVariable_4 : decode prog_1_method_12_code 4 = .ok (.ifCond .eq 17, 3) := by decide +kernel
theorem d_B_hasVariable_21 : decode prog_1_method_12_code 21 = .ok (.iconst 0, 1) := by decide +kernel
theorem d_B_hasVariable_22 : decode prog_1_method_12_code 22 = .ok (.ireturn, 1) := by decide +kernel
theorem d_B_look_0 : decode prog_1_method_7_code 0 = .ok (.iload_n 1, 1) := by decide +kernel
theorem d_B_look_1 : decode prog_1_method_7_code 1 = .ok (.tableswitch 99 0 6 #[43, 48, 56, 64, 72, 80, 88], 43) := by decide +kernel
theorem d_B_look_44 : decode prog_1_method_7_code 44 = .ok (.aload_n 0, 1) := by decide +kernel
theorem d_B_look_45 : decode prog_1_method_7_code 45 = .ok (.invokevirtual 101, 3) := by decide +kernel
theorem d_B_look_48 : decode prog_1_method_7_code 48 = .ok (.ireturn, 1) := by decide +kernel
theorem d_B_look_49 : decode prog_1_method_7_code 49 = .ok (.aload_n 0, 1) := by decide +kernel
theorem d_B_look_50 : decode prog_1_method_7_code 50 = .ok (.getfield 27, 3) := by decide +kernel
theorem d_B_look_53 : decode prog_1_method_7_code 53 = .ok (.getfield 75, 3) := by decide +kernel
theorem d_B_look_56 : decode prog_1_method_7_code 56 = .ok (.ireturn, 1) := by decide +kernel
theorem d_B_look_57 : decode prog_1_method_7_code 57 = .ok (.aload_n 0, 1) := by decide +kernel
theorem d_B_look_58 : decode prog_1_method_7_code 58 = .ok (.getfield 27, 3) := by decide +kernel
theorem d_B_look_61 : decode prog_1_method_7_code 61 = .ok (.getfield 104, 3) := by decide +kernel
theorem d_B_look_64 : decode prog_1_method_7_code 64 = .ok (.ireturn, 1) := by decide +kernel
theorem d_B_look_65 : decode prog_1_method_7_code 65 = .ok (.aload_n 0, 1) := by decide +kernel
theorem d_B_look_66 : decode prog_1_method_7_code 66 = .ok (.getfield 27, 3) := by decide +kernel
theorem d_B_look_69 : decode prog_1_method_7_code 69 = .ok (.getfield 107, 3) := by decide +kernel
theorem d_B_look_72 : decode prog_1_method_7_code 72 = .ok (.ireturn, 1) := by decide +kernel
theorem d_B_look_73 : decode prog_1_method_7_code 73 = .ok (.aload_n 0, 1) := by decide +kernel
theorem d_B_look_74 : decode prog_1_method_7_code 74 = .ok (.getfield 27, 3) := by decide +kernel
theorem d_B_look_77 : decode prog_1_method_7_code 77 = .ok (.getfield 110, 3) := by decide +kernel
theorem d_B_look_80 : decode prog_1_method_7_code 80 = .ok (.ireturn, 1) := by decide +kernel
theorem d_B_look_81 : decode prog_1_method_7_code 81 = .ok (.aload_n 0, 1) := by decide +kernel
theorem d_B_look_82 : decode prog_1_method_7_code 82 = .ok (.getfield 27, 3) := by decide +kernel
theorem d_B_look_85 : decode prog_1_method_7_code 85 = .ok (.getfield 113, 3) := by decide +kernel
theorem d_B_look_88 : decode prog_1_method_7_code 88 = .ok (.ireturn, 1) := by decide +kernel
theorem d_B_look_89 : decode prog_1_method_7_code 89 = .ok (.aload_n 0, 1) := by decide +kernel
theorem d_B_look_90 : decode prog_1_method_7_code 90 = .ok (.getfield 27, 3) := by decide +kernel
theorem d_B_look_93 : decode prog_1_method_7_code 93 = .ok (.getfield 61, 3) := by decide +kernel
theorem d_B_look_96 : decode prog_1_method_7_code 96 = .ok (.getfield 116, 3) := by decide +kernel
theorem d_B_look_99 : decode prog_1_method_7_code 99 = .ok (.ireturn, 1) := by decide +kernel
theorem d_B_look_100 : decode prog_1_method_7_code 100 = .ok (.iconst (-1), 1) := by decide +kernel
theorem d_B_look_101 : decode prog_1_method_7_code 101 = .ok (.ireturn, 1) := by decide +kernel
theorem d_B_small_0 : decode prog_1_method_9_code 0 = .ok (.aload_n 0, 1) := by decide +kernel
theorem d_B_small_1 : decode prog_1_method_9_code 1 = .ok (.iload_n 1, 1) := by decide +kernel
theorem d_B_small_2 : decode prog_1_method_9_code 2 = .ok (.invokevirtual 119, 3) := by decide +kernel
theorem d_B_small_5 : decode prog_1_method_9_code 5 = .ok (.ifCond .eq 25, 3) := by decide +kernel
theorem d_B_small_30 : decode prog_1_method_9_code 30 = .ok (.iconst 0, 1) := by decide +kernel
theorem d_B_small_31 : decode prog_1_method_9_code 31 = .ok (.ireturn, 1) := by decide +kernel
theorem d_B_state_0 : decode prog_1_method_13_code 0 = .ok (.aload_n 0, 1) := by decide +kernel
theorem d_B_state_1 : decode prog_1_method_13_code 1 = .ok (.getfield 31, 3) := by decide +kernel
theorem d_B_state_4 : decode prog_1_method_13_code 4 = .ok (.ifCond .ne 5, 3) := by decide +kernel
theorem d_B_state_7 : decode prog_1_method_13_code 7 = .ok (.iconst 0, 1) := by decide +kernel
theorem d_B_state_8 : decode prog_1_method_13_code 8 = .ok (.ireturn, 1) := by decide +kernel
theorem d_B_type_0 : decode prog_1_method_2_code 0 = .ok (.iload_n 1, 1) := by decide +kernel
theorem d_B_type_1 : decode prog_1_method_2_code 1 = .ok (.bipush 33, 2) := by decide +kernel
theorem d_B_type_3 : decode prog_1_method_2_code 3 = .ok (.if_icmp .lt 18, 3) := by decide +kernel
theorem d_B_type_6 : decode prog_1_method_2_code 6 = .ok (.iload_n 1, 1) := by decide +kernel
theorem d_B_type_7 : decode prog_1_method_2_code 7 = .ok (.bipush 126, 2) := by decide +kernel
theorem d_B_type_9 : decode prog_1_method_2_code 9 = .ok (.if_icmp .gt 12, 3) := by decide +kernel
theorem d_B_type_12 : decode prog_1_method_2_code 12 = .ok (.aload_n 0, 1) := by decide +kernel
theorem d_B_type_13 : decode prog_1_method_2_code 13 = .ok (.getfield 13, 3) := by decide +kernel
theorem d_B_type_16 : decode prog_1_method_2_code 16 = .ok (.bipush 72, 2) := by decide +kernel
theorem d_B_type_18 : decode prog_1_method_2_code 18 = .ok (.if_icmp .lt 5, 3) := by decide +kernel
theorem d_B_type_21 : decode prog_1_method_2_code 21 = .ok (.iconst 0, 1) := by decide +kernel
theorem d_B_type_22 : decode prog_1_method_2_code 22 = .ok (.ireturn, 1) := by decide +kernel
theorem d_B_type_23 : decode prog_1_method_2_code 23 = .ok (.aload_n 0, 1) := by decide +kernel
theorem d_B_type_24 : decode prog_1_method_2_code 24 = .ok (.getfield 9, 3) := by decide +kernel
theorem d_B_type_27 : decode prog_1_method_2_code 27 = .ok (.aload_n 0, 1) := by decide +kernel
theorem d_B_type_28 : decode prog_1_method_2_code 28 = .ok (.getfield 13, 3) := by decide +kernel
theorem d_B_type_31 : decode prog_1_method_2_code 31 = .ok (.iload_n 1, 1) := by decide +kernel
theorem d_B_type_32 : decode prog_1_method_2_code 32 = .ok (.castore, 1) := by decide +kernel
theorem d_B_type_33 : decode prog_1_method_2_code 33 = .ok (.aload_n 0, 1) := by decide +kernel
theorem d_B_type_34 : decode prog_1_method_2_code 34 = .ok (.dup, 1) := by decide +kernel
theorem d_B_type_35 : decode prog_1_method_2_code 35 = .ok (.getfield 13, 3) := by decide +kernel
theorem d_B_type_38 : decode prog_1_method_2_code 38 = .ok (.iconst 1, 1) := by decide +kernel
theorem d_B_type_39 : decode prog_1_method_2_code 39 = .ok (.iadd, 1) := by decide +kernel
theorem d_B_type_40 : decode prog_1_method_2_code 40 = .ok (.putfield 13, 3) := by decide +kernel
theorem d_B_type_43 : decode prog_1_method_2_code 43 = .ok (.iconst 1, 1) := by decide +kernel
theorem d_B_type_44 : decode prog_1_method_2_code 44 = .ok (.ireturn, 1) := by decide +kernel
theorem d_B_wipe_0 : decode prog_1_method_3_code 0 = .ok (.aload_n 0, 1) := by decide +kernel
theorem d_B_wipe_1 : decode prog_1_method_3_code 1 = .ok (.iconst 0, 1) := by decide +kernel
theorem d_B_wipe_2 : decode prog_1_method_3_code 2 = .ok (.putfield 13, 3) := by decide +kernel
theorem d_B_wipe_5 : decode prog_1_method_3_code 5 = .ok (.return_, 1) := by decide +kernel
theorem d_NInputs_init_0 : decode prog_2_method_1_code 0 = .ok (.aload_n 0, 1) := by decide +kernel
theorem d_NInputs_init_1 : decode prog_2_method_1_code 1 = .ok (.invokespecial 1, 3) := by decide +kernel
theorem d_NInputs_init_4 : decode prog_2_method_1_code 4 = .ok (.aload_n 0, 1) := by decide +kernel
theorem d_NInputs_init_5 : decode prog_2_method_1_code 5 = .ok (.bipush 20, 2) := by decide +kernel
theorem d_NInputs_init_7 : decode prog_2_method_1_code 7 = .ok (.newarray .int, 2) := by decide +kernel
theorem d_NInputs_init_9 : decode prog_2_method_1_code 9 = .ok (.putfield 9, 3) := by decide +kernel
theorem d_NInputs_init_12 : decode prog_2_method_1_code 12 = .ok (.aload_n 0, 1) := by decide +kernel
theorem d_NInputs_init_13 : decode prog_2_method_1_code 13 = .ok (.iconst 0, 1) := by decide +kernel
theorem d_NInputs_init_14 : decode prog_2_method_1_code 14 = .ok (.putfield 13, 3) := by decide +kernel
theorem d_NInputs_init_17 : decode prog_2_method_1_code 17 = .ok (.aload_n 0, 1) := by decide +kernel
theorem d_NInputs_init_18 : decode prog_2_method_1_code 18 = .ok (.iconst 0, 1) := by decide +kernel
theorem d_NInputs_init_19 : decode prog_2_method_1_code 19 = .ok (.putfield 17, 3) := by decide +kernel
theorem d_NInputs_init_22 : decode prog_2_method_1_code 22 = .ok (.return_, 1) := by decide +kernel
theorem d_NInputs_append_0 : decode prog_2_method_2_code 0 = .ok (.iload_n 1, 1) := by decide +kernel
theorem d_NInputs_append_1 : decode prog_2_method_2_code 1 = .ok (.ldc 20, 2) := by decide +kernel
theorem d_NInputs_append_3 : decode prog_2_method_2_code 3 = .ok (.if_icmp .lt 18, 3) := by decide +kernel
theorem d_NInputs_append_6 : decode prog_2_method_2_code 6 = .ok (.iload_n 1, 1) := by decide +kernel
theorem d_NInputs_append_7 : decode prog_2_method_2_code 7 = .ok (.ldc 21, 2) := by decide +kernel
theorem d_NInputs_append_9 : decode prog_2_method_2_code 9 = .ok (.if_icmp .gt 12, 3) := by decide +kernel
theorem d_NInputs_append_12 : decode prog_2_method_2_code 12 = .ok (.aload_n 0, 1) := by decide +kernel
theorem d_NInputs_append_13 : decode prog_2_method_2_code 13 = .ok (.getfield 17, 3) := by decide +kernel
theorem d_NInputs_append_16 : decode prog_2_method_2_code 16 = .ok (.bipush 20, 2) := by decide +kernel
theorem d_NInputs_append_18 : decode prog_2_method_2_code 18 = .ok (.if_icmp .lt 5, 3) := by decide +kernel
theorem d_NInputs_append_21 : decode prog_2_method_2_code 21 = .ok (.iconst 0, 1) := by decide +kernel
theorem d_NInputs_append_22 : decode prog_2_method_2_code 22 = .ok (.ireturn, 1) := by decide +kernel
theorem d_NInputs_append_23 : decode prog_2_method_2_code 23 = .ok (.aload_n 0, 1) := by decide +kernel
theorem d_NInputs_append_24 : decode prog_2_method_2_code 24 = .ok (.getfield 9, 3) := by decide +kernel
theorem d_NInputs_append_27 : decode prog_2_method_2_code 27 = .ok (.aload_n 0, 1) := by decide +kernel
theorem d_NInputs_append_28 : decode prog_2_method_2_code 28 = .ok (.getfield 13, 3) := by decide +kernel
theorem d_NInputs_append_31 : decode prog_2_method_2_code 31 = .ok (.aload_n 0, 1) := by decide +kernel
theorem d_NInputs_append_32 : decode prog_2_method_2_code 32 = .ok (.getfield 17, 3) := by decide +kernel
theorem d_NInputs_append_35 : decode prog_2_method_2_code 35 = .ok (.iadd, 1) := by decide +kernel
theorem d_NInputs_append_36 : decode prog_2_method_2_code 36 = .ok (.bipush 20, 2) := by decide +kernel
theorem d_NInputs_append_38 : decode prog_2_method_2_code 38 = .ok (.irem, 1) := by decide +kernel
theorem d_NInputs_append_39 : decode prog_2_method_2_code 39 = .ok (.iload_n 1, 1) := by decide +kernel
theorem d_NInputs_append_40 : decode prog_2_method_2_code 40 = .ok (.iastore, 1) := by decide +kernel
theorem d_NInputs_append_41 : decode prog_2_method_2_code 41 = .ok (.aload_n 0, 1) := by decide +kernel
theorem d_NInputs_append_42 : decode prog_2_method_2_code 42 = .ok (.dup, 1) := by decide +kernel
theorem d_NInputs_append_43 : decode prog_2_method_2_code 43 = .ok (.getfield 17, 3) := by decide +kernel
theorem d_NInputs_append_46 : decode prog_2_method_2_code 46 = .ok (.iconst 1, 1) := by decide +kernel
theorem d_NInputs_append_47 : decode prog_2_method_2_code 47 = .ok (.iadd, 1) := by decide +kernel
theorem d_NInputs_append_48 : decode prog_2_method_2_code 48 = .ok (.putfield 17, 3) := by decide +kernel
theorem d_NInputs_append_51 : decode prog_2_method_2_code 51 = .ok (.iconst 1, 1) := by decide +kernel
theorem d_NInputs_append_52 : decode prog_2_method_2_code 52 = .ok (.ireturn, 1) := by decide +kernel
theorem d_NInterval_init_0 : decode prog_3_method_1_code 0 = .ok (.aload_n 0, 1) := by decide +kernel
theorem d_NInterval_init_1 : decode prog_3_method_1_code 1 = .ok (.invokespecial 5, 3) := by decide +kernel
theorem d_NInterval_init_4 : decode prog_3_method_1_code 4 = .ok (.aload_n 0, 1) := by decide +kernel
theorem d_NInterval_init_5 : decode prog_3_method_1_code 5 = .ok (.lconst 0, 1) := by decide +kernel
theorem d_NInterval_init_6 : decode prog_3_method_1_code 6 = .ok (.putfield 11, 3) := by decide +kernel
theorem d_NInterval_init_9 : decode prog_3_method_1_code 9 = .ok (.aload_n 0, 1) := by decide +kernel
theorem d_NInterval_init_10 : decode prog_3_method_1_code 10 = .ok (.lconst 0, 1) := by decide +kernel
theorem d_NInterval_init_11 : decode prog_3_method_1_code 11 = .ok (.putfield 15, 3) := by decide +kernel
theorem d_NInterval_init_14 : decode prog_3_method_1_code 14 = .ok (.return_, 1) := by decide +kernel
theorem d_NLongDivision_init_0 : decode prog_4_method_1_code 0 = .ok (.aload_n 0, 1) := by decide +kernel
theorem d_NLongDivision_init_1 : decode prog_4_method_1_code 1 = .ok (.invokespecial 3, 3) := by decide +kernel
theorem d_NLongDivision_init_4 : decode prog_4_method_1_code 4 = .ok (.aload_n 0, 1) := by decide +kernel
theorem d_NLongDivision_init_5 : decode prog_4_method_1_code 5 = .ok (.bipush 16, 2) := by decide +kernel
theorem d_NLongDivision_init_7 : decode prog_4_method_1_code 7 = .ok (.newarray .int, 2) := by decide +kernel
theorem d_NLongDivision_init_9 : decode prog_4_method_1_code 9 = .ok (.putfield 9, 3) := by decide +kernel
theorem d_NLongDivision_init_12 : decode prog_4_method_1_code 12 = .ok (.aload_n 0, 1) := by decide +kernel
theorem d_NLongDivision_init_13 : decode prog_4_method_1_code 13 = .ok (.bipush 16, 2) := by decide +kernel
theorem d_NLongDivision_init_15 : decode prog_4_method_1_code 15 = .ok (.newarray .int, 2) := by decide +kernel
theorem d_NLongDivision_init_17 : decode prog_4_method_1_code 17 = .ok (.putfield 15, 3) := by decide +kernel
theorem d_NLongDivision_init_20 : decode prog_4_method_1_code 20 = .ok (.aload_n 0, 1) := by decide +kernel
theorem d_NLongDivision_init_21 : decode prog_4_method_1_code 21 = .ok (.iconst 0, 1) := by decide +kernel
theorem d_NLongDivision_init_22 : decode prog_4_method_1_code 22 = .ok (.putfield 18, 3) := by decide +kernel
theorem d_NLongDivision_init_25 : decode prog_4_method_1_code 25 = .ok (.return_, 1) := by decide +kernel
theorem d_NLongNumber_init_0 : decode prog_5_method_1_code 0 = .ok (.aload_n 0, 1) := by decide +kernel
theorem d_NLongNumber_init_1 : decode prog_5_method_1_code 1 = .ok (.invokespecial 1, 3) := by decide +kernel
theorem d_NLongNumber_init_4 : decode prog_5_method_1_code 4 = .ok (.aload_n 0, 1) := by decide +kernel
theorem d_NLongNumber_init_5 : decode prog_5_method_1_code 5 = .ok (.iconst 0, 1) := by decide +kernel
theorem d_NLongNumber_init_6 : decode prog_5_method_1_code 6 = .ok (.putfield 7, 3) := by decide +kernel
theorem d_NLongNumber_init_9 : decode prog_5_method_1_code 9 = .ok (.aload_n 0, 1) := by decide +kernel
theorem d_NLongNumber_init_10 : decode prog_5_method_1_code 10 = .ok (.iconst 0, 1) := by decide +kernel
theorem d_NLongNumber_init_11 : decode prog_5_method_1_code 11 = .ok (.putfield 13, 3) := by decide +kernel
theorem d_NLongNumber_init_14 : decode prog_5_method_1_code 14 = .ok (.aload_n 0, 1) := by decide +kernel
theorem d_NLongNumber_init_15 : decode prog_5_method_1_code 15 = .ok (.bipush 15, 2) := by decide +kernel
theorem d_NLongNumber_init_17 : decode prog_5_method_1_code 17 = .ok (.newarray .int, 2) := by decide +kernel
theorem d_NLongNumber_init_19 : decode prog_5_method_1_code 19 = .ok (.putfield 16, 3) := by decide +kernel
theorem d_NLongNumber_init_22 : decode prog_5_method_1_code 22 = .ok (.return_, 1) := by decide +kernel
theorem d_NNode_init_0 : decode prog_6_method_1_code 0 = .ok (.aload_n 0, 1) := by decide +kernel
theorem d_NNode_init_1 : decode prog_6_method_1_code 1 = .ok (.invokespecial 1, 3) := by decide +kernel
theorem d_NNode_init_4 : decode prog_6_method_1_code 4 = .ok (.aload_n 0, 1) := by decide +kernel
theorem d_NNode_init_5 : decode prog_6_method_1_code 5 = .ok (.iconst 0, 1) := by decide +kernel
theorem d_NNode_init_6 : decode prog_6_method_1_code 6 = .ok (.putfield 9, 3) := by decide +kernel
theorem d_NNode_init_9 : decode prog_6_method_1_code 9 = .ok (.aload_n 0, 1) := by decide +kernel
theorem d_NNode_init_10 : decode prog_6_method_1_code 10 = .ok (.iconst 0, 1) := by decide +kernel
theorem d_NNode_init_11 : decode prog_6_method_1_code 11 = .ok (.putfield 13, 3) := by decide +kernel
theorem d_NNode_init_14 : decode prog_6_method_1_code 14 = .ok (.aload_n 0, 1) := by decide +kernel
theorem d_NNode_init_15 : decode prog_6_method_1_code 15 = .ok (.iconst 0, 1) := by decide +kernel
theorem d_NNode_init_16 : decode prog_6_method_1_code 16 = .ok (.putfield 16, 3) := by decide +kernel
theorem d_NNode_init_19 : decode prog_6_method_1_code 19 = .ok (.aload_n 0, 1) := by decide +kernel
theorem d_NNode_init_20 : decode prog_6_method_1_code 20 = .ok (.new 19, 3) := by decide +kernel
theorem d_NNode_init_23 : decode prog_6_method_1_code 23 = .ok (.dup, 1) := by decide +kernel
theorem d_NNode_init_24 : decode prog_6_method_1_code 24 = .ok (.invokespecial 21, 3) := by decide +kernel
theorem d_NNode_init_27 : decode prog_6_method_1_code 27 = .ok (.putfield 22, 3) := by decide +kernel
theorem d_NNode_init_30 : decode prog_6_method_1_code 30 = .ok (.aload_n 0, 1) := by decide +kernel
theorem d_NNode_init_31 : decode prog_6_method_1_code 31 = .ok (.iconst 1, 1) := by decide +kernel
theorem d_NNode_init_32 : decode prog_6_method_1_code 32 = .ok (.putfield 26, 3) := by decide +kernel
theorem d_NNode_init_35 : decode prog_6_method_1_code 35 = .ok (.aload_n 0, 1) := by decide +kernel
theorem d_NNode_init_36 : decode prog_6_method_1_code 36 = .ok (.lconst 0, 1) := by decide +kernel
theorem d_NNode_init_37 : decode prog_6_method_1_code 37 = .ok (.putfield 30, 3) := by decide +kernel
theorem d_NNode_init_40 : decode prog_6_method_1_code 40 = .ok (.aload_n 0, 1) := by decide +kernel
theorem d_NNode_init_41 : decode prog_6_method_1_code 41 = .ok (.new 34, 3) := by decide +kernel
theorem d_NNode_init_44 : decode prog_6_method_1_code 44 = .ok (.dup, 1) := by decide +kernel
theorem d_NNode_init_45 : decode prog_6_method_1_code 45 = .ok (.invokespecial 36, 3) := by decide +kernel
theorem d_NNode_init_48 : decode prog_6_method_1_code 48 = .ok (.putfield 37, 3) := by decide +kernel
theorem d_NNode_init_51 : decode prog_6_method_1_code 51 = .ok (.return_, 1) := by decide +kernel
theorem d_NProgram_init_0 : decode prog_7_method_1_code 0 = .ok (.aload_n 0, 1) := by decide +kernel
theorem d_NProgram_init_1 : decode prog_7_method_1_code 1 = .ok (.invokespecial 5, 3) := by decide +kernel
theorem d_NProgram_init_4 : decode prog_7_method_1_code 4 = .ok (.aload_n 0, 1) := by decide +kernel
theorem d_NProgram_init_5 : decode prog_7_method_1_code 5 = .ok (.bipush 36, 2) := by decide +kernel
theorem d_NProgram_init_7 : decode prog_7_method_1_code 7 = .ok (.anewarray 11, 3) := by decide +kernel
theorem d_NProgram_init_10 : decode prog_7_method_1_code 10 = .ok (.putfield 13, 3) := by decide +kernel
theorem d_NProgram_init_13 : decode prog_7_method_1_code 13 = .ok (.aload_n 0, 1) := by decide +kernel
theorem d_NProgram_init_14 : decode prog_7_method_1_code 14 = .ok (.iconst 0, 1) := by decide +kernel
theorem d_NProgram_init_15 : decode prog_7_method_1_code 15 = .ok (.putfield 17, 3) := by decide +kernel
theorem d_NProgram_init_18 : decode prog_7_method_1_code 18 = .ok (.aload_n 0, 1) := by decide +kernel
theorem d_NProgram_init_19 : decode prog_7_method_1_code 19 = .ok (.bipush 72, 2) := by decide +kernel
theorem d_NProgram_init_21 : decode prog_7_method_1_code 21 = .ok (.anewarray 21, 3) := by decide +kernel
theorem d_NProgram_init_24 : decode prog_7_method_1_code 24 = .ok (.putfield 23, 3) := by decide +kernel
theorem d_NProgram_init_27 : decode prog_7_method_1_code 27 = .ok (.aload_n 0, 1) := by decide +kernel
theorem d_NProgram_init_28 : decode prog_7_method_1_code 28 = .ok (.iconst 0, 1) := by decide +kernel
theorem d_NProgram_init_29 : decode prog_7_method_1_code 29 = .ok (.putfield 27, 3) := by decide +kernel
theorem d_NProgram_init_32 : decode prog_7_method_1_code 32 = .ok (.aload_n 0, 1) := by decide +kernel
theorem d_NProgram_init_33 : decode prog_7_method_1_code 33 = .ok (.bipush 10, 2) := by decide +kernel
theorem d_NProgram_init_35 : decode prog_7_method_1_code 35 = .ok (.anewarray 30, 3) := by decide +kernel
theorem d_NProgram_init_38 : decode prog_7_method_1_code 38 = .ok (.putfield 32, 3) := by decide +kernel
theorem d_NProgram_init_41 : decode prog_7_method_1_code 41 = .ok (.aload_n 0, 1) := by decide +kernel
theorem d_NProgram_init_42 : decode prog_7_method_1_code 42 = .ok (.new 30, 3) := by decide +kernel
theorem d_NProgram_init_45 : decode prog_7_method_1_code 45 = .ok (.dup, 1) := by decide +kernel
theorem d_NProgram_init_46 : decode prog_7_method_1_code 46 = .ok (.invokespecial 36, 3) := by decide +kernel
theorem d_NProgram_init_49 : decode prog_7_method_1_code 49 = .ok (.putfield 37, 3) := by decide +kernel
theorem d_NProgram_init_52 : decode prog_7_method_1_code 52 = .ok (.iconst 0, 1) := by decide +kernel
theorem d_NProgram_init_53 : decode prog_7_method_1_code 53 = .ok (.istore_n 1, 1) := by decide +kernel
theorem d_NProgram_init_54 : decode prog_7_method_1_code 54 = .ok (.iload_n 1, 1) := by decide +kernel
theorem d_NProgram_init_55 : decode prog_7_method_1_code 55 = .ok (.bipush 36, 2) := by decide +kernel
theorem d_NProgram_init_57 : decode prog_7_method_1_code 57 = .ok (.if_icmp .ge 22, 3) := by decide +kernel
theorem d_NProgram_init_60 : decode prog_7_method_1_code 60 = .ok (.aload_n 0, 1) := by decide +kernel
theorem d_NProgram_init_61 : decode prog_7_method_1_code 61 = .ok (.getfield 13, 3) := by decide +kernel
theorem d_NProgram_init_64 : decode prog_7_method_1_code 64 = .ok (.iload_n 1, 1) := by decide +kernel
theorem d_NProgram_init_65 : decode prog_7_method_1_code 65 = .ok (.new 11, 3) := by decide +kernel
theorem d_NProgram_init_68 : decode prog_7_method_1_code 68 = .ok (.dup, 1) := by decide +kernel
theorem d_NProgram_init_69 : decode prog_7_method_1_code 69 = .ok (.invokespecial 41, 3) := by decide +kernel
theorem d_NProgram_init_72 : decode prog_7_method_1_code 72 = .ok (.aastore, 1) := by decide +kernel
theorem d_NProgram_init_73 : decode prog_7_method_1_code 73 = .ok (.iinc 1 1, 3) := by decide +kernel
theorem d_NProgram_init_76 : decode prog_7_method_1_code 76 = .ok (.goto (-22), 3) := by decide +kernel
theorem d_NProgram_init_79 : decode prog_7_method_1_code 79 = .ok (.iconst 0, 1) := by decide +kernel
theorem d_NProgram_init_80 : decode prog_7_method_1_code 80 = .ok (.istore_n 1, 1) := by decide +kernel
theorem d_NProgram_init_81 : decode prog_7_method_1_code 81 = .ok (.iload_n 1, 1) := by decide +kernel
theorem d_NProgram_init_82 : decode prog_7_method_1_code 82 = .ok (.bipush 72, 2) := by decide +kernel
theorem d_NProgram_init_84 : decode prog_7_method_1_code 84 = .ok (.if_icmp .ge 22, 3) := by decide +kernel
theorem d_NProgram_init_87 : decode prog_7_method_1_code 87 = .ok (.aload_n 0, 1) := by decide +kernel
theorem d_NProgram_init_88 : decode prog_7_method_1_code 88 = .ok (.getfield 23, 3) := by decide +kernel
theorem d_NProgram_init_91 : decode prog_7_method_1_code 91 = .ok (.iload_n 1, 1) := by decide +kernel
theorem d_NProgram_init_92 : decode prog_7_method_1_code 92 = .ok (.new 21, 3) := by decide +kernel
theorem d_NProgram_init_95 : decode prog_7_method_1_code 95 = .ok (.dup, 1) := by decide +kernel
theorem d_NProgram_init_96 : decode prog_7_method_1_code 96 = .ok (.invokespecial 42, 3) := by decide +kernel
theorem d_NProgram_init_99 : decode prog_7_method_1_code 99 = .ok (.aastore, 1) := by decide +kernel
theorem d_NProgram_init_100 : decode prog_7_method_1_code 100 = .ok (.iinc 1 1, 3) := by decide +kernel
theorem d_NProgram_init_103 : decode prog_7_method_1_code 103 = .ok (.goto (-22), 3) := by decide +kernel
theorem d_NProgram_init_106 : decode prog_7_method_1_code 106 = .ok (.iconst 0, 1) := by decide +kernel
theorem d_NProgram_init_107 : decode prog_7_method_1_code 107 = .ok (.istore_n 1, 1) := by decide +kernel
theorem d_NProgram_init_108 : decode prog_7_method_1_code 108 = .ok (.iload_n 1, 1) := by decide +kernel
theorem d_NProgram_init_109 : decode prog_7_method_1_code 109 = .ok (.bipush 10, 2) := by decide +kernel
theorem d_NProgram_init_111 : decode prog_7_method_1_code 111 = .ok (.if_icmp .ge 22, 3) := by decide +kernel
theorem d_NProgram_init_114 : decode prog_7_method_1_code 114 = .ok (.aload_n 0, 1) := by decide +kernel
theorem d_NProgram_init_115 : decode prog_7_method_1_code 115 = .ok (.getfield 32, 3) := by decide +kernel
theorem d_NProgram_init_118 : decode prog_7_method_1_code 118 = .ok (.iload_n 1, 1) := by decide +kernel
theorem d_NProgram_init_119 : decode prog_7_method_1_code 119 = .ok (.new 30, 3) := by decide +kernel
theorem d_NProgram_init_122 : decode prog_7_method_1_code 122 = .ok (.dup, 1) := by decide +kernel
theorem d_NProgram_init_123 : decode prog_7_method_1_code 123 = .ok (.invokespecial 36, 3) := by decide +kernel
theorem d_NProgram_init_126 : decode prog_7_method_1_code 126 = .ok (.aastore, 1) := by decide +kernel
theorem d_NProgram_init_127 : decode prog_7_method_1_code 127 = .ok (.iinc 1 1, 3) := by decide +kernel
theorem d_NProgram_init_130 : decode prog_7_method_1_code 130 = .ok (.goto (-22), 3) := by decide +kernel
theorem d_NProgram_init_133 : decode prog_7_method_1_code 133 = .ok (.aload_n 0, 1) := by decide +kernel
theorem d_NProgram_init_134 : decode prog_7_method_1_code 134 = .ok (.getfield 37, 3) := by decide +kernel
theorem d_NProgram_init_137 : decode prog_7_method_1_code 137 = .ok (.ldc2_w 45, 3) := by decide +kernel
theorem d_NProgram_init_140 : decode prog_7_method_1_code 140 = .ok (.putfield 47, 3) := by decide +kernel
theorem d_NProgram_init_143 : decode prog_7_method_1_code 143 = .ok (.aload_n 0, 1) := by decide +kernel
theorem d_NProgram_init_144 : decode prog_7_method_1_code 144 = .ok (.getfield 37, 3) := by decide +kernel
theorem d_NProgram_init_147 : decode prog_7_method_1_code 147 = .ok (.ldc2_w 51, 3) := by decide +kernel
theorem d_NProgram_init_150 : decode prog_7_method_1_code 150 = .ok (.putfield 53, 3) := by decide +kernel
theorem d_NProgram_init_153 : decode prog_7_method_1_code 153 = .ok (.return_, 1) := by decide +kernel
theorem d_NReader_init_0 : decode prog_8_method_1_code 0 = .ok (.aload_n 0, 1) := by decide +kernel
theorem d_NReader_init_1 : decode prog_8_method_1_code 1 = .ok (.invokespecial 3, 3) := by decide +kernel
theorem d_NReader_init_4 : decode prog_8_method_1_code 4 = .ok (.aload_n 0, 1) := by decide +kernel
theorem d_NReader_init_5 : decode prog_8_method_1_code 5 = .ok (.iconst 0, 1) := by decide +kernel
theorem d_NReader_init_6 : decode prog_8_method_1_code 6 = .ok (.newarray .char, 2) := by decide +kernel
theorem d_NReader_init_8 : decode prog_8_method_1_code 8 = .ok (.putfield 9, 3) := by decide +kernel
theorem d_NReader_init_11 : decode prog_8_method_1_code 11 = .ok (.aload_n 0, 1) := by decide +kernel
theorem d_NReader_init_12 : decode prog_8_method_1_code 12 = .ok (.iconst 0, 1) := by decide +kernel
theorem d_NReader_init_13 : decode prog_8_method_1_code 13 = .ok (.putfield 15, 3) := by decide +kernel
theorem d_NReader_init_16 : decode prog_8_method_1_code 16 = .ok (.aload_n 0, 1) := by decide +kernel
theorem d_NReader_init_17 : decode prog_8_method_1_code 17 = .ok (.iconst 0, 1) := by decide +kernel
theorem d_NReader_init_18 : decode prog_8_method_1_code 18 = .ok (.putfield 19, 3) := by decide +kernel
theorem d_NReader_init_21 : decode prog_8_method_1_code 21 = .ok (.aload_n 0, 1) := by decide +kernel
theorem d_NReader_init_22 : decode prog_8_method_1_code 22 = .ok (.new 22, 3) := by decide +kernel
theorem d_NReader_init_25 : decode prog_8_method_1_code 25 = .ok (.dup, 1) := by decide +kernel
theorem d_NReader_init_26 : decode prog_8_method_1_code 26 = .ok (.invokespecial 24, 3) := by decide +kernel
theorem d_NReader_init_29 : decode prog_8_method_1_code 29 = .ok (.putfield 25, 3) := by decide +kernel
theorem d_NReader_init_32 : decode prog_8_method_1_code 32 = .ok (.return_, 1) := by decide +kernel
theorem d_NReader_accept_0 : decode prog_8_method_4_code 0 = .ok (.aload_n 0, 1) := by decide +kernel
theorem d_NReader_accept_1 : decode prog_8_method_4_code 1 = .ok (.invokevirtual 45, 3) := by decide +kernel
theorem d_NReader_accept_4 : decode prog_8_method_4_code 4 = .ok (.iload_n 1, 1) := by decide +kernel
theorem d_NReader_accept_5 : decode prog_8_method_4_code 5 = .ok (.if_icmp .eq 5, 3) := by decide +kernel
theorem d_NReader_accept_8 : decode prog_8_method_4_code 8 = .ok (.iconst 0, 1) := by decide +kernel
theorem d_NReader_accept_9 : decode prog_8_method_4_code 9 = .ok (.ireturn, 1) := by decide +kernel
theorem d_NReader_addStatement_0 : decode prog_8_method_16_code 0 = .ok (.aload_n 0, 1) := by decide +kernel
theorem d_NReader_addStatement_1 : decode prog_8_method_16_code 1 = .ok (.getfield 25, 3) := by decide +kernel
theorem d_NReader_addStatement_4 : decode prog_8_method_16_code 4 = .ok (.getfield 35, 3) := by decide +kernel
theorem d_NReader_addStatement_7 : decode prog_8_method_16_code 7 = .ok (.aload_n 0, 1) := by decide +kernel
theorem d_NReader_addStatement_8 : decode prog_8_method_16_code 8 = .ok (.getfield 25, 3) := by decide +kernel
theorem d_NReader_addStatement_11 : decode prog_8_method_16_code 11 = .ok (.getfield 78, 3) := by decide +kernel
theorem d_NReader_addStatement_14 : decode prog_8_method_16_code 14 = .ok (.arraylength, 1) := by decide +kernel
theorem d_NReader_addStatement_15 : decode prog_8_method_16_code 15 = .ok (.if_icmp .lt 5, 3) := by decide +kernel
theorem d_NReader_addStatement_20 : decode prog_8_method_16_code 20 = .ok (.aload_n 0, 1) := by decide +kernel
theorem d_NReader_addStatement_21 : decode prog_8_method_16_code 21 = .ok (.getfield 25, 3) := by decide +kernel
theorem d_NReader_addStatement_24 : decode prog_8_method_16_code 24 = .ok (.getfield 78, 3) := by decide +kernel
theorem d_NReader_addStatement_27 : decode prog_8_method_16_code 27 = .ok (.aload_n 0, 1) := by decide +kernel
theorem d_NReader_addStatement_28 : decode prog_8_method_16_code 28 = .ok (.getfield 25, 3) := by decide +kernel
theorem d_NReader_addStatement_31 : decode prog_8_method_16_code 31 = .ok (.getfield 35, 3) := by decide +kernel
theorem d_NReader_addStatement_34 : decode prog_8_method_16_code 34 = .ok (.aaload, 1) := by decide +kernel
theorem d_NReader_addStatement_35 : decode prog_8_method_16_code 35 = .ok (.iload_n 1, 1) := by decide +kernel
theorem d_NReader_addStatement_36 : decode prog_8_method_16_code 36 = .ok (.putfield 127, 3) := by decide +kernel
theorem d_NReader_addStatement_39 : decode prog_8_method_16_code 39 = .ok (.aload_n 0, 1) := by decide +kernel
theorem d_NReader_addStatement_40 : decode prog_8_method_16_code 40 = .ok (.getfield 25, 3) := by decide +kernel
theorem d_NReader_addStatement_43 : decode prog_8_method_16_code 43 = .ok (.dup, 1) := by decide +kernel
theorem d_NReader_addStatement_44 : decode prog_8_method_16_code 44 = .ok (.getfield 35, 3) := by decide +kernel
theorem d_NReader_addStatement_47 : decode prog_8_method_16_code 47 = .ok (.iconst 1, 1) := by decide +kernel
theorem d_NReader_addStatement_48 : decode prog_8_method_16_code 48 = .ok (.iadd, 1) := by decide +kernel
theorem d_NReader_addStatement_49 : decode prog_8_method_16_code 49 = .ok (.putfield 35, 3) := by decide +kernel
theorem d_NReader_addStatement_52 : decode prog_8_method_16_code 52 = .ok (.aload_n 0, 1) := by decide +kernel
theorem d_NReader_addStatement_53 : decode prog_8_method_16_code 53 = .ok (.getfield 25, 3) := by decide +kernel
theorem d_NReader_addStatement_56 : decode prog_8_method_16_code 56 = .ok (.getfield 35, 3) := by decide +kernel
theorem d_NReader_addStatement_59 : decode prog_8_method_16_code 59 = .ok (.iconst 1, 1) := by decide +kernel
theorem d_NReader_addStatement_60 : decode prog_8_method_16_code 60 = .ok (.isub, 1) := by decide +kernel
theorem d_NReader_addStatement_61 : decode prog_8_method_16_code 61 = .ok (.ireturn, 1) := by decide +kernel
theorem d_NReader_next_0 : decode prog_8_method_3_code 0 = .ok (.aload_n 0, 1) := by decide +kernel
theorem d_NReader_next_1 : decode prog_8_method_3_code 1 = .ok (.getfield 19, 3) := by decide +kernel
theorem d_NReader_next_4 : decode prog_8_method_3_code 4 = .ok (.aload_n 0, 1) := by decide +kernel
theorem d_NReader_next_5 : decode prog_8_method_3_code 5 = .ok (.getfield 15, 3) := by decide +kernel
theorem d_NReader_next_8 : decode prog_8_method_3_code 8 = .ok (.if_icmp .ge 15, 3) := by decide +kernel
theorem d_NReader_next_23 : decode prog_8_method_3_code 23 = .ok (.bipush 32, 2) := by decide +kernel
theorem d_NReader_next_25 : decode prog_8_method_3_code 25 = .ok (.ireturn, 1) := by decide +kernel
theorem d_NReader_readName_0 : decode prog_8_method_9_code 0 = .ok (.aload_n 0, 1) := by decide +kernel
theorem d_NReader_readName_1 : decode prog_8_method_9_code 1 = .ok (.invokevirtual 45, 3) := by decide +kernel
theorem d_NReader_readName_4 : decode prog_8_method_9_code 4 = .ok (.istore_n 2, 1) := by decide +kernel
theorem d_NReader_readName_5 : decode prog_8_method_9_code 5 = .ok (.iload_n 1, 1) := by decide +kernel
theorem d_NReader_readName_6 : decode prog_8_method_9_code 6 = .ok (.iconst (-1), 1) := by decide +kernel
theorem d_NReader_readName_7 : decode prog_8_method_9_code 7 = .ok (.if_icmp .eq 15, 3) := by decide +kernel
theorem d_NReader_readName_10 : decode prog_8_method_9_code 10 = .ok (.iload_n 2, 1) := by decide +kernel
theorem d_NReader_readName_11 : decode prog_8_method_9_code 11 = .ok (.bipush 97, 2) := by decide +kernel
theorem d_NReader_readName_13 : decode prog_8_method_9_code 13 = .ok (.if_icmp .lt 9, 3) := by decide +kernel
theorem d_NReader_readName_22 : decode prog_8_method_9_code 22 = .ok (.iconst 0, 1) := by decide +kernel
theorem d_NReader_readName_23 : decode prog_8_method_9_code 23 = .ok (.ireturn, 1) := by decide +kernel
theorem d_NReader_readProgram_0 : decode prog_8_method_5_code 0 = .ok (.iload_n 1, 1) := by decide +kernel
theorem d_NReader_readProgram_1 : decode prog_8_method_5_code 1 = .ok (.bipush 10, 2) := by decide +kernel
theorem d_NReader_readProgram_3 : decode prog_8_method_5_code 3 = .ok (.if_icmp .le 5, 3) := by decide +kernel
theorem d_NReader_readProgram_8 : decode prog_8_method_5_code 8 = .ok (.iconst 0, 1) := by decide +kernel
theorem d_NReader_readProgram_9 : decode prog_8_method_5_code 9 = .ok (.istore_n 2, 1) := by decide +kernel
theorem d_NReader_readProgram_10 : decode prog_8_method_5_code 10 = .ok (.iload_n 2, 1) := by decide +kernel
theorem d_NReader_readProgram_11 : decode prog_8_method_5_code 11 = .ok (.bipush 72, 2) := by decide +kernel
theorem d_NReader_readProgram_13 : decode prog_8_method_5_code 13 = .ok (.if_icmp .ge 30, 3) := by decide +kernel
theorem d_NReader_readProgram_16 : decode prog_8_method_5_code 16 = .ok (.aload_n 0, 1) := by decide +kernel
theorem d_NReader_readProgram_17 : decode prog_8_method_5_code 17 = .ok (.iload_n 1, 1) := by decide +kernel
theorem d_NReader_readProgram_18 : decode prog_8_method_5_code 18 = .ok (.invokevirtual 49, 3) := by decide +kernel
theorem d_NReader_readProgram_21 : decode prog_8_method_5_code 21 = .ok (.ifCond .ne 5, 3) := by decide +kernel
theorem d_NReader_readProgram_24 : decode prog_8_method_5_code 24 = .ok (.iconst 0, 1) := by decide +kernel
theorem d_NReader_readProgram_25 : decode prog_8_method_5_code 25 = .ok (.ireturn, 1) := by decide +kernel
theorem d_NReader_readStatement_0 : decode prog_8_method_6_code 0 = .ok (.aload_n 0, 1) := by decide +kernel
theorem d_NReader_readStatement_1 : decode prog_8_method_6_code 1 = .ok (.bipush 63, 2) := by decide +kernel
theorem d_NReader_readStatement_3 : decode prog_8_method_6_code 3 = .ok (.invokevirtual 52, 3) := by decide +kernel
theorem d_NReader_readStatement_6 : decode prog_8_method_6_code 6 = .ok (.ifCond .eq 13, 3) := by decide +kernel
theorem d_NReader_readStatement_19 : decode prog_8_method_6_code 19 = .ok (.aload_n 0, 1) := by decide +kernel
theorem d_NReader_readStatement_20 : decode prog_8_method_6_code 20 = .ok (.bipush 33, 2) := by decide +kernel
theorem d_NReader_readStatement_22 : decode prog_8_method_6_code 22 = .ok (.invokevirtual 52, 3) := by decide +kernel
theorem d_NReader_readStatement_25 : decode prog_8_method_6_code 25 = .ok (.ifCond .eq 14, 3) := by decide +kernel
theorem d_NReader_readStatement_39 : decode prog_8_method_6_code 39 = .ok (.aload_n 0, 1) := by decide +kernel
theorem d_NReader_readStatement_40 : decode prog_8_method_6_code 40 = .ok (.bipush 91, 2) := by decide +kernel
theorem d_NReader_readStatement_42 : decode prog_8_method_6_code 42 = .ok (.invokevirtual 52, 3) := by decide +kernel
theorem d_NReader_readStatement_45 : decode prog_8_method_6_code 45 = .ok (.ifCond .eq 9, 3) := by decide +kernel
theorem d_NReader_readStatement_54 : decode prog_8_method_6_code 54 = .ok (.aload_n 0, 1) := by decide +kernel
theorem d_NReader_readStatement_55 : decode prog_8_method_6_code 55 = .ok (.bipush 123, 2) := by decide +kernel
theorem d_NReader_readStatement_57 : decode prog_8_method_6_code 57 = .ok (.invokevirtual 52, 3) := by decide +kernel
theorem d_NReader_readStatement_60 : decode prog_8_method_6_code 60 = .ok (.ifCond .eq 9, 3) := by decide +kernel
theorem d_NReader_readStatement_69 : decode prog_8_method_6_code 69 = .ok (.aload_n 0, 1) := by decide +kernel
theorem d_NReader_readStatement_70 : decode prog_8_method_6_code 70 = .ok (.iconst 0, 1) := by decide +kernel
theorem d_NReader_readStatement_71 : decode prog_8_method_6_code 71 = .ok (.invokevirtual 58, 3) := by decide +kernel
theorem d_NReader_readStatement_74 : decode prog_8_method_6_code 74 = .ok (.istore_n 2, 1) := by decide +kernel
theorem d_NReader_readStatement_75 : decode prog_8_method_6_code 75 = .ok (.aload_n 0, 1) := by decide +kernel
theorem d_NReader_readStatement_76 : decode prog_8_method_6_code 76 = .ok (.iload_n 2, 1) := by decide +kernel
theorem d_NReader_readStatement_77 : decode prog_8_method_6_code 77 = .ok (.invokevirtual 62, 3) := by decide +kernel
theorem d_NReader_readStatement_80 : decode prog_8_method_6_code 80 = .ok (.ifCond .eq 25, 3) := by decide +kernel
theorem d_NReader_readStatement_105 : decode prog_8_method_6_code 105 = .ok (.iconst 0, 1) := by decide +kernel
theorem d_NReader_readStatement_106 : decode prog_8_method_6_code 106 = .ok (.ireturn, 1) := by decide +kernel
theorem d_NReader_reads_0 : decode prog_8_method_2_code 0 = .ok (.aload_n 0, 1) := by decide +kernel
theorem d_NReader_reads_1 : decode prog_8_method_2_code 1 = .ok (.aload_n 1, 1) := by decide +kernel
theorem d_NReader_reads_2 : decode prog_8_method_2_code 2 = .ok (.putfield 9, 3) := by decide +kernel
theorem d_NReader_reads_5 : decode prog_8_method_2_code 5 = .ok (.aload_n 0, 1) := by decide +kernel
theorem d_NReader_reads_6 : decode prog_8_method_2_code 6 = .ok (.iload_n 2, 1) := by decide +kernel
theorem d_NReader_reads_7 : decode prog_8_method_2_code 7 = .ok (.aload_n 1, 1) := by decide +kernel
theorem d_NReader_reads_8 : decode prog_8_method_2_code 8 = .ok (.arraylength, 1) := by decide +kernel
theorem d_NReader_reads_9 : decode prog_8_method_2_code 9 = .ok (.invokestatic 29, 3) := by decide +kernel
theorem d_NReader_reads_12 : decode prog_8_method_2_code 12 = .ok (.putfield 15, 3) := by decide +kernel
theorem d_NReader_reads_15 : decode prog_8_method_2_code 15 = .ok (.aload_n 0, 1) := by decide +kernel
theorem d_NReader_reads_16 : decode prog_8_method_2_code 16 = .ok (.iconst 0, 1) := by decide +kernel
theorem d_NReader_reads_17 : decode prog_8_method_2_code 17 = .ok (.putfield 19, 3) := by decide +kernel
theorem d_NReader_reads_20 : decode prog_8_method_2_code 20 = .ok (.aload_n 0, 1) := by decide +kernel
theorem d_NReader_reads_21 : decode prog_8_method_2_code 21 = .ok (.getfield 25, 3) := by decide +kernel
theorem d_NReader_reads_24 : decode prog_8_method_2_code 24 = .ok (.iconst 0, 1) := by decide +kernel
theorem d_NReader_reads_25 : decode prog_8_method_2_code 25 = .ok (.putfield 35, 3) := by decide +kernel
theorem d_NReader_reads_28 : decode prog_8_method_2_code 28 = .ok (.aload_n 0, 1) := by decide +kernel
theorem d_NReader_reads_29 : decode prog_8_method_2_code 29 = .ok (.getfield 25, 3) := by decide +kernel
theorem d_NReader_reads_32 : decode prog_8_method_2_code 32 = .ok (.iconst 0, 1) := by decide +kernel
theorem d_NReader_reads_33 : decode prog_8_method_2_code 33 = .ok (.putfield 38, 3) := by decide +kernel
theorem d_NReader_reads_36 : decode prog_8_method_2_code 36 = .ok (.aload_n 0, 1) := by decide +kernel
theorem d_NReader_reads_37 : decode prog_8_method_2_code 37 = .ok (.iconst 1, 1) := by decide +kernel
theorem d_NReader_reads_38 : decode prog_8_method_2_code 38 = .ok (.invokevirtual 41, 3) := by decide +kernel
theorem d_NReader_reads_41 : decode prog_8_method_2_code 41 = .ok (.ifCond .eq 18, 3) := by decide +kernel
theorem d_NReader_reads_59 : decode prog_8_method_2_code 59 = .ok (.iconst 0, 1) := by decide +kernel
theorem d_NReader_reads_60 : decode prog_8_method_2_code 60 = .ok (.ireturn, 1) := by decide +kernel
theorem d_NRunner_init_0 : decode prog_9_method_1_code 0 = .ok (.aload_n 0, 1) := by decide +kernel
theorem d_NRunner_init_1 : decode prog_9_method_1_code 1 = .ok (.invokespecial 3, 3) := by decide +kernel
theorem d_NRunner_init_4 : decode prog_9_method_1_code 4 = .ok (.aload_n 0, 1) := by decide +kernel
theorem d_NRunner_init_5 : decode prog_9_method_1_code 5 = .ok (.new 9, 3) := by decide +kernel
theorem d_NRunner_init_8 : decode prog_9_method_1_code 8 = .ok (.dup, 1) := by decide +kernel
theorem d_NRunner_init_9 : decode prog_9_method_1_code 9 = .ok (.invokespecial 11, 3) := by decide +kernel
theorem d_NRunner_init_12 : decode prog_9_method_1_code 12 = .ok (.putfield 12, 3) := by decide +kernel
theorem d_NRunner_init_15 : decode prog_9_method_1_code 15 = .ok (.aload_n 0, 1) := by decide +kernel
theorem d_NRunner_init_16 : decode prog_9_method_1_code 16 = .ok (.new 18, 3) := by decide +kernel
theorem d_NRunner_init_19 : decode prog_9_method_1_code 19 = .ok (.dup, 1) := by decide +kernel
theorem d_NRunner_init_20 : decode prog_9_method_1_code 20 = .ok (.invokespecial 20, 3) := by decide +kernel
theorem d_NRunner_init_23 : decode prog_9_method_1_code 23 = .ok (.putfield 21, 3) := by decide +kernel
theorem d_NRunner_init_26 : decode prog_9_method_1_code 26 = .ok (.aload_n 0, 1) := by decide +kernel
theorem d_NRunner_init_27 : decode prog_9_method_1_code 27 = .ok (.iconst 0, 1) := by decide +kernel
theorem d_NRunner_init_28 : decode prog_9_method_1_code 28 = .ok (.putfield 25, 3) := by decide +kernel
theorem d_NRunner_init_31 : decode prog_9_method_1_code 31 = .ok (.aload_n 0, 1) := by decide +kernel
theorem d_NRunner_init_32 : decode prog_9_method_1_code 32 = .ok (.bipush 10, 2) := by decide +kernel
theorem d_NRunner_init_34 : decode prog_9_method_1_code 34 = .ok (.newarray .long, 2) := by decide +kernel
theorem d_NRunner_init_36 : decode prog_9_method_1_code 36 = .ok (.putfield 29, 3) := by decide +kernel
theorem d_NRunner_init_39 : decode prog_9_method_1_code 39 = .ok (.aload_n 0, 1) := by decide +kernel
theorem d_NRunner_init_40 : decode prog_9_method_1_code 40 = .ok (.bipush 10, 2) := by decide +kernel
theorem d_NRunner_init_42 : decode prog_9_method_1_code 42 = .ok (.anewarray 33, 3) := by decide +kernel
theorem d_NRunner_init_45 : decode prog_9_method_1_code 45 = .ok (.putfield 35, 3) := by decide +kernel
theorem d_NRunner_init_48 : decode prog_9_method_1_code 48 = .ok (.aload_n 0, 1) := by decide +kernel
theorem d_NRunner_init_49 : decode prog_9_method_1_code 49 = .ok (.new 33, 3) := by decide +kernel
theorem d_NRunner_init_52 : decode prog_9_method_1_code 52 = .ok (.dup, 1) := by decide +kernel
theorem d_NRunner_init_53 : decode prog_9_method_1_code 53 = .ok (.invokespecial 39, 3) := by decide +kernel
theorem d_NRunner_init_56 : decode prog_9_method_1_code 56 = .ok (.putfield 40, 3) := by decide +kernel
theorem d_NRunner_init_59 : decode prog_9_method_1_code 59 = .ok (.aload_n 0, 1) := by decide +kernel
theorem d_NRunner_init_60 : decode prog_9_method_1_code 60 = .ok (.new 44, 3) := by decide +kernel
theorem d_NRunner_init_63 : decode prog_9_method_1_code 63 = .ok (.dup, 1) := by decide +kernel
theorem d_NRunner_init_64 : decode prog_9_method_1_code 64 = .ok (.invokespecial 46, 3) := by decide +kernel
theorem d_NRunner_init_67 : decode prog_9_method_1_code 67 = .ok (.putfield 47, 3) := by decide +kernel
theorem d_NRunner_init_70 : decode prog_9_method_1_code 70 = .ok (.aload_n 0, 1) := by decide +kernel
theorem d_NRunner_init_71 : decode prog_9_method_1_code 71 = .ok (.bipush 12, 2) := by decide +kernel
theorem d_NRunner_init_73 : decode prog_9_method_1_code 73 = .ok (.anewarray 33, 3) := by decide +kernel
theorem d_NRunner_init_76 : decode prog_9_method_1_code 76 = .ok (.putfield 51, 3) := by decide +kernel
theorem d_NRunner_init_79 : decode prog_9_method_1_code 79 = .ok (.aload_n 0, 1) := by decide +kernel
theorem d_NRunner_init_80 : decode prog_9_method_1_code 80 = .ok (.iconst 0, 1) := by decide +kernel
theorem d_NRunner_init_81 : decode prog_9_method_1_code 81 = .ok (.putfield 54, 3) := by decide +kernel
theorem d_NRunner_init_84 : decode prog_9_method_1_code 84 = .ok (.aload_n 0, 1) := by decide +kernel
theorem d_NRunner_init_85 : decode prog_9_method_1_code 85 = .ok (.iconst 0, 1) := by decide +kernel
theorem d_NRunner_init_86 : decode prog_9_method_1_code 86 = .ok (.putfield 57, 3) := by decide +kernel
theorem d_NRunner_init_89 : decode prog_9_method_1_code 89 = .ok (.aload_n 0, 1) := by decide +kernel
theorem d_NRunner_init_90 : decode prog_9_method_1_code 90 = .ok (.iconst 0, 1) := by decide +kernel
theorem d_NRunner_init_91 : decode prog_9_method_1_code 91 = .ok (.putfield 60, 3) := by decide +kernel
theorem d_NRunner_init_94 : decode prog_9_method_1_code 94 = .ok (.aload_n 0, 1) := by decide +kernel
theorem d_NRunner_init_95 : decode prog_9_method_1_code 95 = .ok (.iconst 0, 1) := by decide +kernel
theorem d_NRunner_init_96 : decode prog_9_method_1_code 96 = .ok (.putfield 63, 3) := by decide +kernel
theorem d_NRunner_init_99 : decode prog_9_method_1_code 99 = .ok (.aload_n 0, 1) := by decide +kernel
theorem d_NRunner_init_100 : decode prog_9_method_1_code 100 = .ok (.iconst 0, 1) := by decide +kernel
theorem d_NRunner_init_101 : decode prog_9_method_1_code 101 = .ok (.putfield 66, 3) := by decide +kernel
theorem d_NRunner_init_104 : decode prog_9_method_1_code 104 = .ok (.iconst 0, 1) := by decide +kernel
theorem d_NRunner_init_105 : decode prog_9_method_1_code 105 = .ok (.istore_n 1, 1) := by decide +kernel
theorem d_NRunner_init_106 : decode prog_9_method_1_code 106 = .ok (.iload_n 1, 1) := by decide +kernel
theorem d_NRunner_init_107 : decode prog_9_method_1_code 107 = .ok (.bipush 10, 2) := by decide +kernel
theorem d_NRunner_init_109 : decode prog_9_method_1_code 109 = .ok (.if_icmp .ge 22, 3) := by decide +kernel
theorem d_NRunner_init_112 : decode prog_9_method_1_code 112 = .ok (.aload_n 0, 1) := by decide +kernel
theorem d_NRunner_init_113 : decode prog_9_method_1_code 113 = .ok (.getfield 35, 3) := by decide +kernel
theorem d_NRunner_init_116 : decode prog_9_method_1_code 116 = .ok (.iload_n 1, 1) := by decide +kernel
theorem d_NRunner_init_117 : decode prog_9_method_1_code 117 = .ok (.new 33, 3) := by decide +kernel
theorem d_NRunner_init_120 : decode prog_9_method_1_code 120 = .ok (.dup, 1) := by decide +kernel
theorem d_NRunner_init_121 : decode prog_9_method_1_code 121 = .ok (.invokespecial 39, 3) := by decide +kernel
theorem d_NRunner_init_124 : decode prog_9_method_1_code 124 = .ok (.aastore, 1) := by decide +kernel
theorem d_NRunner_init_125 : decode prog_9_method_1_code 125 = .ok (.iinc 1 1, 3) := by decide +kernel
theorem d_NRunner_init_128 : decode prog_9_method_1_code 128 = .ok (.goto (-22), 3) := by decide +kernel
theorem d_NRunner_init_131 : decode prog_9_method_1_code 131 = .ok (.iconst 0, 1) := by decide +kernel
theorem d_NRunner_init_132 : decode prog_9_method_1_code 132 = .ok (.istore_n 1, 1) := by decide +kernel
theorem d_NRunner_init_133 : decode prog_9_method_1_code 133 = .ok (.iload_n 1, 1) := by decide +kernel
theorem d_NRunner_init_134 : decode prog_9_method_1_code 134 = .ok (.bipush 12, 2) := by decide +kernel
theorem d_NRunner_init_136 : decode prog_9_method_1_code 136 = .ok (.if_icmp .ge 22, 3) := by decide +kernel
theorem d_NRunner_init_139 : decode prog_9_method_1_code 139 = .ok (.aload_n 0, 1) := by decide +kernel
theorem d_NRunner_init_140 : decode prog_9_method_1_code 140 = .ok (.getfield 51, 3) := by decide +kernel
theorem d_NRunner_init_143 : decode prog_9_method_1_code 143 = .ok (.iload_n 1, 1) := by decide +kernel
theorem d_NRunner_init_144 : decode prog_9_method_1_code 144 = .ok (.new 33, 3) := by decide +kernel
theorem d_NRunner_init_147 : decode prog_9_method_1_code 147 = .ok (.dup, 1) := by decide +kernel
theorem d_NRunner_init_148 : decode prog_9_method_1_code 148 = .ok (.invokespecial 39, 3) := by decide +kernel
theorem d_NRunner_init_151 : decode prog_9_method_1_code 151 = .ok (.aastore, 1) := by decide +kernel
theorem d_NRunner_init_152 : decode prog_9_method_1_code 152 = .ok (.iinc 1 1, 3) := by decide +kernel
theorem d_NRunner_init_155 : decode prog_9_method_1_code 155 = .ok (.goto (-22), 3) := by decide +kernel
theorem d_NRunner_init_158 : decode prog_9_method_1_code 158 = .ok (.return_, 1) := by decide +kernel
theorem d_NRunner_keptOutputs_0 : decode prog_9_method_5_code 0 = .ok (.aload_n 0, 1) := by decide +kernel
theorem d_NRunner_keptOutputs_1 : decode prog_9_method_5_code 1 = .ok (.getfield 54, 3) := by decide +kernel
theorem d_NRunner_keptOutputs_4 : decode prog_9_method_5_code 4 = .ok (.bipush 12, 2) := by decide +kernel
theorem d_NRunner_keptOutputs_6 : decode prog_9_method_5_code 6 = .ok (.invokestatic 92, 3) := by decide +kernel
theorem d_NRunner_keptOutputs_9 : decode prog_9_method_5_code 9 = .ok (.ireturn, 1) := by decide +kernel
theorem d_NStatement_init_0 : decode prog_10_method_1_code 0 = .ok (.aload_n 0, 1) := by decide +kernel
theorem d_NStatement_init_1 : decode prog_10_method_1_code 1 = .ok (.invokespecial 1, 3) := by decide +kernel
theorem d_NStatement_init_4 : decode prog_10_method_1_code 4 = .ok (.aload_n 0, 1) := by decide +kernel
theorem d_NStatement_init_5 : decode prog_10_method_1_code 5 = .ok (.iconst 5, 1) := by decide +kernel
theorem d_NStatement_init_6 : decode prog_10_method_1_code 6 = .ok (.putfield 9, 3) := by decide +kernel
theorem d_NStatement_init_9 : decode prog_10_method_1_code 9 = .ok (.aload_n 0, 1) := by decide +kernel
theorem d_NStatement_init_10 : decode prog_10_method_1_code 10 = .ok (.iconst 0, 1) := by decide +kernel
theorem d_NStatement_init_11 : decode prog_10_method_1_code 11 = .ok (.putfield 13, 3) := by decide +kernel
theorem d_NStatement_init_14 : decode prog_10_method_1_code 14 = .ok (.aload_n 0, 1) := by decide +kernel
theorem d_NStatement_init_15 : decode prog_10_method_1_code 15 = .ok (.iconst 0, 1) := by decide +kernel
theorem d_NStatement_init_16 : decode prog_10_method_1_code 16 = .ok (.putfield 16, 3) := by decide +kernel
theorem d_NStatement_init_19 : decode prog_10_method_1_code 19 = .ok (.aload_n 0, 1) := by decide +kernel
theorem d_NStatement_init_20 : decode prog_10_method_1_code 20 = .ok (.iconst (-1), 1) := by decide +kernel
theorem d_NStatement_init_21 : decode prog_10_method_1_code 21 = .ok (.putfield 19, 3) := by decide +kernel
theorem d_NStatement_init_24 : decode prog_10_method_1_code 24 = .ok (.aload_n 0, 1) := by decide +kernel
theorem d_NStatement_init_25 : decode prog_10_method_1_code 25 = .ok (.iconst 0, 1) := by decide +kernel
theorem d_NStatement_init_26 : decode prog_10_method_1_code 26 = .ok (.putfield 22, 3) := by decide +kernel
theorem d_NStatement_init_29 : decode prog_10_method_1_code 29 = .ok (.return_, 1) := by decide +kernel
