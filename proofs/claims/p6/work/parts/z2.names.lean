theorem wd_96 {U : State} (h : TB U) (args : Array Value) : (Cond.instantiable "BigRunner" 5).before args U = true := h.w 96 (by decide +kernel) rfl args
theorem wd_942 {U : State} (h : TB U) (args : Array Value) : (Cond.instantiable "BigRunnerModel" 45).before args U = true := h.w 942 (by decide +kernel) rfl args

