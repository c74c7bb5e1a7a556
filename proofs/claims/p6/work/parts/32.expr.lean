/-! ===== EXPRs: the class's reader does what px_e does ===== -/
theorem px_e0 (k : Nat → Nat) (f d i : Nat) : px_e k (f + 1) 0 d i = (if 10 < d then none else if k i = 2 then px_e k f 0 (d + 1) (i + 1) else if k i = 4 then (px_e k f 1 (d + 1) (i + 1)).bind (fun a => if k a = 5 then some (a + 1) else none) else if k i = 6 then some (i + 1) else px_n k i) := rfl
theorem px_e1 (k : Nat → Nat) (f d i : Nat) : px_e k (f + 1) 1 d i = (px_e k f 2 d i).bind (fun a => px_e k f 3 d a) := rfl
theorem px_e2 (k : Nat → Nat) (f d i : Nat) : px_e k (f + 1) 2 d i = (px_e k f 0 d i).bind (fun a => px_e k f 4 d a) := rfl
theorem px_e3 (k : Nat → Nat) (f d i : Nat) : px_e k (f + 1) 3 d i = (if k i = 1 ∨ k i = 2 then (px_e k f 2 d (i + 1)).bind (fun a => px_e k f 3 d a) else some i) := rfl
theorem px_e4 (k : Nat → Nat) (f d i : Nat) : px_e k (f + 1) 4 d i = (if k i = 3 then (px_e k f 0 d (i + 1)).bind (fun a => px_e k f 4 d a) else some i) := rfl
