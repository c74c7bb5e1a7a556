/-! ===== the tables' words, carried along as a fact of the state ===== -/
/-- a word that stays true when the tables grow warmer, whatever the arguments -/
def tb_rides : Cond → Bool
  | .fieldLinkNest .. => true
  | .methodLinkNest .. => true
  | .castable .. => true
  | .declares _ => true
  | .arrayClass _ => true
  | .arrayOver (.object _) => true
  | .stringRef .. => true
  | w => w.onTables && w.keeps
theorem tb_ride {w : Cond} (hw : tb_rides w = true) {s U : State} (hW : s.WarmedH U.vm) (args : Array Value) (h : w.before #[] s = true) : w.before args U = true := by
  cases w with
  | fieldLinkNest a i b n d q => exact va_Nw.use rfl (va_Nw.warmF hW h)
  | methodLinkNest a i x q => exact va_Nw.use rfl (va_Nw.warmM hW h)
  | castable a b => exact va_Nw.use rfl (va_Nw.warmC hW h)
  | declares x => exact va_Nw.use rfl (va_Nw.warmD hW h)
  | arrayClass ty => exact word_at hW (Or.inr ⟨ty, rfl⟩) h
  | stringRef a i t => exact Cond.stringRef_warmed (args := args) hW h
  | arrayOver ty =>
    cases ty with
    | object n => exact va_AO.use (va_AO.moved hW.alike h)
    | _ => exact word_at hW (Or.inl hw) h
  | _ => exact word_at hW (Or.inl hw) h
def TB (U : State) : Prop := ∀ w ∈ lw_tbl, tb_rides w = true → w.before #[] U = true
theorem TB.moved {s U : State} (hW : s.WarmedH U.vm) (h : TB s) : TB U := fun w hw hr => tb_ride hr hW #[] (h w hw hr)
theorem TB.same {s U : State} (hv : U.vm = s.vm) (h : TB s) : TB U := TB.moved (by rw [hv]; exact State.WarmedH.refl s) h
theorem TB.w {U : State} (h : TB U) {w : Cond} (i : Nat) (hi : lw_tbl[i]? = some w) (hr : tb_rides w = true) (args : Array Value) : w.before args U = true := tb_ride hr (State.WarmedH.refl U) args (h w (List.mem_of_getElem? hi) hr)
theorem TB.all {U : State} (h : TB U) (ws : List Cond) (is : List Nat) (hp : ws = is.filterMap (fun i => lw_tbl[i]?)) (hr : ws.all tb_rides = true) (args : Array Value) : ∀ w ∈ ws, w.before args U = true := by
  intro w hw
  have h1 := List.all_eq_true.mp hr w hw
  rw [hp] at hw
  obtain ⟨i, -, hi⟩ := List.mem_filterMap.mp hw
  exact h.w i hi h1 args
theorem tb_nil {args : Array Value} {s : State} : ∀ w ∈ ([] : List Cond), w.before args s = true := fun _ h => by cases h
theorem tb_one {w : Cond} {args : Array Value} {s : State} (h : w.before args s = true) : ∀ v ∈ [w], v.before args s = true := fun v hv => by rw [List.mem_singleton.mp hv]; exact h
theorem tb_good1 {y : MethodName} {b : ByteArray} {n : Nat} {r : Option FieldType} : GoodIn [Cond.code y b n r] [Cond.code y b n r] := fun w hw => ⟨hw, by rw [List.mem_singleton.mp hw]; exact Or.inl rfl⟩

