theorem WF_smd {hC hA d g : Nat → Int32} {dpf : Nat → Nat} {n : Nat} (h : WF d g dpf n) (e : smd n hC d) (eg : smd n hA g) : WF hC hA dpf n := by
  obtain ⟨a1, a2, a3⟩ := h
  refine ⟨a1, a2, fun p hp => ?_⟩
  obtain ⟨w, v, q1, q2, q3, q4, q5, q6, q7, q8, q9, q10, q11, q12, q13, q14, q15, q16⟩ := a3 p hp
  exact ⟨w, v, (e p hp).trans q1, (eg p hp).trans q2, q3, q4, q5, q6, q7, q8, q9, q10, q11, q12, q13, q14, q15, fun z => (q16 z).elim Or.inl (fun ⟨w', y1, y2, y3⟩ => Or.inr ⟨w', (e v y3).trans y1, y2, y3⟩)⟩
theorem smd_s {n : Nat} {h k : Nat → Int32} (e : smd n h k) : smd (n + 1) (upd h n (k n)) k := fun i hi => by
  by_cases q : i = n
  · subst q; exact upd_at _ _ _
  · exact (upd_ne _ _ q).trans (e i (by omega))
