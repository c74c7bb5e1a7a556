/-! ===== more on the reference's reader ===== -/
def OKW (h : Nat → Int32) (n : Nat) : Prop := ∀ i, i < n → h i = nI 40 ∨ h i = nI 117 ∨ kc (h i) = 1 ∨ kc (h i) = 2 ∨ kc (h i) = 3
theorem OKW_le {h : Nat → Int32} {n m : Nat} (e : OKW h n) (hm : m ≤ n) : OKW h m := fun i hi => e i (by omega)
theorem OKW_put {h : Nat → Int32} {n : Nat} {x : Int32} (e : OKW h n) (hx : x = nI 40 ∨ x = nI 117 ∨ kc x = 1 ∨ kc x = 2 ∨ kc x = 3) : OKW (upd h n x) (n + 1) := fun i hi => by
  by_cases q : i = n
  · rw [show upd h n x i = x from if_pos q]; exact hx
  · rw [show upd h n x i = h i from if_neg q]; exact e i (by omega)
/-- the sign on top, if it is no bracket: it binds as its kind says -/
theorem top_k {c : Int32} {k : Nat} (hk : KO c k) (h40 : c ≠ nI 40) (h8 : wcc c ≠ 8) (hok : c = nI 40 ∨ c = nI 117 ∨ kc c = 1 ∨ kc c = 2 ∨ kc c = 3) : 2 ≤ k ∧ k ≤ 6 ∧ wcc c ≠ 4 ∧ (if wcc c = 3 then 2 else 1) = (if 3 < k then 2 else 1) := by
  have h117 : c ≠ nI 117 := fun q => h8 (by rw [q]; decide)
  have h4 : wcc c ≠ 4 := fun q => h40 (wcc_4 q)
  rcases hk with ⟨rfl, a1, a2, a3⟩ | ⟨a1, a2, a3⟩ | ⟨a1, a2, a3⟩
  · rcases hok with z | z | z | z | z
    · exact absurd z h40
    · exact absurd z h117
    · exact absurd z a1
    · exact absurd z a2
    · exact absurd z a3
  · have h3 : kc c ≠ 3 := by omega
    rw [wcc_1 h40 h117 h3]
    exact ⟨a1, by omega, by decide, by rw [if_neg (by decide), if_neg (by omega)]⟩
  · rw [wcc_3 a3]
    exact ⟨by omega, a2, by decide, by rw [if_pos rfl, if_pos (by omega)]⟩
theorem rel_go {b : Nat} {h : Nat → Int32} {n : Nat} {m : Nat} (hn : 0 < n) (h4 : wcc (h (n - 1)) ≠ 4) (e : (if wcc (h (n - 1)) = 3 then 2 else 1) = m) (hb : b ≤ m) : py_rel b (wll h n) = py_rel b (wll h (n - 1)) := by
  rw [wll_s h hn]; exact rel_p ⟨h4, by rw [e]; exact hb⟩
theorem rel_st {b : Nat} {h : Nat → Int32} {n : Nat} {m : Nat} (hn : 0 < n) (e : (if wcc (h (n - 1)) = 3 then 2 else 1) = m) (hb : m < b) : py_rel b (wll h n) = wll h n := by
  rw [wll_s h hn]; exact rel_n (fun q => by have := q.2; rw [e] at this; omega)
theorem rel_40 {b : Nat} {h : Nat → Int32} {n : Nat} (hn : 0 < n) (e : h (n - 1) = nI 40) : py_rel b (wll h n) = wll h n := by
  rw [wll_s h hn]; exact rel_n (fun q => q.1 (by rw [e]; decide))
theorem dgx_more {k : Nat → Nat} {N a d : Nat} (e : px_dg k N a = d + px_dg k (N - d) (a + d)) (hd : d < N) (h : k (a + d) = 7) : px_dg k N a = d + 1 + px_dg k (N - (d + 1)) (a + (d + 1)) := by
  obtain ⟨m, hm⟩ : ∃ m, N - d = m + 1 := ⟨N - d - 1, by omega⟩
  rw [e, hm, show N - (d + 1) = m by omega, show px_dg k (m + 1) (a + d) = px_dg k m (a + d + 1) + 1 from if_pos h, show a + (d + 1) = a + d + 1 from rfl]
  omega
theorem dgx_done {k : Nat → Nat} {N a d : Nat} (e : px_dg k N a = d + px_dg k (N - d) (a + d)) (h : d = N ∨ k (a + d) ≠ 7) : px_dg k N a = d := by
  rcases h with h | h
  · subst h; rw [e, Nat.sub_self]; rfl
  · rw [e, dg_stop h]; rfl
theorem nxm_in {h : Nat → Int32} {n i : Nat} (q : kc (nxm h n i) ≠ 0) : i < n := by
  rw [tkm] at q
  exact tk_in q
theorem nxm_nar {h : Nat → Int32} {n i : Nat} (c : ∀ j, j < 72 → vp_nar .char (h j) = h j) (hn : n ≤ 72) : vp_nar .char (nxm h n i) = nxm h n i := by
  unfold nxm
  by_cases q : i < n
  · rw [if_pos q]; exact c i (by omega)
  · rw [if_neg q]; decide

