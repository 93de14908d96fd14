/-! lists and functions -/
theorem gx_fn_nil {f : Nat → Int32} : gx_fn [] f := fun i h => absurd h (Nat.not_lt_zero i)
theorem gx_gd_app {l k : List Nat} {i : Nat} (h : i < l.length) : (l ++ k).getD i 0 = l.getD i 0 := by
  simp [List.getD_eq_getElem?_getD, List.getElem?_append_left h]
theorem gx_gd_mid {l k : List Nat} {c : Nat} : (l ++ c :: k).getD l.length 0 = c := by
  simp [List.getD_eq_getElem?_getD]
theorem gx_gd_app2 {l k : List Nat} {i : Nat} : (l ++ k).getD (l.length + i) 0 = k.getD i 0 := by
  rw [List.getD_eq_getElem?_getD, List.getElem?_append_right (by omega), List.getD_eq_getElem?_getD, Nat.add_sub_cancel_left]
theorem gx_fn_snoc {l : List Nat} {f : Nat → Int32} {c : Nat} (h : gx_fn l f) : gx_fn (l ++ [c]) (upd f l.length (nI c)) := by
  intro i hi
  rw [List.length_append, List.length_singleton] at hi
  by_cases e : i = l.length
  · subst e; rw [pk_us, gx_gd_mid]
  · rw [pk_un e, h i (by omega), gx_gd_app (by omega)]
theorem gx_gd_take {l : List Nat} {i n : Nat} (h : i < n) : (l.take n).getD i 0 = l.getD i 0 := by
  simp [List.getD_eq_getElem?_getD, h]
theorem gx_gd_mem {l : List Nat} {i : Nat} (h : i < l.length) : l.getD i 0 ∈ l := by
  rw [List.getD_eq_getElem?_getD, List.getElem?_eq_getElem h]
  exact List.getElem_mem h
theorem gx_take_succ {l : List Nat} {n : Nat} (h : n < l.length) : l.take (n + 1) = l.take n ++ [l.getD n 0] := by
  rw [List.take_succ, List.getD_eq_getElem?_getD, List.getElem?_eq_getElem h]
  rfl
theorem gx_ext {l k : List Nat} (h : l.length = k.length) (h2 : ∀ i, i < l.length → l.getD i 0 = k.getD i 0) : l = k := by
  apply List.ext_getElem h
  intro i h3 h4
  have := h2 i h3
  simpa [List.getD_eq_getElem?_getD, List.getElem?_eq_getElem h3, List.getElem?_eq_getElem h4] using this
