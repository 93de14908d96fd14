/-! THE MATHEMATICS: the machine, its run, the dominoes, the way. Numbers: symbols 0..2, states 0..3, halt 4; characters by their codes. -/
/-- known, right, write, next of rule number r -/
abbrev sp_M : Type := (Nat → Nat) × (Nat → Nat) × (Nat → Nat) × (Nat → Nat)
def sp_kn (M : sp_M) (r : Nat) : Nat := M.1 r
def sp_rt (M : sp_M) (r : Nat) : Nat := M.2.1 r
def sp_wr (M : sp_M) (r : Nat) : Nat := M.2.2.1 r
def sp_nx (M : sp_M) (r : Nat) : Nat := M.2.2.2 r
def sp_Mok (M : sp_M) : Prop := ∀ r, sp_kn M r ≤ 1 ∧ sp_rt M r ≤ 1 ∧ sp_wr M r < 3 ∧ sp_nx M r ≤ 4
/-- a configuration: the symbols ahead of the state, the state, the symbols from the state on -/
abbrev sp_C : Type := List Nat × Nat × List Nat
def sp_ok (c : sp_C) : Prop := (∀ s ∈ c.1, s < 3) ∧ c.2.1 ≤ 4 ∧ ∀ s ∈ c.2.2, s < 3
def sp_ds (l : List Nat) : List Nat := l.map (fun s => 48 + s)
def sp_txt (c : sp_C) : List Nat := sp_ds c.1 ++ sp_let c.2.1 :: sp_ds c.2.2
def sp_len (c : sp_C) : Nat := c.1.length + 1 + c.2.2.length
def sp_lst (l : List Nat) : Nat := l.getD (l.length - 1) 0
/-- the rule that a configuration asks for -/
def sp_rl (M : sp_M) (c : sp_C) : Option Nat := if c.2.1 < 4 ∧ sp_kn M (c.2.1 * 3 + c.2.2.getD 0 0) = 1 then some (c.2.1 * 3 + c.2.2.getD 0 0) else none
def sp_step (M : sp_M) (c : sp_C) : Option sp_C := match sp_rl M c with
  | none => none
  | some r => if sp_rt M r = 1 then some (c.1 ++ [sp_wr M r], sp_nx M r, c.2.2.tail)
    else if c.1.length = 0 then none else some (c.1.dropLast, sp_nx M r, sp_lst c.1 :: sp_wr M r :: c.2.2.tail)
/-- the run, of at most n steps -/
def sp_run (M : sp_M) : Nat → sp_C → List sp_C
  | 0, c => [c]
  | n + 1, c => match sp_step M c with
    | none => [c]
    | some c' => if sp_len c' ≤ 10 then c :: sp_run M n c' else [c]
/-- the dominoes of rule r with what stands behind the state -/
def sp_re (M : sp_M) (r beh : Nat) (tail : List Nat) : List (List Nat × List Nat) :=
  if sp_rt M r = 1 then [([sp_let (r / 3), beh], [48 + sp_wr M r, sp_let (sp_nx M r)] ++ tail)]
  else [0, 1, 2].map (fun s => ([48 + s, sp_let (r / 3), beh], [sp_let (sp_nx M r), 48 + s, 48 + sp_wr M r] ++ tail))
def sp_rd (M : sp_M) (r : Nat) : List (List Nat × List Nat) :=
  if sp_kn M r = 1 then sp_re M r (48 + r % 3) [] ++ (if r % 3 = 0 then sp_re M r 35 [35] else []) else []
def sp_hd (t : List Nat) : List (List Nat × List Nat) := [([35], 35 :: t ++ [35]), ([35], [35]), ([48], [48]), ([49], [49]), ([50], [50])]
def sp_rs (M : sp_M) (n : Nat) : List (List Nat × List Nat) := (List.range n).flatMap (sp_rd M)
def sp_en : List (List Nat × List Nat) := [([48, 104], [104]), ([49, 104], [104]), ([50, 104], [104]), ([104, 48], [104]), ([104, 49], [104]), ([104, 50], [104]), ([104, 35, 35], [35])]
/-- t: the text of the first configuration -/
def sp_dom (M : sp_M) (t : List Nat) : List (List Nat × List Nat) := sp_hd t ++ sp_rs M 12 ++ sp_en
/-- the number of the first domino of rule r -/
def sp_fo (M : sp_M) (r : Nat) : Nat := 5 + (sp_rs M r).length
def sp_cp (l : List Nat) : List Nat := l.map (fun s => 2 + s)
/-- the dominoes that a step lays -/
def sp_ws (M : sp_M) (c : sp_C) : List Nat := match sp_rl M c with
  | none => []
  | some r => if sp_rt M r = 1 then sp_cp c.1 ++ (sp_fo M r + (if c.2.2.length = 0 then 1 else 0)) :: sp_cp c.2.2.tail ++ (if c.2.2.length = 0 then [] else [1])
    else sp_cp c.1.dropLast ++ (sp_fo M r + (if c.2.2.length = 0 then 3 else 0) + sp_lst c.1) :: sp_cp c.2.2.tail ++ (if c.2.2.length = 0 then [] else [1])
/-- the dominoes that take the symbols of a halted configuration away; e is the number of the first of them -/
def sp_hw (e : Nat) : Nat → List Nat → List Nat → List Nat
  | 0, _, _ => []
  | n + 1, l, r => if l.length = 0 then (e + 3 + r.getD 0 0) :: sp_cp r.tail ++ 1 :: sp_hw e n [] r.tail
    else sp_cp l.dropLast ++ (e + sp_lst l) :: sp_cp r ++ 1 :: sp_hw e n l.dropLast r
def sp_last (l : List sp_C) : sp_C := l.getLastD ([], 0, [])
def sp_way (M : sp_M) (inp : List Nat) : List Nat :=
  0 :: (sp_run M 12 ([], 0, inp)).dropLast.flatMap (sp_ws M) ++ sp_hw ((sp_dom M (sp_txt ([], 0, inp))).length - 7) ((sp_last (sp_run M 12 ([], 0, inp))).1.length + (sp_last (sp_run M 12 ([], 0, inp))).2.2.length) (sp_last (sp_run M 12 ([], 0, inp))).1 (sp_last (sp_run M 12 ([], 0, inp))).2.2 ++ [(sp_dom M (sp_txt ([], 0, inp))).length - 1]
/-! texts -/
theorem sp_ds_len (l : List Nat) : (sp_ds l).length = l.length := List.length_map ..
theorem sp_ds_at {l : List Nat} {i : Nat} (h : i < l.length) : (sp_ds l).getD i 0 = 48 + l.getD i 0 := by
  unfold sp_ds
  rw [List.getD_eq_getElem?_getD, List.getD_eq_getElem?_getD, List.getElem?_map, List.getElem?_eq_getElem h]
  rfl
theorem sp_txt_len (c : sp_C) : (sp_txt c).length = sp_len c := by
  unfold sp_txt sp_len
  rw [List.length_append, List.length_cons, sp_ds_len, sp_ds_len]; omega
theorem sp_txt_lo {c : sp_C} {i : Nat} (h : i < c.1.length) : (sp_txt c).getD i 0 = 48 + c.1.getD i 0 := by
  unfold sp_txt
  rw [gx_gd_app (by rw [sp_ds_len]; exact h), sp_ds_at h]
theorem sp_txt_mid {c : sp_C} : (sp_txt c).getD c.1.length 0 = sp_let c.2.1 := by
  unfold sp_txt
  have := gx_gd_mid (l := sp_ds c.1) (k := sp_ds c.2.2) (c := sp_let c.2.1)
  rwa [sp_ds_len] at this
theorem sp_txt_hi {c : sp_C} {i : Nat} (h : i < c.2.2.length) : (sp_txt c).getD (c.1.length + 1 + i) 0 = 48 + c.2.2.getD i 0 := by
  unfold sp_txt
  rw [show sp_ds c.1 ++ sp_let c.2.1 :: sp_ds c.2.2 = (sp_ds c.1 ++ [sp_let c.2.1]) ++ sp_ds c.2.2 by simp]
  have := gx_gd_app2 (l := sp_ds c.1 ++ [sp_let c.2.1]) (k := sp_ds c.2.2) (i := i)
  rw [List.length_append, sp_ds_len, List.length_singleton] at this
  rw [this, sp_ds_at h]
theorem sp_let_ge (q : Nat) : 97 ≤ sp_let q := by unfold sp_let; split <;> omega
theorem sp_let_lt {q : Nat} (h : q ≤ 4) : sp_let q < 105 := by unfold sp_let; split <;> omega
theorem sp_gd_lt {l : List Nat} (h : ∀ s ∈ l, s < 3) (i : Nat) : l.getD i 0 < 3 := by
  by_cases hi : i < l.length
  · exact h _ (gx_gd_mem hi)
  · rw [gx_gd_ge (by omega)]; omega
theorem sp_hd1 {c : sp_C} (h : sp_ok c) : ∀ i, i < c.1.length → (sp_txt c).getD i 0 < 97 := fun i hi => by
  rw [sp_txt_lo hi]
  have := sp_gd_lt h.1 i
  omega
theorem sp_hd2 {c : sp_C} : 97 ≤ (sp_txt c).getD c.1.length 0 := by rw [sp_txt_mid]; exact sp_let_ge _
theorem sp_hd3 {c : sp_C} : c.1.length < (sp_txt c).length := by rw [sp_txt_len]; unfold sp_len; omega
theorem sp_take0 {c : sp_C} : ((sp_txt c).take c.1.length).drop 0 = sp_ds c.1 := by
  unfold sp_txt
  rw [List.drop_zero, List.take_append_of_le_length (by rw [sp_ds_len]; exact Nat.le_refl _), List.take_of_length_le (by rw [sp_ds_len]; exact Nat.le_refl _)]
theorem sp_take1 {c : sp_C} : ((sp_txt c).take (c.1.length - 1)).drop 0 = sp_ds c.1.dropLast := by
  unfold sp_txt
  rw [List.drop_zero, List.take_append_of_le_length (by rw [sp_ds_len]; omega), List.dropLast_eq_take]
  unfold sp_ds
  rw [List.map_take]
theorem sp_drop2 {c : sp_C} : ((sp_txt c).take (sp_txt c).length).drop (c.1.length + 2) = sp_ds c.2.2.tail := by
  rw [List.take_of_length_le (Nat.le_refl _)]
  unfold sp_txt
  rw [show sp_ds c.1 ++ sp_let c.2.1 :: sp_ds c.2.2 = (sp_ds c.1 ++ [sp_let c.2.1]) ++ sp_ds c.2.2 by simp, show c.1.length + 2 = (sp_ds c.1 ++ [sp_let c.2.1]).length + 1 by rw [List.length_append, sp_ds_len]; rfl, List.drop_append]
  rw [List.drop_eq_nil_of_le (by omega), List.nil_append, Nat.add_sub_cancel_left]
  unfold sp_ds
  rw [← List.map_drop, List.drop_one]
theorem gx_nm1 {j : Nat} (h : j < 2 ^ 31) : ¬ nI j = -1 := fun g => by
  have := nI_toInt h
  rw [g] at this
  have h2 : (-1 : Int32).toInt = -1 := by decide
  omega
theorem sp_rl_lt {M : sp_M} {c : sp_C} {r : Nat} (h : sp_rl M c = some r) (hc : sp_ok c) : r < 12 ∧ r = c.2.1 * 3 + c.2.2.getD 0 0 ∧ c.2.1 < 4 ∧ sp_kn M r = 1 := by
  unfold sp_rl at h
  split at h
  · rename_i h1
    cases h
    have := sp_gd_lt hc.2.2 0
    exact ⟨by omega, rfl, h1.1, h1.2⟩
  · cases h
/-! the machine in the world: its object at a, its arrays at a + 1 .. a + 4, its first text at a + 5 -/
def mcAt (w : gx_W) (a : Nat) (M : sp_M) (t : List Nat) : Prop := w.1 a = some (gx_ob 2 [.ref (a + 1), .ref (a + 2), .ref (a + 3), .ref (a + 4), .ref (a + 5)]) ∧ w.1 (a + 1) = some (gx_ai 2 12 (fun r => nI (sp_kn M r))) ∧ w.1 (a + 2) = some (gx_ai 2 12 (fun r => nI (sp_rt M r))) ∧ w.1 (a + 3) = some (gx_ai 0 12 (fun r => nI (sp_wr M r))) ∧ w.1 (a + 4) = some (gx_ai 0 12 (fun r => nI (sp_nx M r))) ∧ w.1 (a + 5) = some (gx_bx 0 5 t)
/-- nothing changed but from lo up to hi -/
def gx_kp (w w' : gx_W) (lo hi : Nat) : Prop := w'.2 = w.2 ∧ ∀ q, (q < lo ∨ hi ≤ q) → w'.1 q = w.1 q
theorem gx_kp.rf {w : gx_W} {lo hi : Nat} : gx_kp w w lo hi := ⟨rfl, fun _ _ => rfl⟩
theorem gx_kp.trans {w w1 w2 : gx_W} {lo hi : Nat} (h : gx_kp w w1 lo hi) (h2 : gx_kp w1 w2 lo hi) : gx_kp w w2 lo hi := ⟨h2.1.trans h.1, fun q hq => (h2.2 q hq).trans (h.2 q hq)⟩
theorem gx_kp.st {w : gx_W} {lo hi a : Nat} {x : gx_E} (h1 : lo ≤ a) (h2 : a < hi) : gx_kp w (gx_st w a x) lo hi := ⟨rfl, fun q hq => gx_st_ne (by omega)⟩
theorem gx_kp.mono {w w' : gx_W} {lo hi lo' hi' : Nat} (h : gx_kp w w' lo hi) (h1 : lo' ≤ lo) (h2 : hi ≤ hi') : gx_kp w w' lo' hi' := ⟨h.1, fun q hq => h.2 q (by omega)⟩
theorem mcAt.kept {w w' : gx_W} {a lo hi : Nat} {M : sp_M} {t : List Nat} (h : mcAt w a M t) (hk : gx_kp w w' lo hi) (hd : a + 7 ≤ lo ∨ hi ≤ a) : mcAt w' a M t := by
  obtain ⟨h0, h1, h2, h3, h4, h5⟩ := h
  exact ⟨by rw [hk.2 _ (by omega)]; exact h0, by rw [hk.2 _ (by omega)]; exact h1, by rw [hk.2 _ (by omega)]; exact h2, by rw [hk.2 _ (by omega)]; exact h3, by rw [hk.2 _ (by omega)]; exact h4, by rw [hk.2 _ (by omega)]; exact h5⟩
