/-! the reference: its object and its arrays over a world; every number is nI of a natural number (-1 is nI 4294967295) -/
def moF (m : Nat) (I : Nat → Nat) : List Value := [.int (nI (I 0)), .ref (m + 1), .ref (m + 2), .ref (m + 3), .ref (m + 4), .int (nI (I 1)), .ref (m + 5), .int (nI (I 2)), .ref (m + 6), .ref (m + 7), .int (nI (I 3)), .ref (m + 8), .ref (m + 9), .ref (m + 10), .ref (m + 11), .int (nI (I 4)), .ref (m + 12), .int (nI (I 5)), .ref (m + 13), .int (nI (I 6)), .ref (m + 14), .ref (m + 15), .ref (m + 16), .int (nI (I 7)), .int (nI (I 8)), .ref (m + 17), .ref (m + 18), .ref (m + 19), .ref (m + 20), .ref (m + 21), .ref (m + 22), .ref (m + 23), .ref (m + 24)]
def moC (A : Nat → Nat → Nat) (j : Nat) : gx_E := match j with
  | 1 => gx_ai 2 12 (fun i => nI (A 1 i))
  | 2 => gx_ai 0 12 (fun i => nI (A 2 i))
  | 3 => gx_ai 2 12 (fun i => nI (A 3 i))
  | 4 => gx_ai 0 12 (fun i => nI (A 4 i))
  | 5 => gx_ai 0 4 (fun i => nI (A 5 i))
  | 6 => gx_ai 0 14 (fun i => nI (A 6 i))
  | 7 => gx_ai 0 168 (fun i => nI (A 7 i))
  | 8 => gx_ai 0 64 (fun i => nI (A 8 i))
  | 9 => gx_ai 0 256 (fun i => nI (A 9 i))
  | 10 => gx_ai 0 64 (fun i => nI (A 10 i))
  | 11 => gx_ai 0 512 (fun i => nI (A 11 i))
  | 12 => gx_ai 0 300 (fun i => nI (A 12 i))
  | 13 => gx_ai 0 60 (fun i => nI (A 13 i))
  | 14 => gx_ai 0 60 (fun i => nI (A 14 i))
  | 15 => gx_ai 0 500 (fun i => nI (A 15 i))
  | 16 => gx_ai 0 500 (fun i => nI (A 16 i))
  | 17 => gx_ai 0 402 (fun i => nI (A 17 i))
  | 18 => gx_ai 0 402 (fun i => nI (A 18 i))
  | 19 => gx_ai 0 402 (fun i => nI (A 19 i))
  | 20 => gx_ai 0 402 (fun i => nI (A 20 i))
  | 21 => gx_ai 0 402 (fun i => nI (A 21 i))
  | 22 => gx_ai 0 9648 (fun i => nI (A 22 i))
  | 23 => gx_ai 0 40 (fun i => nI (A 23 i))
  | _ => gx_ai 0 40 (fun i => nI (A 24 i))
def gx_mo (w : gx_W) (m : Nat) (I : Nat → Nat) (A : Nat → Nat → Nat) : gx_W := (fun q => if q = m then some (gx_ob 9 (moF m I)) else if m < q ∧ q ≤ m + 24 then some (moC A (q - m)) else w.1 q, w.2)
/-- one place of one array -/
def uA (A : Nat → Nat → Nat) (j r x : Nat) : Nat → Nat → Nat := fun j' i => if j' = j ∧ i = r then x else A j' i
section MOL
variable {w : gx_W} {m : Nat} {I : Nat → Nat} {A : Nat → Nat → Nat}
theorem mo_o : (gx_mo w m I A).1 m = some (gx_ob 9 (moF m I)) := by
  show (if m = m then _ else _) = _
  rw [if_pos rfl]
theorem mo_at (j : Nat) (h1 : 0 < j) (h2 : j ≤ 24) : (gx_mo w m I A).1 (m + j) = some (moC A j) := by
  show (if m + j = m then _ else if m < m + j ∧ m + j ≤ m + 24 then some (moC A (m + j - m)) else _) = _
  rw [if_neg (by omega), if_pos (by omega), Nat.add_sub_cancel_left]
theorem mo_out {q : Nat} (h : q < m ∨ m + 25 ≤ q) : (gx_mo w m I A).1 q = w.1 q := by
  show (if q = m then _ else if m < q ∧ q ≤ m + 24 then _ else _) = _
  rw [if_neg (by omega), if_neg (by omega)]
theorem mo_end : (gx_mo w m I A).2 = w.2 := rfl
theorem uA_s {j r x : Nat} : uA A j r x j r = x := if_pos ⟨rfl, rfl⟩
theorem uA_o {j j' r x i : Nat} (h : j' ≠ j) : uA A j r x j' i = A j' i := if_neg (fun g => h g.1)
theorem uA_i {j j' r x i : Nat} (h : i ≠ r) : uA A j r x j' i = A j' i := if_neg (fun g => h g.2)
theorem uA_oj {j j' r x : Nat} (h : j' ≠ j) : uA A j r x j' = A j' := by funext i; exact uA_o h
theorem ui_s {k x : Nat} : sp_u I k x k = x := if_pos rfl
theorem ui_o {k k' x : Nat} (h : k' ≠ k) : sp_u I k x k' = I k' := if_neg h
theorem mo_1 : (gx_mo w m I A).1 (m + 1) = some (gx_ai 2 12 (fun i => nI (A 1 i))) := mo_at 1 (by decide) (by decide)
theorem mo_2 : (gx_mo w m I A).1 (m + 2) = some (gx_ai 0 12 (fun i => nI (A 2 i))) := mo_at 2 (by decide) (by decide)
theorem mo_3 : (gx_mo w m I A).1 (m + 3) = some (gx_ai 2 12 (fun i => nI (A 3 i))) := mo_at 3 (by decide) (by decide)
theorem mo_4 : (gx_mo w m I A).1 (m + 4) = some (gx_ai 0 12 (fun i => nI (A 4 i))) := mo_at 4 (by decide) (by decide)
theorem mo_5 : (gx_mo w m I A).1 (m + 5) = some (gx_ai 0 4 (fun i => nI (A 5 i))) := mo_at 5 (by decide) (by decide)
theorem mo_6 : (gx_mo w m I A).1 (m + 6) = some (gx_ai 0 14 (fun i => nI (A 6 i))) := mo_at 6 (by decide) (by decide)
theorem mo_7 : (gx_mo w m I A).1 (m + 7) = some (gx_ai 0 168 (fun i => nI (A 7 i))) := mo_at 7 (by decide) (by decide)
theorem mo_8 : (gx_mo w m I A).1 (m + 8) = some (gx_ai 0 64 (fun i => nI (A 8 i))) := mo_at 8 (by decide) (by decide)
theorem mo_9 : (gx_mo w m I A).1 (m + 9) = some (gx_ai 0 256 (fun i => nI (A 9 i))) := mo_at 9 (by decide) (by decide)
theorem mo_10 : (gx_mo w m I A).1 (m + 10) = some (gx_ai 0 64 (fun i => nI (A 10 i))) := mo_at 10 (by decide) (by decide)
theorem mo_11 : (gx_mo w m I A).1 (m + 11) = some (gx_ai 0 512 (fun i => nI (A 11 i))) := mo_at 11 (by decide) (by decide)
theorem mo_12 : (gx_mo w m I A).1 (m + 12) = some (gx_ai 0 300 (fun i => nI (A 12 i))) := mo_at 12 (by decide) (by decide)
theorem mo_13 : (gx_mo w m I A).1 (m + 13) = some (gx_ai 0 60 (fun i => nI (A 13 i))) := mo_at 13 (by decide) (by decide)
theorem mo_14 : (gx_mo w m I A).1 (m + 14) = some (gx_ai 0 60 (fun i => nI (A 14 i))) := mo_at 14 (by decide) (by decide)
theorem mo_15 : (gx_mo w m I A).1 (m + 15) = some (gx_ai 0 500 (fun i => nI (A 15 i))) := mo_at 15 (by decide) (by decide)
theorem mo_16 : (gx_mo w m I A).1 (m + 16) = some (gx_ai 0 500 (fun i => nI (A 16 i))) := mo_at 16 (by decide) (by decide)
theorem mo_17 : (gx_mo w m I A).1 (m + 17) = some (gx_ai 0 402 (fun i => nI (A 17 i))) := mo_at 17 (by decide) (by decide)
theorem mo_18 : (gx_mo w m I A).1 (m + 18) = some (gx_ai 0 402 (fun i => nI (A 18 i))) := mo_at 18 (by decide) (by decide)
theorem mo_19 : (gx_mo w m I A).1 (m + 19) = some (gx_ai 0 402 (fun i => nI (A 19 i))) := mo_at 19 (by decide) (by decide)
theorem mo_20 : (gx_mo w m I A).1 (m + 20) = some (gx_ai 0 402 (fun i => nI (A 20 i))) := mo_at 20 (by decide) (by decide)
theorem mo_21 : (gx_mo w m I A).1 (m + 21) = some (gx_ai 0 402 (fun i => nI (A 21 i))) := mo_at 21 (by decide) (by decide)
theorem mo_22 : (gx_mo w m I A).1 (m + 22) = some (gx_ai 0 9648 (fun i => nI (A 22 i))) := mo_at 22 (by decide) (by decide)
theorem mo_23 : (gx_mo w m I A).1 (m + 23) = some (gx_ai 0 40 (fun i => nI (A 23 i))) := mo_at 23 (by decide) (by decide)
theorem mo_24 : (gx_mo w m I A).1 (m + 24) = some (gx_ai 0 40 (fun i => nI (A 24 i))) := mo_at 24 (by decide) (by decide)
theorem mo_st {j r x kd n : Nat} (h1 : 0 < j) (h2 : j ≤ 24) (hC : ∀ A : Nat → Nat → Nat, moC A j = gx_ai kd n (fun i => nI (A j i))) (ho : ∀ j', 0 < j' → j' ≤ 24 → j' ≠ j → ∀ B : Nat → Nat → Nat, B j' = A j' → moC B j' = moC A j') : gx_st (gx_mo w m I A) (m + j) (gx_ai kd n (upd (fun i => nI (A j i)) r (nI x))) = gx_mo w m I (uA A j r x) := by
  unfold gx_st
  refine Prod.ext ?_ rfl
  funext q
  show (if q = m + j then some _ else (gx_mo w m I A).1 q) = (gx_mo w m I (uA A j r x)).1 q
  by_cases e : q = m + j
  · subst e
    rw [if_pos rfl, mo_at j h1 h2, hC, gx_upn]
    congr 2
    funext i
    unfold uA
    by_cases g : i = r
    · simp [g]
    · simp [g]
  · rw [if_neg e]
    by_cases e1 : q = m
    · subst e1; rw [mo_o, mo_o]
    · by_cases e2 : m < q ∧ q ≤ m + 24
      · obtain ⟨j', rfl⟩ : ∃ j', q = m + j' := ⟨q - m, by omega⟩
        rw [mo_at j' (by omega) (by omega), mo_at j' (by omega) (by omega)]
        exact congrArg some (ho j' (by omega) (by omega) (by omega) _ (uA_oj (by omega))).symm
      · rw [mo_out (by omega), mo_out (by omega)]
theorem moC_o {A B : Nat → Nat → Nat} : ∀ j', 0 < j' → j' ≤ 24 → B j' = A j' → moC B j' = moC A j' := by
  intro j' h1 h2 h
  rcases (show j' = 1 ∨ j' = 2 ∨ j' = 3 ∨ j' = 4 ∨ j' = 5 ∨ j' = 6 ∨ j' = 7 ∨ j' = 8 ∨ j' = 9 ∨ j' = 10 ∨ j' = 11 ∨ j' = 12 ∨ j' = 13 ∨ j' = 14 ∨ j' = 15 ∨ j' = 16 ∨ j' = 17 ∨ j' = 18 ∨ j' = 19 ∨ j' = 20 ∨ j' = 21 ∨ j' = 22 ∨ j' = 23 ∨ j' = 24 by omega) with rfl | rfl | rfl | rfl | rfl | rfl | rfl | rfl | rfl | rfl | rfl | rfl | rfl | rfl | rfl | rfl | rfl | rfl | rfl | rfl | rfl | rfl | rfl | rfl
  all_goals (simp only [moC]; rw [h])
theorem mo_s1 {r x : Nat} : gx_st (gx_mo w m I A) (m + 1) (gx_ai 2 12 (upd (fun i => nI (A 1 i)) r (nI x))) = gx_mo w m I (uA A 1 r x) := mo_st (by decide) (by decide) (fun _ => rfl) (fun j' a b _ B hB => moC_o j' a b hB)
theorem mo_s2 {r x : Nat} : gx_st (gx_mo w m I A) (m + 2) (gx_ai 0 12 (upd (fun i => nI (A 2 i)) r (nI x))) = gx_mo w m I (uA A 2 r x) := mo_st (by decide) (by decide) (fun _ => rfl) (fun j' a b _ B hB => moC_o j' a b hB)
theorem mo_s3 {r x : Nat} : gx_st (gx_mo w m I A) (m + 3) (gx_ai 2 12 (upd (fun i => nI (A 3 i)) r (nI x))) = gx_mo w m I (uA A 3 r x) := mo_st (by decide) (by decide) (fun _ => rfl) (fun j' a b _ B hB => moC_o j' a b hB)
theorem mo_s4 {r x : Nat} : gx_st (gx_mo w m I A) (m + 4) (gx_ai 0 12 (upd (fun i => nI (A 4 i)) r (nI x))) = gx_mo w m I (uA A 4 r x) := mo_st (by decide) (by decide) (fun _ => rfl) (fun j' a b _ B hB => moC_o j' a b hB)
theorem mo_s5 {r x : Nat} : gx_st (gx_mo w m I A) (m + 5) (gx_ai 0 4 (upd (fun i => nI (A 5 i)) r (nI x))) = gx_mo w m I (uA A 5 r x) := mo_st (by decide) (by decide) (fun _ => rfl) (fun j' a b _ B hB => moC_o j' a b hB)
theorem mo_s6 {r x : Nat} : gx_st (gx_mo w m I A) (m + 6) (gx_ai 0 14 (upd (fun i => nI (A 6 i)) r (nI x))) = gx_mo w m I (uA A 6 r x) := mo_st (by decide) (by decide) (fun _ => rfl) (fun j' a b _ B hB => moC_o j' a b hB)
theorem mo_s7 {r x : Nat} : gx_st (gx_mo w m I A) (m + 7) (gx_ai 0 168 (upd (fun i => nI (A 7 i)) r (nI x))) = gx_mo w m I (uA A 7 r x) := mo_st (by decide) (by decide) (fun _ => rfl) (fun j' a b _ B hB => moC_o j' a b hB)
theorem mo_s8 {r x : Nat} : gx_st (gx_mo w m I A) (m + 8) (gx_ai 0 64 (upd (fun i => nI (A 8 i)) r (nI x))) = gx_mo w m I (uA A 8 r x) := mo_st (by decide) (by decide) (fun _ => rfl) (fun j' a b _ B hB => moC_o j' a b hB)
theorem mo_s9 {r x : Nat} : gx_st (gx_mo w m I A) (m + 9) (gx_ai 0 256 (upd (fun i => nI (A 9 i)) r (nI x))) = gx_mo w m I (uA A 9 r x) := mo_st (by decide) (by decide) (fun _ => rfl) (fun j' a b _ B hB => moC_o j' a b hB)
theorem mo_s10 {r x : Nat} : gx_st (gx_mo w m I A) (m + 10) (gx_ai 0 64 (upd (fun i => nI (A 10 i)) r (nI x))) = gx_mo w m I (uA A 10 r x) := mo_st (by decide) (by decide) (fun _ => rfl) (fun j' a b _ B hB => moC_o j' a b hB)
theorem mo_s11 {r x : Nat} : gx_st (gx_mo w m I A) (m + 11) (gx_ai 0 512 (upd (fun i => nI (A 11 i)) r (nI x))) = gx_mo w m I (uA A 11 r x) := mo_st (by decide) (by decide) (fun _ => rfl) (fun j' a b _ B hB => moC_o j' a b hB)
theorem mo_s12 {r x : Nat} : gx_st (gx_mo w m I A) (m + 12) (gx_ai 0 300 (upd (fun i => nI (A 12 i)) r (nI x))) = gx_mo w m I (uA A 12 r x) := mo_st (by decide) (by decide) (fun _ => rfl) (fun j' a b _ B hB => moC_o j' a b hB)
theorem mo_s13 {r x : Nat} : gx_st (gx_mo w m I A) (m + 13) (gx_ai 0 60 (upd (fun i => nI (A 13 i)) r (nI x))) = gx_mo w m I (uA A 13 r x) := mo_st (by decide) (by decide) (fun _ => rfl) (fun j' a b _ B hB => moC_o j' a b hB)
theorem mo_s14 {r x : Nat} : gx_st (gx_mo w m I A) (m + 14) (gx_ai 0 60 (upd (fun i => nI (A 14 i)) r (nI x))) = gx_mo w m I (uA A 14 r x) := mo_st (by decide) (by decide) (fun _ => rfl) (fun j' a b _ B hB => moC_o j' a b hB)
theorem mo_s15 {r x : Nat} : gx_st (gx_mo w m I A) (m + 15) (gx_ai 0 500 (upd (fun i => nI (A 15 i)) r (nI x))) = gx_mo w m I (uA A 15 r x) := mo_st (by decide) (by decide) (fun _ => rfl) (fun j' a b _ B hB => moC_o j' a b hB)
theorem mo_s16 {r x : Nat} : gx_st (gx_mo w m I A) (m + 16) (gx_ai 0 500 (upd (fun i => nI (A 16 i)) r (nI x))) = gx_mo w m I (uA A 16 r x) := mo_st (by decide) (by decide) (fun _ => rfl) (fun j' a b _ B hB => moC_o j' a b hB)
theorem mo_s17 {r x : Nat} : gx_st (gx_mo w m I A) (m + 17) (gx_ai 0 402 (upd (fun i => nI (A 17 i)) r (nI x))) = gx_mo w m I (uA A 17 r x) := mo_st (by decide) (by decide) (fun _ => rfl) (fun j' a b _ B hB => moC_o j' a b hB)
theorem mo_s18 {r x : Nat} : gx_st (gx_mo w m I A) (m + 18) (gx_ai 0 402 (upd (fun i => nI (A 18 i)) r (nI x))) = gx_mo w m I (uA A 18 r x) := mo_st (by decide) (by decide) (fun _ => rfl) (fun j' a b _ B hB => moC_o j' a b hB)
theorem mo_s19 {r x : Nat} : gx_st (gx_mo w m I A) (m + 19) (gx_ai 0 402 (upd (fun i => nI (A 19 i)) r (nI x))) = gx_mo w m I (uA A 19 r x) := mo_st (by decide) (by decide) (fun _ => rfl) (fun j' a b _ B hB => moC_o j' a b hB)
theorem mo_s20 {r x : Nat} : gx_st (gx_mo w m I A) (m + 20) (gx_ai 0 402 (upd (fun i => nI (A 20 i)) r (nI x))) = gx_mo w m I (uA A 20 r x) := mo_st (by decide) (by decide) (fun _ => rfl) (fun j' a b _ B hB => moC_o j' a b hB)
theorem mo_s21 {r x : Nat} : gx_st (gx_mo w m I A) (m + 21) (gx_ai 0 402 (upd (fun i => nI (A 21 i)) r (nI x))) = gx_mo w m I (uA A 21 r x) := mo_st (by decide) (by decide) (fun _ => rfl) (fun j' a b _ B hB => moC_o j' a b hB)
theorem mo_s22 {r x : Nat} : gx_st (gx_mo w m I A) (m + 22) (gx_ai 0 9648 (upd (fun i => nI (A 22 i)) r (nI x))) = gx_mo w m I (uA A 22 r x) := mo_st (by decide) (by decide) (fun _ => rfl) (fun j' a b _ B hB => moC_o j' a b hB)
theorem mo_s23 {r x : Nat} : gx_st (gx_mo w m I A) (m + 23) (gx_ai 0 40 (upd (fun i => nI (A 23 i)) r (nI x))) = gx_mo w m I (uA A 23 r x) := mo_st (by decide) (by decide) (fun _ => rfl) (fun j' a b _ B hB => moC_o j' a b hB)
theorem mo_s24 {r x : Nat} : gx_st (gx_mo w m I A) (m + 24) (gx_ai 0 40 (upd (fun i => nI (A 24 i)) r (nI x))) = gx_mo w m I (uA A 24 r x) := mo_st (by decide) (by decide) (fun _ => rfl) (fun j' a b _ B hB => moC_o j' a b hB)
theorem mo_p0 {x : Nat} : gx_st (gx_mo w m I A) m (gx_ob 9 ((moF m I).set 0 (.int (nI x)))) = gx_mo w m (sp_u I 0 x) A := by
  unfold gx_st
  refine Prod.ext ?_ rfl
  funext q
  show (if q = m then some _ else (gx_mo w m I A).1 q) = (gx_mo w m (sp_u I 0 x) A).1 q
  by_cases e : q = m
  · subst e; rw [if_pos rfl, mo_o]; rfl
  · rw [if_neg e]
    show (if q = m then _ else _) = (if q = m then _ else _)
    rw [if_neg e, if_neg e]
theorem mo_p1 {x : Nat} : gx_st (gx_mo w m I A) m (gx_ob 9 ((moF m I).set 5 (.int (nI x)))) = gx_mo w m (sp_u I 1 x) A := by
  unfold gx_st
  refine Prod.ext ?_ rfl
  funext q
  show (if q = m then some _ else (gx_mo w m I A).1 q) = (gx_mo w m (sp_u I 1 x) A).1 q
  by_cases e : q = m
  · subst e; rw [if_pos rfl, mo_o]; rfl
  · rw [if_neg e]
    show (if q = m then _ else _) = (if q = m then _ else _)
    rw [if_neg e, if_neg e]
theorem mo_p2 {x : Nat} : gx_st (gx_mo w m I A) m (gx_ob 9 ((moF m I).set 7 (.int (nI x)))) = gx_mo w m (sp_u I 2 x) A := by
  unfold gx_st
  refine Prod.ext ?_ rfl
  funext q
  show (if q = m then some _ else (gx_mo w m I A).1 q) = (gx_mo w m (sp_u I 2 x) A).1 q
  by_cases e : q = m
  · subst e; rw [if_pos rfl, mo_o]; rfl
  · rw [if_neg e]
    show (if q = m then _ else _) = (if q = m then _ else _)
    rw [if_neg e, if_neg e]
theorem mo_p3 {x : Nat} : gx_st (gx_mo w m I A) m (gx_ob 9 ((moF m I).set 10 (.int (nI x)))) = gx_mo w m (sp_u I 3 x) A := by
  unfold gx_st
  refine Prod.ext ?_ rfl
  funext q
  show (if q = m then some _ else (gx_mo w m I A).1 q) = (gx_mo w m (sp_u I 3 x) A).1 q
  by_cases e : q = m
  · subst e; rw [if_pos rfl, mo_o]; rfl
  · rw [if_neg e]
    show (if q = m then _ else _) = (if q = m then _ else _)
    rw [if_neg e, if_neg e]
theorem mo_p4 {x : Nat} : gx_st (gx_mo w m I A) m (gx_ob 9 ((moF m I).set 15 (.int (nI x)))) = gx_mo w m (sp_u I 4 x) A := by
  unfold gx_st
  refine Prod.ext ?_ rfl
  funext q
  show (if q = m then some _ else (gx_mo w m I A).1 q) = (gx_mo w m (sp_u I 4 x) A).1 q
  by_cases e : q = m
  · subst e; rw [if_pos rfl, mo_o]; rfl
  · rw [if_neg e]
    show (if q = m then _ else _) = (if q = m then _ else _)
    rw [if_neg e, if_neg e]
theorem mo_p5 {x : Nat} : gx_st (gx_mo w m I A) m (gx_ob 9 ((moF m I).set 17 (.int (nI x)))) = gx_mo w m (sp_u I 5 x) A := by
  unfold gx_st
  refine Prod.ext ?_ rfl
  funext q
  show (if q = m then some _ else (gx_mo w m I A).1 q) = (gx_mo w m (sp_u I 5 x) A).1 q
  by_cases e : q = m
  · subst e; rw [if_pos rfl, mo_o]; rfl
  · rw [if_neg e]
    show (if q = m then _ else _) = (if q = m then _ else _)
    rw [if_neg e, if_neg e]
theorem mo_p6 {x : Nat} : gx_st (gx_mo w m I A) m (gx_ob 9 ((moF m I).set 19 (.int (nI x)))) = gx_mo w m (sp_u I 6 x) A := by
  unfold gx_st
  refine Prod.ext ?_ rfl
  funext q
  show (if q = m then some _ else (gx_mo w m I A).1 q) = (gx_mo w m (sp_u I 6 x) A).1 q
  by_cases e : q = m
  · subst e; rw [if_pos rfl, mo_o]; rfl
  · rw [if_neg e]
    show (if q = m then _ else _) = (if q = m then _ else _)
    rw [if_neg e, if_neg e]
theorem mo_p7 {x : Nat} : gx_st (gx_mo w m I A) m (gx_ob 9 ((moF m I).set 23 (.int (nI x)))) = gx_mo w m (sp_u I 7 x) A := by
  unfold gx_st
  refine Prod.ext ?_ rfl
  funext q
  show (if q = m then some _ else (gx_mo w m I A).1 q) = (gx_mo w m (sp_u I 7 x) A).1 q
  by_cases e : q = m
  · subst e; rw [if_pos rfl, mo_o]; rfl
  · rw [if_neg e]
    show (if q = m then _ else _) = (if q = m then _ else _)
    rw [if_neg e, if_neg e]
theorem mo_p8 {x : Nat} : gx_st (gx_mo w m I A) m (gx_ob 9 ((moF m I).set 24 (.int (nI x)))) = gx_mo w m (sp_u I 8 x) A := by
  unfold gx_st
  refine Prod.ext ?_ rfl
  funext q
  show (if q = m then some _ else (gx_mo w m I A).1 q) = (gx_mo w m (sp_u I 8 x) A).1 q
  by_cases e : q = m
  · subst e; rw [if_pos rfl, mo_o]; rfl
  · rw [if_neg e]
    show (if q = m then _ else _) = (if q = m then _ else _)
    rw [if_neg e, if_neg e]
end MOL
theorem gx_m1 : (-1 : Int32) = nI 4294967295 := by decide
theorem d_Mo_isSymbol_0 : decode prog_11_method_3_code 0 = .ok (.iload_n 0, 1) := by decide +kernel
theorem d_Mo_isSymbol_1 : decode prog_11_method_3_code 1 = .ok (.bipush 48, 2) := by decide +kernel
theorem d_Mo_isSymbol_3 : decode prog_11_method_3_code 3 = .ok (.if_icmp .lt 13, 3) := by decide +kernel
theorem d_Mo_isSymbol_6 : decode prog_11_method_3_code 6 = .ok (.iload_n 0, 1) := by decide +kernel
theorem d_Mo_isSymbol_7 : decode prog_11_method_3_code 7 = .ok (.bipush 50, 2) := by decide +kernel
theorem d_Mo_isSymbol_9 : decode prog_11_method_3_code 9 = .ok (.if_icmp .gt 7, 3) := by decide +kernel
theorem d_Mo_isSymbol_12 : decode prog_11_method_3_code 12 = .ok (.iconst 1, 1) := by decide +kernel
theorem d_Mo_isSymbol_13 : decode prog_11_method_3_code 13 = .ok (.goto 4, 3) := by decide +kernel
theorem d_Mo_isSymbol_16 : decode prog_11_method_3_code 16 = .ok (.iconst 0, 1) := by decide +kernel
theorem d_Mo_isSymbol_17 : decode prog_11_method_3_code 17 = .ok (.ireturn, 1) := by decide +kernel
theorem cm_isSymbol {w : gx_W} {c : Nat} (hc : c < 65536) : gx_Ct M_Mo_isSymbol 1 0 0 [.int (nI c)] w (gx_eq (some (.int (nI (decide (48 ≤ c ∧ c ≤ 50)).toNat))) w) := by
  refine gx_ct (L := [some (.int (nI c))]) (by decide) (Nat.le_of_ble_eq_true rfl) rfl ?_
  refine gx_iload_n d_Mo_isSymbol_0 rfl ?_
  refine gx_bipush d_Mo_isSymbol_1 (nI 48) (by decide) ?_
  refine gx_icmp_ltN (by omega) (by omega) (tgt := 16) d_Mo_isSymbol_3 (by decide) (fun h3 => ?_) (fun h3 => ?_)
  · refine gx_iconst d_Mo_isSymbol_16 (nI 0) (by decide) ?_
    refine gx_zreturn rfl (by decide) d_Mo_isSymbol_17 ?_
    exact ⟨by rw [decide_eq_false (by omega)]; rfl, rfl⟩
  · refine gx_iload_n d_Mo_isSymbol_6 rfl ?_
    refine gx_bipush d_Mo_isSymbol_7 (nI 50) (by decide) ?_
    refine gx_icmp_gtN (by omega) (by omega) (tgt := 16) d_Mo_isSymbol_9 (by decide) (fun h9 => ?_) (fun h9 => ?_)
    · refine gx_iconst d_Mo_isSymbol_16 (nI 0) (by decide) ?_
      refine gx_zreturn rfl (by decide) d_Mo_isSymbol_17 ?_
      exact ⟨by rw [decide_eq_false (by omega)]; rfl, rfl⟩
    · refine gx_iconst d_Mo_isSymbol_12 (nI 1) (by decide) ?_
      refine gx_goto (tgt := 17) d_Mo_isSymbol_13 (by decide) ?_
      refine gx_zreturn rfl (by decide) d_Mo_isSymbol_17 ?_
      exact ⟨by rw [decide_eq_true (by omega)]; rfl, rfl⟩
theorem d_Mo_letter_0 : decode prog_11_method_6_code 0 = .ok (.iload_n 0, 1) := by decide +kernel
theorem d_Mo_letter_1 : decode prog_11_method_6_code 1 = .ok (.iconst 4, 1) := by decide +kernel
theorem d_Mo_letter_2 : decode prog_11_method_6_code 2 = .ok (.if_icmp .ne 8, 3) := by decide +kernel
theorem d_Mo_letter_5 : decode prog_11_method_6_code 5 = .ok (.bipush 104, 2) := by decide +kernel
theorem d_Mo_letter_7 : decode prog_11_method_6_code 7 = .ok (.goto 7, 3) := by decide +kernel
theorem d_Mo_letter_10 : decode prog_11_method_6_code 10 = .ok (.bipush 97, 2) := by decide +kernel
theorem d_Mo_letter_12 : decode prog_11_method_6_code 12 = .ok (.iload_n 0, 1) := by decide +kernel
theorem d_Mo_letter_13 : decode prog_11_method_6_code 13 = .ok (.iadd, 1) := by decide +kernel
theorem d_Mo_letter_14 : decode prog_11_method_6_code 14 = .ok (.ireturn, 1) := by decide +kernel
theorem cm_letter {w : gx_W} {q : Nat} (hq : q ≤ 4) : gx_Ct M_Mo_letter 1 0 0 [.int (nI q)] w (gx_eq (some (.int (nI (sp_let q)))) w) := by
  refine gx_ct (L := [some (.int (nI q))]) (by decide) (Nat.le_of_ble_eq_true rfl) rfl ?_
  refine gx_iload_n d_Mo_letter_0 rfl ?_
  refine gx_iconst d_Mo_letter_1 (nI 4) (by decide) ?_
  refine gx_icmp_neN (by omega) (by omega) (tgt := 10) d_Mo_letter_2 (by decide) (fun h2 => ?_) (fun h2 => ?_)
  · refine gx_bipush d_Mo_letter_10 (nI 97) (by decide) ?_
    refine gx_iload_n d_Mo_letter_12 rfl ?_
    refine gx_iaddN d_Mo_letter_13 ?_
    refine gx_ireturn rfl d_Mo_letter_14 ?_
    exact ⟨by unfold sp_let; rw [if_neg h2], rfl⟩
  · refine gx_bipush d_Mo_letter_5 (nI 104) (by decide) ?_
    refine gx_goto (tgt := 14) d_Mo_letter_7 (by decide) ?_
    refine gx_ireturn rfl d_Mo_letter_14 ?_
    exact ⟨by unfold sp_let; rw [if_pos h2], rfl⟩
theorem d_Mo_isRule_0 : decode prog_11_method_10_code 0 = .ok (.iload_n 0, 1) := by decide +kernel
theorem d_Mo_isRule_1 : decode prog_11_method_10_code 1 = .ok (.ifCond .lt 21, 3) := by decide +kernel
theorem d_Mo_isRule_4 : decode prog_11_method_10_code 4 = .ok (.iload_n 0, 1) := by decide +kernel
theorem d_Mo_isRule_5 : decode prog_11_method_10_code 5 = .ok (.iconst 4, 1) := by decide +kernel
theorem d_Mo_isRule_6 : decode prog_11_method_10_code 6 = .ok (.if_icmp .ge 16, 3) := by decide +kernel
theorem d_Mo_isRule_9 : decode prog_11_method_10_code 9 = .ok (.iload_n 1, 1) := by decide +kernel
theorem d_Mo_isRule_10 : decode prog_11_method_10_code 10 = .ok (.ifCond .lt 12, 3) := by decide +kernel
theorem d_Mo_isRule_13 : decode prog_11_method_10_code 13 = .ok (.iload_n 1, 1) := by decide +kernel
theorem d_Mo_isRule_14 : decode prog_11_method_10_code 14 = .ok (.iconst 3, 1) := by decide +kernel
theorem d_Mo_isRule_15 : decode prog_11_method_10_code 15 = .ok (.if_icmp .ge 7, 3) := by decide +kernel
theorem d_Mo_isRule_18 : decode prog_11_method_10_code 18 = .ok (.iconst 1, 1) := by decide +kernel
theorem d_Mo_isRule_19 : decode prog_11_method_10_code 19 = .ok (.goto 4, 3) := by decide +kernel
theorem d_Mo_isRule_22 : decode prog_11_method_10_code 22 = .ok (.iconst 0, 1) := by decide +kernel
theorem d_Mo_isRule_23 : decode prog_11_method_10_code 23 = .ok (.ireturn, 1) := by decide +kernel
theorem cm_isRule {w : gx_W} {x y : Int32} : gx_Ct M_Mo_isRule 1 0 0 [.int x, .int y] w (gx_eq (some (.int (nI (sp_in x 4 && sp_in y 3).toNat))) w) := by
  refine gx_ct (L := [some (.int x), some (.int y)]) (by decide) (Nat.le_of_ble_eq_true rfl) rfl ?_
  refine gx_iload_n d_Mo_isRule_0 rfl ?_
  refine gx_if_lt (tgt := 22) d_Mo_isRule_1 (by decide) (fun h1 => ?_) (fun h1 => ?_)
  · refine gx_iconst d_Mo_isRule_22 (nI 0) (by decide) ?_
    refine gx_zreturn rfl (by decide) d_Mo_isRule_23 ?_
    exact ⟨by rw [sp_in_lt h1, Bool.false_and]; rfl, rfl⟩
  · refine gx_iload_n d_Mo_isRule_4 rfl ?_
    refine gx_iconst d_Mo_isRule_5 (nI 4) (by decide) ?_
    refine gx_icmp_ge (tgt := 22) d_Mo_isRule_6 (by decide) (fun h6 => ?_) (fun h6 => ?_)
    · refine gx_iconst d_Mo_isRule_22 (nI 0) (by decide) ?_
      refine gx_zreturn rfl (by decide) d_Mo_isRule_23 ?_
      exact ⟨by rw [sp_in_ge h6, Bool.false_and]; rfl, rfl⟩
    · refine gx_iload_n d_Mo_isRule_9 rfl ?_
      refine gx_if_lt (tgt := 22) d_Mo_isRule_10 (by decide) (fun h10 => ?_) (fun h10 => ?_)
      · refine gx_iconst d_Mo_isRule_22 (nI 0) (by decide) ?_
        refine gx_zreturn rfl (by decide) d_Mo_isRule_23 ?_
        exact ⟨by rw [sp_in_lt h10, Bool.and_false]; rfl, rfl⟩
      · refine gx_iload_n d_Mo_isRule_13 rfl ?_
        refine gx_iconst d_Mo_isRule_14 (nI 3) (by decide) ?_
        refine gx_icmp_ge (tgt := 22) d_Mo_isRule_15 (by decide) (fun h15 => ?_) (fun h15 => ?_)
        · refine gx_iconst d_Mo_isRule_22 (nI 0) (by decide) ?_
          refine gx_zreturn rfl (by decide) d_Mo_isRule_23 ?_
          exact ⟨by rw [sp_in_ge h15, Bool.and_false]; rfl, rfl⟩
        · refine gx_iconst d_Mo_isRule_18 (nI 1) (by decide) ?_
          refine gx_goto (tgt := 23) d_Mo_isRule_19 (by decide) ?_
          refine gx_zreturn rfl (by decide) d_Mo_isRule_23 ?_
          exact ⟨by rw [sp_in_t h1 h6, sp_in_t h10 h15, Bool.true_and]; rfl, rfl⟩
