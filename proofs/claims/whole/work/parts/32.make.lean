/-! the reference: a step as a whole; the dominoes -/
theorem cm_step_some {w : gx_W} {m : Nat} {I : Nat → Nat} {A : Nat → Nat → Nat} {k : Nat} {c c' : sp_C} (hk : k ≤ 12) (hc : sp_ok c) (hl : sp_len c ≤ 10) (hT : moT A k c) (hM : sp_Mok (moM A)) (hs : sp_step (moM A) c = some c') : gx_Ct M_Mo_step 4 0 0 [.ref m, .int (nI k)] (gx_mo w m I A) (fun v w' => v = some (.int (nI 1)) ∧ ∃ A'', w' = gx_mo w m I A'' ∧ moT A'' (k + 1) c' ∧ moR A A'' (k + 1)) := by
  unfold sp_step at hs
  rcases hrl : sp_rl (moM A) c with _ | r
  · rw [hrl] at hs; cases hs
  · rw [hrl] at hs
    simp only at hs
    have hM2 := (hM r).2.1
    by_cases hrt : sp_rt (moM A) r = 1
    · rw [if_pos hrt] at hs
      cases hs
      by_cases hth : c.2.2.length = 0
      · exact cm_step_re hk hc hl hT hM hrl hrt hth
      · exact cm_step_rt hk hc hl hT hM hrl hrt hth
    · rw [if_neg hrt] at hs
      by_cases hne : c.1.length = 0
      · rw [if_pos hne] at hs; cases hs
      · rw [if_neg hne] at hs
        cases hs
        by_cases hth : c.2.2.length = 0
        · exact cm_step_le hk hc hl hT hM hrl (by omega) hne hth
        · exact cm_step_lt hk hc hl hT hM hrl (by omega) hne hth
def moDs (A : Nat → Nat → Nat) (ds : List (List Nat × List Nat)) : Prop := ∀ d, d < ds.length → (A 8 d = (ds.getD d ([], [])).1.length ∧ A 10 d = (ds.getD d ([], [])).2.length) ∧ ((ds.getD d ([], [])).1.length ≤ 3 ∧ (ds.getD d ([], [])).2.length ≤ 7) ∧ (∀ i, i < (ds.getD d ([], [])).1.length → A 9 (4 * d + i) = (ds.getD d ([], [])).1.getD i 0) ∧ ∀ i, i < (ds.getD d ([], [])).2.length → A 11 (8 * d + i) = (ds.getD d ([], [])).2.getD i 0
/-- all arrays are as they were but those of the dominoes -/
def moFd (A A' : Nat → Nat → Nat) : Prop := ∀ j, j ≠ 8 → j ≠ 9 → j ≠ 10 → j ≠ 11 → A' j = A j
/-- the dominoes, and at their end one that is open -/
def moJ (A A' : Nat → Nat → Nat) (ds : List (List Nat × List Nat)) (u v : List Nat) : Prop := moFd A A' ∧ moDs A' ds ∧ (A' 8 ds.length = u.length ∧ A' 10 ds.length = v.length) ∧ (∀ i, i < u.length → A' 9 (4 * ds.length + i) = u.getD i 0) ∧ ∀ i, i < v.length → A' 11 (8 * ds.length + i) = v.getD i 0
theorem moJ.addU {A A' : Nat → Nat → Nat} {ds : List (List Nat × List Nat)} {u v : List Nat} {x : Nat} (h : moJ A A' ds u v) (hu : u.length < 3) : moJ A (uA (uA A' 9 (4 * ds.length + u.length) x) 8 ds.length (u.length + 1)) ds (u ++ [x]) v := by
  obtain ⟨h1, h2, h3, h4, h5⟩ := h
  refine ⟨fun j a b c d => by rw [uA_oj a, uA_oj b]; exact h1 j a b c d, fun d hd => ?_, ⟨by rw [uA_s]; simp, by rw [uA_o (by decide), uA_o (by decide)]; exact h3.2⟩, fun i hi => ?_, fun i hi => by rw [uA_o (by decide), uA_o (by decide)]; exact h5 i hi⟩
  · obtain ⟨a1, a2, a3, a4⟩ := h2 d hd
    refine ⟨⟨by rw [uA_i (by omega), uA_o (by decide)]; exact a1.1, by rw [uA_o (by decide), uA_o (by decide)]; exact a1.2⟩, a2, fun i hi => ?_, fun i hi => by rw [uA_o (by decide), uA_o (by decide)]; exact a4 i hi⟩
    rw [uA_o (by decide), uA_i (by omega)]; exact a3 i hi
  · rw [List.length_append, List.length_singleton] at hi
    rw [uA_o (by decide)]
    by_cases e : i = u.length
    · subst e; rw [uA_s, gx_gd_mid]
    · rw [uA_i (by omega), h4 i (by omega), gx_gd_app (by omega)]
theorem moJ.addL {A A' : Nat → Nat → Nat} {ds : List (List Nat × List Nat)} {u v : List Nat} {x : Nat} (h : moJ A A' ds u v) (hv : v.length < 7) : moJ A (uA (uA A' 11 (8 * ds.length + v.length) x) 10 ds.length (v.length + 1)) ds u (v ++ [x]) := by
  obtain ⟨h1, h2, h3, h4, h5⟩ := h
  refine ⟨fun j a b c d => by rw [uA_oj c, uA_oj d]; exact h1 j a b c d, fun d hd => ?_, ⟨by rw [uA_o (by decide), uA_o (by decide)]; exact h3.1, by rw [uA_s]; simp⟩, fun i hi => by rw [uA_o (by decide), uA_o (by decide)]; exact h4 i hi, fun i hi => ?_⟩
  · obtain ⟨a1, a2, a3, a4⟩ := h2 d hd
    refine ⟨⟨by rw [uA_o (by decide), uA_o (by decide)]; exact a1.1, by rw [uA_i (by omega), uA_o (by decide)]; exact a1.2⟩, a2, fun i hi => by rw [uA_o (by decide), uA_o (by decide)]; exact a3 i hi, fun i hi => ?_⟩
    rw [uA_o (by decide), uA_i (by omega)]; exact a4 i hi
  · rw [List.length_append, List.length_singleton] at hi
    rw [uA_o (by decide)]
    by_cases e : i = v.length
    · subst e; rw [uA_s, gx_gd_mid]
    · rw [uA_i (by omega), h5 i (by omega), gx_gd_app (by omega)]
theorem gx_dl {ds : List (List Nat × List Nat)} {x : List Nat × List Nat} {d : Nat} (h : d < ds.length) : (ds ++ [x]).getD d ([], []) = ds.getD d ([], []) := by
  simp [List.getD_eq_getElem?_getD, List.getElem?_append_left h]
theorem gx_dm {ds : List (List Nat × List Nat)} {x : List Nat × List Nat} : (ds ++ [x]).getD ds.length ([], []) = x := by
  simp [List.getD_eq_getElem?_getD]
theorem moJ.shut {A A' : Nat → Nat → Nat} {ds : List (List Nat × List Nat)} {u v : List Nat} (h : moJ A A' ds u v) (hu : u.length ≤ 3) (hv : v.length ≤ 7) : moDs A' (ds ++ [(u, v)]) := by
  obtain ⟨h1, h2, h3, h4, h5⟩ := h
  intro d hd
  rw [List.length_append, List.length_singleton] at hd
  by_cases e : d = ds.length
  · subst e; rw [gx_dm]; exact ⟨h3, ⟨hu, hv⟩, h4, h5⟩
  · rw [gx_dl (by omega)]; exact h2 d (by omega)
/-- the reference with these dominoes, out of (I, A) -/
def moK (I : Nat → Nat) (A : Nat → Nat → Nat) (I' : Nat → Nat) (A' : Nat → Nat → Nat) (ds : List (List Nat × List Nat)) : Prop := I' 3 = ds.length ∧ (∀ k, k ≠ 3 → I' k = I k) ∧ moFd A A' ∧ moDs A' ds
def nz (x : Nat) : List Nat := if x = 0 then [] else [x]
theorem nz_le (x : Nat) : (nz x).length ≤ 1 := by unfold nz; split <;> simp
def nz3 (a b c : Nat) : Nat → List Nat
  | 0 => []
  | 1 => nz a
  | 2 => nz a ++ nz b
  | _ => nz a ++ nz b ++ nz c
def nz4 (a b c d : Nat) : Nat → List Nat
  | 0 => []
  | 1 => nz a
  | 2 => nz a ++ nz b
  | 3 => nz a ++ nz b ++ nz c
  | _ => nz a ++ nz b ++ nz c ++ nz d
theorem nz3_le {a b c : Nat} : ∀ i, i ≤ 3 → (nz3 a b c i).length ≤ i := by
  intro i hi
  have h1 := nz_le a; have h2 := nz_le b; have h3 := nz_le c
  rcases (show i = 0 ∨ i = 1 ∨ i = 2 ∨ i = 3 by omega) with rfl | rfl | rfl | rfl <;> simp only [nz3, List.length_append, List.length_nil] <;> omega
theorem nz4_le {a b c d : Nat} : ∀ i, i ≤ 4 → (nz4 a b c d i).length ≤ i := by
  intro i hi
  have h1 := nz_le a; have h2 := nz_le b; have h3 := nz_le c; have h4 := nz_le d
  rcases (show i = 0 ∨ i = 1 ∨ i = 2 ∨ i = 3 ∨ i = 4 by omega) with rfl | rfl | rfl | rfl | rfl <;> simp only [nz4, List.length_append, List.length_nil] <;> omega
theorem d_Mo_addUpper_0 : decode prog_11_method_17_code 0 = .ok (.aload_n 0, 1) := by decide +kernel
theorem d_Mo_addUpper_1 : decode prog_11_method_17_code 1 = .ok (.getfield 35, 3) := by decide +kernel
theorem d_Mo_addUpper_4 : decode prog_11_method_17_code 4 = .ok (.iconst 4, 1) := by decide +kernel
theorem d_Mo_addUpper_5 : decode prog_11_method_17_code 5 = .ok (.aload_n 0, 1) := by decide +kernel
theorem d_Mo_addUpper_6 : decode prog_11_method_17_code 6 = .ok (.getfield 139, 3) := by decide +kernel
theorem d_Mo_addUpper_9 : decode prog_11_method_17_code 9 = .ok (.imul, 1) := by decide +kernel
theorem d_Mo_addUpper_10 : decode prog_11_method_17_code 10 = .ok (.aload_n 0, 1) := by decide +kernel
theorem d_Mo_addUpper_11 : decode prog_11_method_17_code 11 = .ok (.getfield 32, 3) := by decide +kernel
theorem d_Mo_addUpper_14 : decode prog_11_method_17_code 14 = .ok (.aload_n 0, 1) := by decide +kernel
theorem d_Mo_addUpper_15 : decode prog_11_method_17_code 15 = .ok (.getfield 139, 3) := by decide +kernel
theorem d_Mo_addUpper_18 : decode prog_11_method_17_code 18 = .ok (.iaload, 1) := by decide +kernel
theorem d_Mo_addUpper_19 : decode prog_11_method_17_code 19 = .ok (.iadd, 1) := by decide +kernel
theorem d_Mo_addUpper_20 : decode prog_11_method_17_code 20 = .ok (.iload_n 1, 1) := by decide +kernel
theorem d_Mo_addUpper_21 : decode prog_11_method_17_code 21 = .ok (.iastore, 1) := by decide +kernel
theorem d_Mo_addUpper_22 : decode prog_11_method_17_code 22 = .ok (.aload_n 0, 1) := by decide +kernel
theorem d_Mo_addUpper_23 : decode prog_11_method_17_code 23 = .ok (.getfield 32, 3) := by decide +kernel
theorem d_Mo_addUpper_26 : decode prog_11_method_17_code 26 = .ok (.aload_n 0, 1) := by decide +kernel
theorem d_Mo_addUpper_27 : decode prog_11_method_17_code 27 = .ok (.getfield 139, 3) := by decide +kernel
theorem d_Mo_addUpper_30 : decode prog_11_method_17_code 30 = .ok (.dup2, 1) := by decide +kernel
theorem d_Mo_addUpper_31 : decode prog_11_method_17_code 31 = .ok (.iaload, 1) := by decide +kernel
theorem d_Mo_addUpper_32 : decode prog_11_method_17_code 32 = .ok (.iconst 1, 1) := by decide +kernel
theorem d_Mo_addUpper_33 : decode prog_11_method_17_code 33 = .ok (.iadd, 1) := by decide +kernel
theorem d_Mo_addUpper_34 : decode prog_11_method_17_code 34 = .ok (.iastore, 1) := by decide +kernel
theorem d_Mo_addUpper_35 : decode prog_11_method_17_code 35 = .ok (.return_, 1) := by decide +kernel
theorem cm_addUpper {w : gx_W} {m : Nat} {I : Nat → Nat} {A A' : Nat → Nat → Nat} {ds : List (List Nat × List Nat)} {u v : List Nat} {x : Nat} (hI : I 3 = ds.length) (hd : ds.length < 60) (h : moJ A A' ds u v) (hu : u.length < 3) : gx_Ct M_Mo_addUpper 1 0 0 [.ref m, .int (nI x)] (gx_mo w m I A') (fun r w' => r = none ∧ ∃ A'', w' = gx_mo w m I A'' ∧ moJ A A'' ds (u ++ [x]) v) := by
  refine gx_ct (L := [some (.ref m), some (.int (nI x))]) (by decide) (Nat.le_of_ble_eq_true rfl) rfl ?_
  refine gx_aload_n d_Mo_addUpper_0 rfl ?_
  refine gx_get fl_Mo_35 d_Mo_addUpper_1 mo_o rfl ?_
  refine gx_iconst d_Mo_addUpper_4 (nI 4) (by decide) ?_
  refine gx_aload_n d_Mo_addUpper_5 rfl ?_
  refine gx_get fl_Mo_139 d_Mo_addUpper_6 mo_o rfl ?_
  rw [hI]
  refine gx_imulN d_Mo_addUpper_9 ?_
  refine gx_aload_n d_Mo_addUpper_10 rfl ?_
  refine gx_get fl_Mo_32 d_Mo_addUpper_11 mo_o rfl ?_
  refine gx_aload_n d_Mo_addUpper_14 rfl ?_
  refine gx_get fl_Mo_139 d_Mo_addUpper_15 mo_o rfl ?_
  rw [hI]
  refine gx_iald d_Mo_addUpper_18 mo_8 (by omega) (by omega) ?_
  rw [h.2.2.1.1]
  refine gx_iaddN d_Mo_addUpper_19 ?_
  refine gx_iload_n d_Mo_addUpper_20 rfl ?_
  refine gx_iast d_Mo_addUpper_21 mo_9 (by omega) (by omega) ?_
  refine gx_w mo_s9 ?_
  refine gx_aload_n d_Mo_addUpper_22 rfl ?_
  refine gx_get fl_Mo_32 d_Mo_addUpper_23 mo_o rfl ?_
  refine gx_aload_n d_Mo_addUpper_26 rfl ?_
  refine gx_get fl_Mo_139 d_Mo_addUpper_27 mo_o rfl ?_
  rw [hI]
  refine gx_dup2 d_Mo_addUpper_30 rfl rfl ?_
  refine gx_iald d_Mo_addUpper_31 mo_8 (by omega) (by omega) ?_
  rw [uA_o (by decide), h.2.2.1.1]
  refine gx_iconst d_Mo_addUpper_32 (nI 1) (by decide) ?_
  refine gx_iaddN d_Mo_addUpper_33 ?_
  refine gx_iast d_Mo_addUpper_34 mo_8 (by omega) (by omega) ?_
  refine gx_w mo_s8 ?_
  refine gx_return rfl d_Mo_addUpper_35 ?_
  exact ⟨rfl, _, rfl, h.addU hu⟩
theorem d_Mo_addLower_0 : decode prog_11_method_18_code 0 = .ok (.aload_n 0, 1) := by decide +kernel
theorem d_Mo_addLower_1 : decode prog_11_method_18_code 1 = .ok (.getfield 41, 3) := by decide +kernel
theorem d_Mo_addLower_4 : decode prog_11_method_18_code 4 = .ok (.bipush 8, 2) := by decide +kernel
theorem d_Mo_addLower_6 : decode prog_11_method_18_code 6 = .ok (.aload_n 0, 1) := by decide +kernel
theorem d_Mo_addLower_7 : decode prog_11_method_18_code 7 = .ok (.getfield 139, 3) := by decide +kernel
theorem d_Mo_addLower_10 : decode prog_11_method_18_code 10 = .ok (.imul, 1) := by decide +kernel
theorem d_Mo_addLower_11 : decode prog_11_method_18_code 11 = .ok (.aload_n 0, 1) := by decide +kernel
theorem d_Mo_addLower_12 : decode prog_11_method_18_code 12 = .ok (.getfield 38, 3) := by decide +kernel
theorem d_Mo_addLower_15 : decode prog_11_method_18_code 15 = .ok (.aload_n 0, 1) := by decide +kernel
theorem d_Mo_addLower_16 : decode prog_11_method_18_code 16 = .ok (.getfield 139, 3) := by decide +kernel
theorem d_Mo_addLower_19 : decode prog_11_method_18_code 19 = .ok (.iaload, 1) := by decide +kernel
theorem d_Mo_addLower_20 : decode prog_11_method_18_code 20 = .ok (.iadd, 1) := by decide +kernel
theorem d_Mo_addLower_21 : decode prog_11_method_18_code 21 = .ok (.iload_n 1, 1) := by decide +kernel
theorem d_Mo_addLower_22 : decode prog_11_method_18_code 22 = .ok (.iastore, 1) := by decide +kernel
theorem d_Mo_addLower_23 : decode prog_11_method_18_code 23 = .ok (.aload_n 0, 1) := by decide +kernel
theorem d_Mo_addLower_24 : decode prog_11_method_18_code 24 = .ok (.getfield 38, 3) := by decide +kernel
theorem d_Mo_addLower_27 : decode prog_11_method_18_code 27 = .ok (.aload_n 0, 1) := by decide +kernel
theorem d_Mo_addLower_28 : decode prog_11_method_18_code 28 = .ok (.getfield 139, 3) := by decide +kernel
theorem d_Mo_addLower_31 : decode prog_11_method_18_code 31 = .ok (.dup2, 1) := by decide +kernel
theorem d_Mo_addLower_32 : decode prog_11_method_18_code 32 = .ok (.iaload, 1) := by decide +kernel
theorem d_Mo_addLower_33 : decode prog_11_method_18_code 33 = .ok (.iconst 1, 1) := by decide +kernel
theorem d_Mo_addLower_34 : decode prog_11_method_18_code 34 = .ok (.iadd, 1) := by decide +kernel
theorem d_Mo_addLower_35 : decode prog_11_method_18_code 35 = .ok (.iastore, 1) := by decide +kernel
theorem d_Mo_addLower_36 : decode prog_11_method_18_code 36 = .ok (.return_, 1) := by decide +kernel
theorem cm_addLower {w : gx_W} {m : Nat} {I : Nat → Nat} {A A' : Nat → Nat → Nat} {ds : List (List Nat × List Nat)} {u v : List Nat} {x : Nat} (hI : I 3 = ds.length) (hd : ds.length < 60) (h : moJ A A' ds u v) (hv : v.length < 7) : gx_Ct M_Mo_addLower 1 0 0 [.ref m, .int (nI x)] (gx_mo w m I A') (fun r w' => r = none ∧ ∃ A'', w' = gx_mo w m I A'' ∧ moJ A A'' ds u (v ++ [x])) := by
  refine gx_ct (L := [some (.ref m), some (.int (nI x))]) (by decide) (Nat.le_of_ble_eq_true rfl) rfl ?_
  refine gx_aload_n d_Mo_addLower_0 rfl ?_
  refine gx_get fl_Mo_41 d_Mo_addLower_1 mo_o rfl ?_
  refine gx_bipush d_Mo_addLower_4 (nI 8) (by decide) ?_
  refine gx_aload_n d_Mo_addLower_6 rfl ?_
  refine gx_get fl_Mo_139 d_Mo_addLower_7 mo_o rfl ?_
  rw [hI]
  refine gx_imulN d_Mo_addLower_10 ?_
  refine gx_aload_n d_Mo_addLower_11 rfl ?_
  refine gx_get fl_Mo_38 d_Mo_addLower_12 mo_o rfl ?_
  refine gx_aload_n d_Mo_addLower_15 rfl ?_
  refine gx_get fl_Mo_139 d_Mo_addLower_16 mo_o rfl ?_
  rw [hI]
  refine gx_iald d_Mo_addLower_19 mo_10 (by omega) (by omega) ?_
  rw [h.2.2.1.2]
  refine gx_iaddN d_Mo_addLower_20 ?_
  refine gx_iload_n d_Mo_addLower_21 rfl ?_
  refine gx_iast d_Mo_addLower_22 mo_11 (by omega) (by omega) ?_
  refine gx_w mo_s11 ?_
  refine gx_aload_n d_Mo_addLower_23 rfl ?_
  refine gx_get fl_Mo_38 d_Mo_addLower_24 mo_o rfl ?_
  refine gx_aload_n d_Mo_addLower_27 rfl ?_
  refine gx_get fl_Mo_139 d_Mo_addLower_28 mo_o rfl ?_
  rw [hI]
  refine gx_dup2 d_Mo_addLower_31 rfl rfl ?_
  refine gx_iald d_Mo_addLower_32 mo_10 (by omega) (by omega) ?_
  rw [uA_o (by decide), h.2.2.1.2]
  refine gx_iconst d_Mo_addLower_33 (nI 1) (by decide) ?_
  refine gx_iaddN d_Mo_addLower_34 ?_
  refine gx_iast d_Mo_addLower_35 mo_10 (by omega) (by omega) ?_
  refine gx_w mo_s10 ?_
  refine gx_return rfl d_Mo_addLower_36 ?_
  exact ⟨rfl, _, rfl, h.addL hv⟩
theorem d_Mo_make_0 : decode prog_11_method_19_code 0 = .ok (.aload_n 0, 1) := by decide +kernel
theorem d_Mo_make_1 : decode prog_11_method_19_code 1 = .ok (.getfield 32, 3) := by decide +kernel
theorem d_Mo_make_4 : decode prog_11_method_19_code 4 = .ok (.aload_n 0, 1) := by decide +kernel
theorem d_Mo_make_5 : decode prog_11_method_19_code 5 = .ok (.getfield 139, 3) := by decide +kernel
theorem d_Mo_make_8 : decode prog_11_method_19_code 8 = .ok (.iconst 0, 1) := by decide +kernel
theorem d_Mo_make_9 : decode prog_11_method_19_code 9 = .ok (.iastore, 1) := by decide +kernel
theorem d_Mo_make_10 : decode prog_11_method_19_code 10 = .ok (.aload_n 0, 1) := by decide +kernel
theorem d_Mo_make_11 : decode prog_11_method_19_code 11 = .ok (.getfield 38, 3) := by decide +kernel
theorem d_Mo_make_14 : decode prog_11_method_19_code 14 = .ok (.aload_n 0, 1) := by decide +kernel
theorem d_Mo_make_15 : decode prog_11_method_19_code 15 = .ok (.getfield 139, 3) := by decide +kernel
theorem d_Mo_make_18 : decode prog_11_method_19_code 18 = .ok (.iconst 0, 1) := by decide +kernel
theorem d_Mo_make_19 : decode prog_11_method_19_code 19 = .ok (.iastore, 1) := by decide +kernel
theorem d_Mo_make_20 : decode prog_11_method_19_code 20 = .ok (.iconst 0, 1) := by decide +kernel
theorem d_Mo_make_21 : decode prog_11_method_19_code 21 = .ok (.istore 8, 2) := by decide +kernel
theorem d_Mo_make_23 : decode prog_11_method_19_code 23 = .ok (.iload 8, 2) := by decide +kernel
theorem d_Mo_make_25 : decode prog_11_method_19_code 25 = .ok (.iconst 3, 1) := by decide +kernel
theorem d_Mo_make_26 : decode prog_11_method_19_code 26 = .ok (.if_icmp .ge 42, 3) := by decide +kernel
theorem d_Mo_make_29 : decode prog_11_method_19_code 29 = .ok (.iload 8, 2) := by decide +kernel
theorem d_Mo_make_31 : decode prog_11_method_19_code 31 = .ok (.ifCond .ne 7, 3) := by decide +kernel
theorem d_Mo_make_34 : decode prog_11_method_19_code 34 = .ok (.iload_n 1, 1) := by decide +kernel
theorem d_Mo_make_35 : decode prog_11_method_19_code 35 = .ok (.goto 14, 3) := by decide +kernel
theorem d_Mo_make_38 : decode prog_11_method_19_code 38 = .ok (.iload 8, 2) := by decide +kernel
theorem d_Mo_make_40 : decode prog_11_method_19_code 40 = .ok (.iconst 1, 1) := by decide +kernel
theorem d_Mo_make_41 : decode prog_11_method_19_code 41 = .ok (.if_icmp .ne 7, 3) := by decide +kernel
theorem d_Mo_make_44 : decode prog_11_method_19_code 44 = .ok (.iload_n 2, 1) := by decide +kernel
theorem d_Mo_make_45 : decode prog_11_method_19_code 45 = .ok (.goto 4, 3) := by decide +kernel
theorem d_Mo_make_48 : decode prog_11_method_19_code 48 = .ok (.iload_n 3, 1) := by decide +kernel
theorem d_Mo_make_49 : decode prog_11_method_19_code 49 = .ok (.istore 9, 2) := by decide +kernel
theorem d_Mo_make_51 : decode prog_11_method_19_code 51 = .ok (.iload 9, 2) := by decide +kernel
theorem d_Mo_make_53 : decode prog_11_method_19_code 53 = .ok (.ifCond .le 9, 3) := by decide +kernel
theorem d_Mo_make_56 : decode prog_11_method_19_code 56 = .ok (.aload_n 0, 1) := by decide +kernel
theorem d_Mo_make_57 : decode prog_11_method_19_code 57 = .ok (.iload 9, 2) := by decide +kernel
theorem d_Mo_make_59 : decode prog_11_method_19_code 59 = .ok (.invokevirtual 142, 3) := by decide +kernel
theorem d_Mo_make_62 : decode prog_11_method_19_code 62 = .ok (.iinc 8 1, 3) := by decide +kernel
theorem d_Mo_make_65 : decode prog_11_method_19_code 65 = .ok (.goto (-42), 3) := by decide +kernel
theorem d_Mo_make_68 : decode prog_11_method_19_code 68 = .ok (.iconst 0, 1) := by decide +kernel
theorem d_Mo_make_69 : decode prog_11_method_19_code 69 = .ok (.istore 8, 2) := by decide +kernel
theorem d_Mo_make_71 : decode prog_11_method_19_code 71 = .ok (.iload 8, 2) := by decide +kernel
theorem d_Mo_make_73 : decode prog_11_method_19_code 73 = .ok (.iconst 4, 1) := by decide +kernel
theorem d_Mo_make_74 : decode prog_11_method_19_code 74 = .ok (.if_icmp .ge 56, 3) := by decide +kernel
theorem d_Mo_make_77 : decode prog_11_method_19_code 77 = .ok (.iload 8, 2) := by decide +kernel
theorem d_Mo_make_79 : decode prog_11_method_19_code 79 = .ok (.ifCond .ne 8, 3) := by decide +kernel
theorem d_Mo_make_82 : decode prog_11_method_19_code 82 = .ok (.iload 4, 2) := by decide +kernel
theorem d_Mo_make_84 : decode prog_11_method_19_code 84 = .ok (.goto 27, 3) := by decide +kernel
theorem d_Mo_make_87 : decode prog_11_method_19_code 87 = .ok (.iload 8, 2) := by decide +kernel
theorem d_Mo_make_89 : decode prog_11_method_19_code 89 = .ok (.iconst 1, 1) := by decide +kernel
theorem d_Mo_make_90 : decode prog_11_method_19_code 90 = .ok (.if_icmp .ne 8, 3) := by decide +kernel
theorem d_Mo_make_93 : decode prog_11_method_19_code 93 = .ok (.iload 5, 2) := by decide +kernel
theorem d_Mo_make_95 : decode prog_11_method_19_code 95 = .ok (.goto 16, 3) := by decide +kernel
theorem d_Mo_make_98 : decode prog_11_method_19_code 98 = .ok (.iload 8, 2) := by decide +kernel
theorem d_Mo_make_100 : decode prog_11_method_19_code 100 = .ok (.iconst 2, 1) := by decide +kernel
theorem d_Mo_make_101 : decode prog_11_method_19_code 101 = .ok (.if_icmp .ne 8, 3) := by decide +kernel
theorem d_Mo_make_104 : decode prog_11_method_19_code 104 = .ok (.iload 6, 2) := by decide +kernel
theorem d_Mo_make_106 : decode prog_11_method_19_code 106 = .ok (.goto 5, 3) := by decide +kernel
theorem d_Mo_make_109 : decode prog_11_method_19_code 109 = .ok (.iload 7, 2) := by decide +kernel
theorem d_Mo_make_111 : decode prog_11_method_19_code 111 = .ok (.istore 9, 2) := by decide +kernel
theorem d_Mo_make_113 : decode prog_11_method_19_code 113 = .ok (.iload 9, 2) := by decide +kernel
theorem d_Mo_make_115 : decode prog_11_method_19_code 115 = .ok (.ifCond .le 9, 3) := by decide +kernel
theorem d_Mo_make_118 : decode prog_11_method_19_code 118 = .ok (.aload_n 0, 1) := by decide +kernel
theorem d_Mo_make_119 : decode prog_11_method_19_code 119 = .ok (.iload 9, 2) := by decide +kernel
theorem d_Mo_make_121 : decode prog_11_method_19_code 121 = .ok (.invokevirtual 146, 3) := by decide +kernel
theorem d_Mo_make_124 : decode prog_11_method_19_code 124 = .ok (.iinc 8 1, 3) := by decide +kernel
theorem d_Mo_make_127 : decode prog_11_method_19_code 127 = .ok (.goto (-56), 3) := by decide +kernel
theorem d_Mo_make_130 : decode prog_11_method_19_code 130 = .ok (.aload_n 0, 1) := by decide +kernel
theorem d_Mo_make_131 : decode prog_11_method_19_code 131 = .ok (.dup, 1) := by decide +kernel
theorem d_Mo_make_132 : decode prog_11_method_19_code 132 = .ok (.getfield 139, 3) := by decide +kernel
theorem d_Mo_make_135 : decode prog_11_method_19_code 135 = .ok (.iconst 1, 1) := by decide +kernel
theorem d_Mo_make_136 : decode prog_11_method_19_code 136 = .ok (.iadd, 1) := by decide +kernel
theorem d_Mo_make_137 : decode prog_11_method_19_code 137 = .ok (.putfield 139, 3) := by decide +kernel
theorem d_Mo_make_140 : decode prog_11_method_19_code 140 = .ok (.return_, 1) := by decide +kernel
theorem lm_make1 {Q : gx_P} {w : gx_W} {m : Nat} {I : Nat → Nat} {A : Nat → Nat → Nat} {ds : List (List Nat × List Nat)} {a b c x y z t : Nat} (hI : I 3 = ds.length) (hd : ds.length < 60) (ha : a < 65536) (hb : b < 65536) (hc : c < 65536) (hx : x < 65536) (hy : y < 65536) (hz : z < 65536) (ht : t < 65536)  : ∀ (fu : Nat) (i : Nat) (A' : Nat → Nat → Nat) (L9 : Option Value), 3 - i < fu → (i ≤ 3) → (moJ A A' ds (nz3 a b c i) ([])) → (∀ A'' L9, moJ A A'' ds (nz3 a b c 3) ([]) → gx_X (fun _ _ => True) M_Mo_make 2 Q 68 [some (.ref m), some (.int (nI a)), some (.int (nI b)), some (.int (nI c)), some (.int (nI x)), some (.int (nI y)), some (.int (nI z)), some (.int (nI t)), some (.int (nI 3)), L9] [] (gx_mo w m I A'') (0, 0)) → gx_X (fun _ _ => True) M_Mo_make 2 Q 23 [some (.ref m), some (.int (nI a)), some (.int (nI b)), some (.int (nI c)), some (.int (nI x)), some (.int (nI y)), some (.int (nI z)), some (.int (nI t)), some (.int (nI i)), L9] [] (gx_mo w m I A') (0, 0) := by
  intro fu
  induction fu with
  | zero => intro i A' L9 hfu; exact absurd hfu (Nat.not_lt_zero _)
  | succ fu ih =>
    intro i A' L9 hfu hi h hX
    refine gx_iload d_Mo_make_23 rfl ?_
    refine gx_iconst d_Mo_make_25 (nI 3) (by decide) ?_
    refine gx_icmp_geN (by omega) (by omega) (tgt := 68) d_Mo_make_26 (by decide) (fun h26 => ?_) (fun h26 => ?_)
    · rw [show i = 3 by omega] at h ⊢
      exact hX _ _ h
    · refine gx_iload d_Mo_make_29 rfl ?_
      refine gx_if_neN (by omega) (tgt := 38) d_Mo_make_31 (by decide) (fun h31 => ?_) (fun h31 => ?_)
      · refine gx_iload d_Mo_make_38 rfl ?_
        refine gx_iconst d_Mo_make_40 (nI 1) (by decide) ?_
        refine gx_icmp_neN (by omega) (by omega) (tgt := 48) d_Mo_make_41 (by decide) (fun h41 => ?_) (fun h41 => ?_)
        · refine gx_iload_n d_Mo_make_48 rfl ?_
          refine gx_istore d_Mo_make_49 (Nat.le_of_ble_eq_true rfl) rfl ?_
          refine gx_iload d_Mo_make_51 rfl ?_
          refine gx_if_leN (by omega) (tgt := 62) d_Mo_make_53 (by decide) (fun h53 => ?_) (fun h53 => ?_)
          · refine gx_iincN (n := 1) d_Mo_make_62 rfl (by decide) (Nat.le_of_ble_eq_true rfl) rfl ?_
            refine gx_goto (tgt := 23) d_Mo_make_65 (by decide) ?_
            obtain rfl : i = 2 := by omega
            have e : nz3 a b c 3 = nz3 a b c 2 := by show nz3 a b c 2 ++ nz c = _; rw [show nz c = [] from if_pos h53, List.append_nil]
            exact ih 3 A' _ (by omega) (by omega) (by rw [e]; exact h) hX
          · refine gx_aload_n d_Mo_make_56 rfl ?_
            refine gx_iload d_Mo_make_57 rfl ?_
            refine gx_cVr lk_Mo_142 d_Mo_make_59 (cm_addUpper hI hd h (by have := nz3_le (a := a) (b := b) (c := c) i (by omega); omega)) (Or.inl ⟨_, mo_o⟩) (by omega) rfl rfl (Nat.le_of_ble_eq_true rfl) (fun r2 w2 hq => ?_)
            obtain ⟨rfl, A2, rfl, hJ2⟩ := hq
            refine gx_iincN (n := 1) d_Mo_make_62 rfl (by decide) (Nat.le_of_ble_eq_true rfl) rfl ?_
            refine gx_goto (tgt := 23) d_Mo_make_65 (by decide) ?_
            obtain rfl : i = 2 := by omega
            have e : nz3 a b c 3 = nz3 a b c 2 ++ [c] := by show nz3 a b c 2 ++ nz c = _; rw [show nz c = [c] from if_neg (by omega)]
            exact ih 3 A2 _ (by omega) (by omega) (by rw [e]; exact hJ2) hX
        · refine gx_iload_n d_Mo_make_44 rfl ?_
          refine gx_goto (tgt := 49) d_Mo_make_45 (by decide) ?_
          refine gx_istore d_Mo_make_49 (Nat.le_of_ble_eq_true rfl) rfl ?_
          refine gx_iload d_Mo_make_51 rfl ?_
          refine gx_if_leN (by omega) (tgt := 62) d_Mo_make_53 (by decide) (fun h53 => ?_) (fun h53 => ?_)
          · refine gx_iincN (n := 1) d_Mo_make_62 rfl (by decide) (Nat.le_of_ble_eq_true rfl) rfl ?_
            refine gx_goto (tgt := 23) d_Mo_make_65 (by decide) ?_
            obtain rfl : i = 1 := by omega
            have e : nz3 a b c 2 = nz3 a b c 1 := by show nz3 a b c 1 ++ nz b = _; rw [show nz b = [] from if_pos h53, List.append_nil]
            exact ih 2 A' _ (by omega) (by omega) (by rw [e]; exact h) hX
          · refine gx_aload_n d_Mo_make_56 rfl ?_
            refine gx_iload d_Mo_make_57 rfl ?_
            refine gx_cVr lk_Mo_142 d_Mo_make_59 (cm_addUpper hI hd h (by have := nz3_le (a := a) (b := b) (c := c) i (by omega); omega)) (Or.inl ⟨_, mo_o⟩) (by omega) rfl rfl (Nat.le_of_ble_eq_true rfl) (fun r2 w2 hq => ?_)
            obtain ⟨rfl, A2, rfl, hJ2⟩ := hq
            refine gx_iincN (n := 1) d_Mo_make_62 rfl (by decide) (Nat.le_of_ble_eq_true rfl) rfl ?_
            refine gx_goto (tgt := 23) d_Mo_make_65 (by decide) ?_
            obtain rfl : i = 1 := by omega
            have e : nz3 a b c 2 = nz3 a b c 1 ++ [b] := by show nz3 a b c 1 ++ nz b = _; rw [show nz b = [b] from if_neg (by omega)]
            exact ih 2 A2 _ (by omega) (by omega) (by rw [e]; exact hJ2) hX
      · refine gx_iload_n d_Mo_make_34 rfl ?_
        refine gx_goto (tgt := 49) d_Mo_make_35 (by decide) ?_
        refine gx_istore d_Mo_make_49 (Nat.le_of_ble_eq_true rfl) rfl ?_
        refine gx_iload d_Mo_make_51 rfl ?_
        refine gx_if_leN (by omega) (tgt := 62) d_Mo_make_53 (by decide) (fun h53 => ?_) (fun h53 => ?_)
        · refine gx_iincN (n := 1) d_Mo_make_62 rfl (by decide) (Nat.le_of_ble_eq_true rfl) rfl ?_
          refine gx_goto (tgt := 23) d_Mo_make_65 (by decide) ?_
          obtain rfl : i = 0 := by omega
          have e : nz3 a b c 1 = nz3 a b c 0 := by show nz a = []; exact if_pos h53
          exact ih 1 A' _ (by omega) (by omega) (by rw [e]; exact h) hX
        · refine gx_aload_n d_Mo_make_56 rfl ?_
          refine gx_iload d_Mo_make_57 rfl ?_
          refine gx_cVr lk_Mo_142 d_Mo_make_59 (cm_addUpper hI hd h (by have := nz3_le (a := a) (b := b) (c := c) i (by omega); omega)) (Or.inl ⟨_, mo_o⟩) (by omega) rfl rfl (Nat.le_of_ble_eq_true rfl) (fun r2 w2 hq => ?_)
          obtain ⟨rfl, A2, rfl, hJ2⟩ := hq
          refine gx_iincN (n := 1) d_Mo_make_62 rfl (by decide) (Nat.le_of_ble_eq_true rfl) rfl ?_
          refine gx_goto (tgt := 23) d_Mo_make_65 (by decide) ?_
          obtain rfl : i = 0 := by omega
          have e : nz3 a b c 1 = nz3 a b c 0 ++ [a] := by show nz a = [] ++ [a]; exact if_neg (by omega)
          exact ih 1 A2 _ (by omega) (by omega) (by rw [e]; exact hJ2) hX
theorem lm_make2 {Q : gx_P} {w : gx_W} {m : Nat} {I : Nat → Nat} {A : Nat → Nat → Nat} {ds : List (List Nat × List Nat)} {a b c x y z t : Nat} (hI : I 3 = ds.length) (hd : ds.length < 60) (ha : a < 65536) (hb : b < 65536) (hc : c < 65536) (hx : x < 65536) (hy : y < 65536) (hz : z < 65536) (ht : t < 65536) {u : List Nat} : ∀ (fu : Nat) (i : Nat) (A' : Nat → Nat → Nat) (L9 : Option Value), 4 - i < fu → (i ≤ 4) → (moJ A A' ds (u) (nz4 x y z t i)) → (∀ A'' L9, moJ A A'' ds (u) (nz4 x y z t 4) → gx_X (fun _ _ => True) M_Mo_make 2 Q 130 [some (.ref m), some (.int (nI a)), some (.int (nI b)), some (.int (nI c)), some (.int (nI x)), some (.int (nI y)), some (.int (nI z)), some (.int (nI t)), some (.int (nI 4)), L9] [] (gx_mo w m I A'') (0, 0)) → gx_X (fun _ _ => True) M_Mo_make 2 Q 71 [some (.ref m), some (.int (nI a)), some (.int (nI b)), some (.int (nI c)), some (.int (nI x)), some (.int (nI y)), some (.int (nI z)), some (.int (nI t)), some (.int (nI i)), L9] [] (gx_mo w m I A') (0, 0) := by
  intro fu
  induction fu with
  | zero => intro i A' L9 hfu; exact absurd hfu (Nat.not_lt_zero _)
  | succ fu ih =>
    intro i A' L9 hfu hi h hX
    refine gx_iload d_Mo_make_71 rfl ?_
    refine gx_iconst d_Mo_make_73 (nI 4) (by decide) ?_
    refine gx_icmp_geN (by omega) (by omega) (tgt := 130) d_Mo_make_74 (by decide) (fun h74 => ?_) (fun h74 => ?_)
    · rw [show i = 4 by omega] at h ⊢
      exact hX _ _ h
    · refine gx_iload d_Mo_make_77 rfl ?_
      refine gx_if_neN (by omega) (tgt := 87) d_Mo_make_79 (by decide) (fun h79 => ?_) (fun h79 => ?_)
      · refine gx_iload d_Mo_make_87 rfl ?_
        refine gx_iconst d_Mo_make_89 (nI 1) (by decide) ?_
        refine gx_icmp_neN (by omega) (by omega) (tgt := 98) d_Mo_make_90 (by decide) (fun h90 => ?_) (fun h90 => ?_)
        · refine gx_iload d_Mo_make_98 rfl ?_
          refine gx_iconst d_Mo_make_100 (nI 2) (by decide) ?_
          refine gx_icmp_neN (by omega) (by omega) (tgt := 109) d_Mo_make_101 (by decide) (fun h101 => ?_) (fun h101 => ?_)
          · refine gx_iload d_Mo_make_109 rfl ?_
            refine gx_istore d_Mo_make_111 (Nat.le_of_ble_eq_true rfl) rfl ?_
            refine gx_iload d_Mo_make_113 rfl ?_
            refine gx_if_leN (by omega) (tgt := 124) d_Mo_make_115 (by decide) (fun h115 => ?_) (fun h115 => ?_)
            · refine gx_iincN (n := 1) d_Mo_make_124 rfl (by decide) (Nat.le_of_ble_eq_true rfl) rfl ?_
              refine gx_goto (tgt := 71) d_Mo_make_127 (by decide) ?_
              obtain rfl : i = 3 := by omega
              have e : nz4 x y z t 4 = nz4 x y z t 3 := by show nz4 x y z t 3 ++ nz t = _; rw [show nz t = [] from if_pos h115, List.append_nil]
              exact ih 4 A' _ (by omega) (by omega) (by rw [e]; exact h) hX
            · refine gx_aload_n d_Mo_make_118 rfl ?_
              refine gx_iload d_Mo_make_119 rfl ?_
              refine gx_cVr lk_Mo_146 d_Mo_make_121 (cm_addLower hI hd h (by have := nz4_le (a := x) (b := y) (c := z) (d := t) i (by omega); omega)) (Or.inl ⟨_, mo_o⟩) (by omega) rfl rfl (Nat.le_of_ble_eq_true rfl) (fun r2 w2 hq => ?_)
              obtain ⟨rfl, A2, rfl, hJ2⟩ := hq
              refine gx_iincN (n := 1) d_Mo_make_124 rfl (by decide) (Nat.le_of_ble_eq_true rfl) rfl ?_
              refine gx_goto (tgt := 71) d_Mo_make_127 (by decide) ?_
              obtain rfl : i = 3 := by omega
              have e : nz4 x y z t 4 = nz4 x y z t 3 ++ [t] := by show nz4 x y z t 3 ++ nz t = _; rw [show nz t = [t] from if_neg (by omega)]
              exact ih 4 A2 _ (by omega) (by omega) (by rw [e]; exact hJ2) hX
          · refine gx_iload d_Mo_make_104 rfl ?_
            refine gx_goto (tgt := 111) d_Mo_make_106 (by decide) ?_
            refine gx_istore d_Mo_make_111 (Nat.le_of_ble_eq_true rfl) rfl ?_
            refine gx_iload d_Mo_make_113 rfl ?_
            refine gx_if_leN (by omega) (tgt := 124) d_Mo_make_115 (by decide) (fun h115 => ?_) (fun h115 => ?_)
            · refine gx_iincN (n := 1) d_Mo_make_124 rfl (by decide) (Nat.le_of_ble_eq_true rfl) rfl ?_
              refine gx_goto (tgt := 71) d_Mo_make_127 (by decide) ?_
              obtain rfl : i = 2 := by omega
              have e : nz4 x y z t 3 = nz4 x y z t 2 := by show nz4 x y z t 2 ++ nz z = _; rw [show nz z = [] from if_pos h115, List.append_nil]
              exact ih 3 A' _ (by omega) (by omega) (by rw [e]; exact h) hX
            · refine gx_aload_n d_Mo_make_118 rfl ?_
              refine gx_iload d_Mo_make_119 rfl ?_
              refine gx_cVr lk_Mo_146 d_Mo_make_121 (cm_addLower hI hd h (by have := nz4_le (a := x) (b := y) (c := z) (d := t) i (by omega); omega)) (Or.inl ⟨_, mo_o⟩) (by omega) rfl rfl (Nat.le_of_ble_eq_true rfl) (fun r2 w2 hq => ?_)
              obtain ⟨rfl, A2, rfl, hJ2⟩ := hq
              refine gx_iincN (n := 1) d_Mo_make_124 rfl (by decide) (Nat.le_of_ble_eq_true rfl) rfl ?_
              refine gx_goto (tgt := 71) d_Mo_make_127 (by decide) ?_
              obtain rfl : i = 2 := by omega
              have e : nz4 x y z t 3 = nz4 x y z t 2 ++ [z] := by show nz4 x y z t 2 ++ nz z = _; rw [show nz z = [z] from if_neg (by omega)]
              exact ih 3 A2 _ (by omega) (by omega) (by rw [e]; exact hJ2) hX
        · refine gx_iload d_Mo_make_93 rfl ?_
          refine gx_goto (tgt := 111) d_Mo_make_95 (by decide) ?_
          refine gx_istore d_Mo_make_111 (Nat.le_of_ble_eq_true rfl) rfl ?_
          refine gx_iload d_Mo_make_113 rfl ?_
          refine gx_if_leN (by omega) (tgt := 124) d_Mo_make_115 (by decide) (fun h115 => ?_) (fun h115 => ?_)
          · refine gx_iincN (n := 1) d_Mo_make_124 rfl (by decide) (Nat.le_of_ble_eq_true rfl) rfl ?_
            refine gx_goto (tgt := 71) d_Mo_make_127 (by decide) ?_
            obtain rfl : i = 1 := by omega
            have e : nz4 x y z t 2 = nz4 x y z t 1 := by show nz4 x y z t 1 ++ nz y = _; rw [show nz y = [] from if_pos h115, List.append_nil]
            exact ih 2 A' _ (by omega) (by omega) (by rw [e]; exact h) hX
          · refine gx_aload_n d_Mo_make_118 rfl ?_
            refine gx_iload d_Mo_make_119 rfl ?_
            refine gx_cVr lk_Mo_146 d_Mo_make_121 (cm_addLower hI hd h (by have := nz4_le (a := x) (b := y) (c := z) (d := t) i (by omega); omega)) (Or.inl ⟨_, mo_o⟩) (by omega) rfl rfl (Nat.le_of_ble_eq_true rfl) (fun r2 w2 hq => ?_)
            obtain ⟨rfl, A2, rfl, hJ2⟩ := hq
            refine gx_iincN (n := 1) d_Mo_make_124 rfl (by decide) (Nat.le_of_ble_eq_true rfl) rfl ?_
            refine gx_goto (tgt := 71) d_Mo_make_127 (by decide) ?_
            obtain rfl : i = 1 := by omega
            have e : nz4 x y z t 2 = nz4 x y z t 1 ++ [y] := by show nz4 x y z t 1 ++ nz y = _; rw [show nz y = [y] from if_neg (by omega)]
            exact ih 2 A2 _ (by omega) (by omega) (by rw [e]; exact hJ2) hX
      · refine gx_iload d_Mo_make_82 rfl ?_
        refine gx_goto (tgt := 111) d_Mo_make_84 (by decide) ?_
        refine gx_istore d_Mo_make_111 (Nat.le_of_ble_eq_true rfl) rfl ?_
        refine gx_iload d_Mo_make_113 rfl ?_
        refine gx_if_leN (by omega) (tgt := 124) d_Mo_make_115 (by decide) (fun h115 => ?_) (fun h115 => ?_)
        · refine gx_iincN (n := 1) d_Mo_make_124 rfl (by decide) (Nat.le_of_ble_eq_true rfl) rfl ?_
          refine gx_goto (tgt := 71) d_Mo_make_127 (by decide) ?_
          obtain rfl : i = 0 := by omega
          have e : nz4 x y z t 1 = nz4 x y z t 0 := by show nz x = []; exact if_pos h115
          exact ih 1 A' _ (by omega) (by omega) (by rw [e]; exact h) hX
        · refine gx_aload_n d_Mo_make_118 rfl ?_
          refine gx_iload d_Mo_make_119 rfl ?_
          refine gx_cVr lk_Mo_146 d_Mo_make_121 (cm_addLower hI hd h (by have := nz4_le (a := x) (b := y) (c := z) (d := t) i (by omega); omega)) (Or.inl ⟨_, mo_o⟩) (by omega) rfl rfl (Nat.le_of_ble_eq_true rfl) (fun r2 w2 hq => ?_)
          obtain ⟨rfl, A2, rfl, hJ2⟩ := hq
          refine gx_iincN (n := 1) d_Mo_make_124 rfl (by decide) (Nat.le_of_ble_eq_true rfl) rfl ?_
          refine gx_goto (tgt := 71) d_Mo_make_127 (by decide) ?_
          obtain rfl : i = 0 := by omega
          have e : nz4 x y z t 1 = nz4 x y z t 0 ++ [x] := by show nz x = [] ++ [x]; exact if_neg (by omega)
          exact ih 1 A2 _ (by omega) (by omega) (by rw [e]; exact hJ2) hX
theorem moK.start {I I' : Nat → Nat} {A A' : Nat → Nat → Nat} {ds : List (List Nat × List Nat)} (h : moK I A I' A' ds) : moJ A (uA (uA A' 8 ds.length 0) 10 ds.length 0) ds [] [] := by
  obtain ⟨h1, h2, h3, h4⟩ := h
  refine ⟨fun j a b c d => by rw [uA_oj c, uA_oj a]; exact h3 j a b c d, fun d hd => ?_, ⟨by rw [uA_o (by decide), uA_s]; rfl, uA_s⟩, fun i hi => absurd hi (Nat.not_lt_zero _), fun i hi => absurd hi (Nat.not_lt_zero _)⟩
  obtain ⟨a1, a2, a3, a4⟩ := h4 d hd
  exact ⟨⟨by rw [uA_o (by decide), uA_i (by omega)]; exact a1.1, by rw [uA_i (by omega), uA_o (by decide)]; exact a1.2⟩, a2, fun i hi => by rw [uA_o (by decide), uA_o (by decide)]; exact a3 i hi, fun i hi => by rw [uA_o (by decide), uA_o (by decide)]; exact a4 i hi⟩
theorem moJ.done {I I' : Nat → Nat} {A A' A'' : Nat → Nat → Nat} {ds : List (List Nat × List Nat)} {u v : List Nat} (h : moK I A I' A' ds) (hJ : moJ A A'' ds u v) (hu : u.length ≤ 3) (hv : v.length ≤ 7) : moK I A (sp_u I' 3 (ds.length + 1)) A'' (ds ++ [(u, v)]) :=
  ⟨by rw [ui_s, List.length_append]; rfl, fun k hk => by rw [ui_o hk]; exact h.2.1 k hk, hJ.1, hJ.shut hu hv⟩
theorem cm_make {w : gx_W} {m : Nat} {I I' : Nat → Nat} {A A' : Nat → Nat → Nat} {ds : List (List Nat × List Nat)} {a b c x y z t : Nat} (h : moK I A I' A' ds) (hd : ds.length < 60) (ha : a < 65536) (hb : b < 65536) (hc : c < 65536) (hx : x < 65536) (hy : y < 65536) (hz : z < 65536) (ht : t < 65536)  : gx_Ct M_Mo_make 2 0 0 [.ref m, .int (nI a), .int (nI b), .int (nI c), .int (nI x), .int (nI y), .int (nI z), .int (nI t)] (gx_mo w m I' A') (fun r w' => r = none ∧ ∃ I'' A'', w' = gx_mo w m I'' A'' ∧ moK I A I'' A'' (ds ++ [(nz3 a b c 3, nz4 x y z t 4)])) := by
  refine gx_ct (L := [some (.ref m), some (.int (nI a)), some (.int (nI b)), some (.int (nI c)), some (.int (nI x)), some (.int (nI y)), some (.int (nI z)), some (.int (nI t)), none, none]) (by decide) (Nat.le_of_ble_eq_true rfl) rfl ?_
  refine gx_aload_n d_Mo_make_0 rfl ?_
  refine gx_get fl_Mo_32 d_Mo_make_1 mo_o rfl ?_
  refine gx_aload_n d_Mo_make_4 rfl ?_
  refine gx_get fl_Mo_139 d_Mo_make_5 mo_o rfl ?_
  rw [h.1]
  refine gx_iconst d_Mo_make_8 (nI 0) (by decide) ?_
  refine gx_iast d_Mo_make_9 mo_8 (by omega) (by omega) ?_
  refine gx_w mo_s8 ?_
  refine gx_aload_n d_Mo_make_10 rfl ?_
  refine gx_get fl_Mo_38 d_Mo_make_11 mo_o rfl ?_
  refine gx_aload_n d_Mo_make_14 rfl ?_
  refine gx_get fl_Mo_139 d_Mo_make_15 mo_o rfl ?_
  rw [h.1]
  refine gx_iconst d_Mo_make_18 (nI 0) (by decide) ?_
  refine gx_iast d_Mo_make_19 mo_10 (by omega) (by omega) ?_
  refine gx_w mo_s10 ?_
  refine gx_iconst d_Mo_make_20 (nI 0) (by decide) ?_
  refine gx_istore d_Mo_make_21 (Nat.le_of_ble_eq_true rfl) rfl ?_
  refine lm_make1 h.1 hd ha hb hc hx hy hz ht 4 0 _ _ (by omega) (by omega) h.start (fun A1 L91 hJ1 => ?_)
  refine gx_iconst d_Mo_make_68 (nI 0) (by decide) ?_
  refine gx_istore d_Mo_make_69 (Nat.le_of_ble_eq_true rfl) rfl ?_
  refine lm_make2 h.1 hd ha hb hc hx hy hz ht (u := nz3 a b c 3) 5 0 A1 _ (by omega) (by omega) hJ1 (fun A2 L92 hJ2 => ?_)
  refine gx_aload_n d_Mo_make_130 rfl ?_
  refine gx_dup d_Mo_make_131 rfl ?_
  refine gx_get fl_Mo_139 d_Mo_make_132 mo_o rfl ?_
  rw [h.1]
  refine gx_iconst d_Mo_make_135 (nI 1) (by decide) ?_
  refine gx_iaddN d_Mo_make_136 ?_
  refine gx_put fp_Mo_139 (fun h => by cases h) d_Mo_make_137 mo_o rfl rfl (Nat.le_of_ble_eq_true rfl) ?_
  refine gx_w mo_p3 ?_
  refine gx_return rfl d_Mo_make_140 ?_
  exact ⟨rfl, _, _, rfl, moJ.done h hJ2 (nz3_le 3 (by omega)) (by have := nz4_le (a := x) (b := y) (c := z) (d := t) 4 (by omega); omega)⟩
