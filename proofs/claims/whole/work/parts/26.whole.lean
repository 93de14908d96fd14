/-! the constructors of the run, of the box, and of the whole object -/
section GXF
variable {F : gx_N → State → Prop} {M : gx_M} {d : Nat} {pc : Nat} {L : List (Option Value)} {st : List Value} {w : gx_W} {b : Nat × Nat}
theorem gx_wk {Q1 Q2 : Option Value → gx_W → Prop} (h : ∀ r w', Q1 r w' → (∀ q, w'.2 ≤ q → w'.1 q = none) → Q2 r w') (k : gx_X F M d (gx_nt Q1) pc L st w b) : gx_X F M d (gx_nt Q2) pc L st w b := fun p l e R s m args below meth c H locs cells slots ls N A V hl hw hS hd hc hs => by
  refine gx_mono (fun t ht => ?_) (k p l e R s m args below meth c H locs cells slots ls N A V hl hw hS hd hc hs)
  obtain ⟨o, h1, h2, ⟨h3, h4⟩, h5⟩ := ht
  refine ⟨o, h1, h2, ⟨?_, h4⟩, h5⟩
  rcases h3 with ⟨r, w', a1, a2, a3, a4⟩ | ⟨_, _, _, _, hF, _⟩
  · refine Or.inl ⟨r, w', a1, h r w' a2 (fun q hq => ?_), a3, a4⟩
    cases hx : w'.1 q with
    | none => rfl
    | some x => have := a3.lt hx; omega
  · exact hF.elim
end GXF
def rnG (r i j : Nat) : Option Nat := if j < i then some (r + 2 + 2 * j) else none
theorem rnG_up {r i : Nat} : va_up (rnG r i) i (some (r + 2 + 2 * i)) = rnG r (i + 1) := by
  funext j
  unfold va_up rnG
  by_cases h : j = i
  · subst h; simp
  · by_cases h2 : j < i
    · simp [h, h2]; omega
    · simp [h, h2]; omega
/-- the run while it is made -/
def rnM (w0 w : gx_W) (r i : Nat) : Prop := w.1 r = some (gx_ob 3 [.ref (r + 1), .int 0]) ∧ w.1 (r + 1) = some (gx_ar 3 13 (rnG r i)) ∧ (∀ j, j < i → w.1 (r + 2 + 2 * j) = some (gx_bx 0 11 [])) ∧ w.2 = r + 2 + 2 * i ∧ (∀ q, q < r → w.1 q = w0.1 q)
theorem d_Run_init_0 : decode prog_7_method_1_code 0 = .ok (.aload_n 0, 1) := by decide +kernel
theorem d_Run_init_1 : decode prog_7_method_1_code 1 = .ok (.invokespecial 3, 3) := by decide +kernel
theorem d_Run_init_4 : decode prog_7_method_1_code 4 = .ok (.aload_n 0, 1) := by decide +kernel
theorem d_Run_init_5 : decode prog_7_method_1_code 5 = .ok (.bipush 13, 2) := by decide +kernel
theorem d_Run_init_7 : decode prog_7_method_1_code 7 = .ok (.anewarray 9, 3) := by decide +kernel
theorem d_Run_init_10 : decode prog_7_method_1_code 10 = .ok (.putfield 11, 3) := by decide +kernel
theorem d_Run_init_13 : decode prog_7_method_1_code 13 = .ok (.iconst 0, 1) := by decide +kernel
theorem d_Run_init_14 : decode prog_7_method_1_code 14 = .ok (.istore_n 1, 1) := by decide +kernel
theorem d_Run_init_15 : decode prog_7_method_1_code 15 = .ok (.iload_n 1, 1) := by decide +kernel
theorem d_Run_init_16 : decode prog_7_method_1_code 16 = .ok (.aload_n 0, 1) := by decide +kernel
theorem d_Run_init_17 : decode prog_7_method_1_code 17 = .ok (.getfield 11, 3) := by decide +kernel
theorem d_Run_init_20 : decode prog_7_method_1_code 20 = .ok (.arraylength, 1) := by decide +kernel
theorem d_Run_init_21 : decode prog_7_method_1_code 21 = .ok (.if_icmp .ge 24, 3) := by decide +kernel
theorem d_Run_init_24 : decode prog_7_method_1_code 24 = .ok (.aload_n 0, 1) := by decide +kernel
theorem d_Run_init_25 : decode prog_7_method_1_code 25 = .ok (.getfield 11, 3) := by decide +kernel
theorem d_Run_init_28 : decode prog_7_method_1_code 28 = .ok (.iload_n 1, 1) := by decide +kernel
theorem d_Run_init_29 : decode prog_7_method_1_code 29 = .ok (.new 9, 3) := by decide +kernel
theorem d_Run_init_32 : decode prog_7_method_1_code 32 = .ok (.dup, 1) := by decide +kernel
theorem d_Run_init_33 : decode prog_7_method_1_code 33 = .ok (.bipush 11, 2) := by decide +kernel
theorem d_Run_init_35 : decode prog_7_method_1_code 35 = .ok (.invokespecial 17, 3) := by decide +kernel
theorem d_Run_init_38 : decode prog_7_method_1_code 38 = .ok (.aastore, 1) := by decide +kernel
theorem d_Run_init_39 : decode prog_7_method_1_code 39 = .ok (.iinc 1 1, 3) := by decide +kernel
theorem d_Run_init_42 : decode prog_7_method_1_code 42 = .ok (.goto (-27), 3) := by decide +kernel
theorem d_Run_init_45 : decode prog_7_method_1_code 45 = .ok (.return_, 1) := by decide +kernel
theorem lp_Run_init {Q : gx_P} {w0 : gx_W} {r : Nat} : ∀ (fu : Nat) (i : Nat) (w : gx_W), 13 - i < fu → (rnM w0 w r i) → (i ≤ 13) → (∀ w', rnM w0 w' r 13 → Q.1 none w') → gx_X (fun _ _ => True) M_Run_init 2 Q 15 [some (.ref r), some (.int (nI i))] [] w (2 * (13 - i), 13 * (13 - i)) := by
  intro fu
  induction fu with
  | zero => intro i w hfu; exact absurd hfu (Nat.not_lt_zero _)
  | succ fu ih =>
    intro i w hfu hm hi hQ
    refine gx_iload_n d_Run_init_15 rfl ?_
    refine gx_aload_n d_Run_init_16 rfl ?_
    refine gx_get fl_Run_11 d_Run_init_17 hm.1 rfl ?_
    refine gx_alen (by decide) d_Run_init_20 hm.2.1 ?_
    refine gx_icmp_geN (by omega) (by omega) (tgt := 45) d_Run_init_21 (by decide) (fun h21 => ?_) (fun h21 => ?_)
    · refine gx_return rfl d_Run_init_45 ?_
      rw [show i = 13 by omega] at hm
      exact hQ w hm
    · refine gx_aload_n d_Run_init_24 rfl ?_
      refine gx_get fl_Run_11 d_Run_init_25 hm.1 rfl ?_
      refine gx_iload_n d_Run_init_28 rfl ?_
      refine gx_bud (2 * (13 - (i + 1)) + 2) (13 * (13 - (i + 1)) + 2 + 11) (by show _ ≤ 2 * (13 - i); omega) (by show _ ≤ 13 * (13 - i); omega) ?_
      refine gx_nWord (cap := 11) nw_Run_9 lk_Run_17 d_Run_init_29 d_Run_init_32 (fun _ _ _ k => gx_bipush d_Run_init_33 (nI 11) (by decide) k) d_Run_init_35 (by omega) (by decide) (Nat.le_of_ble_eq_true rfl) ?_
      have e2 : w.2 = r + 2 + 2 * i := hm.2.2.2.1
      have m1 : (gx_wd w 0 11).1 (r + 1) = some (gx_ar 3 13 (rnG r i)) := by simp only [gx_wd]; rw [if_neg (by omega)]; exact hm.2.1
      have m2 : (gx_wd w 0 11).1 w.2 = some (gx_bx 0 11 []) := by simp [gx_wd]
      refine gx_aast (ci := 0) d_Run_init_38 (fun _ => rfl) rfl m1 (Or.inr ⟨_, _, m2⟩) (by omega) (by omega) ?_
      rw [e2, rnG_up]
      refine gx_iincN (n := 1) d_Run_init_39 rfl (by decide) (Nat.le_of_ble_eq_true rfl) rfl ?_
      refine gx_goto (tgt := 15) d_Run_init_42 (by decide) ?_
      refine ih (i + 1) _ (by omega) ⟨?_, gx_st_eq, fun j hj => ?_, ?_, fun q hq => ?_⟩ (by omega) hQ
      · rw [gx_st_ne (by omega)]; simp only [gx_wd]; rw [if_neg (by omega)]; exact hm.1
      · rw [gx_st_ne (by omega)]
        by_cases e : j = i
        · rw [e, ← e2]; exact m2
        · simp only [gx_wd]; rw [if_neg (by omega)]; exact hm.2.2.1 j (by omega)
      · show w.2 + 2 = _; omega
      · rw [gx_st_ne (by omega)]; simp only [gx_wd]; rw [if_neg (by omega)]; exact hm.2.2.2.2 q hq
theorem ct_Run_init {w : gx_W} {r : Nat} (hw : w.1 r = some (gx_ob 3 [.null, .int 0])) (hh : w.2 = r + 1) : gx_Ct M_Run_init 2 27 182 [.ref r] w (fun v w' => v = none ∧ rnAt w' r 0 (fun _ => []) ∧ gx_nk w w' r 28) := by
  refine gx_ct (L := [some (.ref r), none]) (by decide) (Nat.le_of_ble_eq_true rfl) rfl ?_
  refine gx_fr (fun hfr => ?_)
  refine gx_aload_n d_Run_init_0 rfl ?_
  refine gx_objInit lk_Run_3 (by omega) (Nat.le_of_ble_eq_true rfl) d_Run_init_1 ?_
  refine gx_aload_n d_Run_init_4 rfl ?_
  refine gx_bipush d_Run_init_5 (nI 13) (by decide) ?_
  refine gx_anew (kd := 3) (C := "PostChain$Word") (b1 := 26) (b2 := 169) (fun _ => rfl) cl_Run_9 (fun _ _ h => h.2.2.2.1) (by decide) (by decide) d_Run_init_7 ?_
  refine gx_put (ci := 3) (fs := [.null, .int 0]) fp_Run_11 (fun _ => rfl) d_Run_init_10 (by simp only [gx_al]; rw [if_neg (by omega)]; exact hw) rfl rfl (Nat.le_of_ble_eq_true rfl) ?_
  refine gx_iconst d_Run_init_13 (nI 0) (by decide) ?_
  refine gx_istore_n d_Run_init_14 (Nat.le_of_ble_eq_true rfl) rfl ?_
  refine gx_wk (Q1 := fun v w' => v = none ∧ rnM w w' r 13) ?_ ?_
  rotate_left
  · refine gx_bud (2 * (13 - 0)) (13 * (13 - 0)) (by decide) (by decide) ?_
    refine lp_Run_init (Q := gx_nt (fun v w' => v = none ∧ rnM w w' r 13)) (w0 := w) (r := r) 14 0 _ (by omega) ?_ (by omega) (fun w' h => ⟨rfl, h⟩)
    exact ⟨by rw [gx_st_eq, hh]; rfl, by rw [gx_st_ne (by omega)]; simp only [gx_al]; rw [if_pos hh.symm]; rfl, fun j hj => absurd hj (Nat.not_lt_zero _), by show w.2 + 1 = _; omega, fun q hq => by rw [gx_st_ne (by omega)]; simp only [gx_al]; rw [if_neg (by omega)]⟩
  · rintro v w' ⟨rfl, hm⟩ hf
    refine ⟨rfl, ⟨hm.1, hm.2.1, fun i hi => hm.2.2.1 i hi⟩, by rw [hm.2.2.2.1], fun q hq => ?_⟩
    rcases hq with hq | hq
    · exact hm.2.2.2.2 q hq
    · rw [hf q (by have := hm.2.2.2.1; omega), hfr q (by omega)]
def bxG (x i j : Nat) : Option Nat := if j < i then some (x + 3 + 5 * j) else none
theorem bxG_up {r i : Nat} : va_up (bxG r i) i (some (r + 3 + 5 * i)) = bxG r (i + 1) := by
  funext j
  unfold va_up bxG
  by_cases h : j = i
  · subst h; simp
  · by_cases h2 : j < i
    · simp [h, h2]; omega
    · simp [h, h2]; omega
/-- the box while it is made -/
def bxM (w0 w : gx_W) (x i : Nat) : Prop := w.1 x = some (gx_ob 5 [.ref (x + 1), .ref (x + 2), .int 0]) ∧ w.1 (x + 1) = some (gx_ar 4 60 (bxG x i)) ∧ w.1 (x + 2) = some (gx_ai 0 12 (fun _ => 0)) ∧ (∀ j, j < i → w.1 (x + 3 + 5 * j) = some (gx_ob 4 [.ref (x + 4 + 5 * j), .ref (x + 6 + 5 * j)]) ∧ w.1 (x + 4 + 5 * j) = some (gx_bx 0 3 []) ∧ w.1 (x + 6 + 5 * j) = some (gx_bx 0 7 [])) ∧ w.2 = x + 3 + 5 * i ∧ (∀ q, q < x → w.1 q = w0.1 q)
theorem d_Box_init_0 : decode prog_2_method_1_code 0 = .ok (.aload_n 0, 1) := by decide +kernel
theorem d_Box_init_1 : decode prog_2_method_1_code 1 = .ok (.invokespecial 3, 3) := by decide +kernel
theorem d_Box_init_4 : decode prog_2_method_1_code 4 = .ok (.aload_n 0, 1) := by decide +kernel
theorem d_Box_init_5 : decode prog_2_method_1_code 5 = .ok (.bipush 60, 2) := by decide +kernel
theorem d_Box_init_7 : decode prog_2_method_1_code 7 = .ok (.anewarray 9, 3) := by decide +kernel
theorem d_Box_init_10 : decode prog_2_method_1_code 10 = .ok (.putfield 11, 3) := by decide +kernel
theorem d_Box_init_13 : decode prog_2_method_1_code 13 = .ok (.aload_n 0, 1) := by decide +kernel
theorem d_Box_init_14 : decode prog_2_method_1_code 14 = .ok (.bipush 12, 2) := by decide +kernel
theorem d_Box_init_16 : decode prog_2_method_1_code 16 = .ok (.newarray .int, 2) := by decide +kernel
theorem d_Box_init_18 : decode prog_2_method_1_code 18 = .ok (.putfield 17, 3) := by decide +kernel
theorem d_Box_init_21 : decode prog_2_method_1_code 21 = .ok (.iconst 0, 1) := by decide +kernel
theorem d_Box_init_22 : decode prog_2_method_1_code 22 = .ok (.istore_n 1, 1) := by decide +kernel
theorem d_Box_init_23 : decode prog_2_method_1_code 23 = .ok (.iload_n 1, 1) := by decide +kernel
theorem d_Box_init_24 : decode prog_2_method_1_code 24 = .ok (.aload_n 0, 1) := by decide +kernel
theorem d_Box_init_25 : decode prog_2_method_1_code 25 = .ok (.getfield 11, 3) := by decide +kernel
theorem d_Box_init_28 : decode prog_2_method_1_code 28 = .ok (.arraylength, 1) := by decide +kernel
theorem d_Box_init_29 : decode prog_2_method_1_code 29 = .ok (.if_icmp .ge 22, 3) := by decide +kernel
theorem d_Box_init_32 : decode prog_2_method_1_code 32 = .ok (.aload_n 0, 1) := by decide +kernel
theorem d_Box_init_33 : decode prog_2_method_1_code 33 = .ok (.getfield 11, 3) := by decide +kernel
theorem d_Box_init_36 : decode prog_2_method_1_code 36 = .ok (.iload_n 1, 1) := by decide +kernel
theorem d_Box_init_37 : decode prog_2_method_1_code 37 = .ok (.new 9, 3) := by decide +kernel
theorem d_Box_init_40 : decode prog_2_method_1_code 40 = .ok (.dup, 1) := by decide +kernel
theorem d_Box_init_41 : decode prog_2_method_1_code 41 = .ok (.invokespecial 21, 3) := by decide +kernel
theorem d_Box_init_44 : decode prog_2_method_1_code 44 = .ok (.aastore, 1) := by decide +kernel
theorem d_Box_init_45 : decode prog_2_method_1_code 45 = .ok (.iinc 1 1, 3) := by decide +kernel
theorem d_Box_init_48 : decode prog_2_method_1_code 48 = .ok (.goto (-25), 3) := by decide +kernel
theorem d_Box_init_51 : decode prog_2_method_1_code 51 = .ok (.return_, 1) := by decide +kernel
theorem lp_Box_init {Q : gx_P} {w0 : gx_W} {x : Nat} : ∀ (fu : Nat) (i : Nat) (w : gx_W), 60 - i < fu → (bxM w0 w x i) → (i ≤ 60) → (∀ w', bxM w0 w' x 60 → Q.1 none w') → gx_X (fun _ _ => True) M_Box_init 3 Q 23 [some (.ref x), some (.int (nI i))] [] w (5 * (60 - i), 16 * (60 - i)) := by
  intro fu
  induction fu with
  | zero => intro i w hfu; exact absurd hfu (Nat.not_lt_zero _)
  | succ fu ih =>
    intro i w hfu hm hi hQ
    refine gx_iload_n d_Box_init_23 rfl ?_
    refine gx_aload_n d_Box_init_24 rfl ?_
    refine gx_get fl_Box_11 d_Box_init_25 hm.1 rfl ?_
    refine gx_alen (by decide) d_Box_init_28 hm.2.1 ?_
    refine gx_icmp_geN (by omega) (by omega) (tgt := 51) d_Box_init_29 (by decide) (fun h29 => ?_) (fun h29 => ?_)
    · refine gx_return rfl d_Box_init_51 ?_
      rw [show i = 60 by omega] at hm
      exact hQ w hm
    · refine gx_aload_n d_Box_init_32 rfl ?_
      refine gx_get fl_Box_11 d_Box_init_33 hm.1 rfl ?_
      refine gx_iload_n d_Box_init_36 rfl ?_
      refine gx_bud (5 * (60 - (i + 1)) + 4 + 1) (16 * (60 - (i + 1)) + 14 + 2) (by show _ ≤ 5 * (60 - i); omega) (by show _ ≤ 16 * (60 - i); omega) ?_
      refine gx_new nw_Box_9 d_Box_init_37 ?_
      refine gx_dup d_Box_init_40 rfl ?_
      refine gx_callI (as := []) lk_Box_21 d_Box_init_41 (ct_Domino_init (by simp [gx_al]) rfl) (by omega) rfl rfl (Nat.le_of_ble_eq_true rfl) ⟨by show 4 ≤ 5 * (60 - (i + 1)) + 4; omega, by show 14 ≤ 16 * (60 - (i + 1)) + 14; omega⟩ (fun r2 w2 hq => ?_)
      obtain ⟨rfl, hw2⟩ := hq
      refine gx_bud (5 * (60 - (i + 1))) (16 * (60 - (i + 1))) (by show _ ≤ 5 * (60 - (i + 1)) + 4 - 4; omega) (by show _ ≤ 16 * (60 - (i + 1)) + 14 - 14; omega) ?_
      have e2 : w.2 = x + 3 + 5 * i := hm.2.2.2.2.1
      rw [e2] at hw2
      have lo : ∀ q, q < x + 3 + 5 * i → w2.1 q = w.1 q := fun q hq => by
        rw [hw2]
        show (if q < _ then (gx_al w _).1 q else _) = _
        rw [if_pos hq]
        simp only [gx_al]; rw [if_neg (by omega)]
      have c0 : w2.1 (x + 3 + 5 * i) = some (gx_ob 4 [.ref (x + 3 + 5 * i + 1), .ref (x + 3 + 5 * i + 3)]) := by rw [hw2]; exact gx_of_0 rfl
      have c1 : w2.1 (x + 3 + 5 * i + 1) = some (gx_bx 0 3 []) := by rw [hw2]; exact gx_of_at (k := 1) rfl
      have c3 : w2.1 (x + 3 + 5 * i + 3) = some (gx_bx 0 7 []) := by rw [hw2]; exact gx_of_at (k := 3) rfl
      have c5 : w2.2 = x + 3 + 5 * i + 5 := by rw [hw2]; rfl
      have m1 : w2.1 (x + 1) = some (gx_ar 4 60 (bxG x i)) := by rw [lo _ (by omega)]; exact hm.2.1
      rw [e2]
      refine gx_aast (ci := 4) d_Box_init_44 (fun _ => rfl) rfl m1 (Or.inl ⟨_, c0⟩) (by omega) (by omega) ?_
      rw [bxG_up]
      refine gx_iincN (n := 1) d_Box_init_45 rfl (by decide) (Nat.le_of_ble_eq_true rfl) rfl ?_
      refine gx_goto (tgt := 23) d_Box_init_48 (by decide) ?_
      refine ih (i + 1) _ (by omega) ⟨?_, gx_st_eq, ?_, fun j hj => ?_, ?_, fun q hq => ?_⟩ (by omega) hQ
      · rw [gx_st_ne (by omega), lo _ (by omega)]; exact hm.1
      · rw [gx_st_ne (by omega), lo _ (by omega)]; exact hm.2.2.1
      · rw [gx_st_ne (by omega), gx_st_ne (by omega), gx_st_ne (by omega)]
        by_cases e : j = i
        · subst e
          refine ⟨?_, ?_, ?_⟩
          · rw [c0, show x + 4 + 5 * j = x + 3 + 5 * j + 1 by omega, show x + 6 + 5 * j = x + 3 + 5 * j + 3 by omega]
          · rw [show x + 4 + 5 * j = x + 3 + 5 * j + 1 by omega]; exact c1
          · rw [show x + 6 + 5 * j = x + 3 + 5 * j + 3 by omega]; exact c3
        · rw [lo _ (by omega), lo _ (by omega), lo _ (by omega)]
          exact hm.2.2.2.1 j (by omega)
      · show w2.2 = _; omega
      · rw [gx_st_ne (by omega), lo _ (by omega)]; exact hm.2.2.2.2.2 q hq
theorem ct_Box_init {w : gx_W} {x : Nat} (hw : w.1 x = some (gx_ob 5 [.null, .null, .int 0])) (hh : w.2 = x + 1) : gx_Ct M_Box_init 3 302 1032 [.ref x] w (fun v w' => v = none ∧ bxAt w' x 0 (fun _ => []) (fun _ => []) (fun _ => 0) ∧ gx_nk w w' x 303) := by
  refine gx_ct (L := [some (.ref x), none]) (by decide) (Nat.le_of_ble_eq_true rfl) rfl ?_
  refine gx_fr (fun hfr => ?_)
  refine gx_w (gx_of_start hw hh hfr) ?_
  refine gx_aload_n d_Box_init_0 rfl ?_
  refine gx_objInit lk_Box_3 (by omega) (Nat.le_of_ble_eq_true rfl) d_Box_init_1 ?_
  refine gx_aload_n d_Box_init_4 rfl ?_
  refine gx_bipush d_Box_init_5 (nI 60) (by decide) ?_
  refine gx_anew (kd := 4) (C := "PostChain$Domino") (b1 := 301) (b2 := 972) (fun _ => rfl) cl_Box_9 (fun _ _ h => h.2.2.2.2.1) (by decide) (by decide) d_Box_init_7 ?_
  refine gx_w (w' := gx_of w x [some (gx_ob 5 [.null, .null, .int 0]), some (gx_ar 4 60 (fun _ => none))]) gx_of_al ?_
  refine gx_put fp_Box_11 (fun _ => rfl) d_Box_init_10 (gx_of_0 rfl) rfl rfl (Nat.le_of_ble_eq_true rfl) ?_
  refine gx_w (w' := gx_of w x [some (gx_ob 5 [.ref (x + 1), .null, .int 0]), some (gx_ar 4 60 (fun _ => none))]) (gx_of_st0 (Nat.lt_of_lt_of_le Nat.zero_lt_one (Nat.le_of_ble_eq_true rfl))) ?_
  refine gx_aload_n d_Box_init_13 rfl ?_
  refine gx_bipush d_Box_init_14 (nI 12) (by decide) ?_
  refine gx_newi (b1 := 300) (b2 := 960) (by decide) d_Box_init_16 ?_
  refine gx_w (w' := gx_of w x [some (gx_ob 5 [.ref (x + 1), .null, .int 0]), some (gx_ar 4 60 (fun _ => none)), some (gx_ai 0 12 (fun _ => 0))]) gx_of_al ?_
  refine gx_put fp_Box_17 (fun _ => rfl) d_Box_init_18 (gx_of_0 rfl) rfl rfl (Nat.le_of_ble_eq_true rfl) ?_
  refine gx_w (w' := gx_of w x [some (gx_ob 5 [.ref (x + 1), .ref (x + 2), .int 0]), some (gx_ar 4 60 (fun _ => none)), some (gx_ai 0 12 (fun _ => 0))]) (gx_of_st0 (Nat.lt_of_lt_of_le Nat.zero_lt_one (Nat.le_of_ble_eq_true rfl))) ?_
  refine gx_iconst d_Box_init_21 (nI 0) (by decide) ?_
  refine gx_istore_n d_Box_init_22 (Nat.le_of_ble_eq_true rfl) rfl ?_
  refine gx_wk (Q1 := fun v w' => v = none ∧ bxM w w' x 60) ?_ ?_
  rotate_left
  · refine gx_bud (5 * (60 - 0)) (16 * (60 - 0)) (by decide) (by decide) ?_
    refine lp_Box_init (Q := gx_nt (fun v w' => v = none ∧ bxM w w' x 60)) (w0 := w) (x := x) 61 0 _ (by omega) ?_ (by omega) (fun w' h => ⟨rfl, h⟩)
    exact ⟨gx_of_0 rfl, gx_of_at (k := 1) rfl, gx_of_at (k := 2) rfl, fun j hj => absurd hj (Nat.not_lt_zero _), rfl, fun q hq => if_pos hq⟩
  · rintro v w' ⟨rfl, hm⟩ hf
    refine ⟨rfl, ⟨hm.1, hm.2.1, hm.2.2.1, fun i hi => hm.2.2.2.1 i hi⟩, by rw [hm.2.2.2.2.1], fun q hq => ?_⟩
    rcases hq with hq | hq
    · exact hm.2.2.2.2.2 q hq
    · rw [hf q (by have := hm.2.2.2.2.1; omega), hfr q (by omega)]
theorem gx_clt {q B n m : Nat} (h : q < B + n) (hm : n ≤ m) : q < B + m := by omega
theorem gx_cne {q B n : Nat} (h : B + (n + 1) ≤ q) : q ≠ B := by omega
theorem d_PC_init_0 : decode prog_1_method_1_code 0 = .ok (.aload_n 0, 1) := by decide +kernel
theorem d_PC_init_1 : decode prog_1_method_1_code 1 = .ok (.invokespecial 3, 3) := by decide +kernel
theorem d_PC_init_4 : decode prog_1_method_1_code 4 = .ok (.aload_n 0, 1) := by decide +kernel
theorem d_PC_init_5 : decode prog_1_method_1_code 5 = .ok (.new 9, 3) := by decide +kernel
theorem d_PC_init_8 : decode prog_1_method_1_code 8 = .ok (.dup, 1) := by decide +kernel
theorem d_PC_init_9 : decode prog_1_method_1_code 9 = .ok (.invokespecial 11, 3) := by decide +kernel
theorem d_PC_init_12 : decode prog_1_method_1_code 12 = .ok (.putfield 12, 3) := by decide +kernel
theorem d_PC_init_15 : decode prog_1_method_1_code 15 = .ok (.aload_n 0, 1) := by decide +kernel
theorem d_PC_init_16 : decode prog_1_method_1_code 16 = .ok (.new 16, 3) := by decide +kernel
theorem d_PC_init_19 : decode prog_1_method_1_code 19 = .ok (.dup, 1) := by decide +kernel
theorem d_PC_init_20 : decode prog_1_method_1_code 20 = .ok (.invokespecial 18, 3) := by decide +kernel
theorem d_PC_init_23 : decode prog_1_method_1_code 23 = .ok (.putfield 19, 3) := by decide +kernel
theorem d_PC_init_26 : decode prog_1_method_1_code 26 = .ok (.aload_n 0, 1) := by decide +kernel
theorem d_PC_init_27 : decode prog_1_method_1_code 27 = .ok (.new 23, 3) := by decide +kernel
theorem d_PC_init_30 : decode prog_1_method_1_code 30 = .ok (.dup, 1) := by decide +kernel
theorem d_PC_init_31 : decode prog_1_method_1_code 31 = .ok (.invokespecial 25, 3) := by decide +kernel
theorem d_PC_init_34 : decode prog_1_method_1_code 34 = .ok (.putfield 26, 3) := by decide +kernel
theorem d_PC_init_37 : decode prog_1_method_1_code 37 = .ok (.aload_n 0, 1) := by decide +kernel
theorem d_PC_init_38 : decode prog_1_method_1_code 38 = .ok (.new 30, 3) := by decide +kernel
theorem d_PC_init_41 : decode prog_1_method_1_code 41 = .ok (.dup, 1) := by decide +kernel
theorem d_PC_init_42 : decode prog_1_method_1_code 42 = .ok (.invokespecial 32, 3) := by decide +kernel
theorem d_PC_init_45 : decode prog_1_method_1_code 45 = .ok (.putfield 33, 3) := by decide +kernel
theorem d_PC_init_48 : decode prog_1_method_1_code 48 = .ok (.aload_n 0, 1) := by decide +kernel
theorem d_PC_init_49 : decode prog_1_method_1_code 49 = .ok (.new 37, 3) := by decide +kernel
theorem d_PC_init_52 : decode prog_1_method_1_code 52 = .ok (.dup, 1) := by decide +kernel
theorem d_PC_init_53 : decode prog_1_method_1_code 53 = .ok (.invokespecial 39, 3) := by decide +kernel
theorem d_PC_init_56 : decode prog_1_method_1_code 56 = .ok (.putfield 40, 3) := by decide +kernel
theorem d_PC_init_59 : decode prog_1_method_1_code 59 = .ok (.aload_n 0, 1) := by decide +kernel
theorem d_PC_init_60 : decode prog_1_method_1_code 60 = .ok (.new 44, 3) := by decide +kernel
theorem d_PC_init_63 : decode prog_1_method_1_code 63 = .ok (.dup, 1) := by decide +kernel
theorem d_PC_init_64 : decode prog_1_method_1_code 64 = .ok (.bipush 60, 2) := by decide +kernel
theorem d_PC_init_66 : decode prog_1_method_1_code 66 = .ok (.invokespecial 46, 3) := by decide +kernel
theorem d_PC_init_69 : decode prog_1_method_1_code 69 = .ok (.putfield 49, 3) := by decide +kernel
theorem d_PC_init_72 : decode prog_1_method_1_code 72 = .ok (.aload_n 0, 1) := by decide +kernel
theorem d_PC_init_73 : decode prog_1_method_1_code 73 = .ok (.new 53, 3) := by decide +kernel
theorem d_PC_init_76 : decode prog_1_method_1_code 76 = .ok (.dup, 1) := by decide +kernel
theorem d_PC_init_77 : decode prog_1_method_1_code 77 = .ok (.bipush 60, 2) := by decide +kernel
theorem d_PC_init_79 : decode prog_1_method_1_code 79 = .ok (.invokespecial 55, 3) := by decide +kernel
theorem d_PC_init_82 : decode prog_1_method_1_code 82 = .ok (.putfield 56, 3) := by decide +kernel
theorem d_PC_init_85 : decode prog_1_method_1_code 85 = .ok (.aload_n 0, 1) := by decide +kernel
theorem d_PC_init_86 : decode prog_1_method_1_code 86 = .ok (.new 53, 3) := by decide +kernel
theorem d_PC_init_89 : decode prog_1_method_1_code 89 = .ok (.dup, 1) := by decide +kernel
theorem d_PC_init_90 : decode prog_1_method_1_code 90 = .ok (.sipush 180, 3) := by decide +kernel
theorem d_PC_init_93 : decode prog_1_method_1_code 93 = .ok (.invokespecial 55, 3) := by decide +kernel
theorem d_PC_init_96 : decode prog_1_method_1_code 96 = .ok (.putfield 60, 3) := by decide +kernel
theorem d_PC_init_99 : decode prog_1_method_1_code 99 = .ok (.aload_n 0, 1) := by decide +kernel
theorem d_PC_init_100 : decode prog_1_method_1_code 100 = .ok (.new 53, 3) := by decide +kernel
theorem d_PC_init_103 : decode prog_1_method_1_code 103 = .ok (.dup, 1) := by decide +kernel
theorem d_PC_init_104 : decode prog_1_method_1_code 104 = .ok (.sipush 420, 3) := by decide +kernel
theorem d_PC_init_107 : decode prog_1_method_1_code 107 = .ok (.invokespecial 55, 3) := by decide +kernel
theorem d_PC_init_110 : decode prog_1_method_1_code 110 = .ok (.putfield 63, 3) := by decide +kernel
theorem d_PC_init_113 : decode prog_1_method_1_code 113 = .ok (.aload_n 0, 1) := by decide +kernel
theorem d_PC_init_114 : decode prog_1_method_1_code 114 = .ok (.invokevirtual 66, 3) := by decide +kernel
theorem d_PC_init_117 : decode prog_1_method_1_code 117 = .ok (.return_, 1) := by decide +kernel
theorem sg_init_0 {Q : gx_P} {w : gx_W} {B : Nat} (f : w.1 B = some (gx_ob 8 [.null, .null, .null, .null, .null, .null, .null, .null, .null])) (e : w.2 = B + 1) (k : ∀ w', w'.1 B = some (gx_ob 8 [.ref (B + 1), .null, .null, .null, .null, .null, .null, .null, .null]) → w'.2 = B + 8 → (∀ q, q ≠ B → q < B + 1 → w'.1 q = w.1 q) → mcAt w' (B + 1) sp_M0 (sp_txt (sp_c0 [])) → gx_X (fun _ _ => True) M_PC_init 7 Q 15 [some (.ref B)] [] w' (352, 8623)) : gx_X (fun _ _ => True) M_PC_init 7 Q 4 [some (.ref B)] [] w (359, 8683) := by
  refine gx_aload_n d_PC_init_4 rfl ?_
  refine gx_bud (358 + 1) (8678 + 5) (by decide) (by decide) ?_
  refine gx_new nw_PC_9 d_PC_init_5 ?_
  refine gx_dup d_PC_init_8 rfl ?_
  refine gx_callI (as := []) lk_PC_11 d_PC_init_9 (ct_Machine_init (by simp [gx_al]) rfl) (by omega) rfl rfl (Nat.le_of_ble_eq_true rfl) (by decide) (fun r v hq => ?_)
  obtain ⟨rfl, p, nk⟩ := hq
  rw [e] at p nk
  refine gx_bud 352 8623 (by decide) (by decide) ?_
  have lo : ∀ q, q < B + 1 → v.1 q = w.1 q := fun q hq => by rw [nk.2 q (Or.inl hq)]; simp only [gx_al]; rw [if_neg (by omega)]
  have n1 : v.2 = B + 8 := by rw [nk.1]
  rw [e]
  refine gx_put (ci := 8) (fs := [.null, .null, .null, .null, .null, .null, .null, .null, .null]) fp_PC_12 (fun _ => rfl) d_PC_init_12 (by rw [lo _ (by omega)]; exact f) rfl rfl (Nat.le_of_ble_eq_true rfl) ?_
  exact k _ gx_st_eq n1 (fun q h1 h2 => (gx_st_ne h1).trans (lo q h2)) (p.inn (fun q h1 h2 => gx_st_ne (by omega)))
theorem sg_init_1 {Q : gx_P} {w : gx_W} {B : Nat} (f : w.1 B = some (gx_ob 8 [.ref (B + 1), .null, .null, .null, .null, .null, .null, .null, .null])) (e : w.2 = B + 8) (k : ∀ w', w'.1 B = some (gx_ob 8 [.ref (B + 1), .ref (B + 8), .null, .null, .null, .null, .null, .null, .null]) → w'.2 = B + 36 → (∀ q, q ≠ B → q < B + 8 → w'.1 q = w.1 q) → rnAt w' (B + 8) 0 (fun _ => []) → gx_X (fun _ _ => True) M_PC_init 7 Q 26 [some (.ref B)] [] w' (324, 8439)) : gx_X (fun _ _ => True) M_PC_init 7 Q 15 [some (.ref B)] [] w (352, 8623) := by
  refine gx_aload_n d_PC_init_15 rfl ?_
  refine gx_bud (351 + 1) (8621 + 2) (by decide) (by decide) ?_
  refine gx_new nw_PC_16 d_PC_init_16 ?_
  refine gx_dup d_PC_init_19 rfl ?_
  refine gx_callI (as := []) lk_PC_18 d_PC_init_20 (ct_Run_init (by simp [gx_al]) rfl) (by omega) rfl rfl (Nat.le_of_ble_eq_true rfl) (by decide) (fun r v hq => ?_)
  obtain ⟨rfl, p, nk⟩ := hq
  rw [e] at p nk
  refine gx_bud 324 8439 (by decide) (by decide) ?_
  have lo : ∀ q, q < B + 8 → v.1 q = w.1 q := fun q hq => by rw [nk.2 q (Or.inl hq)]; simp only [gx_al]; rw [if_neg (by omega)]
  have n1 : v.2 = B + 36 := by rw [nk.1]
  rw [e]
  refine gx_put (ci := 8) (fs := [.ref (B + 1), .null, .null, .null, .null, .null, .null, .null, .null]) fp_PC_19 (fun _ => rfl) d_PC_init_23 (by rw [lo _ (by omega)]; exact f) rfl rfl (Nat.le_of_ble_eq_true rfl) ?_
  exact k _ gx_st_eq n1 (fun q h1 h2 => (gx_st_ne h1).trans (lo q h2)) (p.inn (fun q h1 h2 => gx_st_ne (by omega)))
theorem sg_init_2 {Q : gx_P} {w : gx_W} {B : Nat} (f : w.1 B = some (gx_ob 8 [.ref (B + 1), .ref (B + 8), .null, .null, .null, .null, .null, .null, .null])) (e : w.2 = B + 36) (k : ∀ w', w'.1 B = some (gx_ob 8 [.ref (B + 1), .ref (B + 8), .ref (B + 36), .null, .null, .null, .null, .null, .null]) → w'.2 = B + 339 → (∀ q, q ≠ B → q < B + 36 → w'.1 q = w.1 q) → bxAt w' (B + 36) 0 (fun _ => []) (fun _ => []) (fun _ => 0) → gx_X (fun _ _ => True) M_PC_init 7 Q 37 [some (.ref B)] [] w' (21, 7404)) : gx_X (fun _ _ => True) M_PC_init 7 Q 26 [some (.ref B)] [] w (324, 8439) := by
  refine gx_aload_n d_PC_init_26 rfl ?_
  refine gx_bud (323 + 1) (8436 + 3) (by decide) (by decide) ?_
  refine gx_new nw_PC_23 d_PC_init_27 ?_
  refine gx_dup d_PC_init_30 rfl ?_
  refine gx_callI (as := []) lk_PC_25 d_PC_init_31 (ct_Box_init (by simp [gx_al]) rfl) (by omega) rfl rfl (Nat.le_of_ble_eq_true rfl) (by decide) (fun r v hq => ?_)
  obtain ⟨rfl, p, nk⟩ := hq
  rw [e] at p nk
  refine gx_bud 21 7404 (by decide) (by decide) ?_
  have lo : ∀ q, q < B + 36 → v.1 q = w.1 q := fun q hq => by rw [nk.2 q (Or.inl hq)]; simp only [gx_al]; rw [if_neg (by omega)]
  have n1 : v.2 = B + 339 := by rw [nk.1]
  rw [e]
  refine gx_put (ci := 8) (fs := [.ref (B + 1), .ref (B + 8), .null, .null, .null, .null, .null, .null, .null]) fp_PC_26 (fun _ => rfl) d_PC_init_34 (by rw [lo _ (by omega)]; exact f) rfl rfl (Nat.le_of_ble_eq_true rfl) ?_
  exact k _ gx_st_eq n1 (fun q h1 h2 => (gx_st_ne h1).trans (lo q h2)) (p.inn (fun q h1 h2 => gx_st_ne (by omega)))
theorem sg_init_3 {Q : gx_P} {w : gx_W} {B : Nat} (f : w.1 B = some (gx_ob 8 [.ref (B + 1), .ref (B + 8), .ref (B + 36), .null, .null, .null, .null, .null, .null])) (e : w.2 = B + 339) (k : ∀ w', w'.1 B = some (gx_ob 8 [.ref (B + 1), .ref (B + 8), .ref (B + 36), .ref (B + 339), .null, .null, .null, .null, .null]) → w'.2 = B + 344 → (∀ q, q ≠ B → q < B + 339 → w'.1 q = w.1 q) → wyAt w' (B + 339) [] [] → gx_X (fun _ _ => True) M_PC_init 7 Q 48 [some (.ref B)] [] w' (16, 7166)) : gx_X (fun _ _ => True) M_PC_init 7 Q 37 [some (.ref B)] [] w (21, 7404) := by
  refine gx_aload_n d_PC_init_37 rfl ?_
  refine gx_bud (20 + 1) (7402 + 2) (by decide) (by decide) ?_
  refine gx_new nw_PC_30 d_PC_init_38 ?_
  refine gx_dup d_PC_init_41 rfl ?_
  refine gx_callI (as := []) lk_PC_32 d_PC_init_42 (ct_Way_init (by simp [gx_al]) rfl) (by omega) rfl rfl (Nat.le_of_ble_eq_true rfl) (by decide) (fun r v hq => ?_)
  obtain ⟨rfl, p, nk⟩ := hq
  rw [e] at p nk
  refine gx_bud 16 7166 (by decide) (by decide) ?_
  have lo : ∀ q, q < B + 339 → v.1 q = w.1 q := fun q hq => by rw [nk.2 q (Or.inl hq)]; simp only [gx_al]; rw [if_neg (by omega)]
  have n1 : v.2 = B + 344 := by rw [nk.1]
  rw [e]
  refine gx_put (ci := 8) (fs := [.ref (B + 1), .ref (B + 8), .ref (B + 36), .null, .null, .null, .null, .null, .null]) fp_PC_33 (fun _ => rfl) d_PC_init_45 (by rw [lo _ (by omega)]; exact f) rfl rfl (Nat.le_of_ble_eq_true rfl) ?_
  exact k _ gx_st_eq n1 (fun q h1 h2 => (gx_st_ne h1).trans (lo q h2)) (p.inn (fun q h1 h2 => gx_st_ne (by omega)))
theorem sg_init_4 {Q : gx_P} {w : gx_W} {B : Nat} (f : w.1 B = some (gx_ob 8 [.ref (B + 1), .ref (B + 8), .ref (B + 36), .ref (B + 339), .null, .null, .null, .null, .null])) (e : w.2 = B + 344) (k : ∀ w', w'.1 B = some (gx_ob 8 [.ref (B + 1), .ref (B + 8), .ref (B + 36), .ref (B + 339), .ref (B + 344), .null, .null, .null, .null]) → w'.2 = B + 352 → (∀ q, q ≠ B → q < B + 344 → w'.1 q = w.1 q) → hnAt w' (B + 344) [] (-1) [] → gx_X (fun _ _ => True) M_PC_init 7 Q 59 [some (.ref B)] [] w' (8, 728)) : gx_X (fun _ _ => True) M_PC_init 7 Q 48 [some (.ref B)] [] w (16, 7166) := by
  refine gx_aload_n d_PC_init_48 rfl ?_
  refine gx_bud (15 + 1) (7158 + 8) (by decide) (by decide) ?_
  refine gx_new nw_PC_37 d_PC_init_49 ?_
  refine gx_dup d_PC_init_52 rfl ?_
  refine gx_callI (as := []) lk_PC_39 d_PC_init_53 (ct_Hunt_init (by simp [gx_al]) rfl) (by omega) rfl rfl (Nat.le_of_ble_eq_true rfl) (by decide) (fun r v hq => ?_)
  obtain ⟨rfl, p, nk⟩ := hq
  rw [e] at p nk
  refine gx_bud 8 728 (by decide) (by decide) ?_
  have lo : ∀ q, q < B + 344 → v.1 q = w.1 q := fun q hq => by rw [nk.2 q (Or.inl hq)]; simp only [gx_al]; rw [if_neg (by omega)]
  have n1 : v.2 = B + 352 := by rw [nk.1]
  rw [e]
  refine gx_put (ci := 8) (fs := [.ref (B + 1), .ref (B + 8), .ref (B + 36), .ref (B + 339), .null, .null, .null, .null, .null]) fp_PC_40 (fun _ => rfl) d_PC_init_56 (by rw [lo _ (by omega)]; exact f) rfl rfl (Nat.le_of_ble_eq_true rfl) ?_
  exact k _ gx_st_eq n1 (fun q h1 h2 => (gx_st_ne h1).trans (lo q h2)) (p.inn (fun q h1 h2 => gx_st_ne (by omega)))
theorem sg_init_5 {Q : gx_P} {w : gx_W} {B : Nat} (f : w.1 B = some (gx_ob 8 [.ref (B + 1), .ref (B + 8), .ref (B + 36), .ref (B + 339), .ref (B + 344), .null, .null, .null, .null])) (e : w.2 = B + 352) (k : ∀ w', w'.1 B = some (gx_ob 8 [.ref (B + 1), .ref (B + 8), .ref (B + 36), .ref (B + 339), .ref (B + 344), .ref (B + 352), .null, .null, .null]) → w'.2 = B + 354 → (∀ q, q ≠ B → q < B + 352 → w'.1 q = w.1 q) → w'.1 (B + 352) = some (gx_bx 1 60 []) → gx_X (fun _ _ => True) M_PC_init 7 Q 72 [some (.ref B)] [] w' (6, 666)) : gx_X (fun _ _ => True) M_PC_init 7 Q 59 [some (.ref B)] [] w (8, 728) := by
  refine gx_aload_n d_PC_init_59 rfl ?_
  refine gx_nRow (b1 := 6) (b2 := 666) (cap := 60) nw_PC_44 lk_PC_46 d_PC_init_60 d_PC_init_63 (fun _ _ _ k => gx_bipush d_PC_init_64 (nI 60) (by decide) k) d_PC_init_66 (by omega) (by decide) (Nat.le_of_ble_eq_true rfl) ?_
  have lo : ∀ q, q < B + 352 → (gx_wd w 1 60).1 q = w.1 q := fun q hq => by simp only [gx_wd]; rw [if_neg (by omega)]
  have p : (gx_wd w 1 60).1 (B + 352) = some (gx_bx 1 60 []) := by simp only [gx_wd]; rw [if_pos e.symm]
  have n1 : (gx_wd w 1 60).2 = B + 354 := by show w.2 + 2 = _; omega
  rw [e]
  refine gx_put (ci := 8) (fs := [.ref (B + 1), .ref (B + 8), .ref (B + 36), .ref (B + 339), .ref (B + 344), .null, .null, .null, .null]) fp_PC_49 (fun _ => rfl) d_PC_init_69 (by rw [lo _ (by omega)]; exact f) rfl rfl (Nat.le_of_ble_eq_true rfl) ?_
  exact k _ gx_st_eq n1 (fun q h1 h2 => (gx_st_ne h1).trans (lo q h2)) ((gx_st_ne (by omega)).trans p)
theorem sg_init_6 {Q : gx_P} {w : gx_W} {B : Nat} (f : w.1 B = some (gx_ob 8 [.ref (B + 1), .ref (B + 8), .ref (B + 36), .ref (B + 339), .ref (B + 344), .ref (B + 352), .null, .null, .null])) (e : w.2 = B + 354) (k : ∀ w', w'.1 B = some (gx_ob 8 [.ref (B + 1), .ref (B + 8), .ref (B + 36), .ref (B + 339), .ref (B + 344), .ref (B + 352), .ref (B + 354), .null, .null]) → w'.2 = B + 356 → (∀ q, q ≠ B → q < B + 354 → w'.1 q = w.1 q) → w'.1 (B + 354) = some (gx_bx 0 60 []) → gx_X (fun _ _ => True) M_PC_init 7 Q 85 [some (.ref B)] [] w' (4, 604)) : gx_X (fun _ _ => True) M_PC_init 7 Q 72 [some (.ref B)] [] w (6, 666) := by
  refine gx_aload_n d_PC_init_72 rfl ?_
  refine gx_nWord (b1 := 4) (b2 := 604) (cap := 60) nw_PC_53 lk_PC_55 d_PC_init_73 d_PC_init_76 (fun _ _ _ k => gx_bipush d_PC_init_77 (nI 60) (by decide) k) d_PC_init_79 (by omega) (by decide) (Nat.le_of_ble_eq_true rfl) ?_
  have lo : ∀ q, q < B + 354 → (gx_wd w 0 60).1 q = w.1 q := fun q hq => by simp only [gx_wd]; rw [if_neg (by omega)]
  have p : (gx_wd w 0 60).1 (B + 354) = some (gx_bx 0 60 []) := by simp only [gx_wd]; rw [if_pos e.symm]
  have n1 : (gx_wd w 0 60).2 = B + 356 := by show w.2 + 2 = _; omega
  rw [e]
  refine gx_put (ci := 8) (fs := [.ref (B + 1), .ref (B + 8), .ref (B + 36), .ref (B + 339), .ref (B + 344), .ref (B + 352), .null, .null, .null]) fp_PC_56 (fun _ => rfl) d_PC_init_82 (by rw [lo _ (by omega)]; exact f) rfl rfl (Nat.le_of_ble_eq_true rfl) ?_
  exact k _ gx_st_eq n1 (fun q h1 h2 => (gx_st_ne h1).trans (lo q h2)) ((gx_st_ne (by omega)).trans p)
theorem sg_init_7 {Q : gx_P} {w : gx_W} {B : Nat} (f : w.1 B = some (gx_ob 8 [.ref (B + 1), .ref (B + 8), .ref (B + 36), .ref (B + 339), .ref (B + 344), .ref (B + 352), .ref (B + 354), .null, .null])) (e : w.2 = B + 356) (k : ∀ w', w'.1 B = some (gx_ob 8 [.ref (B + 1), .ref (B + 8), .ref (B + 36), .ref (B + 339), .ref (B + 344), .ref (B + 352), .ref (B + 354), .ref (B + 356), .null]) → w'.2 = B + 358 → (∀ q, q ≠ B → q < B + 356 → w'.1 q = w.1 q) → w'.1 (B + 356) = some (gx_bx 0 180 []) → gx_X (fun _ _ => True) M_PC_init 7 Q 99 [some (.ref B)] [] w' (2, 422)) : gx_X (fun _ _ => True) M_PC_init 7 Q 85 [some (.ref B)] [] w (4, 604) := by
  refine gx_aload_n d_PC_init_85 rfl ?_
  refine gx_nWord (b1 := 2) (b2 := 422) (cap := 180) nw_PC_53 lk_PC_55 d_PC_init_86 d_PC_init_89 (fun _ _ _ k => gx_sipush d_PC_init_90 (nI 180) (by decide) k) d_PC_init_93 (by omega) (by decide) (Nat.le_of_ble_eq_true rfl) ?_
  have lo : ∀ q, q < B + 356 → (gx_wd w 0 180).1 q = w.1 q := fun q hq => by simp only [gx_wd]; rw [if_neg (by omega)]
  have p : (gx_wd w 0 180).1 (B + 356) = some (gx_bx 0 180 []) := by simp only [gx_wd]; rw [if_pos e.symm]
  have n1 : (gx_wd w 0 180).2 = B + 358 := by show w.2 + 2 = _; omega
  rw [e]
  refine gx_put (ci := 8) (fs := [.ref (B + 1), .ref (B + 8), .ref (B + 36), .ref (B + 339), .ref (B + 344), .ref (B + 352), .ref (B + 354), .null, .null]) fp_PC_60 (fun _ => rfl) d_PC_init_96 (by rw [lo _ (by omega)]; exact f) rfl rfl (Nat.le_of_ble_eq_true rfl) ?_
  exact k _ gx_st_eq n1 (fun q h1 h2 => (gx_st_ne h1).trans (lo q h2)) ((gx_st_ne (by omega)).trans p)
theorem sg_init_8 {Q : gx_P} {w : gx_W} {B : Nat} (f : w.1 B = some (gx_ob 8 [.ref (B + 1), .ref (B + 8), .ref (B + 36), .ref (B + 339), .ref (B + 344), .ref (B + 352), .ref (B + 354), .ref (B + 356), .null])) (e : w.2 = B + 358) (k : ∀ w', w'.1 B = some (gx_ob 8 [.ref (B + 1), .ref (B + 8), .ref (B + 36), .ref (B + 339), .ref (B + 344), .ref (B + 352), .ref (B + 354), .ref (B + 356), .ref (B + 358)]) → w'.2 = B + 360 → (∀ q, q ≠ B → q < B + 358 → w'.1 q = w.1 q) → w'.1 (B + 358) = some (gx_bx 0 420 []) → gx_X (fun _ _ => True) M_PC_init 7 Q 113 [some (.ref B)] [] w' (0, 0)) : gx_X (fun _ _ => True) M_PC_init 7 Q 99 [some (.ref B)] [] w (2, 422) := by
  refine gx_aload_n d_PC_init_99 rfl ?_
  refine gx_nWord (b1 := 0) (b2 := 0) (cap := 420) nw_PC_53 lk_PC_55 d_PC_init_100 d_PC_init_103 (fun _ _ _ k => gx_sipush d_PC_init_104 (nI 420) (by decide) k) d_PC_init_107 (by omega) (by decide) (Nat.le_of_ble_eq_true rfl) ?_
  have lo : ∀ q, q < B + 358 → (gx_wd w 0 420).1 q = w.1 q := fun q hq => by simp only [gx_wd]; rw [if_neg (by omega)]
  have p : (gx_wd w 0 420).1 (B + 358) = some (gx_bx 0 420 []) := by simp only [gx_wd]; rw [if_pos e.symm]
  have n1 : (gx_wd w 0 420).2 = B + 360 := by show w.2 + 2 = _; omega
  rw [e]
  refine gx_put (ci := 8) (fs := [.ref (B + 1), .ref (B + 8), .ref (B + 36), .ref (B + 339), .ref (B + 344), .ref (B + 352), .ref (B + 354), .ref (B + 356), .null]) fp_PC_63 (fun _ => rfl) d_PC_init_110 (by rw [lo _ (by omega)]; exact f) rfl rfl (Nat.le_of_ble_eq_true rfl) ?_
  exact k _ gx_st_eq n1 (fun q h1 h2 => (gx_st_ne h1).trans (lo q h2)) ((gx_st_ne (by omega)).trans p)
theorem sg_init_z {w0 w : gx_W} {B : Nat} (f : w.1 B = some (pcO B)) (e : w.2 = B + 360) (hP : pc0 w B sp_M0 []) (hfr : ∀ q, w0.2 ≤ q → w0.1 q = none) (hh : w0.2 = B + 1) (z : ∀ q, q < B → w.1 q = w0.1 q) : gx_X (fun _ _ => True) M_PC_init 7 (gx_nt (fun v w' => v = none ∧ pcAt w' B sp_M0 [] [] [] (-1) ∧ gx_nk w0 w' B 360)) 113 [some (.ref B)] [] w (0, 0) := by
  refine gx_aload_n d_PC_init_113 rfl ?_
  refine gx_fr (fun hfr2 => ?_)
  refine gx_cVr lk_PC_66 d_PC_init_114 (ct_startOver hP sp_M0_ok sp_i0_ok) (Or.inl ⟨_, f⟩) (by omega) rfl rfl (Nat.le_of_ble_eq_true rfl) (fun r2 w2 hq => ?_)
  obtain ⟨rfl, hA, hk⟩ := hq
  refine gx_return rfl d_PC_init_117 ?_
  refine ⟨rfl, hA, by rw [hk.1, e], fun q hq => ?_⟩
  rw [hk.2 q (by omega)]
  rcases hq with hq | hq
  · exact z q hq
  · rw [hfr2 q (by omega), hfr q (by omega)]
theorem ct_PC_init {w : gx_W} {B : Nat} (hw : w.1 B = some (gx_ob 8 [.null, .null, .null, .null, .null, .null, .null, .null, .null])) (hh : w.2 = B + 1) : gx_Ct M_PC_init 7 359 8683 [.ref B] w (fun v w' => v = none ∧ pcAt w' B sp_M0 [] [] [] (-1) ∧ gx_nk w w' B 360) := by
  refine gx_ct (L := [some (.ref B)]) (by decide) (Nat.le_of_ble_eq_true rfl) rfl ?_
  refine gx_fr (fun hfr => ?_)
  refine gx_aload_n d_PC_init_0 rfl ?_
  refine gx_objInit lk_PC_3 (by omega) (Nat.le_of_ble_eq_true rfl) d_PC_init_1 ?_
  refine sg_init_0 hw hh (fun w0 f0 e0 t0 x0 => ?_)
  refine sg_init_1 f0 e0 (fun w1 f1 e1 t1 x1 => ?_)
  refine sg_init_2 f1 e1 (fun w2 f2 e2 t2 x2 => ?_)
  refine sg_init_3 f2 e2 (fun w3 f3 e3 t3 x3 => ?_)
  refine sg_init_4 f3 e3 (fun w4 f4 e4 t4 x4 => ?_)
  refine sg_init_5 f4 e4 (fun w5 f5 e5 t5 x5 => ?_)
  refine sg_init_6 f5 e5 (fun w6 f6 e6 t6 x6 => ?_)
  refine sg_init_7 f6 e6 (fun w7 f7 e7 t7 x7 => ?_)
  refine sg_init_8 f7 e7 (fun w8 f8 e8 t8 x8 => ?_)
  have y0 := x0.inn (w' := w8) (fun q h1 h2 => by rw [t8 q (gx_cne (n := 0) h1) (gx_clt (n := 8) h2 (by decide)), t7 q (gx_cne (n := 0) h1) (gx_clt (n := 8) h2 (by decide)), t6 q (gx_cne (n := 0) h1) (gx_clt (n := 8) h2 (by decide)), t5 q (gx_cne (n := 0) h1) (gx_clt (n := 8) h2 (by decide)), t4 q (gx_cne (n := 0) h1) (gx_clt (n := 8) h2 (by decide)), t3 q (gx_cne (n := 0) h1) (gx_clt (n := 8) h2 (by decide)), t2 q (gx_cne (n := 0) h1) (gx_clt (n := 8) h2 (by decide)), t1 q (gx_cne (n := 0) h1) (gx_clt (n := 8) h2 (by decide))])
  have y1 := x1.inn (w' := w8) (fun q h1 h2 => by rw [t8 q (gx_cne (n := 7) h1) (gx_clt (n := 36) h2 (by decide)), t7 q (gx_cne (n := 7) h1) (gx_clt (n := 36) h2 (by decide)), t6 q (gx_cne (n := 7) h1) (gx_clt (n := 36) h2 (by decide)), t5 q (gx_cne (n := 7) h1) (gx_clt (n := 36) h2 (by decide)), t4 q (gx_cne (n := 7) h1) (gx_clt (n := 36) h2 (by decide)), t3 q (gx_cne (n := 7) h1) (gx_clt (n := 36) h2 (by decide)), t2 q (gx_cne (n := 7) h1) (gx_clt (n := 36) h2 (by decide))])
  have y2 := x2.inn (w' := w8) (fun q h1 h2 => by rw [t8 q (gx_cne (n := 35) h1) (gx_clt (n := 339) h2 (by decide)), t7 q (gx_cne (n := 35) h1) (gx_clt (n := 339) h2 (by decide)), t6 q (gx_cne (n := 35) h1) (gx_clt (n := 339) h2 (by decide)), t5 q (gx_cne (n := 35) h1) (gx_clt (n := 339) h2 (by decide)), t4 q (gx_cne (n := 35) h1) (gx_clt (n := 339) h2 (by decide)), t3 q (gx_cne (n := 35) h1) (gx_clt (n := 339) h2 (by decide))])
  have y3 := x3.inn (w' := w8) (fun q h1 h2 => by rw [t8 q (gx_cne (n := 338) h1) (gx_clt (n := 344) h2 (by decide)), t7 q (gx_cne (n := 338) h1) (gx_clt (n := 344) h2 (by decide)), t6 q (gx_cne (n := 338) h1) (gx_clt (n := 344) h2 (by decide)), t5 q (gx_cne (n := 338) h1) (gx_clt (n := 344) h2 (by decide)), t4 q (gx_cne (n := 338) h1) (gx_clt (n := 344) h2 (by decide))])
  have y4 := x4.inn (w' := w8) (fun q h1 h2 => by rw [t8 q (gx_cne (n := 343) h1) (gx_clt (n := 352) h2 (by decide)), t7 q (gx_cne (n := 343) h1) (gx_clt (n := 352) h2 (by decide)), t6 q (gx_cne (n := 343) h1) (gx_clt (n := 352) h2 (by decide)), t5 q (gx_cne (n := 343) h1) (gx_clt (n := 352) h2 (by decide))])
  have y5 := (t8 (B + 352) (gx_cne (n := 351) (Nat.le_refl _)) (gx_clt (n := 353) (Nat.lt_succ_self _) (by decide))).trans ((t7 (B + 352) (gx_cne (n := 351) (Nat.le_refl _)) (gx_clt (n := 353) (Nat.lt_succ_self _) (by decide))).trans ((t6 (B + 352) (gx_cne (n := 351) (Nat.le_refl _)) (gx_clt (n := 353) (Nat.lt_succ_self _) (by decide))).trans (x5)))
  have y6 := (t8 (B + 354) (gx_cne (n := 353) (Nat.le_refl _)) (gx_clt (n := 355) (Nat.lt_succ_self _) (by decide))).trans ((t7 (B + 354) (gx_cne (n := 353) (Nat.le_refl _)) (gx_clt (n := 355) (Nat.lt_succ_self _) (by decide))).trans (x6))
  have y7 := (t8 (B + 356) (gx_cne (n := 355) (Nat.le_refl _)) (gx_clt (n := 357) (Nat.lt_succ_self _) (by decide))).trans (x7)
  have y8 := x8
  have z : ∀ q, q < B → w8.1 q = w.1 q := fun q hq => by rw [t8 q (Nat.ne_of_lt hq) (Nat.lt_of_lt_of_le hq (Nat.le_add_right _ _)), t7 q (Nat.ne_of_lt hq) (Nat.lt_of_lt_of_le hq (Nat.le_add_right _ _)), t6 q (Nat.ne_of_lt hq) (Nat.lt_of_lt_of_le hq (Nat.le_add_right _ _)), t5 q (Nat.ne_of_lt hq) (Nat.lt_of_lt_of_le hq (Nat.le_add_right _ _)), t4 q (Nat.ne_of_lt hq) (Nat.lt_of_lt_of_le hq (Nat.le_add_right _ _)), t3 q (Nat.ne_of_lt hq) (Nat.lt_of_lt_of_le hq (Nat.le_add_right _ _)), t2 q (Nat.ne_of_lt hq) (Nat.lt_of_lt_of_le hq (Nat.le_add_right _ _)), t1 q (Nat.ne_of_lt hq) (Nat.lt_of_lt_of_le hq (Nat.le_add_right _ _)), t0 q (Nat.ne_of_lt hq) (Nat.lt_of_lt_of_le hq (Nat.le_add_right _ _))]
  exact sg_init_z f8 e8 ⟨f8, y0, ⟨_, _, y1⟩, ⟨_, _, _, _, y2⟩, ⟨_, _, y3⟩, ⟨_, _, _, y4⟩, ⟨_, y5⟩, ⟨_, y6⟩, ⟨_, y7⟩, ⟨_, y8⟩⟩ hfr hh z
