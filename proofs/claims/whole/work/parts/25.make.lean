/-! the constructors -/
/-- a world that ends with the cells of l, from a on -/
def gx_of (w : gx_W) (a : Nat) (l : List (Option gx_E)) : gx_W := (fun q => if q < a then w.1 q else (l[q - a]?).join, a + l.length)
def gx_wd (w : gx_W) (ci cap : Nat) : gx_W := (fun q => if q = w.2 then some (gx_bx ci cap []) else w.1 q, w.2 + 2)
/-- all is as it was but from a on, where n cells are now -/
def gx_nk (w w' : gx_W) (a n : Nat) : Prop := w'.2 = a + n ∧ ∀ q, (q < a ∨ a + n ≤ q) → w'.1 q = w.1 q
section GXO
variable {w : gx_W} {a : Nat} {l : List (Option gx_E)}
theorem gx_of_at {k : Nat} {x : gx_E} (h : (l[k]?).join = some x) : (gx_of w a l).1 (a + k) = some x := by
  show (if a + k < a then _ else (l[a + k - a]?).join) = _
  rw [if_neg (by omega), Nat.add_sub_cancel_left]; exact h
theorem gx_of_0 {x : gx_E} (h : (l[0]?).join = some x) : (gx_of w a l).1 a = some x := gx_of_at (k := 0) h
theorem gx_of_st {k : Nat} {x : gx_E} (h : k < l.length) : gx_st (gx_of w a l) (a + k) x = gx_of w a (l.set k (some x)) := by
  unfold gx_st gx_of
  refine Prod.ext ?_ (by simp)
  funext q
  by_cases h1 : q < a
  · have : q ≠ a + k := by omega
    simp [h1, this]
  · by_cases h2 : q = a + k
    · subst h2; simp [h]; intro h9; omega
    · have h3 : k ≠ q - a := by omega
      simp [h1, h2, List.getElem?_set_ne h3]
theorem gx_of_st0 {x : gx_E} (h : 0 < l.length) : gx_st (gx_of w a l) a x = gx_of w a (l.set 0 (some x)) := gx_of_st (k := 0) h
theorem gx_of_al {x : gx_E} : gx_al (gx_of w a l) x = gx_of w a (l ++ [some x]) := by
  unfold gx_al gx_of
  refine Prod.ext ?_ (by simp; omega)
  funext q
  by_cases h1 : q < a
  · have : q ≠ a + l.length := by omega
    simp [h1, this]
  · by_cases h2 : q = a + l.length
    · subst h2; simp; intro h9; omega
    · by_cases h3 : q - a < l.length
      · simp [h1, h2, List.getElem?_append_left h3]
      · have h4 : ∃ m, q - a - l.length = m + 1 := ⟨q - a - l.length - 1, by omega⟩
        obtain ⟨m, hm⟩ := h4
        simp [h1, h2]
        rw [List.getElem?_append_right (by omega), hm, List.getElem?_eq_none (by omega)]
        simp
theorem gx_of_wd {ci cap : Nat} : gx_wd (gx_of w a l) ci cap = gx_of w a (l ++ [some (gx_bx ci cap []), none]) := by
  unfold gx_wd gx_of
  refine Prod.ext ?_ (by simp; omega)
  funext q
  by_cases h1 : q < a
  · have : q ≠ a + l.length := by omega
    simp [h1, this]
  · by_cases h2 : q = a + l.length
    · subst h2; simp; intro h9; omega
    · by_cases h3 : q - a < l.length
      · simp [h1, h2, List.getElem?_append_left h3]
      · have h4 : ∃ m, q - a - l.length = m + 1 := ⟨q - a - l.length - 1, by omega⟩
        obtain ⟨m, hm⟩ := h4
        simp [h1, h2]
        rw [List.getElem?_append_right (by omega), hm, List.getElem?_eq_none (by omega)]
        cases m <;> simp
theorem gx_of_start {x : gx_E} (h : w.1 a = some x) (hh : w.2 = a + 1) (hf : ∀ q, w.2 ≤ q → w.1 q = none) : w = gx_of w a [some x] := by
  unfold gx_of
  refine Prod.ext ?_ hh
  funext q
  by_cases h1 : q < a
  · simp [h1]
  · by_cases h2 : q = a
    · subst h2; simp [h]
    · have h4 : ∃ m, q - a = m + 1 := ⟨q - a - 1, by omega⟩
      obtain ⟨m, hm⟩ := h4
      simp [h1, hm]
      exact hf q (by omega)
theorem gx_of_nk (hh : w.2 = a + 1) (hf : ∀ q, w.2 ≤ q → w.1 q = none) (hl : 0 < l.length) : gx_nk w (gx_of w a l) a l.length := by
  refine ⟨rfl, fun q hq => ?_⟩
  show (if q < a then _ else (l[q - a]?).join) = _
  rcases hq with hq | hq
  · rw [if_pos hq]
  · rw [if_neg (by omega), List.getElem?_eq_none (by omega), hf q (by omega)]; rfl
end GXO
section GXN
variable {F : gx_N → State → Prop} {M : gx_M} {d : Nat} {Q : gx_P} {pc : Nat} {L : List (Option Value)} {st : List Value} {w : gx_W} {b : Nat × Nat}
theorem gx_bud (b1 b2 : Nat) (h1 : b1 ≤ b.1) (h2 : b2 ≤ b.2) (k : gx_X F M d Q pc L st w (b1, b2)) : gx_X F M d Q pc L st w b := fun p l e R s m args below meth c H locs cells slots ls N A V hl hw hS hd hc hs => k p l e R s m args below meth c H locs cells slots ls N A V hl hw hS hd (by show cells + b1 ≤ _; omega) (by show slots + b2 ≤ _; omega)
theorem gx_ar_eq {w : gx_W} {cap ci : Nat} {x : gx_E} : gx_st (gx_gr (gx_al w x) 1) w.2 (gx_bx ci cap []) = gx_wd w ci cap := by
  unfold gx_st gx_gr gx_al gx_wd
  refine Prod.ext ?_ rfl
  funext q
  by_cases h : q = w.2 <;> simp [h]
theorem gx_nWord {i1 i2 cap pc2 b1 b2 : Nat} (hf : gx_nw M.1.cls i1 0 2 [.null, .int 0]) (hS : gx_lI M.1.cls i2 M_Word_init 1) (h1 : decode M.2.1 pc = .ok (.new i1, 3)) (h2 : decode M.2.1 (pc + 3) = .ok (.dup, 1)) (hp : ∀ st' w' b', gx_X F M d Q pc2 L (.int (nI cap) :: st') w' b' → gx_X F M d Q (pc + 3 + 1) L st' w' b') (h4 : decode M.2.1 pc2 = .ok (.invokespecial i2, 3)) (hd : 2 ≤ d) (hcap : cap < 65536) (hrm : ((Value.ref w.2 :: st).map fun v => v.category).sum ≤ 8) (k : gx_X F M d Q (pc2 + 3) L (.ref w.2 :: st) (gx_wd w 0 cap) (b1, b2)) : gx_X F M d Q pc L st w (b1 + 2, b2 + 2 + cap) := by
  refine gx_bud (b1 + 1 + 1) (b2 + cap + 2) (by show _ ≤ b1 + 2; omega) (by show _ ≤ b2 + 2 + cap; omega) ?_
  refine gx_new hf h1 ?_
  refine gx_dup h2 rfl ?_
  refine hp _ _ _ ?_
  refine gx_callI (as := [.int (nI cap)]) hS h4 (ct_Word_init (by simp [gx_al]) rfl hcap) hd rfl rfl hrm ⟨by show 0 + 1 ≤ b1 + 1; omega, by show 0 + cap ≤ b2 + cap; omega⟩ (fun r w' hq => ?_)
  obtain ⟨rfl, rfl⟩ := hq
  rw [gx_ar_eq]
  refine gx_bud b1 b2 (by show b1 ≤ b1 + 1 - (0 + 1); omega) (by show b2 ≤ b2 + cap - (0 + cap); omega) k
theorem gx_nRow {i1 i2 cap pc2 b1 b2 : Nat} (hf : gx_nw M.1.cls i1 1 2 [.null, .int 0]) (hS : gx_lI M.1.cls i2 M_Row_init 1) (h1 : decode M.2.1 pc = .ok (.new i1, 3)) (h2 : decode M.2.1 (pc + 3) = .ok (.dup, 1)) (hp : ∀ st' w' b', gx_X F M d Q pc2 L (.int (nI cap) :: st') w' b' → gx_X F M d Q (pc + 3 + 1) L st' w' b') (h4 : decode M.2.1 pc2 = .ok (.invokespecial i2, 3)) (hd : 2 ≤ d) (hcap : cap < 65536) (hrm : ((Value.ref w.2 :: st).map fun v => v.category).sum ≤ 8) (k : gx_X F M d Q (pc2 + 3) L (.ref w.2 :: st) (gx_wd w 1 cap) (b1, b2)) : gx_X F M d Q pc L st w (b1 + 2, b2 + 2 + cap) := by
  refine gx_bud (b1 + 1 + 1) (b2 + cap + 2) (by show _ ≤ b1 + 2; omega) (by show _ ≤ b2 + 2 + cap; omega) ?_
  refine gx_new hf h1 ?_
  refine gx_dup h2 rfl ?_
  refine hp _ _ _ ?_
  refine gx_callI (as := [.int (nI cap)]) hS h4 (ct_Row_init (by simp [gx_al]) rfl hcap) hd rfl rfl hrm ⟨by show 0 + 1 ≤ b1 + 1; omega, by show 0 + cap ≤ b2 + cap; omega⟩ (fun r w' hq => ?_)
  obtain ⟨rfl, rfl⟩ := hq
  rw [gx_ar_eq]
  refine gx_bud b1 b2 (by show b1 ≤ b1 + 1 - (0 + 1); omega) (by show b2 ≤ b2 + cap - (0 + cap); omega) k
end GXN
section KIN
variable {w w' : gx_W} {a : Nat}
theorem mcAt.inn {M : sp_M} {t : List Nat} (h : mcAt w a M t) (hk : ∀ q, a ≤ q → q < a + 7 → w'.1 q = w.1 q) : mcAt w' a M t := by
  obtain ⟨h0, h1, h2, h3, h4, h5⟩ := h
  exact ⟨by rw [hk _ (by omega) (by omega)]; exact h0, by rw [hk _ (by omega) (by omega)]; exact h1, by rw [hk _ (by omega) (by omega)]; exact h2, by rw [hk _ (by omega) (by omega)]; exact h3, by rw [hk _ (by omega) (by omega)]; exact h4, by rw [hk _ (by omega) (by omega)]; exact h5⟩
theorem rnAt.inn {m : Nat} {T : Nat → List Nat} (h : rnAt w a m T) (hk : ∀ q, a ≤ q → q < a + 28 → w'.1 q = w.1 q) : rnAt w' a m T := by
  obtain ⟨h0, h1, h2⟩ := h
  exact ⟨by rw [hk _ (by omega) (by omega)]; exact h0, by rw [hk _ (by omega) (by omega)]; exact h1, fun i hi => by rw [hk _ (by omega) (by omega)]; exact h2 i hi⟩
theorem bxAt.inn {m : Nat} {U V : Nat → List Nat} {fo : Nat → Nat} (h : bxAt w a m U V fo) (hk : ∀ q, a ≤ q → q < a + 303 → w'.1 q = w.1 q) : bxAt w' a m U V fo := by
  obtain ⟨h0, h1, h2, h3⟩ := h
  exact ⟨by rw [hk _ (by omega) (by omega)]; exact h0, by rw [hk _ (by omega) (by omega)]; exact h1, by rw [hk _ (by omega) (by omega)]; exact h2, fun i hi => ⟨by rw [hk _ (by omega) (by omega)]; exact (h3 i hi).1, by rw [hk _ (by omega) (by omega)]; exact (h3 i hi).2.1, by rw [hk _ (by omega) (by omega)]; exact (h3 i hi).2.2⟩⟩
theorem wyAt.inn {p t : List Nat} (h : wyAt w a p t) (hk : ∀ q, a ≤ q → q < a + 5 → w'.1 q = w.1 q) : wyAt w' a p t := by
  obtain ⟨h0, h1, h2⟩ := h
  exact ⟨by rw [hk _ (by omega) (by omega)]; exact h0, by rw [hk _ (by omega) (by omega)]; exact h1, by rw [hk _ (by omega) (by omega)]; exact h2⟩
theorem hnAt.inn {q : List sp_E} {lk : Int32} {op : List Nat} (h : hnAt w a q lk op) (hk : ∀ q, a ≤ q → q < a + 8 → w'.1 q = w.1 q) : hnAt w' a q lk op := by
  obtain ⟨h0, f1, f2, f3, f4, f5, ⟨g0, g1, g2, g3, g4, g5, g6⟩, hF⟩ := h
  exact ⟨h0, f1, f2, f3, f4, f5, ⟨by rw [hk _ (by omega) (by omega)]; exact g0, by rw [hk _ (by omega) (by omega)]; exact g1, by rw [hk _ (by omega) (by omega)]; exact g2, by rw [hk _ (by omega) (by omega)]; exact g3, by rw [hk _ (by omega) (by omega)]; exact g4, by rw [hk _ (by omega) (by omega)]; exact g5, by rw [hk _ (by omega) (by omega)]; exact g6⟩, hF⟩
end KIN
def sp_M0 : sp_M := (fun _ => 0, fun _ => 0, fun _ => 0, fun _ => 0)
theorem sp_M0_ok : sp_Mok sp_M0 := fun _ => ⟨Nat.zero_le _, Nat.zero_le _, Nat.lt_of_lt_of_le Nat.zero_lt_one (by decide), Nat.zero_le _⟩
theorem sp_i0_ok : sp_iok [] := ⟨Nat.zero_le _, fun _ h => by cases h⟩
theorem d_Domino_init_0 : decode prog_3_method_1_code 0 = .ok (.aload_n 0, 1) := by decide +kernel
theorem d_Domino_init_1 : decode prog_3_method_1_code 1 = .ok (.invokespecial 3, 3) := by decide +kernel
theorem d_Domino_init_4 : decode prog_3_method_1_code 4 = .ok (.aload_n 0, 1) := by decide +kernel
theorem d_Domino_init_5 : decode prog_3_method_1_code 5 = .ok (.new 9, 3) := by decide +kernel
theorem d_Domino_init_8 : decode prog_3_method_1_code 8 = .ok (.dup, 1) := by decide +kernel
theorem d_Domino_init_9 : decode prog_3_method_1_code 9 = .ok (.iconst 3, 1) := by decide +kernel
theorem d_Domino_init_10 : decode prog_3_method_1_code 10 = .ok (.invokespecial 11, 3) := by decide +kernel
theorem d_Domino_init_13 : decode prog_3_method_1_code 13 = .ok (.putfield 14, 3) := by decide +kernel
theorem d_Domino_init_16 : decode prog_3_method_1_code 16 = .ok (.aload_n 0, 1) := by decide +kernel
theorem d_Domino_init_17 : decode prog_3_method_1_code 17 = .ok (.new 9, 3) := by decide +kernel
theorem d_Domino_init_20 : decode prog_3_method_1_code 20 = .ok (.dup, 1) := by decide +kernel
theorem d_Domino_init_21 : decode prog_3_method_1_code 21 = .ok (.bipush 7, 2) := by decide +kernel
theorem d_Domino_init_23 : decode prog_3_method_1_code 23 = .ok (.invokespecial 11, 3) := by decide +kernel
theorem d_Domino_init_26 : decode prog_3_method_1_code 26 = .ok (.putfield 20, 3) := by decide +kernel
theorem d_Domino_init_29 : decode prog_3_method_1_code 29 = .ok (.return_, 1) := by decide +kernel
theorem ct_Domino_init {w : gx_W} {a : Nat} (hw : w.1 a = some (gx_ob 4 [.null, .null])) (hh : w.2 = a + 1) : gx_Ct M_Domino_init 2 4 14 [.ref a] w (gx_eq none (gx_of w a [some (gx_ob 4 [.ref (a + 1), .ref (a + 3)]), some (gx_bx 0 3 []), none, some (gx_bx 0 7 []), none])) := by
  refine gx_ct (L := [some (.ref a)]) (by decide) (Nat.le_of_ble_eq_true rfl) rfl ?_
  refine gx_fr (fun hfr => ?_)
  refine gx_w (gx_of_start hw hh hfr) ?_
  refine gx_aload_n d_Domino_init_0 rfl ?_
  refine gx_objInit lk_Domino_3 (by omega) (Nat.le_of_ble_eq_true rfl) d_Domino_init_1 ?_
  refine gx_aload_n d_Domino_init_4 rfl ?_
  refine gx_nWord (b1 := 2) (b2 := 9) (cap := 3) nw_Domino_9 lk_Domino_11 d_Domino_init_5 d_Domino_init_8 (fun _ _ _ k => gx_iconst d_Domino_init_9 (nI 3) (by decide) k) d_Domino_init_10 (by omega) (by decide) (Nat.le_of_ble_eq_true rfl) ?_
  refine gx_w (w' := gx_of w a [some (gx_ob 4 [.null, .null]), some (gx_bx 0 3 []), none]) gx_of_wd ?_
  refine gx_put fp_Domino_14 (fun h => rfl) d_Domino_init_13 (gx_of_0 rfl) rfl rfl (Nat.le_of_ble_eq_true rfl) ?_
  refine gx_w (w' := gx_of w a [some (gx_ob 4 [.ref (a + 1), .null]), some (gx_bx 0 3 []), none]) (gx_of_st0 (Nat.lt_of_lt_of_le Nat.zero_lt_one (Nat.le_of_ble_eq_true rfl))) ?_
  refine gx_aload_n d_Domino_init_16 rfl ?_
  refine gx_nWord (b1 := 0) (b2 := 0) (cap := 7) nw_Domino_9 lk_Domino_11 d_Domino_init_17 d_Domino_init_20 (fun _ _ _ k => gx_bipush d_Domino_init_21 (nI 7) (by decide) k) d_Domino_init_23 (by omega) (by decide) (Nat.le_of_ble_eq_true rfl) ?_
  refine gx_w (w' := gx_of w a [some (gx_ob 4 [.ref (a + 1), .null]), some (gx_bx 0 3 []), none, some (gx_bx 0 7 []), none]) gx_of_wd ?_
  refine gx_put fp_Domino_20 (fun h => rfl) d_Domino_init_26 (gx_of_0 rfl) rfl rfl (Nat.le_of_ble_eq_true rfl) ?_
  refine gx_w (w' := gx_of w a [some (gx_ob 4 [.ref (a + 1), .ref (a + 3)]), some (gx_bx 0 3 []), none, some (gx_bx 0 7 []), none]) (gx_of_st0 (Nat.lt_of_lt_of_le Nat.zero_lt_one (Nat.le_of_ble_eq_true rfl))) ?_
  refine gx_return rfl d_Domino_init_29 ?_
  exact ⟨rfl, rfl⟩
theorem d_Way_init_0 : decode prog_8_method_1_code 0 = .ok (.aload_n 0, 1) := by decide +kernel
theorem d_Way_init_1 : decode prog_8_method_1_code 1 = .ok (.invokespecial 3, 3) := by decide +kernel
theorem d_Way_init_4 : decode prog_8_method_1_code 4 = .ok (.aload_n 0, 1) := by decide +kernel
theorem d_Way_init_5 : decode prog_8_method_1_code 5 = .ok (.new 9, 3) := by decide +kernel
theorem d_Way_init_8 : decode prog_8_method_1_code 8 = .ok (.dup, 1) := by decide +kernel
theorem d_Way_init_9 : decode prog_8_method_1_code 9 = .ok (.sipush 222, 3) := by decide +kernel
theorem d_Way_init_12 : decode prog_8_method_1_code 12 = .ok (.invokespecial 11, 3) := by decide +kernel
theorem d_Way_init_15 : decode prog_8_method_1_code 15 = .ok (.putfield 14, 3) := by decide +kernel
theorem d_Way_init_18 : decode prog_8_method_1_code 18 = .ok (.aload_n 0, 1) := by decide +kernel
theorem d_Way_init_19 : decode prog_8_method_1_code 19 = .ok (.new 20, 3) := by decide +kernel
theorem d_Way_init_22 : decode prog_8_method_1_code 22 = .ok (.dup, 1) := by decide +kernel
theorem d_Way_init_23 : decode prog_8_method_1_code 23 = .ok (.bipush 10, 2) := by decide +kernel
theorem d_Way_init_25 : decode prog_8_method_1_code 25 = .ok (.invokespecial 22, 3) := by decide +kernel
theorem d_Way_init_28 : decode prog_8_method_1_code 28 = .ok (.putfield 23, 3) := by decide +kernel
theorem d_Way_init_31 : decode prog_8_method_1_code 31 = .ok (.return_, 1) := by decide +kernel
theorem ct_Way_init {w : gx_W} {a : Nat} (hw : w.1 a = some (gx_ob 6 [.null, .null])) (hh : w.2 = a + 1) : gx_Ct M_Way_init 2 4 236 [.ref a] w (fun v w' => v = none ∧ wyAt w' a [] [] ∧ gx_nk w w' a 5) := by
  refine gx_ct (L := [some (.ref a)]) (by decide) (Nat.le_of_ble_eq_true rfl) rfl ?_
  refine gx_fr (fun hfr => ?_)
  refine gx_w (gx_of_start hw hh hfr) ?_
  refine gx_aload_n d_Way_init_0 rfl ?_
  refine gx_objInit lk_Way_3 (by omega) (Nat.le_of_ble_eq_true rfl) d_Way_init_1 ?_
  refine gx_aload_n d_Way_init_4 rfl ?_
  refine gx_nRow (b1 := 2) (b2 := 12) (cap := 222) nw_Way_9 lk_Way_11 d_Way_init_5 d_Way_init_8 (fun _ _ _ k => gx_sipush d_Way_init_9 (nI 222) (by decide) k) d_Way_init_12 (by omega) (by decide) (Nat.le_of_ble_eq_true rfl) ?_
  refine gx_w (w' := gx_of w a [some (gx_ob 6 [.null, .null]), some (gx_bx 1 222 []), none]) gx_of_wd ?_
  refine gx_put fp_Way_14 (fun h => rfl) d_Way_init_15 (gx_of_0 rfl) rfl rfl (Nat.le_of_ble_eq_true rfl) ?_
  refine gx_w (w' := gx_of w a [some (gx_ob 6 [.ref (a + 1), .null]), some (gx_bx 1 222 []), none]) (gx_of_st0 (Nat.lt_of_lt_of_le Nat.zero_lt_one (Nat.le_of_ble_eq_true rfl))) ?_
  refine gx_aload_n d_Way_init_18 rfl ?_
  refine gx_nWord (b1 := 0) (b2 := 0) (cap := 10) nw_Way_20 lk_Way_22 d_Way_init_19 d_Way_init_22 (fun _ _ _ k => gx_bipush d_Way_init_23 (nI 10) (by decide) k) d_Way_init_25 (by omega) (by decide) (Nat.le_of_ble_eq_true rfl) ?_
  refine gx_w (w' := gx_of w a [some (gx_ob 6 [.ref (a + 1), .null]), some (gx_bx 1 222 []), none, some (gx_bx 0 10 []), none]) gx_of_wd ?_
  refine gx_put fp_Way_23 (fun h => rfl) d_Way_init_28 (gx_of_0 rfl) rfl rfl (Nat.le_of_ble_eq_true rfl) ?_
  refine gx_w (w' := gx_of w a [some (gx_ob 6 [.ref (a + 1), .ref (a + 3)]), some (gx_bx 1 222 []), none, some (gx_bx 0 10 []), none]) (gx_of_st0 (Nat.lt_of_lt_of_le Nat.zero_lt_one (Nat.le_of_ble_eq_true rfl))) ?_
  refine gx_return rfl d_Way_init_31 ?_
  exact ⟨rfl, ⟨gx_of_0 rfl, gx_of_at (k := 1) rfl, gx_of_at (k := 3) rfl⟩, gx_of_nk hh hfr (Nat.lt_of_lt_of_le Nat.zero_lt_one (Nat.le_of_ble_eq_true rfl))⟩
theorem d_Hunt_init_0 : decode prog_4_method_1_code 0 = .ok (.aload_n 0, 1) := by decide +kernel
theorem d_Hunt_init_1 : decode prog_4_method_1_code 1 = .ok (.invokespecial 3, 3) := by decide +kernel
theorem d_Hunt_init_4 : decode prog_4_method_1_code 4 = .ok (.aload_n 0, 1) := by decide +kernel
theorem d_Hunt_init_5 : decode prog_4_method_1_code 5 = .ok (.sipush 401, 3) := by decide +kernel
theorem d_Hunt_init_8 : decode prog_4_method_1_code 8 = .ok (.newarray .int, 2) := by decide +kernel
theorem d_Hunt_init_10 : decode prog_4_method_1_code 10 = .ok (.putfield 11, 3) := by decide +kernel
theorem d_Hunt_init_13 : decode prog_4_method_1_code 13 = .ok (.aload_n 0, 1) := by decide +kernel
theorem d_Hunt_init_14 : decode prog_4_method_1_code 14 = .ok (.sipush 401, 3) := by decide +kernel
theorem d_Hunt_init_17 : decode prog_4_method_1_code 17 = .ok (.newarray .int, 2) := by decide +kernel
theorem d_Hunt_init_19 : decode prog_4_method_1_code 19 = .ok (.putfield 15, 3) := by decide +kernel
theorem d_Hunt_init_22 : decode prog_4_method_1_code 22 = .ok (.aload_n 0, 1) := by decide +kernel
theorem d_Hunt_init_23 : decode prog_4_method_1_code 23 = .ok (.sipush 401, 3) := by decide +kernel
theorem d_Hunt_init_26 : decode prog_4_method_1_code 26 = .ok (.newarray .int, 2) := by decide +kernel
theorem d_Hunt_init_28 : decode prog_4_method_1_code 28 = .ok (.putfield 18, 3) := by decide +kernel
theorem d_Hunt_init_31 : decode prog_4_method_1_code 31 = .ok (.aload_n 0, 1) := by decide +kernel
theorem d_Hunt_init_32 : decode prog_4_method_1_code 32 = .ok (.sipush 401, 3) := by decide +kernel
theorem d_Hunt_init_35 : decode prog_4_method_1_code 35 = .ok (.newarray .int, 2) := by decide +kernel
theorem d_Hunt_init_37 : decode prog_4_method_1_code 37 = .ok (.putfield 21, 3) := by decide +kernel
theorem d_Hunt_init_40 : decode prog_4_method_1_code 40 = .ok (.aload_n 0, 1) := by decide +kernel
theorem d_Hunt_init_41 : decode prog_4_method_1_code 41 = .ok (.sipush 4812, 3) := by decide +kernel
theorem d_Hunt_init_44 : decode prog_4_method_1_code 44 = .ok (.newarray .char, 2) := by decide +kernel
theorem d_Hunt_init_46 : decode prog_4_method_1_code 46 = .ok (.putfield 24, 3) := by decide +kernel
theorem d_Hunt_init_49 : decode prog_4_method_1_code 49 = .ok (.aload_n 0, 1) := by decide +kernel
theorem d_Hunt_init_50 : decode prog_4_method_1_code 50 = .ok (.new 28, 3) := by decide +kernel
theorem d_Hunt_init_53 : decode prog_4_method_1_code 53 = .ok (.dup, 1) := by decide +kernel
theorem d_Hunt_init_54 : decode prog_4_method_1_code 54 = .ok (.bipush 12, 2) := by decide +kernel
theorem d_Hunt_init_56 : decode prog_4_method_1_code 56 = .ok (.invokespecial 30, 3) := by decide +kernel
theorem d_Hunt_init_59 : decode prog_4_method_1_code 59 = .ok (.putfield 33, 3) := by decide +kernel
theorem d_Hunt_init_62 : decode prog_4_method_1_code 62 = .ok (.aload_n 0, 1) := by decide +kernel
theorem d_Hunt_init_63 : decode prog_4_method_1_code 63 = .ok (.iconst (-1), 1) := by decide +kernel
theorem d_Hunt_init_64 : decode prog_4_method_1_code 64 = .ok (.putfield 37, 3) := by decide +kernel
theorem d_Hunt_init_67 : decode prog_4_method_1_code 67 = .ok (.return_, 1) := by decide +kernel
theorem ct_Hunt_init {w : gx_W} {a : Nat} (hw : w.1 a = some (gx_ob 7 [.null, .null, .null, .null, .null, .null, .int 0, .int 0])) (hh : w.2 = a + 1) : gx_Ct M_Hunt_init 2 7 6430 [.ref a] w (fun v w' => v = none ∧ hnAt w' a [] (-1) [] ∧ gx_nk w w' a 8) := by
  refine gx_ct (L := [some (.ref a)]) (by decide) (Nat.le_of_ble_eq_true rfl) rfl ?_
  refine gx_fr (fun hfr => ?_)
  refine gx_w (gx_of_start hw hh hfr) ?_
  refine gx_aload_n d_Hunt_init_0 rfl ?_
  refine gx_objInit lk_Hunt_3 (by omega) (Nat.le_of_ble_eq_true rfl) d_Hunt_init_1 ?_
  refine gx_aload_n d_Hunt_init_4 rfl ?_
  refine gx_sipush d_Hunt_init_5 (nI 401) (by decide) ?_
  refine gx_newi (b1 := 6) (b2 := 6029) (by decide) d_Hunt_init_8 ?_
  refine gx_w (w' := gx_of w a [some (gx_ob 7 [.null, .null, .null, .null, .null, .null, .int 0, .int 0]), some (gx_ai 0 401 (fun _ => 0))]) gx_of_al ?_
  refine gx_put fp_Hunt_11 (fun h => rfl) d_Hunt_init_10 (gx_of_0 rfl) rfl rfl (Nat.le_of_ble_eq_true rfl) ?_
  refine gx_w (w' := gx_of w a [some (gx_ob 7 [.ref (a + 1), .null, .null, .null, .null, .null, .int 0, .int 0]), some (gx_ai 0 401 (fun _ => 0))]) (gx_of_st0 (Nat.lt_of_lt_of_le Nat.zero_lt_one (Nat.le_of_ble_eq_true rfl))) ?_
  refine gx_aload_n d_Hunt_init_13 rfl ?_
  refine gx_sipush d_Hunt_init_14 (nI 401) (by decide) ?_
  refine gx_newi (b1 := 5) (b2 := 5628) (by decide) d_Hunt_init_17 ?_
  refine gx_w (w' := gx_of w a [some (gx_ob 7 [.ref (a + 1), .null, .null, .null, .null, .null, .int 0, .int 0]), some (gx_ai 0 401 (fun _ => 0)), some (gx_ai 0 401 (fun _ => 0))]) gx_of_al ?_
  refine gx_put fp_Hunt_15 (fun h => rfl) d_Hunt_init_19 (gx_of_0 rfl) rfl rfl (Nat.le_of_ble_eq_true rfl) ?_
  refine gx_w (w' := gx_of w a [some (gx_ob 7 [.ref (a + 1), .ref (a + 2), .null, .null, .null, .null, .int 0, .int 0]), some (gx_ai 0 401 (fun _ => 0)), some (gx_ai 0 401 (fun _ => 0))]) (gx_of_st0 (Nat.lt_of_lt_of_le Nat.zero_lt_one (Nat.le_of_ble_eq_true rfl))) ?_
  refine gx_aload_n d_Hunt_init_22 rfl ?_
  refine gx_sipush d_Hunt_init_23 (nI 401) (by decide) ?_
  refine gx_newi (b1 := 4) (b2 := 5227) (by decide) d_Hunt_init_26 ?_
  refine gx_w (w' := gx_of w a [some (gx_ob 7 [.ref (a + 1), .ref (a + 2), .null, .null, .null, .null, .int 0, .int 0]), some (gx_ai 0 401 (fun _ => 0)), some (gx_ai 0 401 (fun _ => 0)), some (gx_ai 0 401 (fun _ => 0))]) gx_of_al ?_
  refine gx_put fp_Hunt_18 (fun h => rfl) d_Hunt_init_28 (gx_of_0 rfl) rfl rfl (Nat.le_of_ble_eq_true rfl) ?_
  refine gx_w (w' := gx_of w a [some (gx_ob 7 [.ref (a + 1), .ref (a + 2), .ref (a + 3), .null, .null, .null, .int 0, .int 0]), some (gx_ai 0 401 (fun _ => 0)), some (gx_ai 0 401 (fun _ => 0)), some (gx_ai 0 401 (fun _ => 0))]) (gx_of_st0 (Nat.lt_of_lt_of_le Nat.zero_lt_one (Nat.le_of_ble_eq_true rfl))) ?_
  refine gx_aload_n d_Hunt_init_31 rfl ?_
  refine gx_sipush d_Hunt_init_32 (nI 401) (by decide) ?_
  refine gx_newi (b1 := 3) (b2 := 4826) (by decide) d_Hunt_init_35 ?_
  refine gx_w (w' := gx_of w a [some (gx_ob 7 [.ref (a + 1), .ref (a + 2), .ref (a + 3), .null, .null, .null, .int 0, .int 0]), some (gx_ai 0 401 (fun _ => 0)), some (gx_ai 0 401 (fun _ => 0)), some (gx_ai 0 401 (fun _ => 0)), some (gx_ai 0 401 (fun _ => 0))]) gx_of_al ?_
  refine gx_put fp_Hunt_21 (fun h => rfl) d_Hunt_init_37 (gx_of_0 rfl) rfl rfl (Nat.le_of_ble_eq_true rfl) ?_
  refine gx_w (w' := gx_of w a [some (gx_ob 7 [.ref (a + 1), .ref (a + 2), .ref (a + 3), .ref (a + 4), .null, .null, .int 0, .int 0]), some (gx_ai 0 401 (fun _ => 0)), some (gx_ai 0 401 (fun _ => 0)), some (gx_ai 0 401 (fun _ => 0)), some (gx_ai 0 401 (fun _ => 0))]) (gx_of_st0 (Nat.lt_of_lt_of_le Nat.zero_lt_one (Nat.le_of_ble_eq_true rfl))) ?_
  refine gx_aload_n d_Hunt_init_40 rfl ?_
  refine gx_sipush d_Hunt_init_41 (nI 4812) (by decide) ?_
  refine gx_newc (b1 := 2) (b2 := 14) (by decide) d_Hunt_init_44 ?_
  refine gx_w (w' := gx_of w a [some (gx_ob 7 [.ref (a + 1), .ref (a + 2), .ref (a + 3), .ref (a + 4), .null, .null, .int 0, .int 0]), some (gx_ai 0 401 (fun _ => 0)), some (gx_ai 0 401 (fun _ => 0)), some (gx_ai 0 401 (fun _ => 0)), some (gx_ai 0 401 (fun _ => 0)), some (gx_ai 1 4812 (fun _ => 0))]) gx_of_al ?_
  refine gx_put fp_Hunt_24 (fun h => rfl) d_Hunt_init_46 (gx_of_0 rfl) rfl rfl (Nat.le_of_ble_eq_true rfl) ?_
  refine gx_w (w' := gx_of w a [some (gx_ob 7 [.ref (a + 1), .ref (a + 2), .ref (a + 3), .ref (a + 4), .ref (a + 5), .null, .int 0, .int 0]), some (gx_ai 0 401 (fun _ => 0)), some (gx_ai 0 401 (fun _ => 0)), some (gx_ai 0 401 (fun _ => 0)), some (gx_ai 0 401 (fun _ => 0)), some (gx_ai 1 4812 (fun _ => 0))]) (gx_of_st0 (Nat.lt_of_lt_of_le Nat.zero_lt_one (Nat.le_of_ble_eq_true rfl))) ?_
  refine gx_aload_n d_Hunt_init_49 rfl ?_
  refine gx_nWord (b1 := 0) (b2 := 0) (cap := 12) nw_Hunt_28 lk_Hunt_30 d_Hunt_init_50 d_Hunt_init_53 (fun _ _ _ k => gx_bipush d_Hunt_init_54 (nI 12) (by decide) k) d_Hunt_init_56 (by omega) (by decide) (Nat.le_of_ble_eq_true rfl) ?_
  refine gx_w (w' := gx_of w a [some (gx_ob 7 [.ref (a + 1), .ref (a + 2), .ref (a + 3), .ref (a + 4), .ref (a + 5), .null, .int 0, .int 0]), some (gx_ai 0 401 (fun _ => 0)), some (gx_ai 0 401 (fun _ => 0)), some (gx_ai 0 401 (fun _ => 0)), some (gx_ai 0 401 (fun _ => 0)), some (gx_ai 1 4812 (fun _ => 0)), some (gx_bx 0 12 []), none]) gx_of_wd ?_
  refine gx_put fp_Hunt_33 (fun h => rfl) d_Hunt_init_59 (gx_of_0 rfl) rfl rfl (Nat.le_of_ble_eq_true rfl) ?_
  refine gx_w (w' := gx_of w a [some (gx_ob 7 [.ref (a + 1), .ref (a + 2), .ref (a + 3), .ref (a + 4), .ref (a + 5), .ref (a + 6), .int 0, .int 0]), some (gx_ai 0 401 (fun _ => 0)), some (gx_ai 0 401 (fun _ => 0)), some (gx_ai 0 401 (fun _ => 0)), some (gx_ai 0 401 (fun _ => 0)), some (gx_ai 1 4812 (fun _ => 0)), some (gx_bx 0 12 []), none]) (gx_of_st0 (Nat.lt_of_lt_of_le Nat.zero_lt_one (Nat.le_of_ble_eq_true rfl))) ?_
  refine gx_aload_n d_Hunt_init_62 rfl ?_
  refine gx_iconst d_Hunt_init_63 (-1) (by decide) ?_
  refine gx_put fp_Hunt_37 (fun h => by cases h) d_Hunt_init_64 (gx_of_0 rfl) rfl rfl (Nat.le_of_ble_eq_true rfl) ?_
  refine gx_w (w' := gx_of w a [some (gx_ob 7 [.ref (a + 1), .ref (a + 2), .ref (a + 3), .ref (a + 4), .ref (a + 5), .ref (a + 6), .int 0, .int (-1)]), some (gx_ai 0 401 (fun _ => 0)), some (gx_ai 0 401 (fun _ => 0)), some (gx_ai 0 401 (fun _ => 0)), some (gx_ai 0 401 (fun _ => 0)), some (gx_ai 1 4812 (fun _ => 0)), some (gx_bx 0 12 []), none]) (gx_of_st0 (Nat.lt_of_lt_of_le Nat.zero_lt_one (Nat.le_of_ble_eq_true rfl))) ?_
  refine gx_return rfl d_Hunt_init_67 ?_
  exact ⟨rfl, ⟨Nat.zero_le _, _, _, _, _, _, ⟨gx_of_0 rfl, gx_of_at (k := 1) rfl, gx_of_at (k := 2) rfl, gx_of_at (k := 3) rfl, gx_of_at (k := 4) rfl, gx_of_at (k := 5) rfl, gx_of_at (k := 6) rfl⟩, fun i hi => absurd hi (Nat.not_lt_zero _)⟩, gx_of_nk hh hfr (Nat.lt_of_lt_of_le Nat.zero_lt_one (Nat.le_of_ble_eq_true rfl))⟩
theorem d_Machine_init_0 : decode prog_5_method_1_code 0 = .ok (.aload_n 0, 1) := by decide +kernel
theorem d_Machine_init_1 : decode prog_5_method_1_code 1 = .ok (.invokespecial 3, 3) := by decide +kernel
theorem d_Machine_init_4 : decode prog_5_method_1_code 4 = .ok (.aload_n 0, 1) := by decide +kernel
theorem d_Machine_init_5 : decode prog_5_method_1_code 5 = .ok (.bipush 12, 2) := by decide +kernel
theorem d_Machine_init_7 : decode prog_5_method_1_code 7 = .ok (.newarray .boolean, 2) := by decide +kernel
theorem d_Machine_init_9 : decode prog_5_method_1_code 9 = .ok (.putfield 9, 3) := by decide +kernel
theorem d_Machine_init_12 : decode prog_5_method_1_code 12 = .ok (.aload_n 0, 1) := by decide +kernel
theorem d_Machine_init_13 : decode prog_5_method_1_code 13 = .ok (.bipush 12, 2) := by decide +kernel
theorem d_Machine_init_15 : decode prog_5_method_1_code 15 = .ok (.newarray .boolean, 2) := by decide +kernel
theorem d_Machine_init_17 : decode prog_5_method_1_code 17 = .ok (.putfield 15, 3) := by decide +kernel
theorem d_Machine_init_20 : decode prog_5_method_1_code 20 = .ok (.aload_n 0, 1) := by decide +kernel
theorem d_Machine_init_21 : decode prog_5_method_1_code 21 = .ok (.bipush 12, 2) := by decide +kernel
theorem d_Machine_init_23 : decode prog_5_method_1_code 23 = .ok (.newarray .int, 2) := by decide +kernel
theorem d_Machine_init_25 : decode prog_5_method_1_code 25 = .ok (.putfield 18, 3) := by decide +kernel
theorem d_Machine_init_28 : decode prog_5_method_1_code 28 = .ok (.aload_n 0, 1) := by decide +kernel
theorem d_Machine_init_29 : decode prog_5_method_1_code 29 = .ok (.bipush 12, 2) := by decide +kernel
theorem d_Machine_init_31 : decode prog_5_method_1_code 31 = .ok (.newarray .int, 2) := by decide +kernel
theorem d_Machine_init_33 : decode prog_5_method_1_code 33 = .ok (.putfield 22, 3) := by decide +kernel
theorem d_Machine_init_36 : decode prog_5_method_1_code 36 = .ok (.aload_n 0, 1) := by decide +kernel
theorem d_Machine_init_37 : decode prog_5_method_1_code 37 = .ok (.new 25, 3) := by decide +kernel
theorem d_Machine_init_40 : decode prog_5_method_1_code 40 = .ok (.dup, 1) := by decide +kernel
theorem d_Machine_init_41 : decode prog_5_method_1_code 41 = .ok (.iconst 5, 1) := by decide +kernel
theorem d_Machine_init_42 : decode prog_5_method_1_code 42 = .ok (.invokespecial 27, 3) := by decide +kernel
theorem d_Machine_init_45 : decode prog_5_method_1_code 45 = .ok (.putfield 30, 3) := by decide +kernel
theorem d_Machine_init_48 : decode prog_5_method_1_code 48 = .ok (.aload_n 0, 1) := by decide +kernel
theorem d_Machine_init_49 : decode prog_5_method_1_code 49 = .ok (.getfield 30, 3) := by decide +kernel
theorem d_Machine_init_52 : decode prog_5_method_1_code 52 = .ok (.iconst 0, 1) := by decide +kernel
theorem d_Machine_init_53 : decode prog_5_method_1_code 53 = .ok (.invokestatic 34, 3) := by decide +kernel
theorem d_Machine_init_56 : decode prog_5_method_1_code 56 = .ok (.invokevirtual 38, 3) := by decide +kernel
theorem d_Machine_init_59 : decode prog_5_method_1_code 59 = .ok (.pop, 1) := by decide +kernel
theorem d_Machine_init_60 : decode prog_5_method_1_code 60 = .ok (.return_, 1) := by decide +kernel
theorem ct_Machine_init {w : gx_W} {a : Nat} (hw : w.1 a = some (gx_ob 2 [.null, .null, .null, .null, .null])) (hh : w.2 = a + 1) : gx_Ct M_Machine_init 2 6 55 [.ref a] w (fun v w' => v = none ∧ mcAt w' a sp_M0 (sp_txt (sp_c0 [])) ∧ gx_nk w w' a 7) := by
  refine gx_ct (L := [some (.ref a)]) (by decide) (Nat.le_of_ble_eq_true rfl) rfl ?_
  refine gx_fr (fun hfr => ?_)
  refine gx_w (gx_of_start hw hh hfr) ?_
  refine gx_aload_n d_Machine_init_0 rfl ?_
  refine gx_objInit lk_Machine_3 (by omega) (Nat.le_of_ble_eq_true rfl) d_Machine_init_1 ?_
  refine gx_aload_n d_Machine_init_4 rfl ?_
  refine gx_bipush d_Machine_init_5 (nI 12) (by decide) ?_
  refine gx_newz (b1 := 5) (b2 := 43) (by decide) d_Machine_init_7 ?_
  refine gx_w (w' := gx_of w a [some (gx_ob 2 [.null, .null, .null, .null, .null]), some (gx_ai 2 12 (fun _ => 0))]) gx_of_al ?_
  refine gx_put fp_Machine_9 (fun h => rfl) d_Machine_init_9 (gx_of_0 rfl) rfl rfl (Nat.le_of_ble_eq_true rfl) ?_
  refine gx_w (w' := gx_of w a [some (gx_ob 2 [.ref (a + 1), .null, .null, .null, .null]), some (gx_ai 2 12 (fun _ => 0))]) (gx_of_st0 (Nat.lt_of_lt_of_le Nat.zero_lt_one (Nat.le_of_ble_eq_true rfl))) ?_
  refine gx_aload_n d_Machine_init_12 rfl ?_
  refine gx_bipush d_Machine_init_13 (nI 12) (by decide) ?_
  refine gx_newz (b1 := 4) (b2 := 31) (by decide) d_Machine_init_15 ?_
  refine gx_w (w' := gx_of w a [some (gx_ob 2 [.ref (a + 1), .null, .null, .null, .null]), some (gx_ai 2 12 (fun _ => 0)), some (gx_ai 2 12 (fun _ => 0))]) gx_of_al ?_
  refine gx_put fp_Machine_15 (fun h => rfl) d_Machine_init_17 (gx_of_0 rfl) rfl rfl (Nat.le_of_ble_eq_true rfl) ?_
  refine gx_w (w' := gx_of w a [some (gx_ob 2 [.ref (a + 1), .ref (a + 2), .null, .null, .null]), some (gx_ai 2 12 (fun _ => 0)), some (gx_ai 2 12 (fun _ => 0))]) (gx_of_st0 (Nat.lt_of_lt_of_le Nat.zero_lt_one (Nat.le_of_ble_eq_true rfl))) ?_
  refine gx_aload_n d_Machine_init_20 rfl ?_
  refine gx_bipush d_Machine_init_21 (nI 12) (by decide) ?_
  refine gx_newi (b1 := 3) (b2 := 19) (by decide) d_Machine_init_23 ?_
  refine gx_w (w' := gx_of w a [some (gx_ob 2 [.ref (a + 1), .ref (a + 2), .null, .null, .null]), some (gx_ai 2 12 (fun _ => 0)), some (gx_ai 2 12 (fun _ => 0)), some (gx_ai 0 12 (fun _ => 0))]) gx_of_al ?_
  refine gx_put fp_Machine_18 (fun h => rfl) d_Machine_init_25 (gx_of_0 rfl) rfl rfl (Nat.le_of_ble_eq_true rfl) ?_
  refine gx_w (w' := gx_of w a [some (gx_ob 2 [.ref (a + 1), .ref (a + 2), .ref (a + 3), .null, .null]), some (gx_ai 2 12 (fun _ => 0)), some (gx_ai 2 12 (fun _ => 0)), some (gx_ai 0 12 (fun _ => 0))]) (gx_of_st0 (Nat.lt_of_lt_of_le Nat.zero_lt_one (Nat.le_of_ble_eq_true rfl))) ?_
  refine gx_aload_n d_Machine_init_28 rfl ?_
  refine gx_bipush d_Machine_init_29 (nI 12) (by decide) ?_
  refine gx_newi (b1 := 2) (b2 := 7) (by decide) d_Machine_init_31 ?_
  refine gx_w (w' := gx_of w a [some (gx_ob 2 [.ref (a + 1), .ref (a + 2), .ref (a + 3), .null, .null]), some (gx_ai 2 12 (fun _ => 0)), some (gx_ai 2 12 (fun _ => 0)), some (gx_ai 0 12 (fun _ => 0)), some (gx_ai 0 12 (fun _ => 0))]) gx_of_al ?_
  refine gx_put fp_Machine_22 (fun h => rfl) d_Machine_init_33 (gx_of_0 rfl) rfl rfl (Nat.le_of_ble_eq_true rfl) ?_
  refine gx_w (w' := gx_of w a [some (gx_ob 2 [.ref (a + 1), .ref (a + 2), .ref (a + 3), .ref (a + 4), .null]), some (gx_ai 2 12 (fun _ => 0)), some (gx_ai 2 12 (fun _ => 0)), some (gx_ai 0 12 (fun _ => 0)), some (gx_ai 0 12 (fun _ => 0))]) (gx_of_st0 (Nat.lt_of_lt_of_le Nat.zero_lt_one (Nat.le_of_ble_eq_true rfl))) ?_
  refine gx_aload_n d_Machine_init_36 rfl ?_
  refine gx_nWord (b1 := 0) (b2 := 0) (cap := 5) nw_Machine_25 lk_Machine_27 d_Machine_init_37 d_Machine_init_40 (fun _ _ _ k => gx_iconst d_Machine_init_41 (nI 5) (by decide) k) d_Machine_init_42 (by omega) (by decide) (Nat.le_of_ble_eq_true rfl) ?_
  refine gx_w (w' := gx_of w a [some (gx_ob 2 [.ref (a + 1), .ref (a + 2), .ref (a + 3), .ref (a + 4), .null]), some (gx_ai 2 12 (fun _ => 0)), some (gx_ai 2 12 (fun _ => 0)), some (gx_ai 0 12 (fun _ => 0)), some (gx_ai 0 12 (fun _ => 0)), some (gx_bx 0 5 []), none]) gx_of_wd ?_
  refine gx_put fp_Machine_30 (fun h => rfl) d_Machine_init_45 (gx_of_0 rfl) rfl rfl (Nat.le_of_ble_eq_true rfl) ?_
  refine gx_w (w' := gx_of w a [some (gx_ob 2 [.ref (a + 1), .ref (a + 2), .ref (a + 3), .ref (a + 4), .ref (a + 5)]), some (gx_ai 2 12 (fun _ => 0)), some (gx_ai 2 12 (fun _ => 0)), some (gx_ai 0 12 (fun _ => 0)), some (gx_ai 0 12 (fun _ => 0)), some (gx_bx 0 5 []), none]) (gx_of_st0 (Nat.lt_of_lt_of_le Nat.zero_lt_one (Nat.le_of_ble_eq_true rfl))) ?_
  refine gx_aload_n d_Machine_init_48 rfl ?_
  refine gx_get fl_Machine_30 d_Machine_init_49 (gx_of_0 rfl) rfl ?_
  refine gx_iconst d_Machine_init_52 (nI 0) (by decide) ?_
  refine gx_cS1 lk_Machine_34 d_Machine_init_53 (ct_letter (q := 0) (by omega)) (by omega) rfl rfl (Nat.le_of_ble_eq_true rfl) ?_
  refine gx_top (show _ = nI 97 from rfl) ?_
  refine gx_cV1 lk_Machine_38 d_Machine_init_56 (ct_Word_add (l := []) (cap := 5) (gx_of_at (k := 5) rfl) (show 97 < 65536 by decide) (by decide)) (Or.inr ⟨_, _, gx_of_at (k := 5) rfl⟩) (by omega) rfl rfl (Nat.le_of_ble_eq_true rfl) ?_
  refine gx_w (gx_of_st (k := 5) (Nat.le_of_ble_eq_true rfl)) ?_
  refine gx_pop d_Machine_init_59 rfl ?_
  refine gx_return rfl d_Machine_init_60 ?_
  exact ⟨rfl, ⟨gx_of_0 rfl, gx_of_at (k := 1) rfl, gx_of_at (k := 2) rfl, gx_of_at (k := 3) rfl, gx_of_at (k := 4) rfl, gx_of_at (k := 5) rfl⟩, gx_of_nk hh hfr (Nat.lt_of_lt_of_le Nat.zero_lt_one (Nat.le_of_ble_eq_true rfl))⟩
