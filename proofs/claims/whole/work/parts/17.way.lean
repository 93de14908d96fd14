/-! Way: its methods -/
/-- the way's object at y, its row at y + 1, what is left of the text at y + 3 -/
def wyAt (w : gx_W) (y : Nat) (p t : List Nat) : Prop := w.1 y = some (gx_ob 6 [.ref (y + 1), .ref (y + 3)]) ∧ w.1 (y + 1) = some (gx_bx 1 222 p) ∧ w.1 (y + 3) = some (gx_bx 0 10 t)
theorem wyAt.kept {w w' : gx_W} {y lo hi : Nat} {p t : List Nat} (h : wyAt w y p t) (hk : gx_kp w w' lo hi) (hd : y + 5 ≤ lo ∨ hi ≤ y) : wyAt w' y p t := by
  obtain ⟨h0, h1, h2⟩ := h
  exact ⟨by rw [hk.2 _ (by omega)]; exact h0, by rw [hk.2 _ (by omega)]; exact h1, by rw [hk.2 _ (by omega)]; exact h2⟩
theorem wyAt.row {w : gx_W} {y : Nat} {p t : List Nat} (h : wyAt w y p t) (p' : List Nat) : wyAt (gx_st w (y + 1) (gx_bx 1 222 p')) y p' t := by
  obtain ⟨h0, h1, h2⟩ := h
  exact ⟨by rw [gx_st_ne (by omega)]; exact h0, gx_st_eq, by rw [gx_st_ne (by omega)]; exact h2⟩
theorem wyAt.rest {w : gx_W} {y : Nat} {p t : List Nat} (h : wyAt w y p t) (t' : List Nat) : wyAt (gx_st w (y + 3) (gx_bx 0 10 t')) y p t' := by
  obtain ⟨h0, h1, h2⟩ := h
  exact ⟨by rw [gx_st_ne (by omega)]; exact h0, by rw [gx_st_ne (by omega)]; exact h1, gx_st_eq⟩
def sp_sy (l : List Nat) : List Nat := l.map (fun c => c - 46)
theorem sp_sy_ds (l : List Nat) : sp_sy (sp_ds l) = sp_cp l := by
  unfold sp_sy sp_ds sp_cp
  rw [List.map_map]
  apply List.map_congr_left
  intro a _
  show 48 + a - 46 = 2 + a
  omega
theorem d_Way_row_0 : decode prog_8_method_2_code 0 = .ok (.aload_n 0, 1) := by decide +kernel
theorem d_Way_row_1 : decode prog_8_method_2_code 1 = .ok (.getfield 14, 3) := by decide +kernel
theorem d_Way_row_4 : decode prog_8_method_2_code 4 = .ok (.areturn, 1) := by decide +kernel
theorem ct_Way_row {w : gx_W} {y : Nat} {p t : List Nat} (h : wyAt w y p t) : gx_Ct M_Way_row 1 0 0 [.ref y] w (gx_eq (some (.ref (y + 1))) w) := by
  refine gx_ct (L := [some (.ref y)]) (by decide) (Nat.le_of_ble_eq_true rfl) rfl ?_
  refine gx_aload_n d_Way_row_0 rfl ?_
  refine gx_get fl_Way_14 d_Way_row_1 h.1 rfl ?_
  refine gx_areturn rfl (Or.inl ⟨_, rfl⟩) (Or.inr ⟨_, rfl⟩) d_Way_row_4 ?_
  exact ⟨rfl, rfl⟩
theorem d_Way_copySymbols_0 : decode prog_8_method_7_code 0 = .ok (.iload_n 2, 1) := by decide +kernel
theorem d_Way_copySymbols_1 : decode prog_8_method_7_code 1 = .ok (.istore 4, 2) := by decide +kernel
theorem d_Way_copySymbols_3 : decode prog_8_method_7_code 3 = .ok (.iload 4, 2) := by decide +kernel
theorem d_Way_copySymbols_5 : decode prog_8_method_7_code 5 = .ok (.iload_n 3, 1) := by decide +kernel
theorem d_Way_copySymbols_6 : decode prog_8_method_7_code 6 = .ok (.if_icmp .ge 27, 3) := by decide +kernel
theorem d_Way_copySymbols_9 : decode prog_8_method_7_code 9 = .ok (.aload_n 0, 1) := by decide +kernel
theorem d_Way_copySymbols_10 : decode prog_8_method_7_code 10 = .ok (.getfield 14, 3) := by decide +kernel
theorem d_Way_copySymbols_13 : decode prog_8_method_7_code 13 = .ok (.iconst 2, 1) := by decide +kernel
theorem d_Way_copySymbols_14 : decode prog_8_method_7_code 14 = .ok (.aload_n 1, 1) := by decide +kernel
theorem d_Way_copySymbols_15 : decode prog_8_method_7_code 15 = .ok (.iload 4, 2) := by decide +kernel
theorem d_Way_copySymbols_17 : decode prog_8_method_7_code 17 = .ok (.invokevirtual 78, 3) := by decide +kernel
theorem d_Way_copySymbols_20 : decode prog_8_method_7_code 20 = .ok (.invokestatic 82, 3) := by decide +kernel
theorem d_Way_copySymbols_23 : decode prog_8_method_7_code 23 = .ok (.iadd, 1) := by decide +kernel
theorem d_Way_copySymbols_24 : decode prog_8_method_7_code 24 = .ok (.invokevirtual 36, 3) := by decide +kernel
theorem d_Way_copySymbols_27 : decode prog_8_method_7_code 27 = .ok (.iinc 4 1, 3) := by decide +kernel
theorem d_Way_copySymbols_30 : decode prog_8_method_7_code 30 = .ok (.goto (-27), 3) := by decide +kernel
theorem d_Way_copySymbols_33 : decode prog_8_method_7_code 33 = .ok (.return_, 1) := by decide +kernel
theorem lp_copySymbols {Q : gx_P} {y h cap a b : Nat} {l : List Nat} (hy : h ≠ y + 1) (hb : b ≤ l.length) (hl : ∀ i, a ≤ i → i < b → 48 ≤ l.getD i 0) : ∀ (fu : Nat) (i : Nat) (p : List Nat) (t : List Nat) (w : gx_W), b - i < fu → (i < 2 ^ 31) → (wyAt w y p t) → (w.1 h = some (gx_bx 0 cap l)) → (a ≤ i) → (p.length + (b - i) ≤ 222) → (Q.1 none (gx_st w (y + 1) (gx_bx 1 222 (p ++ sp_sy ((l.take b).drop i))))) → gx_X (fun _ _ => True) M_Way_copySymbols 2 Q 3 [some (.ref y), some (.ref h), some (.int (nI a)), some (.int (nI b)), some (.int (nI i))] [] w (0, 0) := by
  intro fu
  induction fu with
  | zero => intro i p t w hfu; exact absurd hfu (Nat.not_lt_zero _)
  | succ fu ih =>
    intro i p t w hfu hi0 hwy hw hi hp hQ
    refine gx_bsz hw (fun hlen hcap hsm => ?_)
    have hs := gx_sm_at hsm i
    refine gx_iload d_Way_copySymbols_3 rfl ?_
    refine gx_iload_n d_Way_copySymbols_5 rfl ?_
    refine gx_icmp_geN (by omega) (by omega) (tgt := 33) d_Way_copySymbols_6 (by decide) (fun h6 => ?_) (fun h6 => ?_)
    · refine gx_return rfl d_Way_copySymbols_33 ?_
      rw [gx_drop_nil h6] at hQ
      rw [show sp_sy [] = [] from rfl, List.append_nil, gx_st_id hwy.2.1] at hQ
      exact hQ
    · refine gx_aload_n d_Way_copySymbols_9 rfl ?_
      refine gx_get fl_Way_14 d_Way_copySymbols_10 hwy.1 rfl ?_
      refine gx_iconst d_Way_copySymbols_13 (nI 2) (by decide) ?_
      refine gx_aload_n d_Way_copySymbols_14 rfl ?_
      refine gx_iload d_Way_copySymbols_15 rfl ?_
      refine gx_cV1 lk_Way_78 d_Way_copySymbols_17 (ct_Word_at hw hi0) (Or.inr ⟨_, _, hw⟩) (by omega) rfl rfl (Nat.le_of_ble_eq_true rfl) ?_
      have h48 := hl i hi (by omega)
      refine gx_cS1 lk_Way_82 d_Way_copySymbols_20 (ct_symbolOf) (by omega) rfl rfl (Nat.le_of_ble_eq_true rfl) ?_
      refine gx_top (pk_sub h48) ?_
      refine gx_iaddN d_Way_copySymbols_23 ?_
      refine gx_top (show _ = nI (l.getD i 0 - 46) from congrArg nI (by omega)) ?_
      refine gx_cV0 lk_Way_36 d_Way_copySymbols_24 (ct_Row_add hwy.2.1 (by omega) (by omega)) (Or.inr ⟨_, _, hwy.2.1⟩) (by omega) rfl rfl (Nat.le_of_ble_eq_true rfl) ?_
      refine gx_iincN (n := 1) d_Way_copySymbols_27 rfl (by decide) (Nat.le_of_ble_eq_true rfl) rfl ?_
      refine gx_goto (tgt := 3) d_Way_copySymbols_30 (by decide) ?_
      refine ih (i + 1) (p ++ [l.getD i 0 - 46]) t _ (by omega) (by omega) (hwy.row _) (by rw [gx_st_ne hy]; exact hw) (by omega) (by simp; omega) ?_
      rw [gx_drop_step (by omega) hb] at hQ
      rw [gx_st_st, List.append_assoc, List.singleton_append]
      exact hQ
theorem ct_copySymbols {w : gx_W} {y h cap a b : Nat} {l p t : List Nat} (hwy : wyAt w y p t) (hw : w.1 h = some (gx_bx 0 cap l)) (hy : h ≠ y + 1) (ha : a < 2 ^ 31) (hb : b ≤ l.length) (hl : ∀ i, a ≤ i → i < b → 48 ≤ l.getD i 0) (hp : p.length + (b - a) ≤ 222) : gx_Ct M_Way_copySymbols 2 0 0 [.ref y, .ref h, .int (nI a), .int (nI b)] w (gx_eq none (gx_st w (y + 1) (gx_bx 1 222 (p ++ sp_sy ((l.take b).drop a))))) := by
  refine gx_ct (L := [some (.ref y), some (.ref h), some (.int (nI a)), some (.int (nI b)), none]) (by decide) (Nat.le_of_ble_eq_true rfl) rfl ?_
  refine gx_iload_n d_Way_copySymbols_0 rfl ?_
  refine gx_istore d_Way_copySymbols_1 (Nat.le_of_ble_eq_true rfl) rfl ?_
  exact lp_copySymbols hy hb hl (b - a + 1) a p t w (by omega) ha hwy hw (Nat.le_refl _) hp (by exact ⟨rfl, rfl⟩)
theorem d_Way_pass_0 : decode prog_8_method_6_code 0 = .ok (.aload_n 0, 1) := by decide +kernel
theorem d_Way_pass_1 : decode prog_8_method_6_code 1 = .ok (.aload_n 1, 1) := by decide +kernel
theorem d_Way_pass_2 : decode prog_8_method_6_code 2 = .ok (.iconst 0, 1) := by decide +kernel
theorem d_Way_pass_3 : decode prog_8_method_6_code 3 = .ok (.iload_n 2, 1) := by decide +kernel
theorem d_Way_pass_4 : decode prog_8_method_6_code 4 = .ok (.invokevirtual 109, 3) := by decide +kernel
theorem d_Way_pass_7 : decode prog_8_method_6_code 7 = .ok (.aload_n 0, 1) := by decide +kernel
theorem d_Way_pass_8 : decode prog_8_method_6_code 8 = .ok (.getfield 14, 3) := by decide +kernel
theorem d_Way_pass_11 : decode prog_8_method_6_code 11 = .ok (.iload 4, 2) := by decide +kernel
theorem d_Way_pass_13 : decode prog_8_method_6_code 13 = .ok (.invokevirtual 36, 3) := by decide +kernel
theorem d_Way_pass_16 : decode prog_8_method_6_code 16 = .ok (.aload_n 0, 1) := by decide +kernel
theorem d_Way_pass_17 : decode prog_8_method_6_code 17 = .ok (.aload_n 1, 1) := by decide +kernel
theorem d_Way_pass_18 : decode prog_8_method_6_code 18 = .ok (.iload_n 3, 1) := by decide +kernel
theorem d_Way_pass_19 : decode prog_8_method_6_code 19 = .ok (.aload_n 1, 1) := by decide +kernel
theorem d_Way_pass_20 : decode prog_8_method_6_code 20 = .ok (.invokevirtual 55, 3) := by decide +kernel
theorem d_Way_pass_23 : decode prog_8_method_6_code 23 = .ok (.invokevirtual 109, 3) := by decide +kernel
theorem d_Way_pass_26 : decode prog_8_method_6_code 26 = .ok (.iload_n 3, 1) := by decide +kernel
theorem d_Way_pass_27 : decode prog_8_method_6_code 27 = .ok (.aload_n 1, 1) := by decide +kernel
theorem d_Way_pass_28 : decode prog_8_method_6_code 28 = .ok (.invokevirtual 55, 3) := by decide +kernel
theorem d_Way_pass_31 : decode prog_8_method_6_code 31 = .ok (.if_icmp .gt 11, 3) := by decide +kernel
theorem d_Way_pass_34 : decode prog_8_method_6_code 34 = .ok (.aload_n 0, 1) := by decide +kernel
theorem d_Way_pass_35 : decode prog_8_method_6_code 35 = .ok (.getfield 14, 3) := by decide +kernel
theorem d_Way_pass_38 : decode prog_8_method_6_code 38 = .ok (.iconst 1, 1) := by decide +kernel
theorem d_Way_pass_39 : decode prog_8_method_6_code 39 = .ok (.invokevirtual 36, 3) := by decide +kernel
theorem d_Way_pass_42 : decode prog_8_method_6_code 42 = .ok (.return_, 1) := by decide +kernel
theorem ct_pass {w : gx_W} {y h cap a e q : Nat} {l p t : List Nat} (hwy : wyAt w y p t) (hw : w.1 h = some (gx_bx 0 cap l)) (hy : h ≠ y + 1) (ha : a ≤ l.length) (he : e < 2 ^ 31) (hq : q < 65536) (hl : ∀ i, i < l.length → (i < a ∨ e ≤ i) → 48 ≤ l.getD i 0) (hp : p.length + a + (l.length - e) + 2 ≤ 222) : gx_Ct M_Way_pass 3 0 0 [.ref y, .ref h, .int (nI a), .int (nI e), .int (nI q)] w (gx_eq none (gx_st w (y + 1) (gx_bx 1 222 (p ++ sp_sy (l.take a) ++ q :: sp_sy (l.drop e) ++ (if e ≤ l.length then [1] else []))))) := by
  refine gx_ct (L := [some (.ref y), some (.ref h), some (.int (nI a)), some (.int (nI e)), some (.int (nI q))]) (by decide) (Nat.le_of_ble_eq_true rfl) rfl ?_
  refine gx_bsz hw (fun hlen hcap hsm => ?_)
  have hsl : ∀ k : List Nat, (sp_sy k).length = k.length := fun k => List.length_map ..
  have hta : (l.take a).length = a := by rw [List.length_take]; omega
  refine gx_aload_n d_Way_pass_0 rfl ?_
  refine gx_aload_n d_Way_pass_1 rfl ?_
  refine gx_iconst d_Way_pass_2 (nI 0) (by decide) ?_
  refine gx_iload_n d_Way_pass_3 rfl ?_
  refine gx_cV0 lk_Way_109 d_Way_pass_4 (ct_copySymbols (a := 0) (b := a) hwy hw hy (by omega) ha (fun i _ h2 => hl i (by omega) (Or.inl h2)) (by omega)) (Or.inl ⟨_, hwy.1⟩) (by omega) rfl rfl (Nat.le_of_ble_eq_true rfl) ?_
  rw [List.drop_zero]
  have hy1 := hwy.row (p ++ sp_sy (l.take a))
  have hw1 : (gx_st w (y + 1) (gx_bx 1 222 (p ++ sp_sy (l.take a)))).1 h = some (gx_bx 0 cap l) := by rw [gx_st_ne hy]; exact hw
  refine gx_aload_n d_Way_pass_7 rfl ?_
  refine gx_get fl_Way_14 d_Way_pass_8 hy1.1 rfl ?_
  refine gx_iload d_Way_pass_11 rfl ?_
  refine gx_cV0 lk_Way_36 d_Way_pass_13 (ct_Row_add hy1.2.1 hq (by rw [List.length_append, hsl, hta]; omega)) (Or.inr ⟨_, _, hy1.2.1⟩) (by omega) rfl rfl (Nat.le_of_ble_eq_true rfl) ?_
  rw [gx_st_st]
  have hy2 := hwy.row (p ++ sp_sy (l.take a) ++ [q])
  have hw2 : (gx_st w (y + 1) (gx_bx 1 222 (p ++ sp_sy (l.take a) ++ [q]))).1 h = some (gx_bx 0 cap l) := by rw [gx_st_ne hy]; exact hw
  refine gx_aload_n d_Way_pass_16 rfl ?_
  refine gx_aload_n d_Way_pass_17 rfl ?_
  refine gx_iload_n d_Way_pass_18 rfl ?_
  refine gx_aload_n d_Way_pass_19 rfl ?_
  refine gx_cV1 lk_Way_55 d_Way_pass_20 (ct_Word_size hw2) (Or.inr ⟨_, _, hw2⟩) (by omega) rfl rfl (Nat.le_of_ble_eq_true rfl) ?_
  refine gx_cV0 lk_Way_109 d_Way_pass_23 (ct_copySymbols (a := e) (b := l.length) hy2 hw2 hy he (Nat.le_refl _) (fun i h1 h2 => hl i h2 (Or.inr h1)) (by rw [List.length_append, List.length_append, hsl, hta]; simp; omega)) (Or.inl ⟨_, hy2.1⟩) (by omega) rfl rfl (Nat.le_of_ble_eq_true rfl) ?_
  rw [gx_st_st, List.take_of_length_le (Nat.le_refl _)]
  have hy3 := hwy.row (p ++ sp_sy (l.take a) ++ [q] ++ sp_sy (l.drop e))
  have hw3 : (gx_st w (y + 1) (gx_bx 1 222 (p ++ sp_sy (l.take a) ++ [q] ++ sp_sy (l.drop e)))).1 h = some (gx_bx 0 cap l) := by rw [gx_st_ne hy]; exact hw
  refine gx_iload_n d_Way_pass_26 rfl ?_
  refine gx_aload_n d_Way_pass_27 rfl ?_
  refine gx_cV1 lk_Way_55 d_Way_pass_28 (ct_Word_size hw3) (Or.inr ⟨_, _, hw3⟩) (by omega) rfl rfl (Nat.le_of_ble_eq_true rfl) ?_
  refine gx_icmp_gtN (by omega) (by omega) (tgt := 42) d_Way_pass_31 (by decide) (fun h31 => ?_) (fun h31 => ?_)
  · rw [if_neg (show ¬ e ≤ l.length by omega)]
    refine gx_return rfl d_Way_pass_42 ?_
    exact ⟨rfl, by simp [List.append_assoc]⟩
  · rw [if_pos (show e ≤ l.length by omega)]
    refine gx_aload_n d_Way_pass_34 rfl ?_
    refine gx_get fl_Way_14 d_Way_pass_35 hy3.1 rfl ?_
    refine gx_iconst d_Way_pass_38 (nI 1) (by decide) ?_
    refine gx_cV0 lk_Way_36 d_Way_pass_39 (ct_Row_add hy3.2.1 (by omega) (by rw [List.length_append, List.length_append, List.length_append, hsl, hta, hsl]; simp; omega)) (Or.inr ⟨_, _, hy3.2.1⟩) (by omega) rfl rfl (Nat.le_of_ble_eq_true rfl) ?_
    rw [gx_st_st]
    refine gx_return rfl d_Way_pass_42 ?_
    exact ⟨rfl, by simp [List.append_assoc]⟩
theorem sp_48 {c : sp_C} {i : Nat} (hi : i < (sp_txt c).length) : 48 ≤ (sp_txt c).getD i 0 := by
  by_cases h1 : i < c.1.length
  · rw [sp_txt_lo h1]; omega
  · by_cases h2 : i = c.1.length
    · rw [h2, sp_txt_mid]; have := sp_let_ge c.2.1; omega
    · have h3 : i = c.1.length + 1 + (i - c.1.length - 1) := by omega
      rw [sp_txt_len] at hi
      unfold sp_len at hi
      rw [h3, sp_txt_hi (by omega)]; omega
theorem sp_dropk {c : sp_C} : (sp_txt c).drop (c.1.length + 2) = sp_ds c.2.2.tail := by
  have := sp_drop2 (c := c)
  rwa [List.take_of_length_le (Nat.le_refl _)] at this
theorem sp_takek {c : sp_C} : (sp_txt c).take c.1.length = sp_ds c.1 := by
  have := sp_take0 (c := c)
  rwa [List.drop_zero] at this
theorem sp_takek1 {c : sp_C} : (sp_txt c).take (c.1.length - 1) = sp_ds c.1.dropLast := by
  have := sp_take1 (c := c)
  rwa [List.drop_zero] at this
theorem sp_rs_mono (M : sp_M) {r s : Nat} (h : r ≤ s) : (sp_rs M r).length ≤ (sp_rs M s).length := by
  induction s with
  | zero => rw [Nat.le_zero.mp h]; exact Nat.le_refl _
  | succ s ih =>
    by_cases e : r = s + 1
    · rw [e]; exact Nat.le_refl _
    · rw [sp_rs_succ, List.length_append]
      have := ih (by omega)
      omega
theorem sp_fo_lt (M : sp_M) {r : Nat} (h : r < 12) : sp_fo M r ≤ 53 := by
  have h1 := sp_rs_mono M (show r ≤ 12 by omega)
  have h2 := sp_rs_len M 12
  unfold sp_fo
  omega
theorem d_Way_passStep_0 : decode prog_8_method_4_code 0 = .ok (.aload_n 1, 1) := by decide +kernel
theorem d_Way_passStep_1 : decode prog_8_method_4_code 1 = .ok (.aload_n 2, 1) := by decide +kernel
theorem d_Way_passStep_2 : decode prog_8_method_4_code 2 = .ok (.invokevirtual 65, 3) := by decide +kernel
theorem d_Way_passStep_5 : decode prog_8_method_4_code 5 = .ok (.istore 4, 2) := by decide +kernel
theorem d_Way_passStep_7 : decode prog_8_method_4_code 7 = .ok (.iload 4, 2) := by decide +kernel
theorem d_Way_passStep_9 : decode prog_8_method_4_code 9 = .ok (.iconst (-1), 1) := by decide +kernel
theorem d_Way_passStep_10 : decode prog_8_method_4_code 10 = .ok (.if_icmp .ne 4, 3) := by decide +kernel
theorem d_Way_passStep_13 : decode prog_8_method_4_code 13 = .ok (.return_, 1) := by decide +kernel
theorem d_Way_passStep_14 : decode prog_8_method_4_code 14 = .ok (.aload_n 2, 1) := by decide +kernel
theorem d_Way_passStep_15 : decode prog_8_method_4_code 15 = .ok (.invokevirtual 71, 3) := by decide +kernel
theorem d_Way_passStep_18 : decode prog_8_method_4_code 18 = .ok (.istore 5, 2) := by decide +kernel
theorem d_Way_passStep_20 : decode prog_8_method_4_code 20 = .ok (.aload_n 1, 1) := by decide +kernel
theorem d_Way_passStep_21 : decode prog_8_method_4_code 21 = .ok (.getfield 74, 3) := by decide +kernel
theorem d_Way_passStep_24 : decode prog_8_method_4_code 24 = .ok (.iload 4, 2) := by decide +kernel
theorem d_Way_passStep_26 : decode prog_8_method_4_code 26 = .ok (.baload, 1) := by decide +kernel
theorem d_Way_passStep_27 : decode prog_8_method_4_code 27 = .ok (.istore 6, 2) := by decide +kernel
theorem d_Way_passStep_29 : decode prog_8_method_4_code 29 = .ok (.iload 5, 2) := by decide +kernel
theorem d_Way_passStep_31 : decode prog_8_method_4_code 31 = .ok (.iconst 1, 1) := by decide +kernel
theorem d_Way_passStep_32 : decode prog_8_method_4_code 32 = .ok (.iadd, 1) := by decide +kernel
theorem d_Way_passStep_33 : decode prog_8_method_4_code 33 = .ok (.aload_n 2, 1) := by decide +kernel
theorem d_Way_passStep_34 : decode prog_8_method_4_code 34 = .ok (.invokevirtual 55, 3) := by decide +kernel
theorem d_Way_passStep_37 : decode prog_8_method_4_code 37 = .ok (.if_icmp .ne 7, 3) := by decide +kernel
theorem d_Way_passStep_40 : decode prog_8_method_4_code 40 = .ok (.iconst 1, 1) := by decide +kernel
theorem d_Way_passStep_41 : decode prog_8_method_4_code 41 = .ok (.goto 4, 3) := by decide +kernel
theorem d_Way_passStep_44 : decode prog_8_method_4_code 44 = .ok (.iconst 0, 1) := by decide +kernel
theorem d_Way_passStep_45 : decode prog_8_method_4_code 45 = .ok (.istore 7, 2) := by decide +kernel
theorem d_Way_passStep_47 : decode prog_8_method_4_code 47 = .ok (.aload_n 2, 1) := by decide +kernel
theorem d_Way_passStep_48 : decode prog_8_method_4_code 48 = .ok (.iload 5, 2) := by decide +kernel
theorem d_Way_passStep_50 : decode prog_8_method_4_code 50 = .ok (.iconst 1, 1) := by decide +kernel
theorem d_Way_passStep_51 : decode prog_8_method_4_code 51 = .ok (.isub, 1) := by decide +kernel
theorem d_Way_passStep_52 : decode prog_8_method_4_code 52 = .ok (.invokevirtual 78, 3) := by decide +kernel
theorem d_Way_passStep_55 : decode prog_8_method_4_code 55 = .ok (.invokestatic 82, 3) := by decide +kernel
theorem d_Way_passStep_58 : decode prog_8_method_4_code 58 = .ok (.istore 8, 2) := by decide +kernel
theorem d_Way_passStep_60 : decode prog_8_method_4_code 60 = .ok (.aload_n 0, 1) := by decide +kernel
theorem d_Way_passStep_61 : decode prog_8_method_4_code 61 = .ok (.aload_n 2, 1) := by decide +kernel
theorem d_Way_passStep_62 : decode prog_8_method_4_code 62 = .ok (.iload 6, 2) := by decide +kernel
theorem d_Way_passStep_64 : decode prog_8_method_4_code 64 = .ok (.ifCond .eq 8, 3) := by decide +kernel
theorem d_Way_passStep_67 : decode prog_8_method_4_code 67 = .ok (.iload 5, 2) := by decide +kernel
theorem d_Way_passStep_69 : decode prog_8_method_4_code 69 = .ok (.goto 7, 3) := by decide +kernel
theorem d_Way_passStep_72 : decode prog_8_method_4_code 72 = .ok (.iload 5, 2) := by decide +kernel
theorem d_Way_passStep_74 : decode prog_8_method_4_code 74 = .ok (.iconst 1, 1) := by decide +kernel
theorem d_Way_passStep_75 : decode prog_8_method_4_code 75 = .ok (.isub, 1) := by decide +kernel
theorem d_Way_passStep_76 : decode prog_8_method_4_code 76 = .ok (.iload 5, 2) := by decide +kernel
theorem d_Way_passStep_78 : decode prog_8_method_4_code 78 = .ok (.iconst 2, 1) := by decide +kernel
theorem d_Way_passStep_79 : decode prog_8_method_4_code 79 = .ok (.iadd, 1) := by decide +kernel
theorem d_Way_passStep_80 : decode prog_8_method_4_code 80 = .ok (.aload_n 3, 1) := by decide +kernel
theorem d_Way_passStep_81 : decode prog_8_method_4_code 81 = .ok (.iload 4, 2) := by decide +kernel
theorem d_Way_passStep_83 : decode prog_8_method_4_code 83 = .ok (.iload 6, 2) := by decide +kernel
theorem d_Way_passStep_85 : decode prog_8_method_4_code 85 = .ok (.iload 8, 2) := by decide +kernel
theorem d_Way_passStep_87 : decode prog_8_method_4_code 87 = .ok (.iload 7, 2) := by decide +kernel
theorem d_Way_passStep_89 : decode prog_8_method_4_code 89 = .ok (.invokevirtual 86, 3) := by decide +kernel
theorem d_Way_passStep_92 : decode prog_8_method_4_code 92 = .ok (.invokevirtual 90, 3) := by decide +kernel
theorem d_Way_passStep_95 : decode prog_8_method_4_code 95 = .ok (.return_, 1) := by decide +kernel
theorem ps_R {Q : gx_P} {w : gx_W} {y a h x cap m r : Nat} {M : sp_M} {t p tr : List Nat} {c : sp_C} {U V : Nat → List Nat} {fo : Nat → Nat} (hwy : wyAt w y p tr) (hm : mcAt w a M t) (hM : sp_Mok M) (hw : w.1 h = some (gx_bx 0 cap (sp_txt c))) (hc : sp_ok c) (hcl : sp_len c ≤ 10) (hx : bxAt w x m U V fo) (hfo : ∀ i, i < 12 → fo i = sp_fo M i) (hy : h ≠ y + 1) (hr : sp_rl M c = some r) (hp : p.length + 12 ≤ 222) {z : Int32} (hrt : sp_rt M r = 1) (hQ : Q.1 none (gx_st w (y + 1) (gx_bx 1 222 (p ++ sp_ws M c)))) : gx_X (fun _ _ => True) M_Way_passStep 4 Q 60 [some (.ref y), some (.ref a), some (.ref h), some (.ref x), some (.int (nI r)), some (.int (nI c.1.length)), some (.int (nI (sp_rt M r))), some (.int (nI (decide (c.2.2.length = 0)).toNat)), some (.int z)] [] w (0, 0) := by
  obtain ⟨hr12, -⟩ := sp_rl_lt hr hc
  have hsl : sp_len c = c.1.length + 1 + c.2.2.length := rfl
  have htl := sp_txt_len c
  have hF := sp_fo_lt M hr12
  have hbt := Bool.toNat_le (decide (c.2.2.length = 0))
  have hle : (c.1.length + 2 ≤ (sp_txt c).length) = (¬ c.2.2.length = 0) := propext (by rw [htl]; omega)
  refine gx_aload_n d_Way_passStep_60 rfl ?_
  refine gx_aload_n d_Way_passStep_61 rfl ?_
  refine gx_iload d_Way_passStep_62 rfl ?_
  refine gx_if_eqN (by omega) (tgt := 72) d_Way_passStep_64 (by decide) (fun h64 => ?_) (fun h64 => ?_)
  · exact absurd h64 (by omega)
  · refine gx_iload d_Way_passStep_67 rfl ?_
    refine gx_goto (tgt := 76) d_Way_passStep_69 (by decide) ?_
    refine gx_iload d_Way_passStep_76 rfl ?_
    refine gx_iconst d_Way_passStep_78 (nI 2) (by decide) ?_
    refine gx_iaddN d_Way_passStep_79 ?_
    refine gx_aload_n d_Way_passStep_80 rfl ?_
    refine gx_iload d_Way_passStep_81 rfl ?_
    refine gx_iload d_Way_passStep_83 rfl ?_
    refine gx_iload d_Way_passStep_85 rfl ?_
    refine gx_iload d_Way_passStep_87 rfl ?_
    rw [hrt]
    refine gx_cV1 lk_Way_86 d_Way_passStep_89 (ct_ofRule_R (e := decide (c.2.2.length = 0)) hx hr12) (Or.inl ⟨_, hx.1⟩) (by omega) rfl rfl (Nat.le_of_ble_eq_true rfl) ?_
    refine gx_top (congrArg nI (show _ = sp_fo M r + (if c.2.2.length = 0 then 1 else 0) by rw [hfo r hr12]; by_cases e : c.2.2.length = 0 <;> simp [e])) ?_
    refine gx_cV0 lk_Way_90 d_Way_passStep_92 (ct_pass (a := c.1.length) (e := c.1.length + 2) hwy hw hy (by omega) (by omega) (by split <;> omega) (fun i hi _ => sp_48 hi) (by omega)) (Or.inl ⟨_, hwy.1⟩) (by omega) rfl rfl (Nat.le_of_ble_eq_true rfl) ?_
    refine gx_return rfl d_Way_passStep_95 ?_
    unfold sp_ws at hQ
    rw [hr] at hQ
    simp only [if_pos hrt] at hQ
    rw [sp_takek, sp_dropk, sp_sy_ds, sp_sy_ds]
    simp only [hle, ite_not]
    simpa [List.append_assoc] using hQ
theorem ps_L {Q : gx_P} {w : gx_W} {y a h x cap m r : Nat} {M : sp_M} {t p tr : List Nat} {c : sp_C} {U V : Nat → List Nat} {fo : Nat → Nat} (hwy : wyAt w y p tr) (hm : mcAt w a M t) (hM : sp_Mok M) (hw : w.1 h = some (gx_bx 0 cap (sp_txt c))) (hc : sp_ok c) (hcl : sp_len c ≤ 10) (hx : bxAt w x m U V fo) (hfo : ∀ i, i < 12 → fo i = sp_fo M i) (hy : h ≠ y + 1) (hr : sp_rl M c = some r) (hp : p.length + 12 ≤ 222) (hrt : sp_rt M r = 0) (hL : 0 < c.1.length) (hQ : Q.1 none (gx_st w (y + 1) (gx_bx 1 222 (p ++ sp_ws M c)))) : gx_X (fun _ _ => True) M_Way_passStep 4 Q 60 [some (.ref y), some (.ref a), some (.ref h), some (.ref x), some (.int (nI r)), some (.int (nI c.1.length)), some (.int (nI (sp_rt M r))), some (.int (nI (decide (c.2.2.length = 0)).toNat)), some (.int (nI (sp_lst c.1)))] [] w (0, 0) := by
  obtain ⟨hr12, -⟩ := sp_rl_lt hr hc
  have hsl : sp_len c = c.1.length + 1 + c.2.2.length := rfl
  have htl := sp_txt_len c
  have hF := sp_fo_lt M hr12
  have hbt := Bool.toNat_le (decide (c.2.2.length = 0))
  have hle : (c.1.length + 2 ≤ (sp_txt c).length) = (¬ c.2.2.length = 0) := propext (by rw [htl]; omega)
  have hlst : sp_lst c.1 < 3 := sp_gd_lt hc.1 _
  refine gx_aload_n d_Way_passStep_60 rfl ?_
  refine gx_aload_n d_Way_passStep_61 rfl ?_
  refine gx_iload d_Way_passStep_62 rfl ?_
  refine gx_if_eqN (by omega) (tgt := 72) d_Way_passStep_64 (by decide) (fun h64 => ?_) (fun h64 => ?_)
  · refine gx_iload d_Way_passStep_72 rfl ?_
    refine gx_iconst d_Way_passStep_74 (nI 1) (by decide) ?_
    refine gx_isubN (by omega) d_Way_passStep_75 ?_
    refine gx_iload d_Way_passStep_76 rfl ?_
    refine gx_iconst d_Way_passStep_78 (nI 2) (by decide) ?_
    refine gx_iaddN d_Way_passStep_79 ?_
    refine gx_aload_n d_Way_passStep_80 rfl ?_
    refine gx_iload d_Way_passStep_81 rfl ?_
    refine gx_iload d_Way_passStep_83 rfl ?_
    refine gx_iload d_Way_passStep_85 rfl ?_
    refine gx_iload d_Way_passStep_87 rfl ?_
    rw [hrt]
    refine gx_cV1 lk_Way_86 d_Way_passStep_89 (ct_ofRule_L (e := decide (c.2.2.length = 0)) hx hr12) (Or.inl ⟨_, hx.1⟩) (by omega) rfl rfl (Nat.le_of_ble_eq_true rfl) ?_
    refine gx_top (congrArg nI (show _ = sp_fo M r + (if c.2.2.length = 0 then 3 else 0) + sp_lst c.1 by rw [hfo r hr12]; by_cases e : c.2.2.length = 0 <;> simp [e])) ?_
    refine gx_cV0 lk_Way_90 d_Way_passStep_92 (ct_pass (a := c.1.length - 1) (e := c.1.length + 2) hwy hw hy (by omega) (by omega) (by split <;> omega) (fun i hi _ => sp_48 hi) (by omega)) (Or.inl ⟨_, hwy.1⟩) (by omega) rfl rfl (Nat.le_of_ble_eq_true rfl) ?_
    refine gx_return rfl d_Way_passStep_95 ?_
    unfold sp_ws at hQ
    rw [hr] at hQ
    simp only [if_neg (show ¬ sp_rt M r = 1 by omega)] at hQ
    rw [sp_takek1, sp_dropk, sp_sy_ds, sp_sy_ds]
    simp only [hle, ite_not]
    simpa [List.append_assoc] using hQ
  · exact absurd hrt h64
theorem ps_mid {Q : gx_P} {w : gx_W} {y a h x cap m r : Nat} {M : sp_M} {t p tr : List Nat} {c : sp_C} {U V : Nat → List Nat} {fo : Nat → Nat} (hwy : wyAt w y p tr) (hm : mcAt w a M t) (hM : sp_Mok M) (hw : w.1 h = some (gx_bx 0 cap (sp_txt c))) (hc : sp_ok c) (hcl : sp_len c ≤ 10) (hx : bxAt w x m U V fo) (hfo : ∀ i, i < 12 → fo i = sp_fo M i) (hy : h ≠ y + 1) (hr : sp_rl M c = some r) (hp : p.length + 12 ≤ 222) (hLR : sp_rt M r = 1 ∨ (sp_rt M r = 0 ∧ 0 < c.1.length)) {L8 : Option Value} (hQ : Q.1 none (gx_st w (y + 1) (gx_bx 1 222 (p ++ sp_ws M c)))) : gx_X (fun _ _ => True) M_Way_passStep 4 Q 47 [some (.ref y), some (.ref a), some (.ref h), some (.ref x), some (.int (nI r)), some (.int (nI c.1.length)), some (.int (nI (sp_rt M r))), some (.int (nI (decide (c.2.2.length = 0)).toNat)), L8] [] w (0, 0) := by
  obtain ⟨hr12, -⟩ := sp_rl_lt hr hc
  have hsl : sp_len c = c.1.length + 1 + c.2.2.length := rfl
  have htl := sp_txt_len c
  have hF := sp_fo_lt M hr12
  have hbt := Bool.toNat_le (decide (c.2.2.length = 0))
  have hle : (c.1.length + 2 ≤ (sp_txt c).length) = (¬ c.2.2.length = 0) := propext (by rw [htl]; omega)
  refine gx_bsz hw (fun hlen hcap hsm => ?_)
  by_cases e0 : c.1.length = 0
  · have hrt : sp_rt M r = 1 := by omega
    refine gx_aload_n d_Way_passStep_47 rfl ?_
    refine gx_iload d_Way_passStep_48 rfl ?_
    refine gx_iconst d_Way_passStep_50 (nI 1) (by decide) ?_
    refine gx_isub d_Way_passStep_51 ?_
    refine gx_top (show _ = (-1 : Int32) by rw [e0]; decide) ?_
    refine gx_cV1 lk_Way_78 d_Way_passStep_52 (ct_Word_at_neg hw) (Or.inr ⟨_, _, hw⟩) (by omega) rfl rfl (Nat.le_of_ble_eq_true rfl) ?_
    refine gx_cS1 lk_Way_82 d_Way_passStep_55 (ct_symbolOf) (by omega) rfl rfl (Nat.le_of_ble_eq_true rfl) ?_
    refine gx_istore d_Way_passStep_58 (Nat.le_of_ble_eq_true rfl) rfl ?_
    exact ps_R hwy hm hM hw hc hcl hx hfo hy hr hp hrt hQ
  · rcases hLR with hrt | ⟨hrt, hpos⟩
    · refine gx_aload_n d_Way_passStep_47 rfl ?_
      refine gx_iload d_Way_passStep_48 rfl ?_
      refine gx_iconst d_Way_passStep_50 (nI 1) (by decide) ?_
      refine gx_isubN (by omega) d_Way_passStep_51 ?_
      refine gx_cV1 lk_Way_78 d_Way_passStep_52 (ct_Word_at (j := c.1.length - 1) hw (by omega)) (Or.inr ⟨_, _, hw⟩) (by omega) rfl rfl (Nat.le_of_ble_eq_true rfl) ?_
      refine gx_top (congrArg nI (sp_txt_lo (by omega))) ?_
      refine gx_cS1 lk_Way_82 d_Way_passStep_55 (ct_symbolOf) (by omega) rfl rfl (Nat.le_of_ble_eq_true rfl) ?_
      refine gx_top (show _ = nI (sp_lst c.1) by rw [pk_sub (by omega), Nat.add_sub_cancel_left]; rfl) ?_
      refine gx_istore d_Way_passStep_58 (Nat.le_of_ble_eq_true rfl) rfl ?_
      exact ps_R hwy hm hM hw hc hcl hx hfo hy hr hp hrt hQ
    · refine gx_aload_n d_Way_passStep_47 rfl ?_
      refine gx_iload d_Way_passStep_48 rfl ?_
      refine gx_iconst d_Way_passStep_50 (nI 1) (by decide) ?_
      refine gx_isubN (by omega) d_Way_passStep_51 ?_
      refine gx_cV1 lk_Way_78 d_Way_passStep_52 (ct_Word_at (j := c.1.length - 1) hw (by omega)) (Or.inr ⟨_, _, hw⟩) (by omega) rfl rfl (Nat.le_of_ble_eq_true rfl) ?_
      refine gx_top (congrArg nI (sp_txt_lo (by omega))) ?_
      refine gx_cS1 lk_Way_82 d_Way_passStep_55 (ct_symbolOf) (by omega) rfl rfl (Nat.le_of_ble_eq_true rfl) ?_
      refine gx_top (show _ = nI (sp_lst c.1) by rw [pk_sub (by omega), Nat.add_sub_cancel_left]; rfl) ?_
      refine gx_istore d_Way_passStep_58 (Nat.le_of_ble_eq_true rfl) rfl ?_
      exact ps_L hwy hm hM hw hc hcl hx hfo hy hr hp hrt hpos hQ
theorem ct_passStep {w : gx_W} {y a h x cap m r : Nat} {M : sp_M} {t p tr : List Nat} {c : sp_C} {U V : Nat → List Nat} {fo : Nat → Nat} (hwy : wyAt w y p tr) (hm : mcAt w a M t) (hM : sp_Mok M) (hw : w.1 h = some (gx_bx 0 cap (sp_txt c))) (hc : sp_ok c) (hcl : sp_len c ≤ 10) (hx : bxAt w x m U V fo) (hfo : ∀ i, i < 12 → fo i = sp_fo M i) (hy : h ≠ y + 1) (hr : sp_rl M c = some r) (hp : p.length + 12 ≤ 222) (hst : sp_step M c ≠ none) : gx_Ct M_Way_passStep 4 0 0 [.ref y, .ref a, .ref h, .ref x] w (gx_eq none (gx_st w (y + 1) (gx_bx 1 222 (p ++ sp_ws M c)))) := by
  refine gx_ct (L := [some (.ref y), some (.ref a), some (.ref h), some (.ref x), none, none, none, none, none]) (by decide) (Nat.le_of_ble_eq_true rfl) rfl ?_
  obtain ⟨hr12, -⟩ := sp_rl_lt hr hc
  have hsl : sp_len c = c.1.length + 1 + c.2.2.length := rfl
  have htl := sp_txt_len c
  have hF := sp_fo_lt M hr12
  have hbt := Bool.toNat_le (decide (c.2.2.length = 0))
  have hle : (c.1.length + 2 ≤ (sp_txt c).length) = (¬ c.2.2.length = 0) := propext (by rw [htl]; omega)
  refine gx_bsz hw (fun hlen hcap hsm => ?_)
  have hri : sp_ri M c = nI r := by unfold sp_ri; rw [hr]
  have hMr := hM r
  have hLR : sp_rt M r = 1 ∨ (sp_rt M r = 0 ∧ 0 < c.1.length) := by
    by_cases e : sp_rt M r = 1
    · exact Or.inl e
    · refine Or.inr ⟨by omega, Nat.pos_of_ne_zero fun e2 => hst ?_⟩
      unfold sp_step
      rw [hr]
      simp only [if_neg e, if_pos e2]
  refine gx_aload_n d_Way_passStep_0 rfl ?_
  refine gx_aload_n d_Way_passStep_1 rfl ?_
  refine gx_cV1 lk_Way_65 d_Way_passStep_2 (ct_ruleFor hm hM hw hc) (Or.inl ⟨_, hm.1⟩) (by omega) rfl rfl (Nat.le_of_ble_eq_true rfl) ?_
  rw [hri]
  refine gx_istore d_Way_passStep_5 (Nat.le_of_ble_eq_true rfl) rfl ?_
  refine gx_iload d_Way_passStep_7 rfl ?_
  refine gx_iconst d_Way_passStep_9 (-1) (by decide) ?_
  refine gx_icmp_ne (tgt := 14) d_Way_passStep_10 (by decide) (fun h10 => ?_) (fun h10 => ?_)
  · refine gx_aload_n d_Way_passStep_14 rfl ?_
    refine gx_cV1 lk_Way_71 d_Way_passStep_15 (ct_Word_head hw sp_hd3 (sp_hd1 hc) sp_hd2) (Or.inr ⟨_, _, hw⟩) (by omega) rfl rfl (Nat.le_of_ble_eq_true rfl) ?_
    refine gx_istore d_Way_passStep_18 (Nat.le_of_ble_eq_true rfl) rfl ?_
    refine gx_aload_n d_Way_passStep_20 rfl ?_
    refine gx_get fl_Way_74 d_Way_passStep_21 hm.1 rfl ?_
    refine gx_iload d_Way_passStep_24 rfl ?_
    refine gx_zald d_Way_passStep_26 hm.2.2.1 (by omega) (by omega) ?_
    refine gx_istore d_Way_passStep_27 (Nat.le_of_ble_eq_true rfl) rfl ?_
    refine gx_iload d_Way_passStep_29 rfl ?_
    refine gx_iconst d_Way_passStep_31 (nI 1) (by decide) ?_
    refine gx_iaddN d_Way_passStep_32 ?_
    refine gx_aload_n d_Way_passStep_33 rfl ?_
    refine gx_cV1 lk_Way_55 d_Way_passStep_34 (ct_Word_size hw) (Or.inr ⟨_, _, hw⟩) (by omega) rfl rfl (Nat.le_of_ble_eq_true rfl) ?_
    refine gx_icmp_neN (by omega) (by omega) (tgt := 44) d_Way_passStep_37 (by decide) (fun h37 => ?_) (fun h37 => ?_)
    · refine gx_iconst d_Way_passStep_44 (nI (decide (c.2.2.length = 0)).toNat) (by rw [decide_eq_false (show ¬ c.2.2.length = 0 by omega)]; decide) ?_
      refine gx_istore d_Way_passStep_45 (Nat.le_of_ble_eq_true rfl) rfl ?_
      exact ps_mid hwy hm hM hw hc hcl hx hfo hy hr hp hLR (by exact ⟨rfl, rfl⟩)
    · refine gx_iconst d_Way_passStep_40 (nI (decide (c.2.2.length = 0)).toNat) (by rw [decide_eq_true (show c.2.2.length = 0 by omega)]; decide) ?_
      refine gx_goto (tgt := 45) d_Way_passStep_41 (by decide) ?_
      refine gx_istore d_Way_passStep_45 (Nat.le_of_ble_eq_true rfl) rfl ?_
      exact ps_mid hwy hm hM hw hc hcl hx hfo hy hr hp hLR (by exact ⟨rfl, rfl⟩)
  · exact absurd h10 (gx_nm1 (by omega))
