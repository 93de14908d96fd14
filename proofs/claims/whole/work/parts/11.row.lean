/-! Row: its methods -/
theorem d_Row_size_0 : decode prog_6_method_2_code 0 = .ok (.aload_n 0, 1) := by decide +kernel
theorem d_Row_size_1 : decode prog_6_method_2_code 1 = .ok (.getfield 15, 3) := by decide +kernel
theorem d_Row_size_4 : decode prog_6_method_2_code 4 = .ok (.ireturn, 1) := by decide +kernel
theorem ct_Row_size {w : gx_W} {h cap : Nat} {l : List Nat} (hw : w.1 h = some (gx_bx 1 cap l)) : gx_Ct M_Row_size 1 0 0 [.ref h] w (gx_eq (some (.int (nI l.length))) w) := by
  refine gx_ct (L := [some (.ref h)]) (by decide) (Nat.le_of_ble_eq_true rfl) rfl ?_
  refine gx_aload_n d_Row_size_0 rfl ?_
  refine gx_bln fl_Row_15 d_Row_size_1 hw ?_
  refine gx_ireturn rfl d_Row_size_4 ?_
  exact ⟨rfl, rfl⟩
theorem d_Row_ask_0 : decode prog_6_method_3_code 0 = .ok (.iload_n 1, 1) := by decide +kernel
theorem d_Row_ask_1 : decode prog_6_method_3_code 1 = .ok (.iconst (-1), 1) := by decide +kernel
theorem d_Row_ask_2 : decode prog_6_method_3_code 2 = .ok (.if_icmp .ne 8, 3) := by decide +kernel
theorem d_Row_ask_5 : decode prog_6_method_3_code 5 = .ok (.aload_n 0, 1) := by decide +kernel
theorem d_Row_ask_6 : decode prog_6_method_3_code 6 = .ok (.getfield 15, 3) := by decide +kernel
theorem d_Row_ask_9 : decode prog_6_method_3_code 9 = .ok (.ireturn, 1) := by decide +kernel
theorem d_Row_ask_10 : decode prog_6_method_3_code 10 = .ok (.iload_n 1, 1) := by decide +kernel
theorem d_Row_ask_11 : decode prog_6_method_3_code 11 = .ok (.ifCond .lt 20, 3) := by decide +kernel
theorem d_Row_ask_14 : decode prog_6_method_3_code 14 = .ok (.iload_n 1, 1) := by decide +kernel
theorem d_Row_ask_15 : decode prog_6_method_3_code 15 = .ok (.aload_n 0, 1) := by decide +kernel
theorem d_Row_ask_16 : decode prog_6_method_3_code 16 = .ok (.getfield 15, 3) := by decide +kernel
theorem d_Row_ask_19 : decode prog_6_method_3_code 19 = .ok (.if_icmp .ge 12, 3) := by decide +kernel
theorem d_Row_ask_22 : decode prog_6_method_3_code 22 = .ok (.aload_n 0, 1) := by decide +kernel
theorem d_Row_ask_23 : decode prog_6_method_3_code 23 = .ok (.getfield 9, 3) := by decide +kernel
theorem d_Row_ask_26 : decode prog_6_method_3_code 26 = .ok (.iload_n 1, 1) := by decide +kernel
theorem d_Row_ask_27 : decode prog_6_method_3_code 27 = .ok (.iaload, 1) := by decide +kernel
theorem d_Row_ask_28 : decode prog_6_method_3_code 28 = .ok (.goto 4, 3) := by decide +kernel
theorem d_Row_ask_31 : decode prog_6_method_3_code 31 = .ok (.iconst (-1), 1) := by decide +kernel
theorem d_Row_ask_32 : decode prog_6_method_3_code 32 = .ok (.ireturn, 1) := by decide +kernel
theorem ct_Row_ask {w : gx_W} {h cap : Nat} {l : List Nat} {i : Int32} (hw : w.1 h = some (gx_bx 1 cap l)) : gx_Ct M_Row_ask 1 0 0 [.ref h, .int i] w (gx_eq (some (.int (sp_ask l i))) w) := by
  refine gx_ct (L := [some (.ref h), some (.int i)]) (by decide) (Nat.le_of_ble_eq_true rfl) rfl ?_
  refine gx_bsz hw (fun hlen hcap hsm => ?_)
  refine gx_iload_n d_Row_ask_0 rfl ?_
  refine gx_iconst d_Row_ask_1 (-1) (by decide) ?_
  refine gx_icmp_ne (tgt := 10) d_Row_ask_2 (by decide) (fun h2 => ?_) (fun h2 => ?_)
  · refine gx_iload_n d_Row_ask_10 rfl ?_
    refine gx_if_lt (tgt := 31) d_Row_ask_11 (by decide) (fun h11 => ?_) (fun h11 => ?_)
    · rw [sp_ask_lt h2 h11]
      refine gx_iconst d_Row_ask_31 (-1) (by decide) ?_
      refine gx_ireturn rfl d_Row_ask_32 ?_
      exact ⟨rfl, rfl⟩
    · refine gx_iload_n d_Row_ask_14 rfl ?_
      refine gx_aload_n d_Row_ask_15 rfl ?_
      refine gx_bln fl_Row_15 d_Row_ask_16 hw ?_
      refine gx_icmp_ge (tgt := 31) d_Row_ask_19 (by decide) (fun h19 => ?_) (fun h19 => ?_)
      · rw [sp_ask_ge h2 h19]
        refine gx_iconst d_Row_ask_31 (-1) (by decide) ?_
        refine gx_ireturn rfl d_Row_ask_32 ?_
        exact ⟨rfl, rfl⟩
      · obtain ⟨j, hj, rfl⟩ := nI_of h11
        have hj2 : j < l.length := Nat.lt_of_not_le (fun g => h19 (nI_le g hj))
        rw [sp_ask_in hj2 (by omega)]
        refine gx_aload_n d_Row_ask_22 rfl ?_
        refine gx_bar fl_Row_9 d_Row_ask_23 hw ?_
        refine gx_iload_n d_Row_ask_26 rfl ?_
        refine gx_bial d_Row_ask_27 hw hj2 ?_
        refine gx_goto (tgt := 32) d_Row_ask_28 (by decide) ?_
        refine gx_ireturn rfl d_Row_ask_32 ?_
        exact ⟨rfl, rfl⟩
  · subst h2
    rw [sp_ask_m1]
    refine gx_aload_n d_Row_ask_5 rfl ?_
    refine gx_bln fl_Row_15 d_Row_ask_6 hw ?_
    refine gx_ireturn rfl d_Row_ask_9 ?_
    exact ⟨rfl, rfl⟩
theorem d_Row_empty_0 : decode prog_6_method_4_code 0 = .ok (.aload_n 0, 1) := by decide +kernel
theorem d_Row_empty_1 : decode prog_6_method_4_code 1 = .ok (.iconst 0, 1) := by decide +kernel
theorem d_Row_empty_2 : decode prog_6_method_4_code 2 = .ok (.putfield 15, 3) := by decide +kernel
theorem d_Row_empty_5 : decode prog_6_method_4_code 5 = .ok (.return_, 1) := by decide +kernel
theorem ct_Row_empty {w : gx_W} {h cap : Nat} {l : List Nat} (hw : w.1 h = some (gx_bx 1 cap l)) : gx_Ct M_Row_empty 1 0 0 [.ref h] w (gx_eq none (gx_st w h (gx_bx 1 cap []))) := by
  refine gx_ct (L := [some (.ref h)]) (by decide) (Nat.le_of_ble_eq_true rfl) rfl ?_
  refine gx_unbox hw (fun f hf hlen hcap hsm h0 => ?_)
  refine gx_aload_n d_Row_empty_0 rfl ?_
  refine gx_iconst d_Row_empty_1 (nI 0) (by decide) ?_
  refine gx_bput (n' := 0) fp_Row_15 d_Row_empty_2 ?_
  refine gx_box [] h0 rfl (Nat.zero_le _) hcap gx_sm_nil gx_fn_nil ?_
  refine gx_return rfl d_Row_empty_5 ?_
  exact ⟨rfl, rfl⟩
theorem d_Row_add_0 : decode prog_6_method_5_code 0 = .ok (.aload_n 0, 1) := by decide +kernel
theorem d_Row_add_1 : decode prog_6_method_5_code 1 = .ok (.getfield 15, 3) := by decide +kernel
theorem d_Row_add_4 : decode prog_6_method_5_code 4 = .ok (.aload_n 0, 1) := by decide +kernel
theorem d_Row_add_5 : decode prog_6_method_5_code 5 = .ok (.getfield 9, 3) := by decide +kernel
theorem d_Row_add_8 : decode prog_6_method_5_code 8 = .ok (.arraylength, 1) := by decide +kernel
theorem d_Row_add_9 : decode prog_6_method_5_code 9 = .ok (.if_icmp .ge 23, 3) := by decide +kernel
theorem d_Row_add_12 : decode prog_6_method_5_code 12 = .ok (.aload_n 0, 1) := by decide +kernel
theorem d_Row_add_13 : decode prog_6_method_5_code 13 = .ok (.getfield 9, 3) := by decide +kernel
theorem d_Row_add_16 : decode prog_6_method_5_code 16 = .ok (.aload_n 0, 1) := by decide +kernel
theorem d_Row_add_17 : decode prog_6_method_5_code 17 = .ok (.getfield 15, 3) := by decide +kernel
theorem d_Row_add_20 : decode prog_6_method_5_code 20 = .ok (.iload_n 1, 1) := by decide +kernel
theorem d_Row_add_21 : decode prog_6_method_5_code 21 = .ok (.iastore, 1) := by decide +kernel
theorem d_Row_add_22 : decode prog_6_method_5_code 22 = .ok (.aload_n 0, 1) := by decide +kernel
theorem d_Row_add_23 : decode prog_6_method_5_code 23 = .ok (.dup, 1) := by decide +kernel
theorem d_Row_add_24 : decode prog_6_method_5_code 24 = .ok (.getfield 15, 3) := by decide +kernel
theorem d_Row_add_27 : decode prog_6_method_5_code 27 = .ok (.iconst 1, 1) := by decide +kernel
theorem d_Row_add_28 : decode prog_6_method_5_code 28 = .ok (.iadd, 1) := by decide +kernel
theorem d_Row_add_29 : decode prog_6_method_5_code 29 = .ok (.putfield 15, 3) := by decide +kernel
theorem d_Row_add_32 : decode prog_6_method_5_code 32 = .ok (.return_, 1) := by decide +kernel
theorem ct_Row_add {w : gx_W} {h cap : Nat} {l : List Nat} {c : Nat} (hw : w.1 h = some (gx_bx 1 cap l)) (hc : c < 65536) (hl : l.length < cap) : gx_Ct M_Row_add 1 0 0 [.ref h, .int (nI c)] w (gx_eq none (gx_st w h (gx_bx 1 cap (l ++ [c])))) := by
  refine gx_ct (L := [some (.ref h), some (.int (nI c))]) (by decide) (Nat.le_of_ble_eq_true rfl) rfl ?_
  refine gx_unbox hw (fun f hf hlen hcap hsm h0 => ?_)
  refine gx_aload_n d_Row_add_0 rfl ?_
  refine gx_get fl_Row_15 d_Row_add_1 gx_raw_h rfl ?_
  refine gx_aload_n d_Row_add_4 rfl ?_
  refine gx_get fl_Row_9 d_Row_add_5 gx_raw_h rfl ?_
  refine gx_alen (by decide) d_Row_add_8 gx_raw_h1 ?_
  refine gx_icmp_geN (by omega) (by omega) (tgt := 32) d_Row_add_9 (by decide) (fun h9 => ?_) (fun h9 => ?_)
  · exact absurd (show cap ≤ l.length from h9) (by omega)
  · refine gx_aload_n d_Row_add_12 rfl ?_
    refine gx_get fl_Row_9 d_Row_add_13 gx_raw_h rfl ?_
    refine gx_aload_n d_Row_add_16 rfl ?_
    refine gx_get fl_Row_15 d_Row_add_17 gx_raw_h rfl ?_
    refine gx_iload_n d_Row_add_20 rfl ?_
    refine gx_biast d_Row_add_21 (by omega) (by omega) ?_
    refine gx_aload_n d_Row_add_22 rfl ?_
    refine gx_dup d_Row_add_23 rfl ?_
    refine gx_get fl_Row_15 d_Row_add_24 gx_raw_h rfl ?_
    refine gx_iconst d_Row_add_27 (nI 1) (by decide) ?_
    refine gx_iaddN d_Row_add_28 ?_
    refine gx_bput fp_Row_15 d_Row_add_29 ?_
    refine gx_box (l ++ [c]) h0 (by simp) (by simp; omega) hcap (gx_sm_app hsm (gx_sm_1 hc)) (gx_fn_snoc hf) ?_
    refine gx_return rfl d_Row_add_32 ?_
    exact ⟨rfl, rfl⟩
theorem d_Row_copy_0 : decode prog_6_method_6_code 0 = .ok (.aload_n 0, 1) := by decide +kernel
theorem d_Row_copy_1 : decode prog_6_method_6_code 1 = .ok (.invokevirtual 19, 3) := by decide +kernel
theorem d_Row_copy_4 : decode prog_6_method_6_code 4 = .ok (.iconst 0, 1) := by decide +kernel
theorem d_Row_copy_5 : decode prog_6_method_6_code 5 = .ok (.istore_n 2, 1) := by decide +kernel
theorem d_Row_copy_6 : decode prog_6_method_6_code 6 = .ok (.iload_n 2, 1) := by decide +kernel
theorem d_Row_copy_7 : decode prog_6_method_6_code 7 = .ok (.aload_n 1, 1) := by decide +kernel
theorem d_Row_copy_8 : decode prog_6_method_6_code 8 = .ok (.invokevirtual 22, 3) := by decide +kernel
theorem d_Row_copy_11 : decode prog_6_method_6_code 11 = .ok (.if_icmp .ge 18, 3) := by decide +kernel
theorem d_Row_copy_14 : decode prog_6_method_6_code 14 = .ok (.aload_n 0, 1) := by decide +kernel
theorem d_Row_copy_15 : decode prog_6_method_6_code 15 = .ok (.aload_n 1, 1) := by decide +kernel
theorem d_Row_copy_16 : decode prog_6_method_6_code 16 = .ok (.iload_n 2, 1) := by decide +kernel
theorem d_Row_copy_17 : decode prog_6_method_6_code 17 = .ok (.invokevirtual 26, 3) := by decide +kernel
theorem d_Row_copy_20 : decode prog_6_method_6_code 20 = .ok (.invokevirtual 30, 3) := by decide +kernel
theorem d_Row_copy_23 : decode prog_6_method_6_code 23 = .ok (.iinc 2 1, 3) := by decide +kernel
theorem d_Row_copy_26 : decode prog_6_method_6_code 26 = .ok (.goto (-20), 3) := by decide +kernel
theorem d_Row_copy_29 : decode prog_6_method_6_code 29 = .ok (.return_, 1) := by decide +kernel
theorem lp_Row_copy {Q : gx_P} {h h2 cap cap2 : Nat} {l2 : List Nat} (hne : h2 ≠ h) : ∀ (fu : Nat) (i : Nat) (l : List Nat) (w : gx_W), l2.length - i < fu → (w.1 h = some (gx_bx 1 cap l)) → (w.1 h2 = some (gx_bx 1 cap2 l2)) → (l.length + (l2.length - i) ≤ cap) → (i ≤ l2.length) → (Q.1 none (gx_st w h (gx_bx 1 cap (l ++ l2.drop i)))) → gx_X (fun _ _ => True) M_Row_copy 2 Q 6 [some (.ref h), some (.ref h2), some (.int (nI i))] [] w (0, 0) := by
  intro fu
  induction fu with
  | zero => intro i l w hfu; exact absurd hfu (Nat.not_lt_zero _)
  | succ fu ih =>
    intro i l w hfu hw hw2 hlc hi hQ
    refine gx_bsz hw2 (fun hlen2 hcap2 hsm2 => ?_)
    refine gx_iload_n d_Row_copy_6 rfl ?_
    refine gx_aload_n d_Row_copy_7 rfl ?_
    refine gx_cV1 lk_Row_22 d_Row_copy_8 (ct_Row_size hw2) (Or.inr ⟨_, _, hw2⟩) (by omega) rfl rfl (Nat.le_of_ble_eq_true rfl) ?_
    refine gx_icmp_geN (by omega) (by omega) (tgt := 29) d_Row_copy_11 (by decide) (fun h11 => ?_) (fun h11 => ?_)
    · refine gx_return rfl d_Row_copy_29 ?_
      rw [List.drop_eq_nil_of_le h11, List.append_nil, gx_st_id hw] at hQ
      exact hQ
    · refine gx_aload_n d_Row_copy_14 rfl ?_
      refine gx_aload_n d_Row_copy_15 rfl ?_
      refine gx_iload_n d_Row_copy_16 rfl ?_
      refine gx_cV1 lk_Row_26 d_Row_copy_17 (ct_Row_ask (i := nI i) hw2) (Or.inr ⟨_, _, hw2⟩) (by omega) rfl rfl (Nat.le_of_ble_eq_true rfl) ?_
      refine gx_top (sp_ask_in (show i < l2.length by omega) (by omega)) ?_
      refine gx_cV0 lk_Row_30 d_Row_copy_20 (ct_Row_add hw (gx_sm_at hsm2 i) (by omega)) (Or.inr ⟨_, _, hw⟩) (by omega) rfl rfl (Nat.le_of_ble_eq_true rfl) ?_
      refine gx_iincN (n := 1) d_Row_copy_23 rfl (by decide) (Nat.le_of_ble_eq_true rfl) rfl ?_
      refine gx_goto (tgt := 6) d_Row_copy_26 (by decide) ?_
      refine ih (i + 1) (l ++ [l2.getD i 0]) _ (by omega) gx_st_eq (by rw [gx_st_ne hne]; exact hw2) (by simp; omega) (by omega) ?_
      rw [gx_st_st, List.append_assoc, List.singleton_append, ← gx_drop_cons (by omega)]
      exact hQ
theorem ct_Row_copy {w : gx_W} {h cap : Nat} {l : List Nat} {h2 cap2 : Nat} {l2 : List Nat} (hw : w.1 h = some (gx_bx 1 cap l)) (hw2 : w.1 h2 = some (gx_bx 1 cap2 l2)) (hne : h2 ≠ h) (hc : l2.length ≤ cap) : gx_Ct M_Row_copy 2 0 0 [.ref h, .ref h2] w (gx_eq none (gx_st w h (gx_bx 1 cap l2))) := by
  refine gx_ct (L := [some (.ref h), some (.ref h2), none]) (by decide) (Nat.le_of_ble_eq_true rfl) rfl ?_
  refine gx_aload_n d_Row_copy_0 rfl ?_
  refine gx_cV0 lk_Row_19 d_Row_copy_1 (ct_Row_empty hw) (Or.inr ⟨_, _, hw⟩) (by omega) rfl rfl (Nat.le_of_ble_eq_true rfl) ?_
  have hw1 : (gx_st w h (gx_bx 1 cap [])).1 h = some (gx_bx 1 cap []) := gx_st_eq
  have hw3 : (gx_st w h (gx_bx 1 cap [])).1 h2 = some (gx_bx 1 cap2 l2) := by rw [gx_st_ne hne]; exact hw2
  refine gx_iconst d_Row_copy_4 (nI 0) (by decide) ?_
  refine gx_istore_n d_Row_copy_5 (Nat.le_of_ble_eq_true rfl) rfl ?_
  exact lp_Row_copy hne (l2.length + 1) 0 [] _ (by omega) hw1 hw3 (by simpa using hc) (Nat.zero_le _) ⟨rfl, by rw [gx_st_st]; rfl⟩
theorem gx_gd_rev {l : List Nat} {j : Nat} (h : j < l.length) : l.reverse.getD j 0 = l.getD (l.length - 1 - j) 0 := by
  rw [List.getD_eq_getElem?_getD, List.getElem?_reverse h, List.getD_eq_getElem?_getD]
theorem gx_sm_rev {l : List Nat} (h : gx_sm l) : gx_sm l.reverse := fun c hc => h c (List.mem_reverse.mp hc)
theorem d_Row_turn_0 : decode prog_6_method_7_code 0 = .ok (.iconst 0, 1) := by decide +kernel
theorem d_Row_turn_1 : decode prog_6_method_7_code 1 = .ok (.istore_n 1, 1) := by decide +kernel
theorem d_Row_turn_2 : decode prog_6_method_7_code 2 = .ok (.iload_n 1, 1) := by decide +kernel
theorem d_Row_turn_3 : decode prog_6_method_7_code 3 = .ok (.aload_n 0, 1) := by decide +kernel
theorem d_Row_turn_4 : decode prog_6_method_7_code 4 = .ok (.getfield 15, 3) := by decide +kernel
theorem d_Row_turn_7 : decode prog_6_method_7_code 7 = .ok (.iconst 2, 1) := by decide +kernel
theorem d_Row_turn_8 : decode prog_6_method_7_code 8 = .ok (.idiv, 1) := by decide +kernel
theorem d_Row_turn_9 : decode prog_6_method_7_code 9 = .ok (.if_icmp .ge 49, 3) := by decide +kernel
theorem d_Row_turn_12 : decode prog_6_method_7_code 12 = .ok (.aload_n 0, 1) := by decide +kernel
theorem d_Row_turn_13 : decode prog_6_method_7_code 13 = .ok (.getfield 9, 3) := by decide +kernel
theorem d_Row_turn_16 : decode prog_6_method_7_code 16 = .ok (.iload_n 1, 1) := by decide +kernel
theorem d_Row_turn_17 : decode prog_6_method_7_code 17 = .ok (.iaload, 1) := by decide +kernel
theorem d_Row_turn_18 : decode prog_6_method_7_code 18 = .ok (.istore_n 2, 1) := by decide +kernel
theorem d_Row_turn_19 : decode prog_6_method_7_code 19 = .ok (.aload_n 0, 1) := by decide +kernel
theorem d_Row_turn_20 : decode prog_6_method_7_code 20 = .ok (.getfield 9, 3) := by decide +kernel
theorem d_Row_turn_23 : decode prog_6_method_7_code 23 = .ok (.iload_n 1, 1) := by decide +kernel
theorem d_Row_turn_24 : decode prog_6_method_7_code 24 = .ok (.aload_n 0, 1) := by decide +kernel
theorem d_Row_turn_25 : decode prog_6_method_7_code 25 = .ok (.getfield 9, 3) := by decide +kernel
theorem d_Row_turn_28 : decode prog_6_method_7_code 28 = .ok (.aload_n 0, 1) := by decide +kernel
theorem d_Row_turn_29 : decode prog_6_method_7_code 29 = .ok (.getfield 15, 3) := by decide +kernel
theorem d_Row_turn_32 : decode prog_6_method_7_code 32 = .ok (.iconst 1, 1) := by decide +kernel
theorem d_Row_turn_33 : decode prog_6_method_7_code 33 = .ok (.isub, 1) := by decide +kernel
theorem d_Row_turn_34 : decode prog_6_method_7_code 34 = .ok (.iload_n 1, 1) := by decide +kernel
theorem d_Row_turn_35 : decode prog_6_method_7_code 35 = .ok (.isub, 1) := by decide +kernel
theorem d_Row_turn_36 : decode prog_6_method_7_code 36 = .ok (.iaload, 1) := by decide +kernel
theorem d_Row_turn_37 : decode prog_6_method_7_code 37 = .ok (.iastore, 1) := by decide +kernel
theorem d_Row_turn_38 : decode prog_6_method_7_code 38 = .ok (.aload_n 0, 1) := by decide +kernel
theorem d_Row_turn_39 : decode prog_6_method_7_code 39 = .ok (.getfield 9, 3) := by decide +kernel
theorem d_Row_turn_42 : decode prog_6_method_7_code 42 = .ok (.aload_n 0, 1) := by decide +kernel
theorem d_Row_turn_43 : decode prog_6_method_7_code 43 = .ok (.getfield 15, 3) := by decide +kernel
theorem d_Row_turn_46 : decode prog_6_method_7_code 46 = .ok (.iconst 1, 1) := by decide +kernel
theorem d_Row_turn_47 : decode prog_6_method_7_code 47 = .ok (.isub, 1) := by decide +kernel
theorem d_Row_turn_48 : decode prog_6_method_7_code 48 = .ok (.iload_n 1, 1) := by decide +kernel
theorem d_Row_turn_49 : decode prog_6_method_7_code 49 = .ok (.isub, 1) := by decide +kernel
theorem d_Row_turn_50 : decode prog_6_method_7_code 50 = .ok (.iload_n 2, 1) := by decide +kernel
theorem d_Row_turn_51 : decode prog_6_method_7_code 51 = .ok (.iastore, 1) := by decide +kernel
theorem d_Row_turn_52 : decode prog_6_method_7_code 52 = .ok (.iinc 1 1, 3) := by decide +kernel
theorem d_Row_turn_55 : decode prog_6_method_7_code 55 = .ok (.goto (-53), 3) := by decide +kernel
theorem d_Row_turn_58 : decode prog_6_method_7_code 58 = .ok (.return_, 1) := by decide +kernel
theorem lp_Row_turn {Q : gx_P} {w : gx_W} {h cap : Nat} {l : List Nat} (h0 : w.1 (h + 1) = none) (hlen : l.length ≤ cap) (hcap : cap < 65536) (hsm : gx_sm l) (hQ : Q.1 none (gx_st w h (gx_bx 1 cap l.reverse))) : ∀ (fu : Nat) (i : Nat) (f : Nat → Int32) (L2 : Option Value), l.length - i < fu → (i ≤ l.length / 2) → (∀ j, j < i → f j = nI (l.getD (l.length - 1 - j) 0)) → (∀ j, j < i → f (l.length - 1 - j) = nI (l.getD j 0)) → (∀ j, i ≤ j → j < l.length - i → f j = nI (l.getD j 0)) → gx_X (fun _ _ => True) M_Row_turn 1 Q 2 [some (.ref h), some (.int (nI i)), L2] [] (gx_raw w h 1 cap l.length f) (0, 0) := by
  intro fu
  induction fu with
  | zero => intro i f L2 hfu; exact absurd hfu (Nat.not_lt_zero _)
  | succ fu ih =>
    intro i f L2 hfu hi hg1 hg2 hg3
    refine gx_iload_n d_Row_turn_2 rfl ?_
    refine gx_aload_n d_Row_turn_3 rfl ?_
    refine gx_get fl_Row_15 d_Row_turn_4 gx_raw_h rfl ?_
    refine gx_iconst d_Row_turn_7 (nI 2) (by decide) ?_
    refine gx_idivN (by omega) (by omega) (by omega) d_Row_turn_8 ?_
    refine gx_icmp_geN (by omega) (by omega) (tgt := 58) d_Row_turn_9 (by decide) (fun h9 => ?_) (fun h9 => ?_)
    · refine gx_box l.reverse h0 (by simp) (by simpa using hlen) hcap (gx_sm_rev hsm) (fun j hj => ?_) ?_
      · rw [List.length_reverse] at hj
        rw [gx_gd_rev hj]
        by_cases e : j < i
        · exact hg1 j e
        · by_cases e2 : j < l.length - i
          · rw [hg3 j (by omega) e2, show l.length - 1 - j = j by omega]
          · have h8 := hg2 (l.length - 1 - j) (by omega)
            rw [show l.length - 1 - (l.length - 1 - j) = j by omega] at h8
            exact h8
      refine gx_return rfl d_Row_turn_58 ?_
      exact hQ
    · refine gx_aload_n d_Row_turn_12 rfl ?_
      refine gx_get fl_Row_9 d_Row_turn_13 gx_raw_h rfl ?_
      refine gx_iload_n d_Row_turn_16 rfl ?_
      refine gx_iald d_Row_turn_17 gx_raw_h1 (by omega) (by omega) ?_
      refine gx_istore_n d_Row_turn_18 (Nat.le_of_ble_eq_true rfl) rfl ?_
      refine gx_aload_n d_Row_turn_19 rfl ?_
      refine gx_get fl_Row_9 d_Row_turn_20 gx_raw_h rfl ?_
      refine gx_iload_n d_Row_turn_23 rfl ?_
      refine gx_aload_n d_Row_turn_24 rfl ?_
      refine gx_get fl_Row_9 d_Row_turn_25 gx_raw_h rfl ?_
      refine gx_aload_n d_Row_turn_28 rfl ?_
      refine gx_get fl_Row_15 d_Row_turn_29 gx_raw_h rfl ?_
      refine gx_iconst d_Row_turn_32 (nI 1) (by decide) ?_
      refine gx_isubN (by omega) d_Row_turn_33 ?_
      refine gx_iload_n d_Row_turn_34 rfl ?_
      refine gx_isubN (by omega) d_Row_turn_35 ?_
      refine gx_iald d_Row_turn_36 gx_raw_h1 (by omega) (by omega) ?_
      refine gx_biast d_Row_turn_37 (by omega) (by omega) ?_
      refine gx_aload_n d_Row_turn_38 rfl ?_
      refine gx_get fl_Row_9 d_Row_turn_39 gx_raw_h rfl ?_
      refine gx_aload_n d_Row_turn_42 rfl ?_
      refine gx_get fl_Row_15 d_Row_turn_43 gx_raw_h rfl ?_
      refine gx_iconst d_Row_turn_46 (nI 1) (by decide) ?_
      refine gx_isubN (by omega) d_Row_turn_47 ?_
      refine gx_iload_n d_Row_turn_48 rfl ?_
      refine gx_isubN (by omega) d_Row_turn_49 ?_
      refine gx_iload_n d_Row_turn_50 rfl ?_
      refine gx_biast d_Row_turn_51 (by omega) (by omega) ?_
      refine gx_iincN (n := 1) d_Row_turn_52 rfl (by decide) (Nat.le_of_ble_eq_true rfl) rfl ?_
      refine gx_goto (tgt := 2) d_Row_turn_55 (by decide) ?_
      refine ih (i + 1) _ _ (by omega) (by omega) (fun j hj => ?_) (fun j hj => ?_) (fun j hj1 hj2 => ?_)
      · by_cases e : j = i
        · subst e; rw [pk_un (by omega), pk_us, hg3 (l.length - 1 - j) (by omega) (by omega)]
        · rw [pk_un (by omega), pk_un e]; exact hg1 j (by omega)
      · by_cases e : j = i
        · subst e; rw [pk_us, hg3 j (by omega) (by omega)]
        · rw [pk_un (by omega), pk_un (by omega)]; exact hg2 j (by omega)
      · rw [pk_un (by omega), pk_un (by omega)]; exact hg3 j (by omega) (by omega)
theorem ct_Row_turn {w : gx_W} {h cap : Nat} {l : List Nat} (hw : w.1 h = some (gx_bx 1 cap l)) : gx_Ct M_Row_turn 1 0 0 [.ref h] w (gx_eq none (gx_st w h (gx_bx 1 cap l.reverse))) := by
  refine gx_ct (L := [some (.ref h), none, none]) (by decide) (Nat.le_of_ble_eq_true rfl) rfl ?_
  refine gx_unbox hw (fun f hf hlen hcap hsm h0 => ?_)
  refine gx_iconst d_Row_turn_0 (nI 0) (by decide) ?_
  refine gx_istore_n d_Row_turn_1 (Nat.le_of_ble_eq_true rfl) rfl ?_
  exact lp_Row_turn h0 hlen hcap hsm (by exact ⟨rfl, rfl⟩) (l.length + 1) 0 f none (by omega) (Nat.zero_le _) (fun j h1 => absurd h1 (by omega)) (fun j h1 => absurd h1 (by omega)) (fun j h1 h2 => hf j (by omega))
theorem d_Row_init_0 : decode prog_6_method_1_code 0 = .ok (.aload_n 0, 1) := by decide +kernel
theorem d_Row_init_1 : decode prog_6_method_1_code 1 = .ok (.invokespecial 3, 3) := by decide +kernel
theorem d_Row_init_4 : decode prog_6_method_1_code 4 = .ok (.aload_n 0, 1) := by decide +kernel
theorem d_Row_init_5 : decode prog_6_method_1_code 5 = .ok (.iload_n 1, 1) := by decide +kernel
theorem d_Row_init_6 : decode prog_6_method_1_code 6 = .ok (.newarray .int, 2) := by decide +kernel
theorem d_Row_init_8 : decode prog_6_method_1_code 8 = .ok (.putfield 9, 3) := by decide +kernel
theorem d_Row_init_11 : decode prog_6_method_1_code 11 = .ok (.return_, 1) := by decide +kernel
theorem ct_Row_init {w : gx_W} {h cap : Nat} (hw : w.1 h = some (gx_ob 1 [.null, .int 0])) (hh : w.2 = h + 1) (hcap : cap < 65536) : gx_Ct M_Row_init 1 (0 + 1) (0 + cap) [.ref h, .int (nI cap)] w (gx_eq none (gx_st (gx_gr w 1) h (gx_bx 1 cap []))) := by
  refine gx_ct (L := [some (.ref h), some (.int (nI cap))]) (by decide) (Nat.le_of_ble_eq_true rfl) rfl ?_
  refine gx_fr (fun hfr => ?_)
  refine gx_aload_n d_Row_init_0 rfl ?_
  refine gx_objInit lk_Row_3 (by omega) (Nat.le_of_ble_eq_true rfl) d_Row_init_1 ?_
  refine gx_aload_n d_Row_init_4 rfl ?_
  refine gx_iload_n d_Row_init_5 rfl ?_
  refine gx_newi hcap d_Row_init_6 ?_
  refine gx_put fp_Row_9 (fun _ => rfl) d_Row_init_8 (fs := [.null, .int 0]) (by simp only [gx_al]; rw [if_neg (by omega)]; exact hw) rfl rfl (by decide) ?_
  refine gx_w (w' := gx_raw (gx_gr w 1) h 1 cap 0 (fun _ => 0)) ?_ ?_
  · rw [hh]
    unfold gx_st gx_al gx_raw gx_gr
    rw [hh]
    refine Prod.ext ?_ rfl
    funext q
    by_cases e0 : q = h
    · subst e0; simp; rfl
    · by_cases e1 : q = h + 1
      · subst e1; simp; rfl
      · simp [e0, e1]
  refine gx_box [] (by show w.1 (h + 1) = none; exact hfr _ (by omega)) rfl (Nat.zero_le _) hcap gx_sm_nil gx_fn_nil ?_
  refine gx_return rfl d_Row_init_11 ?_
  exact ⟨rfl, rfl⟩
/-! small static methods -/
def sp_let (q : Nat) : Nat := if q = 4 then 104 else 97 + q
def sp_in (x : Int32) (k : Nat) : Bool := decide (0 ≤ x) && decide (x < nI k)
theorem sp_in_nI {m k : Nat} (hm : m < 2 ^ 31) (hk : k < 2 ^ 31) : sp_in (nI m) k = decide (m < k) := by
  unfold sp_in
  rw [decide_eq_true (nI_pos' hm), Bool.true_and]
  exact decide_eq_decide.mpr (nI_ltI hm hk)
theorem sp_in_lt {x : Int32} {k : Nat} (h : x < 0) : sp_in x k = false := by
  unfold sp_in
  rw [decide_eq_false (fun g => by rw [Int32.le_iff_toInt_le] at g; rw [Int32.lt_iff_toInt_lt] at h; omega), Bool.false_and]
theorem sp_in_ge {x : Int32} {k : Nat} (h : nI k ≤ x) : sp_in x k = false := by
  unfold sp_in
  rw [decide_eq_false (p := x < nI k) (fun g => by rw [Int32.lt_iff_toInt_lt] at g; rw [Int32.le_iff_toInt_le] at h; omega), Bool.and_false]
theorem sp_in_t {x : Int32} {k : Nat} (h : ¬ x < 0) (h2 : ¬ nI k ≤ x) : sp_in x k = true := by
  unfold sp_in
  rw [decide_eq_true (by rw [Int32.le_iff_toInt_le]; rw [Int32.lt_iff_toInt_lt] at h; have : (0 : Int32).toInt = 0 := rfl; omega), decide_eq_true (by rw [Int32.lt_iff_toInt_lt]; rw [Int32.le_iff_toInt_le] at h2; omega)]
  rfl
theorem d_PC_letter_0 : decode prog_1_method_27_code 0 = .ok (.iload_n 0, 1) := by decide +kernel
theorem d_PC_letter_1 : decode prog_1_method_27_code 1 = .ok (.iconst 4, 1) := by decide +kernel
theorem d_PC_letter_2 : decode prog_1_method_27_code 2 = .ok (.if_icmp .ne 8, 3) := by decide +kernel
theorem d_PC_letter_5 : decode prog_1_method_27_code 5 = .ok (.bipush 104, 2) := by decide +kernel
theorem d_PC_letter_7 : decode prog_1_method_27_code 7 = .ok (.goto 8, 3) := by decide +kernel
theorem d_PC_letter_10 : decode prog_1_method_27_code 10 = .ok (.bipush 97, 2) := by decide +kernel
theorem d_PC_letter_12 : decode prog_1_method_27_code 12 = .ok (.iload_n 0, 1) := by decide +kernel
theorem d_PC_letter_13 : decode prog_1_method_27_code 13 = .ok (.iadd, 1) := by decide +kernel
theorem d_PC_letter_14 : decode prog_1_method_27_code 14 = .ok (.i2c, 1) := by decide +kernel
theorem d_PC_letter_15 : decode prog_1_method_27_code 15 = .ok (.ireturn, 1) := by decide +kernel
theorem ct_letter {w : gx_W} {q : Nat} (hq : q ≤ 4) : gx_Ct M_PC_letter 1 0 0 [.int (nI q)] w (gx_eq (some (.int (nI (sp_let q)))) w) := by
  refine gx_ct (L := [some (.int (nI q))]) (by decide) (Nat.le_of_ble_eq_true rfl) rfl ?_
  refine gx_iload_n d_PC_letter_0 rfl ?_
  refine gx_iconst d_PC_letter_1 (nI 4) (by decide) ?_
  refine gx_icmp_neN (by omega) (by omega) (tgt := 10) d_PC_letter_2 (by decide) (fun h2 => ?_) (fun h2 => ?_)
  · rw [show sp_let q = 97 + q from if_neg h2]
    refine gx_bipush d_PC_letter_10 (nI 97) (by decide) ?_
    refine gx_iload_n d_PC_letter_12 rfl ?_
    refine gx_iaddN d_PC_letter_13 ?_
    refine gx_i2cN (by omega) d_PC_letter_14 ?_
    refine gx_zreturn rfl (gx_nc (by omega)) d_PC_letter_15 ?_
    exact ⟨rfl, rfl⟩
  · rw [show sp_let q = 104 from if_pos h2]
    refine gx_bipush d_PC_letter_5 (nI 104) (by decide) ?_
    refine gx_goto (tgt := 15) d_PC_letter_7 (by decide) ?_
    refine gx_zreturn rfl (gx_nc (by omega)) d_PC_letter_15 ?_
    exact ⟨rfl, rfl⟩
theorem d_PC_digit_0 : decode prog_1_method_28_code 0 = .ok (.bipush 48, 2) := by decide +kernel
theorem d_PC_digit_2 : decode prog_1_method_28_code 2 = .ok (.iload_n 0, 1) := by decide +kernel
theorem d_PC_digit_3 : decode prog_1_method_28_code 3 = .ok (.iadd, 1) := by decide +kernel
theorem d_PC_digit_4 : decode prog_1_method_28_code 4 = .ok (.i2c, 1) := by decide +kernel
theorem d_PC_digit_5 : decode prog_1_method_28_code 5 = .ok (.ireturn, 1) := by decide +kernel
theorem ct_digit {w : gx_W} {s : Nat} (hs : s < 65000) : gx_Ct M_PC_digit 1 0 0 [.int (nI s)] w (gx_eq (some (.int (nI (48 + s)))) w) := by
  refine gx_ct (L := [some (.int (nI s))]) (by decide) (Nat.le_of_ble_eq_true rfl) rfl ?_
  refine gx_bipush d_PC_digit_0 (nI 48) (by decide) ?_
  refine gx_iload_n d_PC_digit_2 rfl ?_
  refine gx_iaddN d_PC_digit_3 ?_
  refine gx_i2cN (by omega) d_PC_digit_4 ?_
  refine gx_zreturn rfl (gx_nc (by omega)) d_PC_digit_5 ?_
  exact ⟨rfl, rfl⟩
theorem d_PC_symbolOf_0 : decode prog_1_method_29_code 0 = .ok (.iload_n 0, 1) := by decide +kernel
theorem d_PC_symbolOf_1 : decode prog_1_method_29_code 1 = .ok (.bipush 48, 2) := by decide +kernel
theorem d_PC_symbolOf_3 : decode prog_1_method_29_code 3 = .ok (.isub, 1) := by decide +kernel
theorem d_PC_symbolOf_4 : decode prog_1_method_29_code 4 = .ok (.ireturn, 1) := by decide +kernel
theorem ct_symbolOf {w : gx_W} {x : Int32} : gx_Ct M_PC_symbolOf 1 0 0 [.int x] w (gx_eq (some (.int (x - nI 48))) w) := by
  refine gx_ct (L := [some (.int x)]) (by decide) (Nat.le_of_ble_eq_true rfl) rfl ?_
  refine gx_iload_n d_PC_symbolOf_0 rfl ?_
  refine gx_bipush d_PC_symbolOf_1 (nI 48) (by decide) ?_
  refine gx_isub d_PC_symbolOf_3 ?_
  refine gx_ireturn rfl d_PC_symbolOf_4 ?_
  exact ⟨rfl, rfl⟩
theorem d_PC_isState_0 : decode prog_1_method_24_code 0 = .ok (.iload_n 0, 1) := by decide +kernel
theorem d_PC_isState_1 : decode prog_1_method_24_code 1 = .ok (.ifCond .lt 12, 3) := by decide +kernel
theorem d_PC_isState_4 : decode prog_1_method_24_code 4 = .ok (.iload_n 0, 1) := by decide +kernel
theorem d_PC_isState_5 : decode prog_1_method_24_code 5 = .ok (.iconst 4, 1) := by decide +kernel
theorem d_PC_isState_6 : decode prog_1_method_24_code 6 = .ok (.if_icmp .ge 7, 3) := by decide +kernel
theorem d_PC_isState_9 : decode prog_1_method_24_code 9 = .ok (.iconst 1, 1) := by decide +kernel
theorem d_PC_isState_10 : decode prog_1_method_24_code 10 = .ok (.goto 4, 3) := by decide +kernel
theorem d_PC_isState_13 : decode prog_1_method_24_code 13 = .ok (.iconst 0, 1) := by decide +kernel
theorem d_PC_isState_14 : decode prog_1_method_24_code 14 = .ok (.ireturn, 1) := by decide +kernel
theorem ct_isState {w : gx_W} {x : Int32} : gx_Ct M_PC_isState 1 0 0 [.int x] w (gx_eq (some (.int (nI (sp_in x 4).toNat))) w) := by
  refine gx_ct (L := [some (.int x)]) (by decide) (Nat.le_of_ble_eq_true rfl) rfl ?_
  refine gx_iload_n d_PC_isState_0 rfl ?_
  refine gx_if_lt (tgt := 13) d_PC_isState_1 (by decide) (fun h1 => ?_) (fun h1 => ?_)
  · rw [sp_in_lt h1]
    refine gx_iconst d_PC_isState_13 (nI 0) (by decide) ?_
    refine gx_zreturn rfl (by decide) d_PC_isState_14 ?_
    exact ⟨rfl, rfl⟩
  · refine gx_iload_n d_PC_isState_4 rfl ?_
    refine gx_iconst d_PC_isState_5 (nI 4) (by decide) ?_
    refine gx_icmp_ge (tgt := 13) d_PC_isState_6 (by decide) (fun h6 => ?_) (fun h6 => ?_)
    · rw [sp_in_ge h6]
      refine gx_iconst d_PC_isState_13 (nI 0) (by decide) ?_
      refine gx_zreturn rfl (by decide) d_PC_isState_14 ?_
      exact ⟨rfl, rfl⟩
    · rw [sp_in_t h1 h6]
      refine gx_iconst d_PC_isState_9 (nI 1) (by decide) ?_
      refine gx_goto (tgt := 14) d_PC_isState_10 (by decide) ?_
      refine gx_zreturn rfl (by decide) d_PC_isState_14 ?_
      exact ⟨rfl, rfl⟩
theorem d_PC_isSymbol_0 : decode prog_1_method_25_code 0 = .ok (.iload_n 0, 1) := by decide +kernel
theorem d_PC_isSymbol_1 : decode prog_1_method_25_code 1 = .ok (.ifCond .lt 12, 3) := by decide +kernel
theorem d_PC_isSymbol_4 : decode prog_1_method_25_code 4 = .ok (.iload_n 0, 1) := by decide +kernel
theorem d_PC_isSymbol_5 : decode prog_1_method_25_code 5 = .ok (.iconst 3, 1) := by decide +kernel
theorem d_PC_isSymbol_6 : decode prog_1_method_25_code 6 = .ok (.if_icmp .ge 7, 3) := by decide +kernel
theorem d_PC_isSymbol_9 : decode prog_1_method_25_code 9 = .ok (.iconst 1, 1) := by decide +kernel
theorem d_PC_isSymbol_10 : decode prog_1_method_25_code 10 = .ok (.goto 4, 3) := by decide +kernel
theorem d_PC_isSymbol_13 : decode prog_1_method_25_code 13 = .ok (.iconst 0, 1) := by decide +kernel
theorem d_PC_isSymbol_14 : decode prog_1_method_25_code 14 = .ok (.ireturn, 1) := by decide +kernel
theorem ct_isSymbol {w : gx_W} {x : Int32} : gx_Ct M_PC_isSymbol 1 0 0 [.int x] w (gx_eq (some (.int (nI (sp_in x 3).toNat))) w) := by
  refine gx_ct (L := [some (.int x)]) (by decide) (Nat.le_of_ble_eq_true rfl) rfl ?_
  refine gx_iload_n d_PC_isSymbol_0 rfl ?_
  refine gx_if_lt (tgt := 13) d_PC_isSymbol_1 (by decide) (fun h1 => ?_) (fun h1 => ?_)
  · rw [sp_in_lt h1]
    refine gx_iconst d_PC_isSymbol_13 (nI 0) (by decide) ?_
    refine gx_zreturn rfl (by decide) d_PC_isSymbol_14 ?_
    exact ⟨rfl, rfl⟩
  · refine gx_iload_n d_PC_isSymbol_4 rfl ?_
    refine gx_iconst d_PC_isSymbol_5 (nI 3) (by decide) ?_
    refine gx_icmp_ge (tgt := 13) d_PC_isSymbol_6 (by decide) (fun h6 => ?_) (fun h6 => ?_)
    · rw [sp_in_ge h6]
      refine gx_iconst d_PC_isSymbol_13 (nI 0) (by decide) ?_
      refine gx_zreturn rfl (by decide) d_PC_isSymbol_14 ?_
      exact ⟨rfl, rfl⟩
    · rw [sp_in_t h1 h6]
      refine gx_iconst d_PC_isSymbol_9 (nI 1) (by decide) ?_
      refine gx_goto (tgt := 14) d_PC_isSymbol_10 (by decide) ?_
      refine gx_zreturn rfl (by decide) d_PC_isSymbol_14 ?_
      exact ⟨rfl, rfl⟩
theorem d_PC_ruleNumber_0 : decode prog_1_method_26_code 0 = .ok (.iload_n 0, 1) := by decide +kernel
theorem d_PC_ruleNumber_1 : decode prog_1_method_26_code 1 = .ok (.iconst 3, 1) := by decide +kernel
theorem d_PC_ruleNumber_2 : decode prog_1_method_26_code 2 = .ok (.imul, 1) := by decide +kernel
theorem d_PC_ruleNumber_3 : decode prog_1_method_26_code 3 = .ok (.iload_n 1, 1) := by decide +kernel
theorem d_PC_ruleNumber_4 : decode prog_1_method_26_code 4 = .ok (.iadd, 1) := by decide +kernel
theorem d_PC_ruleNumber_5 : decode prog_1_method_26_code 5 = .ok (.ireturn, 1) := by decide +kernel
theorem ct_ruleNumber {w : gx_W} {x y : Nat} : gx_Ct M_PC_ruleNumber 1 0 0 [.int (nI x), .int (nI y)] w (gx_eq (some (.int (nI (x * 3 + y)))) w) := by
  refine gx_ct (L := [some (.int (nI x)), some (.int (nI y))]) (by decide) (Nat.le_of_ble_eq_true rfl) rfl ?_
  refine gx_iload_n d_PC_ruleNumber_0 rfl ?_
  refine gx_iconst d_PC_ruleNumber_1 (nI 3) (by decide) ?_
  refine gx_imulN d_PC_ruleNumber_2 ?_
  refine gx_iload_n d_PC_ruleNumber_3 rfl ?_
  refine gx_iaddN d_PC_ruleNumber_4 ?_
  refine gx_ireturn rfl d_PC_ruleNumber_5 ?_
  exact ⟨rfl, rfl⟩
