/-! Word: its methods -/
theorem d_Word_size_0 : decode prog_9_method_2_code 0 = .ok (.aload_n 0, 1) := by decide +kernel
theorem d_Word_size_1 : decode prog_9_method_2_code 1 = .ok (.getfield 15, 3) := by decide +kernel
theorem d_Word_size_4 : decode prog_9_method_2_code 4 = .ok (.ireturn, 1) := by decide +kernel
theorem ct_Word_size {w : gx_W} {h cap : Nat} {l : List Nat} (hw : w.1 h = some (gx_bx 0 cap l)) : gx_Ct M_Word_size 1 0 0 [.ref h] w (gx_eq (some (.int (nI l.length))) w) := by
  refine gx_ct (L := [some (.ref h)]) (by decide) (Nat.le_of_ble_eq_true rfl) rfl ?_
  refine gx_aload_n d_Word_size_0 rfl ?_
  refine gx_bln fl_Word_15 d_Word_size_1 hw ?_
  refine gx_ireturn rfl d_Word_size_4 ?_
  exact ⟨rfl, rfl⟩
theorem d_Word_at_0 : decode prog_9_method_3_code 0 = .ok (.iload_n 1, 1) := by decide +kernel
theorem d_Word_at_1 : decode prog_9_method_3_code 1 = .ok (.ifCond .lt 20, 3) := by decide +kernel
theorem d_Word_at_4 : decode prog_9_method_3_code 4 = .ok (.iload_n 1, 1) := by decide +kernel
theorem d_Word_at_5 : decode prog_9_method_3_code 5 = .ok (.aload_n 0, 1) := by decide +kernel
theorem d_Word_at_6 : decode prog_9_method_3_code 6 = .ok (.getfield 15, 3) := by decide +kernel
theorem d_Word_at_9 : decode prog_9_method_3_code 9 = .ok (.if_icmp .ge 12, 3) := by decide +kernel
theorem d_Word_at_12 : decode prog_9_method_3_code 12 = .ok (.aload_n 0, 1) := by decide +kernel
theorem d_Word_at_13 : decode prog_9_method_3_code 13 = .ok (.getfield 9, 3) := by decide +kernel
theorem d_Word_at_16 : decode prog_9_method_3_code 16 = .ok (.iload_n 1, 1) := by decide +kernel
theorem d_Word_at_17 : decode prog_9_method_3_code 17 = .ok (.caload, 1) := by decide +kernel
theorem d_Word_at_18 : decode prog_9_method_3_code 18 = .ok (.goto 4, 3) := by decide +kernel
theorem d_Word_at_21 : decode prog_9_method_3_code 21 = .ok (.iconst 0, 1) := by decide +kernel
theorem d_Word_at_22 : decode prog_9_method_3_code 22 = .ok (.ireturn, 1) := by decide +kernel
theorem ct_Word_at {w : gx_W} {h cap : Nat} {l : List Nat} {j : Nat} (hw : w.1 h = some (gx_bx 0 cap l)) (hj : j < 2 ^ 31) : gx_Ct M_Word_at 1 0 0 [.ref h, .int (nI j)] w (gx_eq (some (.int (nI (l.getD j 0)))) w) := by
  refine gx_ct (L := [some (.ref h), some (.int (nI j))]) (by decide) (Nat.le_of_ble_eq_true rfl) rfl ?_
  refine gx_bsz hw (fun hlen hcap hsm => ?_)
  refine gx_iload_n d_Word_at_0 rfl ?_
  refine gx_if_ltN (by omega) (tgt := 21) d_Word_at_1 (by decide) ?_
  refine gx_iload_n d_Word_at_4 rfl ?_
  refine gx_aload_n d_Word_at_5 rfl ?_
  refine gx_bln fl_Word_15 d_Word_at_6 hw ?_
  refine gx_icmp_geN (by omega) (by omega) (tgt := 21) d_Word_at_9 (by decide) (fun h9 => ?_) (fun h9 => ?_)
  · rw [gx_gd_ge h9]
    refine gx_iconst d_Word_at_21 (nI 0) (by decide) ?_
    refine gx_zreturn rfl (by decide) d_Word_at_22 ?_
    exact ⟨rfl, rfl⟩
  · refine gx_aload_n d_Word_at_12 rfl ?_
    refine gx_bar fl_Word_9 d_Word_at_13 hw ?_
    refine gx_iload_n d_Word_at_16 rfl ?_
    refine gx_bcal d_Word_at_17 hw (by omega) ?_
    refine gx_goto (tgt := 22) d_Word_at_18 (by decide) ?_
    refine gx_zreturn rfl (gx_nc (gx_sm_at hsm j)) d_Word_at_22 ?_
    exact ⟨rfl, rfl⟩
theorem ct_Word_at_neg {w : gx_W} {h cap : Nat} {l : List Nat} (hw : w.1 h = some (gx_bx 0 cap l)) : gx_Ct M_Word_at 1 0 0 [.ref h, .int (-1)] w (gx_eq (some (.int 0)) w) := by
  refine gx_ct (L := [some (.ref h), some (.int (-1))]) (by decide) (Nat.le_of_ble_eq_true rfl) rfl ?_
  refine gx_iload_n d_Word_at_0 rfl ?_
  refine gx_if_lt (tgt := 21) d_Word_at_1 (by decide) (fun h1 => ?_) (fun h1 => ?_)
  · refine gx_iconst d_Word_at_21 0 (by decide) ?_
    refine gx_zreturn rfl (by decide) d_Word_at_22 ?_
    exact ⟨rfl, rfl⟩
  · exact absurd (by decide) h1
theorem d_Word_ask_0 : decode prog_9_method_4_code 0 = .ok (.iload_n 1, 1) := by decide +kernel
theorem d_Word_ask_1 : decode prog_9_method_4_code 1 = .ok (.iconst (-1), 1) := by decide +kernel
theorem d_Word_ask_2 : decode prog_9_method_4_code 2 = .ok (.if_icmp .ne 8, 3) := by decide +kernel
theorem d_Word_ask_5 : decode prog_9_method_4_code 5 = .ok (.aload_n 0, 1) := by decide +kernel
theorem d_Word_ask_6 : decode prog_9_method_4_code 6 = .ok (.getfield 15, 3) := by decide +kernel
theorem d_Word_ask_9 : decode prog_9_method_4_code 9 = .ok (.ireturn, 1) := by decide +kernel
theorem d_Word_ask_10 : decode prog_9_method_4_code 10 = .ok (.iload_n 1, 1) := by decide +kernel
theorem d_Word_ask_11 : decode prog_9_method_4_code 11 = .ok (.ifCond .lt 20, 3) := by decide +kernel
theorem d_Word_ask_14 : decode prog_9_method_4_code 14 = .ok (.iload_n 1, 1) := by decide +kernel
theorem d_Word_ask_15 : decode prog_9_method_4_code 15 = .ok (.aload_n 0, 1) := by decide +kernel
theorem d_Word_ask_16 : decode prog_9_method_4_code 16 = .ok (.getfield 15, 3) := by decide +kernel
theorem d_Word_ask_19 : decode prog_9_method_4_code 19 = .ok (.if_icmp .ge 12, 3) := by decide +kernel
theorem d_Word_ask_22 : decode prog_9_method_4_code 22 = .ok (.aload_n 0, 1) := by decide +kernel
theorem d_Word_ask_23 : decode prog_9_method_4_code 23 = .ok (.getfield 9, 3) := by decide +kernel
theorem d_Word_ask_26 : decode prog_9_method_4_code 26 = .ok (.iload_n 1, 1) := by decide +kernel
theorem d_Word_ask_27 : decode prog_9_method_4_code 27 = .ok (.caload, 1) := by decide +kernel
theorem d_Word_ask_28 : decode prog_9_method_4_code 28 = .ok (.goto 4, 3) := by decide +kernel
theorem d_Word_ask_31 : decode prog_9_method_4_code 31 = .ok (.iconst (-1), 1) := by decide +kernel
theorem d_Word_ask_32 : decode prog_9_method_4_code 32 = .ok (.ireturn, 1) := by decide +kernel
theorem ct_Word_ask {w : gx_W} {h cap : Nat} {l : List Nat} {i : Int32} (hw : w.1 h = some (gx_bx 0 cap l)) : gx_Ct M_Word_ask 1 0 0 [.ref h, .int i] w (gx_eq (some (.int (sp_ask l i))) w) := by
  refine gx_ct (L := [some (.ref h), some (.int i)]) (by decide) (Nat.le_of_ble_eq_true rfl) rfl ?_
  refine gx_bsz hw (fun hlen hcap hsm => ?_)
  refine gx_iload_n d_Word_ask_0 rfl ?_
  refine gx_iconst d_Word_ask_1 (-1) (by decide) ?_
  refine gx_icmp_ne (tgt := 10) d_Word_ask_2 (by decide) (fun h2 => ?_) (fun h2 => ?_)
  · refine gx_iload_n d_Word_ask_10 rfl ?_
    refine gx_if_lt (tgt := 31) d_Word_ask_11 (by decide) (fun h11 => ?_) (fun h11 => ?_)
    · rw [sp_ask_lt h2 h11]
      refine gx_iconst d_Word_ask_31 (-1) (by decide) ?_
      refine gx_ireturn rfl d_Word_ask_32 ?_
      exact ⟨rfl, rfl⟩
    · refine gx_iload_n d_Word_ask_14 rfl ?_
      refine gx_aload_n d_Word_ask_15 rfl ?_
      refine gx_bln fl_Word_15 d_Word_ask_16 hw ?_
      refine gx_icmp_ge (tgt := 31) d_Word_ask_19 (by decide) (fun h19 => ?_) (fun h19 => ?_)
      · rw [sp_ask_ge h2 h19]
        refine gx_iconst d_Word_ask_31 (-1) (by decide) ?_
        refine gx_ireturn rfl d_Word_ask_32 ?_
        exact ⟨rfl, rfl⟩
      · obtain ⟨j, hj, rfl⟩ := nI_of h11
        have hj2 : j < l.length := Nat.lt_of_not_le (fun g => h19 (nI_le g hj))
        rw [sp_ask_in hj2 (by omega)]
        refine gx_aload_n d_Word_ask_22 rfl ?_
        refine gx_bar fl_Word_9 d_Word_ask_23 hw ?_
        refine gx_iload_n d_Word_ask_26 rfl ?_
        refine gx_bcal d_Word_ask_27 hw hj2 ?_
        refine gx_goto (tgt := 32) d_Word_ask_28 (by decide) ?_
        refine gx_ireturn rfl d_Word_ask_32 ?_
        exact ⟨rfl, rfl⟩
  · subst h2
    rw [sp_ask_m1]
    refine gx_aload_n d_Word_ask_5 rfl ?_
    refine gx_bln fl_Word_15 d_Word_ask_6 hw ?_
    refine gx_ireturn rfl d_Word_ask_9 ?_
    exact ⟨rfl, rfl⟩
theorem d_Word_empty_0 : decode prog_9_method_5_code 0 = .ok (.aload_n 0, 1) := by decide +kernel
theorem d_Word_empty_1 : decode prog_9_method_5_code 1 = .ok (.iconst 0, 1) := by decide +kernel
theorem d_Word_empty_2 : decode prog_9_method_5_code 2 = .ok (.putfield 15, 3) := by decide +kernel
theorem d_Word_empty_5 : decode prog_9_method_5_code 5 = .ok (.return_, 1) := by decide +kernel
theorem ct_Word_empty {w : gx_W} {h cap : Nat} {l : List Nat} (hw : w.1 h = some (gx_bx 0 cap l)) : gx_Ct M_Word_empty 1 0 0 [.ref h] w (gx_eq none (gx_st w h (gx_bx 0 cap []))) := by
  refine gx_ct (L := [some (.ref h)]) (by decide) (Nat.le_of_ble_eq_true rfl) rfl ?_
  refine gx_unbox hw (fun f hf hlen hcap hsm h0 => ?_)
  refine gx_aload_n d_Word_empty_0 rfl ?_
  refine gx_iconst d_Word_empty_1 (nI 0) (by decide) ?_
  refine gx_bput (n' := 0) fp_Word_15 d_Word_empty_2 ?_
  refine gx_box [] h0 rfl (Nat.zero_le _) hcap gx_sm_nil gx_fn_nil ?_
  refine gx_return rfl d_Word_empty_5 ?_
  exact ⟨rfl, rfl⟩
theorem d_Word_add_0 : decode prog_9_method_6_code 0 = .ok (.aload_n 0, 1) := by decide +kernel
theorem d_Word_add_1 : decode prog_9_method_6_code 1 = .ok (.getfield 15, 3) := by decide +kernel
theorem d_Word_add_4 : decode prog_9_method_6_code 4 = .ok (.aload_n 0, 1) := by decide +kernel
theorem d_Word_add_5 : decode prog_9_method_6_code 5 = .ok (.getfield 9, 3) := by decide +kernel
theorem d_Word_add_8 : decode prog_9_method_6_code 8 = .ok (.arraylength, 1) := by decide +kernel
theorem d_Word_add_9 : decode prog_9_method_6_code 9 = .ok (.if_icmp .ge 23, 3) := by decide +kernel
theorem d_Word_add_12 : decode prog_9_method_6_code 12 = .ok (.aload_n 0, 1) := by decide +kernel
theorem d_Word_add_13 : decode prog_9_method_6_code 13 = .ok (.getfield 9, 3) := by decide +kernel
theorem d_Word_add_16 : decode prog_9_method_6_code 16 = .ok (.aload_n 0, 1) := by decide +kernel
theorem d_Word_add_17 : decode prog_9_method_6_code 17 = .ok (.getfield 15, 3) := by decide +kernel
theorem d_Word_add_20 : decode prog_9_method_6_code 20 = .ok (.iload_n 1, 1) := by decide +kernel
theorem d_Word_add_21 : decode prog_9_method_6_code 21 = .ok (.castore, 1) := by decide +kernel
theorem d_Word_add_22 : decode prog_9_method_6_code 22 = .ok (.aload_n 0, 1) := by decide +kernel
theorem d_Word_add_23 : decode prog_9_method_6_code 23 = .ok (.dup, 1) := by decide +kernel
theorem d_Word_add_24 : decode prog_9_method_6_code 24 = .ok (.getfield 15, 3) := by decide +kernel
theorem d_Word_add_27 : decode prog_9_method_6_code 27 = .ok (.iconst 1, 1) := by decide +kernel
theorem d_Word_add_28 : decode prog_9_method_6_code 28 = .ok (.iadd, 1) := by decide +kernel
theorem d_Word_add_29 : decode prog_9_method_6_code 29 = .ok (.putfield 15, 3) := by decide +kernel
theorem d_Word_add_32 : decode prog_9_method_6_code 32 = .ok (.aload_n 0, 1) := by decide +kernel
theorem d_Word_add_33 : decode prog_9_method_6_code 33 = .ok (.areturn, 1) := by decide +kernel
theorem ct_Word_add {w : gx_W} {h cap : Nat} {l : List Nat} {c : Nat} (hw : w.1 h = some (gx_bx 0 cap l)) (hc : c < 65536) (hl : l.length < cap) : gx_Ct M_Word_add 1 0 0 [.ref h, .int (nI c)] w (gx_eq (some (.ref h)) (gx_st w h (gx_bx 0 cap (l ++ [c])))) := by
  refine gx_ct (L := [some (.ref h), some (.int (nI c))]) (by decide) (Nat.le_of_ble_eq_true rfl) rfl ?_
  refine gx_unbox hw (fun f hf hlen hcap hsm h0 => ?_)
  refine gx_aload_n d_Word_add_0 rfl ?_
  refine gx_get fl_Word_15 d_Word_add_1 gx_raw_h rfl ?_
  refine gx_aload_n d_Word_add_4 rfl ?_
  refine gx_get fl_Word_9 d_Word_add_5 gx_raw_h rfl ?_
  refine gx_alen (by decide) d_Word_add_8 gx_raw_h1 ?_
  refine gx_icmp_geN (by omega) (by omega) (tgt := 32) d_Word_add_9 (by decide) (fun h9 => ?_) (fun h9 => ?_)
  · exact absurd (show cap ≤ l.length from h9) (by omega)
  · refine gx_aload_n d_Word_add_12 rfl ?_
    refine gx_get fl_Word_9 d_Word_add_13 gx_raw_h rfl ?_
    refine gx_aload_n d_Word_add_16 rfl ?_
    refine gx_get fl_Word_15 d_Word_add_17 gx_raw_h rfl ?_
    refine gx_iload_n d_Word_add_20 rfl ?_
    refine gx_bcast d_Word_add_21 (by omega) (by omega) (gx_nc hc) ?_
    refine gx_aload_n d_Word_add_22 rfl ?_
    refine gx_dup d_Word_add_23 rfl ?_
    refine gx_get fl_Word_15 d_Word_add_24 gx_raw_h rfl ?_
    refine gx_iconst d_Word_add_27 (nI 1) (by decide) ?_
    refine gx_iaddN d_Word_add_28 ?_
    refine gx_bput fp_Word_15 d_Word_add_29 ?_
    refine gx_box (l ++ [c]) h0 (by simp) (by simp; omega) hcap (gx_sm_app hsm (gx_sm_1 hc)) (gx_fn_snoc hf) ?_
    refine gx_aload_n d_Word_add_32 rfl ?_
    refine gx_areturn rfl (Or.inl ⟨_, rfl⟩) (Or.inr ⟨_, rfl⟩) d_Word_add_33 ?_
    exact ⟨rfl, rfl⟩
theorem d_Word_addPart_0 : decode prog_9_method_7_code 0 = .ok (.iload_n 2, 1) := by decide +kernel
theorem d_Word_addPart_1 : decode prog_9_method_7_code 1 = .ok (.istore 4, 2) := by decide +kernel
theorem d_Word_addPart_3 : decode prog_9_method_7_code 3 = .ok (.iload 4, 2) := by decide +kernel
theorem d_Word_addPart_5 : decode prog_9_method_7_code 5 = .ok (.iload_n 3, 1) := by decide +kernel
theorem d_Word_addPart_6 : decode prog_9_method_7_code 6 = .ok (.if_icmp .ge 20, 3) := by decide +kernel
theorem d_Word_addPart_9 : decode prog_9_method_7_code 9 = .ok (.aload_n 0, 1) := by decide +kernel
theorem d_Word_addPart_10 : decode prog_9_method_7_code 10 = .ok (.aload_n 1, 1) := by decide +kernel
theorem d_Word_addPart_11 : decode prog_9_method_7_code 11 = .ok (.iload 4, 2) := by decide +kernel
theorem d_Word_addPart_13 : decode prog_9_method_7_code 13 = .ok (.invokevirtual 19, 3) := by decide +kernel
theorem d_Word_addPart_16 : decode prog_9_method_7_code 16 = .ok (.invokevirtual 23, 3) := by decide +kernel
theorem d_Word_addPart_19 : decode prog_9_method_7_code 19 = .ok (.pop, 1) := by decide +kernel
theorem d_Word_addPart_20 : decode prog_9_method_7_code 20 = .ok (.iinc 4 1, 3) := by decide +kernel
theorem d_Word_addPart_23 : decode prog_9_method_7_code 23 = .ok (.goto (-20), 3) := by decide +kernel
theorem d_Word_addPart_26 : decode prog_9_method_7_code 26 = .ok (.return_, 1) := by decide +kernel
theorem lp_Word_addPart {Q : gx_P} {h h2 cap cap2 a b : Nat} {l2 : List Nat} (hne : h2 ≠ h) (hb : b ≤ l2.length) : ∀ (fu : Nat) (i : Nat) (l : List Nat) (w : gx_W), b - i < fu → i < 2 ^ 31 → (w.1 h = some (gx_bx 0 cap l)) → (w.1 h2 = some (gx_bx 0 cap2 l2)) → (a ≤ i) → (l.length + (b - i) ≤ cap) → (Q.1 none (gx_st w h (gx_bx 0 cap (l ++ (l2.take b).drop i)))) → gx_X (fun _ _ => True) M_Word_addPart 2 Q 3 [some (.ref h), some (.ref h2), some (.int (nI a)), some (.int (nI b)), some (.int (nI i))] [] w (0, 0) := by
  intro fu
  induction fu with
  | zero => intro i l w hfu; exact absurd hfu (Nat.not_lt_zero _)
  | succ fu ih =>
    intro i l w hfu hi0 hw hw2 hib hlc hQ
    refine gx_bsz hw2 (fun hlen2 hcap2 hsm2 => ?_)
    have hi31 : i < 2 ^ 31 := hi0
    refine gx_iload d_Word_addPart_3 rfl ?_
    refine gx_iload_n d_Word_addPart_5 rfl ?_
    refine gx_icmp_geN (by omega) (by omega) (tgt := 26) d_Word_addPart_6 (by decide) (fun h6 => ?_) (fun h6 => ?_)
    · refine gx_return rfl d_Word_addPart_26 ?_
      rw [gx_drop_nil h6, List.append_nil, gx_st_id hw] at hQ
      exact hQ
    · refine gx_aload_n d_Word_addPart_9 rfl ?_
      refine gx_aload_n d_Word_addPart_10 rfl ?_
      refine gx_iload d_Word_addPart_11 rfl ?_
      refine gx_cV1 lk_Word_19 d_Word_addPart_13 (ct_Word_at hw2 hi31) (Or.inr ⟨_, _, hw2⟩) (by omega) rfl rfl (Nat.le_of_ble_eq_true rfl) ?_
      refine gx_cV1 lk_Word_23 d_Word_addPart_16 (ct_Word_add hw (gx_sm_at hsm2 i) (by omega)) (Or.inr ⟨_, _, hw⟩) (by omega) rfl rfl (Nat.le_of_ble_eq_true rfl) ?_
      refine gx_pop d_Word_addPart_19 rfl ?_
      refine gx_iincN (n := 1) d_Word_addPart_20 rfl (by decide) (Nat.le_of_ble_eq_true rfl) rfl ?_
      refine gx_goto (tgt := 3) d_Word_addPart_23 (by decide) ?_
      refine ih (i + 1) (l ++ [l2.getD i 0]) _ (by omega) (by omega) gx_st_eq (by rw [gx_st_ne hne]; exact hw2) (by omega) (by simp; omega) ?_
      rw [gx_st_st, List.append_assoc, List.singleton_append, ← gx_drop_step (by omega) hb]
      exact hQ
theorem ct_Word_addPart {w : gx_W} {h cap : Nat} {l : List Nat} {h2 cap2 a b : Nat} {l2 : List Nat} (hw : w.1 h = some (gx_bx 0 cap l)) (hw2 : w.1 h2 = some (gx_bx 0 cap2 l2)) (hne : h2 ≠ h) (ha : a < 2 ^ 31) (hb : b ≤ l2.length) (hc : l.length + (b - a) ≤ cap) : gx_Ct M_Word_addPart 2 0 0 [.ref h, .ref h2, .int (nI a), .int (nI b)] w (gx_eq none (gx_st w h (gx_bx 0 cap (l ++ (l2.take b).drop a)))) := by
  refine gx_ct (L := [some (.ref h), some (.ref h2), some (.int (nI a)), some (.int (nI b)), none]) (by decide) (Nat.le_of_ble_eq_true rfl) rfl ?_
  refine gx_iload_n d_Word_addPart_0 rfl ?_
  refine gx_istore d_Word_addPart_1 (Nat.le_of_ble_eq_true rfl) rfl ?_
  exact lp_Word_addPart hne hb (b - a + 1) a l w (by omega) ha hw hw2 (Nat.le_refl _) hc (by exact ⟨rfl, rfl⟩)
theorem d_Word_copy_0 : decode prog_9_method_8_code 0 = .ok (.aload_n 0, 1) := by decide +kernel
theorem d_Word_copy_1 : decode prog_9_method_8_code 1 = .ok (.invokevirtual 27, 3) := by decide +kernel
theorem d_Word_copy_4 : decode prog_9_method_8_code 4 = .ok (.aload_n 0, 1) := by decide +kernel
theorem d_Word_copy_5 : decode prog_9_method_8_code 5 = .ok (.aload_n 1, 1) := by decide +kernel
theorem d_Word_copy_6 : decode prog_9_method_8_code 6 = .ok (.iconst 0, 1) := by decide +kernel
theorem d_Word_copy_7 : decode prog_9_method_8_code 7 = .ok (.aload_n 1, 1) := by decide +kernel
theorem d_Word_copy_8 : decode prog_9_method_8_code 8 = .ok (.invokevirtual 30, 3) := by decide +kernel
theorem d_Word_copy_11 : decode prog_9_method_8_code 11 = .ok (.invokevirtual 34, 3) := by decide +kernel
theorem d_Word_copy_14 : decode prog_9_method_8_code 14 = .ok (.return_, 1) := by decide +kernel
theorem ct_Word_copy {w : gx_W} {h cap : Nat} {l : List Nat} {h2 cap2 : Nat} {l2 : List Nat} (hw : w.1 h = some (gx_bx 0 cap l)) (hw2 : w.1 h2 = some (gx_bx 0 cap2 l2)) (hne : h2 ≠ h) (hc : l2.length ≤ cap) : gx_Ct M_Word_copy 3 0 0 [.ref h, .ref h2] w (gx_eq none (gx_st w h (gx_bx 0 cap l2))) := by
  refine gx_ct (L := [some (.ref h), some (.ref h2)]) (by decide) (Nat.le_of_ble_eq_true rfl) rfl ?_
  refine gx_aload_n d_Word_copy_0 rfl ?_
  refine gx_cV0 lk_Word_27 d_Word_copy_1 (ct_Word_empty hw) (Or.inr ⟨_, _, hw⟩) (by omega) rfl rfl (Nat.le_of_ble_eq_true rfl) ?_
  have hw1 : (gx_st w h (gx_bx 0 cap [])).1 h = some (gx_bx 0 cap []) := gx_st_eq
  have hw3 : (gx_st w h (gx_bx 0 cap [])).1 h2 = some (gx_bx 0 cap2 l2) := by rw [gx_st_ne hne]; exact hw2
  refine gx_aload_n d_Word_copy_4 rfl ?_
  refine gx_aload_n d_Word_copy_5 rfl ?_
  refine gx_iconst d_Word_copy_6 (nI 0) (by decide) ?_
  refine gx_aload_n d_Word_copy_7 rfl ?_
  refine gx_cV1 lk_Word_30 d_Word_copy_8 (ct_Word_size hw3) (Or.inr ⟨_, _, hw3⟩) (by omega) rfl rfl (Nat.le_of_ble_eq_true rfl) ?_
  refine gx_cV0 lk_Word_34 d_Word_copy_11 (ct_Word_addPart (a := 0) (b := l2.length) hw1 hw3 hne (by omega) (Nat.le_refl _) (by simpa using hc)) (Or.inr ⟨_, _, hw1⟩) (by omega) rfl rfl (Nat.le_of_ble_eq_true rfl) ?_
  refine gx_return rfl d_Word_copy_14 ?_
  exact ⟨rfl, by rw [gx_st_st]; simp⟩
theorem d_Word_head_0 : decode prog_9_method_12_code 0 = .ok (.iconst 0, 1) := by decide +kernel
theorem d_Word_head_1 : decode prog_9_method_12_code 1 = .ok (.istore_n 1, 1) := by decide +kernel
theorem d_Word_head_2 : decode prog_9_method_12_code 2 = .ok (.iload_n 1, 1) := by decide +kernel
theorem d_Word_head_3 : decode prog_9_method_12_code 3 = .ok (.aload_n 0, 1) := by decide +kernel
theorem d_Word_head_4 : decode prog_9_method_12_code 4 = .ok (.getfield 15, 3) := by decide +kernel
theorem d_Word_head_7 : decode prog_9_method_12_code 7 = .ok (.if_icmp .ge 22, 3) := by decide +kernel
theorem d_Word_head_10 : decode prog_9_method_12_code 10 = .ok (.aload_n 0, 1) := by decide +kernel
theorem d_Word_head_11 : decode prog_9_method_12_code 11 = .ok (.getfield 9, 3) := by decide +kernel
theorem d_Word_head_14 : decode prog_9_method_12_code 14 = .ok (.iload_n 1, 1) := by decide +kernel
theorem d_Word_head_15 : decode prog_9_method_12_code 15 = .ok (.caload, 1) := by decide +kernel
theorem d_Word_head_16 : decode prog_9_method_12_code 16 = .ok (.bipush 97, 2) := by decide +kernel
theorem d_Word_head_18 : decode prog_9_method_12_code 18 = .ok (.if_icmp .lt 5, 3) := by decide +kernel
theorem d_Word_head_21 : decode prog_9_method_12_code 21 = .ok (.iload_n 1, 1) := by decide +kernel
theorem d_Word_head_22 : decode prog_9_method_12_code 22 = .ok (.ireturn, 1) := by decide +kernel
theorem d_Word_head_23 : decode prog_9_method_12_code 23 = .ok (.iinc 1 1, 3) := by decide +kernel
theorem d_Word_head_26 : decode prog_9_method_12_code 26 = .ok (.goto (-24), 3) := by decide +kernel
theorem d_Word_head_29 : decode prog_9_method_12_code 29 = .ok (.iconst (-1), 1) := by decide +kernel
theorem d_Word_head_30 : decode prog_9_method_12_code 30 = .ok (.ireturn, 1) := by decide +kernel
theorem lp_Word_head {Q : gx_P} {w : gx_W} {h cap k : Nat} {l : List Nat} (hw : w.1 h = some (gx_bx 0 cap l)) (hk : k < l.length) (hk1 : ∀ i, i < k → l.getD i 0 < 97) (hk2 : 97 ≤ l.getD k 0) (hQ : Q.1 (some (.int (nI k))) w) : ∀ (fu : Nat) (i : Nat), k - i < fu → (i ≤ k) → gx_X (fun _ _ => True) M_Word_head 1 Q 2 [some (.ref h), some (.int (nI i))] [] w (0, 0) := by
  intro fu
  induction fu with
  | zero => intro i hfu; exact absurd hfu (Nat.not_lt_zero _)
  | succ fu ih =>
    intro i hfu hi
    refine gx_bsz hw (fun hlen hcap hsm => ?_)
    have hs := gx_sm_at hsm i
    refine gx_iload_n d_Word_head_2 rfl ?_
    refine gx_aload_n d_Word_head_3 rfl ?_
    refine gx_bln fl_Word_15 d_Word_head_4 hw ?_
    refine gx_icmp_geN (by omega) (by omega) (tgt := 29) d_Word_head_7 (by decide) (fun h7 => ?_) (fun h7 => ?_)
    · exact absurd h7 (by omega)
    · refine gx_aload_n d_Word_head_10 rfl ?_
      refine gx_bar fl_Word_9 d_Word_head_11 hw ?_
      refine gx_iload_n d_Word_head_14 rfl ?_
      refine gx_bcal d_Word_head_15 hw (by omega) ?_
      refine gx_bipush d_Word_head_16 (nI 97) (by decide) ?_
      refine gx_icmp_ltN (by omega) (by omega) (tgt := 23) d_Word_head_18 (by decide) (fun h18 => ?_) (fun h18 => ?_)
      · have hik : i ≠ k := fun g => by subst g; omega
        refine gx_iincN (n := 1) d_Word_head_23 rfl (by decide) (Nat.le_of_ble_eq_true rfl) rfl ?_
        refine gx_goto (tgt := 2) d_Word_head_26 (by decide) ?_
        exact ih (i + 1) (by omega) (by omega)
      · have hik : i = k := Nat.le_antisymm hi (Nat.le_of_not_lt fun g => h18 (hk1 i g))
        subst hik
        refine gx_iload_n d_Word_head_21 rfl ?_
        refine gx_ireturn rfl d_Word_head_22 ?_
        exact hQ
theorem ct_Word_head {w : gx_W} {h cap : Nat} {l : List Nat} {k : Nat} (hw : w.1 h = some (gx_bx 0 cap l)) (hk : k < l.length) (hk1 : ∀ i, i < k → l.getD i 0 < 97) (hk2 : 97 ≤ l.getD k 0) : gx_Ct M_Word_head 1 0 0 [.ref h] w (gx_eq (some (.int (nI k))) w) := by
  refine gx_ct (L := [some (.ref h), none]) (by decide) (Nat.le_of_ble_eq_true rfl) rfl ?_
  refine gx_iconst d_Word_head_0 (nI 0) (by decide) ?_
  refine gx_istore_n d_Word_head_1 (Nat.le_of_ble_eq_true rfl) rfl ?_
  exact lp_Word_head hw hk hk1 hk2 (by exact ⟨rfl, rfl⟩) (k + 1) 0 (by omega) (Nat.zero_le _)
theorem d_Word_agrees_0 : decode prog_9_method_10_code 0 = .ok (.aload_n 0, 1) := by decide +kernel
theorem d_Word_agrees_1 : decode prog_9_method_10_code 1 = .ok (.getfield 15, 3) := by decide +kernel
theorem d_Word_agrees_4 : decode prog_9_method_10_code 4 = .ok (.aload_n 1, 1) := by decide +kernel
theorem d_Word_agrees_5 : decode prog_9_method_10_code 5 = .ok (.getfield 15, 3) := by decide +kernel
theorem d_Word_agrees_8 : decode prog_9_method_10_code 8 = .ok (.invokestatic 38, 3) := by decide +kernel
theorem d_Word_agrees_11 : decode prog_9_method_10_code 11 = .ok (.istore_n 2, 1) := by decide +kernel
theorem d_Word_agrees_12 : decode prog_9_method_10_code 12 = .ok (.iconst 0, 1) := by decide +kernel
theorem d_Word_agrees_13 : decode prog_9_method_10_code 13 = .ok (.istore_n 3, 1) := by decide +kernel
theorem d_Word_agrees_14 : decode prog_9_method_10_code 14 = .ok (.iload_n 3, 1) := by decide +kernel
theorem d_Word_agrees_15 : decode prog_9_method_10_code 15 = .ok (.iload_n 2, 1) := by decide +kernel
theorem d_Word_agrees_16 : decode prog_9_method_10_code 16 = .ok (.if_icmp .ge 24, 3) := by decide +kernel
theorem d_Word_agrees_19 : decode prog_9_method_10_code 19 = .ok (.aload_n 0, 1) := by decide +kernel
theorem d_Word_agrees_20 : decode prog_9_method_10_code 20 = .ok (.iload_n 3, 1) := by decide +kernel
theorem d_Word_agrees_21 : decode prog_9_method_10_code 21 = .ok (.invokevirtual 19, 3) := by decide +kernel
theorem d_Word_agrees_24 : decode prog_9_method_10_code 24 = .ok (.aload_n 1, 1) := by decide +kernel
theorem d_Word_agrees_25 : decode prog_9_method_10_code 25 = .ok (.iload_n 3, 1) := by decide +kernel
theorem d_Word_agrees_26 : decode prog_9_method_10_code 26 = .ok (.invokevirtual 19, 3) := by decide +kernel
theorem d_Word_agrees_29 : decode prog_9_method_10_code 29 = .ok (.if_icmp .eq 5, 3) := by decide +kernel
theorem d_Word_agrees_32 : decode prog_9_method_10_code 32 = .ok (.iconst 0, 1) := by decide +kernel
theorem d_Word_agrees_33 : decode prog_9_method_10_code 33 = .ok (.ireturn, 1) := by decide +kernel
theorem d_Word_agrees_34 : decode prog_9_method_10_code 34 = .ok (.iinc 3 1, 3) := by decide +kernel
theorem d_Word_agrees_37 : decode prog_9_method_10_code 37 = .ok (.goto (-23), 3) := by decide +kernel
theorem d_Word_agrees_40 : decode prog_9_method_10_code 40 = .ok (.iconst 1, 1) := by decide +kernel
theorem d_Word_agrees_41 : decode prog_9_method_10_code 41 = .ok (.ireturn, 1) := by decide +kernel
theorem lp_Word_agrees {Q : gx_P} {w : gx_W} {h h2 cap cap2 : Nat} {l l2 : List Nat} (hw : w.1 h = some (gx_bx 0 cap l)) (hw2 : w.1 h2 = some (gx_bx 0 cap2 l2)) : ∀ (fu : Nat) (i : Nat), l.length - i < fu → (i ≤ min l.length l2.length) → (Q.1 (some (.int (nI (sp_agb (l.drop i) (l2.drop i)).toNat))) w) → gx_X (fun _ _ => True) M_Word_agrees 2 Q 14 [some (.ref h), some (.ref h2), some (.int (nI (min l.length l2.length))), some (.int (nI i))] [] w (0, 0) := by
  intro fu
  induction fu with
  | zero => intro i hfu; exact absurd hfu (Nat.not_lt_zero _)
  | succ fu ih =>
    intro i hfu hi hQ
    refine gx_bsz hw (fun hlen hcap hsm => ?_)
    refine gx_bsz hw2 (fun hlen2 hcap2 hsm2 => ?_)
    have hs := gx_sm_at hsm i
    have hs2 := gx_sm_at hsm2 i
    refine gx_iload_n d_Word_agrees_14 rfl ?_
    refine gx_iload_n d_Word_agrees_15 rfl ?_
    refine gx_icmp_geN (by omega) (by omega) (tgt := 40) d_Word_agrees_16 (by decide) (fun h16 => ?_) (fun h16 => ?_)
    · refine gx_iconst d_Word_agrees_40 (nI 1) (by decide) ?_
      refine gx_zreturn rfl gx_nz1 d_Word_agrees_41 ?_
      have e : sp_agb (l.drop i) (l2.drop i) = true := by
        rcases (show l.length ≤ i ∨ l2.length ≤ i by omega) with g | g
        · rw [List.drop_eq_nil_of_le g]; exact sp_agb_nil
        · rw [List.drop_eq_nil_of_le g]; exact sp_agb_nil2
      rw [e] at hQ
      exact hQ
    · refine gx_aload_n d_Word_agrees_19 rfl ?_
      refine gx_iload_n d_Word_agrees_20 rfl ?_
      refine gx_cV1 lk_Word_19 d_Word_agrees_21 (ct_Word_at hw (by omega)) (Or.inr ⟨_, _, hw⟩) (by omega) rfl rfl (Nat.le_of_ble_eq_true rfl) ?_
      refine gx_aload_n d_Word_agrees_24 rfl ?_
      refine gx_iload_n d_Word_agrees_25 rfl ?_
      refine gx_cV1 lk_Word_19 d_Word_agrees_26 (ct_Word_at hw2 (by omega)) (Or.inr ⟨_, _, hw2⟩) (by omega) rfl rfl (Nat.le_of_ble_eq_true rfl) ?_
      refine gx_icmp_eqN (by omega) (by omega) (tgt := 34) d_Word_agrees_29 (by decide) (fun h29 => ?_) (fun h29 => ?_)
      · refine gx_iincN (n := 1) d_Word_agrees_34 rfl (by decide) (Nat.le_of_ble_eq_true rfl) rfl ?_
        refine gx_goto (tgt := 14) d_Word_agrees_37 (by decide) ?_
        refine ih (i + 1) (by omega) (by omega) ?_
        rw [gx_drop_cons (show i < l.length by omega), gx_drop_cons (show i < l2.length by omega)] at hQ
        simp only [sp_agb, beq_iff_eq.mpr h29, Bool.true_and] at hQ
        exact hQ
      · refine gx_iconst d_Word_agrees_32 (nI 0) (by decide) ?_
        refine gx_zreturn rfl gx_nz0 d_Word_agrees_33 ?_
        rw [gx_drop_cons (show i < l.length by omega), gx_drop_cons (show i < l2.length by omega)] at hQ
        simp only [sp_agb, beq_eq_false_iff_ne.mpr h29, Bool.false_and] at hQ
        exact hQ
theorem gx_mnI {x y : Nat} (hx : x < 2 ^ 31) (hy : y < 2 ^ 31) : (if nI y < nI x then nI y else nI x) = nI (min x y) := by
  by_cases h : y < x
  · rw [if_pos (nI_lt h hx), Nat.min_eq_right (by omega)]
  · rw [if_neg (nI_nlt (by omega) hy), Nat.min_eq_left (by omega)]
theorem gx_mxI {x y : Nat} (hx : x < 2 ^ 31) (hy : y < 2 ^ 31) : (if nI x < nI y then nI y else nI x) = nI (max x y) := by
  by_cases h : x < y
  · rw [if_pos (nI_lt h hy), Nat.max_eq_right (by omega)]
  · rw [if_neg (nI_nlt (by omega) hx), Nat.max_eq_left (by omega)]
theorem ct_Word_agrees {w : gx_W} {h cap : Nat} {l : List Nat} {h2 cap2 : Nat} {l2 : List Nat} (hw : w.1 h = some (gx_bx 0 cap l)) (hw2 : w.1 h2 = some (gx_bx 0 cap2 l2)) : gx_Ct M_Word_agrees 2 0 0 [.ref h, .ref h2] w (gx_eq (some (.int (nI (sp_agb l l2).toNat))) w) := by
  refine gx_ct (L := [some (.ref h), some (.ref h2), none, none]) (by decide) (Nat.le_of_ble_eq_true rfl) rfl ?_
  refine gx_bsz hw (fun hlen hcap hsm => ?_)
  refine gx_bsz hw2 (fun hlen2 hcap2 hsm2 => ?_)
  refine gx_aload_n d_Word_agrees_0 rfl ?_
  refine gx_bln fl_Word_15 d_Word_agrees_1 hw ?_
  refine gx_aload_n d_Word_agrees_4 rfl ?_
  refine gx_bln fl_Word_15 d_Word_agrees_5 hw2 ?_
  refine gx_min lk_Word_38 (by omega) (Nat.le_of_ble_eq_true rfl) d_Word_agrees_8 ?_
  refine gx_top (gx_mnI (by omega) (by omega)) ?_
  refine gx_istore_n d_Word_agrees_11 (Nat.le_of_ble_eq_true rfl) rfl ?_
  refine gx_iconst d_Word_agrees_12 (nI 0) (by decide) ?_
  refine gx_istore_n d_Word_agrees_13 (Nat.le_of_ble_eq_true rfl) rfl ?_
  exact lp_Word_agrees hw hw2 (l.length + 1) 0 (by omega) (Nat.zero_le _) (by exact ⟨rfl, rfl⟩)
theorem d_Word_same_0 : decode prog_9_method_11_code 0 = .ok (.aload_n 0, 1) := by decide +kernel
theorem d_Word_same_1 : decode prog_9_method_11_code 1 = .ok (.getfield 15, 3) := by decide +kernel
theorem d_Word_same_4 : decode prog_9_method_11_code 4 = .ok (.aload_n 1, 1) := by decide +kernel
theorem d_Word_same_5 : decode prog_9_method_11_code 5 = .ok (.getfield 15, 3) := by decide +kernel
theorem d_Word_same_8 : decode prog_9_method_11_code 8 = .ok (.if_icmp .ne 15, 3) := by decide +kernel
theorem d_Word_same_11 : decode prog_9_method_11_code 11 = .ok (.aload_n 0, 1) := by decide +kernel
theorem d_Word_same_12 : decode prog_9_method_11_code 12 = .ok (.aload_n 1, 1) := by decide +kernel
theorem d_Word_same_13 : decode prog_9_method_11_code 13 = .ok (.invokevirtual 44, 3) := by decide +kernel
theorem d_Word_same_16 : decode prog_9_method_11_code 16 = .ok (.ifCond .eq 7, 3) := by decide +kernel
theorem d_Word_same_19 : decode prog_9_method_11_code 19 = .ok (.iconst 1, 1) := by decide +kernel
theorem d_Word_same_20 : decode prog_9_method_11_code 20 = .ok (.goto 4, 3) := by decide +kernel
theorem d_Word_same_23 : decode prog_9_method_11_code 23 = .ok (.iconst 0, 1) := by decide +kernel
theorem d_Word_same_24 : decode prog_9_method_11_code 24 = .ok (.ireturn, 1) := by decide +kernel
theorem ct_Word_same {w : gx_W} {h cap : Nat} {l : List Nat} {h2 cap2 : Nat} {l2 : List Nat} (hw : w.1 h = some (gx_bx 0 cap l)) (hw2 : w.1 h2 = some (gx_bx 0 cap2 l2)) : gx_Ct M_Word_same 3 0 0 [.ref h, .ref h2] w (gx_eq (some (.int (nI (decide (l = l2)).toNat))) w) := by
  refine gx_ct (L := [some (.ref h), some (.ref h2)]) (by decide) (Nat.le_of_ble_eq_true rfl) rfl ?_
  refine gx_bsz hw (fun hlen hcap hsm => ?_)
  refine gx_bsz hw2 (fun hlen2 hcap2 hsm2 => ?_)
  refine gx_aload_n d_Word_same_0 rfl ?_
  refine gx_bln fl_Word_15 d_Word_same_1 hw ?_
  refine gx_aload_n d_Word_same_4 rfl ?_
  refine gx_bln fl_Word_15 d_Word_same_5 hw2 ?_
  refine gx_icmp_neN (by omega) (by omega) (tgt := 23) d_Word_same_8 (by decide) (fun h8 => ?_) (fun h8 => ?_)
  · have e2 : ¬ l = l2 := fun g => h8 (by rw [g])
    rw [decide_eq_false e2]
    refine gx_iconst d_Word_same_23 (nI 0) (by decide) ?_
    refine gx_zreturn rfl (by decide) d_Word_same_24 ?_
    exact ⟨rfl, rfl⟩
  · refine gx_aload_n d_Word_same_11 rfl ?_
    refine gx_aload_n d_Word_same_12 rfl ?_
    refine gx_cV1 lk_Word_44 d_Word_same_13 (ct_Word_agrees hw hw2) (Or.inr ⟨_, _, hw⟩) (by omega) rfl rfl (Nat.le_of_ble_eq_true rfl) ?_
    have hbb : (sp_agb l l2).toNat < 2 ^ 31 := Nat.lt_of_le_of_lt (Bool.toNat_le _) (by decide)
    have hiff := sp_agb_eq h8
    refine gx_if_eqN (by omega) (tgt := 23) d_Word_same_16 (by decide) (fun h16 => ?_) (fun h16 => ?_)
    · have e : sp_agb l l2 = false := by cases hq : sp_agb l l2 <;> simp_all
      have e2 : ¬ l = l2 := fun g => by rw [hiff.mpr g] at e; cases e
      rw [decide_eq_false e2]
      refine gx_iconst d_Word_same_23 (nI 0) (by decide) ?_
      refine gx_zreturn rfl (by decide) d_Word_same_24 ?_
      exact ⟨rfl, rfl⟩
    · have e : sp_agb l l2 = true := by cases hq : sp_agb l l2 <;> simp_all
      rw [decide_eq_true (hiff.mp e)]
      refine gx_iconst d_Word_same_19 (nI 1) (by decide) ?_
      refine gx_goto (tgt := 24) d_Word_same_20 (by decide) ?_
      refine gx_zreturn rfl (by decide) d_Word_same_24 ?_
      exact ⟨rfl, rfl⟩
theorem d_Word_remove_0 : decode prog_9_method_9_code 0 = .ok (.iload_n 1, 1) := by decide +kernel
theorem d_Word_remove_1 : decode prog_9_method_9_code 1 = .ok (.ifCond .lt 11, 3) := by decide +kernel
theorem d_Word_remove_4 : decode prog_9_method_9_code 4 = .ok (.iload_n 1, 1) := by decide +kernel
theorem d_Word_remove_5 : decode prog_9_method_9_code 5 = .ok (.aload_n 0, 1) := by decide +kernel
theorem d_Word_remove_6 : decode prog_9_method_9_code 6 = .ok (.getfield 15, 3) := by decide +kernel
theorem d_Word_remove_9 : decode prog_9_method_9_code 9 = .ok (.if_icmp .lt 4, 3) := by decide +kernel
theorem d_Word_remove_12 : decode prog_9_method_9_code 12 = .ok (.return_, 1) := by decide +kernel
theorem d_Word_remove_13 : decode prog_9_method_9_code 13 = .ok (.iload_n 1, 1) := by decide +kernel
theorem d_Word_remove_14 : decode prog_9_method_9_code 14 = .ok (.iconst 1, 1) := by decide +kernel
theorem d_Word_remove_15 : decode prog_9_method_9_code 15 = .ok (.iadd, 1) := by decide +kernel
theorem d_Word_remove_16 : decode prog_9_method_9_code 16 = .ok (.istore_n 2, 1) := by decide +kernel
theorem d_Word_remove_17 : decode prog_9_method_9_code 17 = .ok (.iload_n 2, 1) := by decide +kernel
theorem d_Word_remove_18 : decode prog_9_method_9_code 18 = .ok (.aload_n 0, 1) := by decide +kernel
theorem d_Word_remove_19 : decode prog_9_method_9_code 19 = .ok (.getfield 15, 3) := by decide +kernel
theorem d_Word_remove_22 : decode prog_9_method_9_code 22 = .ok (.if_icmp .ge 23, 3) := by decide +kernel
theorem d_Word_remove_25 : decode prog_9_method_9_code 25 = .ok (.aload_n 0, 1) := by decide +kernel
theorem d_Word_remove_26 : decode prog_9_method_9_code 26 = .ok (.getfield 9, 3) := by decide +kernel
theorem d_Word_remove_29 : decode prog_9_method_9_code 29 = .ok (.iload_n 2, 1) := by decide +kernel
theorem d_Word_remove_30 : decode prog_9_method_9_code 30 = .ok (.iconst 1, 1) := by decide +kernel
theorem d_Word_remove_31 : decode prog_9_method_9_code 31 = .ok (.isub, 1) := by decide +kernel
theorem d_Word_remove_32 : decode prog_9_method_9_code 32 = .ok (.aload_n 0, 1) := by decide +kernel
theorem d_Word_remove_33 : decode prog_9_method_9_code 33 = .ok (.getfield 9, 3) := by decide +kernel
theorem d_Word_remove_36 : decode prog_9_method_9_code 36 = .ok (.iload_n 2, 1) := by decide +kernel
theorem d_Word_remove_37 : decode prog_9_method_9_code 37 = .ok (.caload, 1) := by decide +kernel
theorem d_Word_remove_38 : decode prog_9_method_9_code 38 = .ok (.castore, 1) := by decide +kernel
theorem d_Word_remove_39 : decode prog_9_method_9_code 39 = .ok (.iinc 2 1, 3) := by decide +kernel
theorem d_Word_remove_42 : decode prog_9_method_9_code 42 = .ok (.goto (-25), 3) := by decide +kernel
theorem d_Word_remove_45 : decode prog_9_method_9_code 45 = .ok (.aload_n 0, 1) := by decide +kernel
theorem d_Word_remove_46 : decode prog_9_method_9_code 46 = .ok (.dup, 1) := by decide +kernel
theorem d_Word_remove_47 : decode prog_9_method_9_code 47 = .ok (.getfield 15, 3) := by decide +kernel
theorem d_Word_remove_50 : decode prog_9_method_9_code 50 = .ok (.iconst 1, 1) := by decide +kernel
theorem d_Word_remove_51 : decode prog_9_method_9_code 51 = .ok (.isub, 1) := by decide +kernel
theorem d_Word_remove_52 : decode prog_9_method_9_code 52 = .ok (.putfield 15, 3) := by decide +kernel
theorem d_Word_remove_55 : decode prog_9_method_9_code 55 = .ok (.return_, 1) := by decide +kernel
theorem lp_Word_remove {Q : gx_P} {w : gx_W} {h cap p : Nat} {l : List Nat} (h0 : w.1 (h + 1) = none) (hp : p < l.length) (hlen : l.length ≤ cap) (hcap : cap < 65536) (hsm : gx_sm l) (hQ : Q.1 none (gx_st w h (gx_bx 0 cap (l.eraseIdx p)))) : ∀ (fu : Nat) (i : Nat) (f : Nat → Int32), l.length - i < fu → (p < i) → (i ≤ l.length) → (∀ j, j < p → f j = nI (l.getD j 0)) → (∀ j, p ≤ j → j + 1 < i → f j = nI (l.getD (j + 1) 0)) → (∀ j, i ≤ j → j < l.length → f j = nI (l.getD j 0)) → gx_X (fun _ _ => True) M_Word_remove 1 Q 17 [some (.ref h), some (.int (nI p)), some (.int (nI i))] [] (gx_raw w h 0 cap l.length f) (0, 0) := by
  intro fu
  induction fu with
  | zero => intro i f hfu; exact absurd hfu (Nat.not_lt_zero _)
  | succ fu ih =>
    intro i f hfu hi hil hg1 hg2 hg3
    refine gx_iload_n d_Word_remove_17 rfl ?_
    refine gx_aload_n d_Word_remove_18 rfl ?_
    refine gx_get fl_Word_15 d_Word_remove_19 gx_raw_h rfl ?_
    refine gx_icmp_geN (by omega) (by omega) (tgt := 45) d_Word_remove_22 (by decide) (fun h22 => ?_) (fun h22 => ?_)
    · refine gx_aload_n d_Word_remove_45 rfl ?_
      refine gx_dup d_Word_remove_46 rfl ?_
      refine gx_get fl_Word_15 d_Word_remove_47 gx_raw_h rfl ?_
      refine gx_iconst d_Word_remove_50 (nI 1) (by decide) ?_
      refine gx_isubN (by omega) d_Word_remove_51 ?_
      refine gx_bput fp_Word_15 d_Word_remove_52 ?_
      refine gx_box (l.eraseIdx p) h0 (by rw [List.length_eraseIdx_of_lt hp]) (by rw [List.length_eraseIdx_of_lt hp]; omega) hcap (gx_sm_er hsm) (fun j hj => ?_) ?_
      · rw [List.length_eraseIdx_of_lt hp] at hj
        rw [gx_gd_er]
        by_cases hjp : j < p
        · rw [if_pos hjp]; exact hg1 j hjp
        · rw [if_neg hjp]; exact hg2 j (by omega) (by omega)
      refine gx_return rfl d_Word_remove_55 ?_
      exact hQ
    · refine gx_aload_n d_Word_remove_25 rfl ?_
      refine gx_get fl_Word_9 d_Word_remove_26 gx_raw_h rfl ?_
      refine gx_iload_n d_Word_remove_29 rfl ?_
      refine gx_iconst d_Word_remove_30 (nI 1) (by decide) ?_
      refine gx_isubN (by omega) d_Word_remove_31 ?_
      refine gx_aload_n d_Word_remove_32 rfl ?_
      refine gx_get fl_Word_9 d_Word_remove_33 gx_raw_h rfl ?_
      refine gx_iload_n d_Word_remove_36 rfl ?_
      refine gx_cald d_Word_remove_37 gx_raw_h1 (by omega) (by omega) ?_
      refine gx_bcast d_Word_remove_38 (by omega) (by omega) (by rw [hg3 i (by omega) (by omega)]; exact gx_nc (gx_sm_at hsm i)) ?_
      refine gx_iincN (n := 1) d_Word_remove_39 rfl (by decide) (Nat.le_of_ble_eq_true rfl) rfl ?_
      refine gx_goto (tgt := 17) d_Word_remove_42 (by decide) ?_
      refine ih (i + 1) _ (by omega) (by omega) (by omega) (fun j hj => ?_) (fun j hj1 hj2 => ?_) (fun j hj1 hj2 => ?_)
      · rw [pk_un (by omega)]; exact hg1 j hj
      · by_cases e : j = i - 1
        · subst e; rw [pk_us, hg3 i (Nat.le_refl _) (by omega), show i - 1 + 1 = i by omega]
        · rw [pk_un e]; exact hg2 j hj1 (by omega)
      · rw [pk_un (by omega)]; exact hg3 j (by omega) hj2
theorem ct_Word_remove {w : gx_W} {h cap : Nat} {l : List Nat} {p : Nat} (hw : w.1 h = some (gx_bx 0 cap l)) (hp : p < l.length) : gx_Ct M_Word_remove 1 0 0 [.ref h, .int (nI p)] w (gx_eq none (gx_st w h (gx_bx 0 cap (l.eraseIdx p)))) := by
  refine gx_ct (L := [some (.ref h), some (.int (nI p)), none]) (by decide) (Nat.le_of_ble_eq_true rfl) rfl ?_
  refine gx_unbox hw (fun f hf hlen hcap hsm h0 => ?_)
  refine gx_iload_n d_Word_remove_0 rfl ?_
  refine gx_if_ltN (by omega) (tgt := 12) d_Word_remove_1 (by decide) ?_
  refine gx_iload_n d_Word_remove_4 rfl ?_
  refine gx_aload_n d_Word_remove_5 rfl ?_
  refine gx_get fl_Word_15 d_Word_remove_6 gx_raw_h rfl ?_
  refine gx_icmp_ltN (by omega) (by omega) (tgt := 13) d_Word_remove_9 (by decide) (fun h9 => ?_) (fun h9 => ?_)
  · refine gx_iload_n d_Word_remove_13 rfl ?_
    refine gx_iconst d_Word_remove_14 (nI 1) (by decide) ?_
    refine gx_iaddN d_Word_remove_15 ?_
    refine gx_istore_n d_Word_remove_16 (Nat.le_of_ble_eq_true rfl) rfl ?_
    exact lp_Word_remove h0 hp hlen hcap hsm (by exact ⟨rfl, rfl⟩) (l.length + 1) (p + 1) f (by omega) (by omega) (by omega) (fun j hj => hf j (by omega)) (fun j h1 h2 => absurd h2 (by omega)) (fun j h1 h2 => hf j h2)
  · exact absurd hp h9
theorem d_Word_init_0 : decode prog_9_method_1_code 0 = .ok (.aload_n 0, 1) := by decide +kernel
theorem d_Word_init_1 : decode prog_9_method_1_code 1 = .ok (.invokespecial 3, 3) := by decide +kernel
theorem d_Word_init_4 : decode prog_9_method_1_code 4 = .ok (.aload_n 0, 1) := by decide +kernel
theorem d_Word_init_5 : decode prog_9_method_1_code 5 = .ok (.iload_n 1, 1) := by decide +kernel
theorem d_Word_init_6 : decode prog_9_method_1_code 6 = .ok (.newarray .char, 2) := by decide +kernel
theorem d_Word_init_8 : decode prog_9_method_1_code 8 = .ok (.putfield 9, 3) := by decide +kernel
theorem d_Word_init_11 : decode prog_9_method_1_code 11 = .ok (.return_, 1) := by decide +kernel
theorem ct_Word_init {w : gx_W} {h cap : Nat} (hw : w.1 h = some (gx_ob 0 [.null, .int 0])) (hh : w.2 = h + 1) (hcap : cap < 65536) : gx_Ct M_Word_init 1 (0 + 1) (0 + cap) [.ref h, .int (nI cap)] w (gx_eq none (gx_st (gx_gr w 1) h (gx_bx 0 cap []))) := by
  refine gx_ct (L := [some (.ref h), some (.int (nI cap))]) (by decide) (Nat.le_of_ble_eq_true rfl) rfl ?_
  refine gx_fr (fun hfr => ?_)
  refine gx_aload_n d_Word_init_0 rfl ?_
  refine gx_objInit lk_Word_3 (by omega) (Nat.le_of_ble_eq_true rfl) d_Word_init_1 ?_
  refine gx_aload_n d_Word_init_4 rfl ?_
  refine gx_iload_n d_Word_init_5 rfl ?_
  refine gx_newc hcap d_Word_init_6 ?_
  refine gx_put fp_Word_9 (fun _ => rfl) d_Word_init_8 (fs := [.null, .int 0]) (by simp only [gx_al]; rw [if_neg (by omega)]; exact hw) rfl rfl (by decide) ?_
  refine gx_w (w' := gx_raw (gx_gr w 1) h 0 cap 0 (fun _ => 0)) ?_ ?_
  · rw [hh]
    unfold gx_st gx_al gx_raw gx_gr
    rw [hh]
    refine Prod.ext ?_ rfl
    funext q
    by_cases e0 : q = h
    · subst e0; simp; rfl
    · by_cases e1 : q = h + 1
      · subst e1; simp; rfl
      · simp [e0, e1]
  refine gx_box [] (by show w.1 (h + 1) = none; exact hfr _ (by omega)) rfl (Nat.zero_le _) hcap gx_sm_nil gx_fn_nil ?_
  refine gx_return rfl d_Word_init_11 ?_
  exact ⟨rfl, rfl⟩
