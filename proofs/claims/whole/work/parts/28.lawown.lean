/-! the law's own methods about the calls that may throw -/
theorem op_rule_1 (S : sp_St) (q s wr rt nx : Nat) : (op_rule S q s wr rt nx).1 ≤ 1 := by unfold op_rule; split <;> simp
theorem op_drop_1 (S : sp_St) (q s : Nat) : (op_drop S q s).1 ≤ 1 := by unfold op_drop; split <;> simp
theorem op_input_1 (S : sp_St) (n word : Nat) : (op_input S n word).1 ≤ 1 := Nat.le_refl _
theorem ml_Law_7 : Cond.methodLink "PostChainLaw" 7 M_PC_rule.1 ∈ gx_T := gx_T_in (List.mem_append_right _ (show _ ∈ tables_1 from (List.mem_append_right _ (List.mem_append_right _ (List.mem_append_left _ (List.mem_of_getElem? (i := 167) (by decide +kernel))))))) (by decide +kernel)
theorem d_Law_rule_0 : decode method_3_code 0 = .ok (.aload 6, 2) := by decide +kernel
theorem d_Law_rule_2 : decode method_3_code 2 = .ok (.iconst 0, 1) := by decide +kernel
theorem d_Law_rule_3 : decode method_3_code 3 = .ok (.aload_n 0, 1) := by decide +kernel
theorem d_Law_rule_4 : decode method_3_code 4 = .ok (.iload_n 1, 1) := by decide +kernel
theorem d_Law_rule_5 : decode method_3_code 5 = .ok (.iload_n 2, 1) := by decide +kernel
theorem d_Law_rule_6 : decode method_3_code 6 = .ok (.iload_n 3, 1) := by decide +kernel
theorem d_Law_rule_7 : decode method_3_code 7 = .ok (.iload 4, 2) := by decide +kernel
theorem d_Law_rule_9 : decode method_3_code 9 = .ok (.iload 5, 2) := by decide +kernel
theorem d_Law_rule_11 : decode method_3_code 11 = .ok (.invokevirtual 7, 3) := by decide +kernel
theorem d_Law_rule_14 : decode method_3_code 14 = .ok (.ifCond .eq 7, 3) := by decide +kernel
theorem d_Law_rule_17 : decode method_3_code 17 = .ok (.lconst 1, 1) := by decide +kernel
theorem d_Law_rule_18 : decode method_3_code 18 = .ok (.goto 4, 3) := by decide +kernel
theorem d_Law_rule_21 : decode method_3_code 21 = .ok (.lconst 0, 1) := by decide +kernel
theorem d_Law_rule_22 : decode method_3_code 22 = .ok (.lastore, 1) := by decide +kernel
theorem d_Law_rule_23 : decode method_3_code 23 = .ok (.goto 7, 3) := by decide +kernel
theorem d_Law_rule_26 : decode method_3_code 26 = .ok (.astore 7, 2) := by decide +kernel
theorem d_Law_rule_28 : decode method_3_code 28 = .ok (.iconst 1, 1) := by decide +kernel
theorem d_Law_rule_29 : decode method_3_code 29 = .ok (.ireturn, 1) := by decide +kernel
theorem d_Law_rule_30 : decode method_3_code 30 = .ok (.iconst 0, 1) := by decide +kernel
theorem d_Law_rule_31 : decode method_3_code 31 = .ok (.ireturn, 1) := by decide +kernel
theorem bd_Law_rule {w : gx_W} {B O : Nat} {p0 p1 p2 p3 p4 : Int32} (hbad : ¬ (sp_in p0 4 = true ∧ sp_in p1 3 = true ∧ sp_in p2 3 = true ∧ sp_in p4 5 = true)) (hB : w.1 B = some (pcO B)) : gx_X (fun _ _ => True) M_Law_rule 8 (gx_nt (gx_eq (some (.int (nI 1))) (gx_gr w 1))) 0 [some (.ref B), some (.int p0), some (.int p1), some (.int p2), some (.int p3), some (.int p4), some (.ref O), none] [] w (0 + 1, 0 + 6) := by
  refine gx_aload d_Law_rule_0 rfl ?_
  refine gx_iconst d_Law_rule_2 (nI 0) (by decide) ?_
  refine gx_aload_n d_Law_rule_3 rfl ?_
  refine gx_iload_n d_Law_rule_4 rfl ?_
  refine gx_iload_n d_Law_rule_5 rfl ?_
  refine gx_iload_n d_Law_rule_6 rfl ?_
  refine gx_iload d_Law_rule_7 rfl ?_
  refine gx_iload d_Law_rule_9 rfl ?_
  refine gx_callT (w1 := gx_gr w 1) (as := [.int p0, .int p1, .int p2, .int p3, .int p4]) (C := "java/lang/IllegalArgumentException") (hpc := 26) (ct := 13) (pe := 23) lk_Law_7 ml_Law_7 d_Law_rule_11 (by decide) (by decide +kernel) (th_rule hbad) (Nat.le_of_ble_eq_true rfl) (Or.inl ⟨_, hB⟩) (by omega) rfl rfl (Nat.le_of_ble_eq_true rfl) ⟨Nat.le_refl _, Nat.le_refl _⟩ (by decide +kernel) (by decide) (by decide) cl_Law_13 (by decide) (fun x => ?_)
  refine gx_astore d_Law_rule_26 (Nat.le_of_ble_eq_true rfl) rfl ?_
  refine gx_iconst d_Law_rule_28 (nI 1) (by decide) ?_
  refine gx_ireturn rfl d_Law_rule_29 ?_
  exact ⟨rfl, rfl⟩
theorem ml_Law_15 : Cond.methodLink "PostChainLaw" 15 M_PC_drop.1 ∈ gx_T := gx_T_in (List.mem_append_right _ (show _ ∈ tables_1 from (List.mem_append_right _ (List.mem_append_right _ (List.mem_append_right _ (List.mem_append_left _ (List.mem_of_getElem? (i := 8) (by decide +kernel)))))))) (by decide +kernel)
theorem d_Law_drop_0 : decode method_4_code 0 = .ok (.aload_n 3, 1) := by decide +kernel
theorem d_Law_drop_1 : decode method_4_code 1 = .ok (.iconst 0, 1) := by decide +kernel
theorem d_Law_drop_2 : decode method_4_code 2 = .ok (.aload_n 0, 1) := by decide +kernel
theorem d_Law_drop_3 : decode method_4_code 3 = .ok (.iload_n 1, 1) := by decide +kernel
theorem d_Law_drop_4 : decode method_4_code 4 = .ok (.iload_n 2, 1) := by decide +kernel
theorem d_Law_drop_5 : decode method_4_code 5 = .ok (.invokevirtual 15, 3) := by decide +kernel
theorem d_Law_drop_8 : decode method_4_code 8 = .ok (.ifCond .eq 7, 3) := by decide +kernel
theorem d_Law_drop_11 : decode method_4_code 11 = .ok (.lconst 1, 1) := by decide +kernel
theorem d_Law_drop_12 : decode method_4_code 12 = .ok (.goto 4, 3) := by decide +kernel
theorem d_Law_drop_15 : decode method_4_code 15 = .ok (.lconst 0, 1) := by decide +kernel
theorem d_Law_drop_16 : decode method_4_code 16 = .ok (.lastore, 1) := by decide +kernel
theorem d_Law_drop_17 : decode method_4_code 17 = .ok (.goto 7, 3) := by decide +kernel
theorem d_Law_drop_20 : decode method_4_code 20 = .ok (.astore 4, 2) := by decide +kernel
theorem d_Law_drop_22 : decode method_4_code 22 = .ok (.iconst 1, 1) := by decide +kernel
theorem d_Law_drop_23 : decode method_4_code 23 = .ok (.ireturn, 1) := by decide +kernel
theorem d_Law_drop_24 : decode method_4_code 24 = .ok (.iconst 0, 1) := by decide +kernel
theorem d_Law_drop_25 : decode method_4_code 25 = .ok (.ireturn, 1) := by decide +kernel
theorem bd_Law_drop {w : gx_W} {B O : Nat} {p0 p1 : Int32} (hbad : ¬ (sp_in p0 4 = true ∧ sp_in p1 3 = true)) (hB : w.1 B = some (pcO B)) : gx_X (fun _ _ => True) M_Law_drop 8 (gx_nt (gx_eq (some (.int (nI 1))) (gx_gr w 1))) 0 [some (.ref B), some (.int p0), some (.int p1), some (.ref O), none] [] w (0 + 1, 0 + 6) := by
  refine gx_aload_n d_Law_drop_0 rfl ?_
  refine gx_iconst d_Law_drop_1 (nI 0) (by decide) ?_
  refine gx_aload_n d_Law_drop_2 rfl ?_
  refine gx_iload_n d_Law_drop_3 rfl ?_
  refine gx_iload_n d_Law_drop_4 rfl ?_
  refine gx_callT (w1 := gx_gr w 1) (as := [.int p0, .int p1]) (C := "java/lang/IllegalArgumentException") (hpc := 20) (ct := 13) (pe := 17) lk_Law_15 ml_Law_15 d_Law_drop_5 (by decide) (by decide +kernel) (th_drop hbad) (Nat.le_of_ble_eq_true rfl) (Or.inl ⟨_, hB⟩) (by omega) rfl rfl (Nat.le_of_ble_eq_true rfl) ⟨Nat.le_refl _, Nat.le_refl _⟩ (by decide +kernel) (by decide) (by decide) cl_Law_13 (by decide) (fun x => ?_)
  refine gx_astore d_Law_drop_20 (Nat.le_of_ble_eq_true rfl) rfl ?_
  refine gx_iconst d_Law_drop_22 (nI 1) (by decide) ?_
  refine gx_ireturn rfl d_Law_drop_23 ?_
  exact ⟨rfl, rfl⟩
theorem ml_Law_19 : Cond.methodLink "PostChainLaw" 19 M_PC_input.1 ∈ gx_T := gx_T_in (List.mem_append_right _ (show _ ∈ tables_1 from (List.mem_append_right _ (List.mem_append_right _ (List.mem_append_right _ (List.mem_append_left _ (List.mem_of_getElem? (i := 19) (by decide +kernel)))))))) (by decide +kernel)
theorem d_Law_input_0 : decode method_5_code 0 = .ok (.aload_n 3, 1) := by decide +kernel
theorem d_Law_input_1 : decode method_5_code 1 = .ok (.iconst 0, 1) := by decide +kernel
theorem d_Law_input_2 : decode method_5_code 2 = .ok (.aload_n 0, 1) := by decide +kernel
theorem d_Law_input_3 : decode method_5_code 3 = .ok (.iload_n 1, 1) := by decide +kernel
theorem d_Law_input_4 : decode method_5_code 4 = .ok (.iload_n 2, 1) := by decide +kernel
theorem d_Law_input_5 : decode method_5_code 5 = .ok (.invokevirtual 19, 3) := by decide +kernel
theorem d_Law_input_8 : decode method_5_code 8 = .ok (.ifCond .eq 7, 3) := by decide +kernel
theorem d_Law_input_11 : decode method_5_code 11 = .ok (.lconst 1, 1) := by decide +kernel
theorem d_Law_input_12 : decode method_5_code 12 = .ok (.goto 4, 3) := by decide +kernel
theorem d_Law_input_15 : decode method_5_code 15 = .ok (.lconst 0, 1) := by decide +kernel
theorem d_Law_input_16 : decode method_5_code 16 = .ok (.lastore, 1) := by decide +kernel
theorem d_Law_input_17 : decode method_5_code 17 = .ok (.goto 7, 3) := by decide +kernel
theorem d_Law_input_20 : decode method_5_code 20 = .ok (.astore 4, 2) := by decide +kernel
theorem d_Law_input_22 : decode method_5_code 22 = .ok (.iconst 1, 1) := by decide +kernel
theorem d_Law_input_23 : decode method_5_code 23 = .ok (.ireturn, 1) := by decide +kernel
theorem d_Law_input_24 : decode method_5_code 24 = .ok (.iconst 0, 1) := by decide +kernel
theorem d_Law_input_25 : decode method_5_code 25 = .ok (.ireturn, 1) := by decide +kernel
theorem bd_Law_input {w : gx_W} {B O : Nat} {p0 p1 : Int32} (hbad : ¬ (sp_in p0 5 = true ∧ ¬ p1 < 0)) (hB : w.1 B = some (pcO B)) : gx_X (fun _ _ => True) M_Law_input 8 (gx_nt (gx_eq (some (.int (nI 1))) (gx_gr w 1))) 0 [some (.ref B), some (.int p0), some (.int p1), some (.ref O), none] [] w (0 + 1, 0 + 6) := by
  refine gx_aload_n d_Law_input_0 rfl ?_
  refine gx_iconst d_Law_input_1 (nI 0) (by decide) ?_
  refine gx_aload_n d_Law_input_2 rfl ?_
  refine gx_iload_n d_Law_input_3 rfl ?_
  refine gx_iload_n d_Law_input_4 rfl ?_
  refine gx_callT (w1 := gx_gr w 1) (as := [.int p0, .int p1]) (C := "java/lang/IllegalArgumentException") (hpc := 20) (ct := 13) (pe := 17) lk_Law_19 ml_Law_19 d_Law_input_5 (by decide) (by decide +kernel) (th_input hbad) (Nat.le_of_ble_eq_true rfl) (Or.inl ⟨_, hB⟩) (by omega) rfl rfl (Nat.le_of_ble_eq_true rfl) ⟨Nat.le_refl _, Nat.le_refl _⟩ (by decide +kernel) (by decide) (by decide) cl_Law_13 (by decide) (fun x => ?_)
  refine gx_astore d_Law_input_20 (Nat.le_of_ble_eq_true rfl) rfl ?_
  refine gx_iconst d_Law_input_22 (nI 1) (by decide) ?_
  refine gx_ireturn rfl d_Law_input_23 ?_
  exact ⟨rfl, rfl⟩
theorem ml_Law_22 : Cond.methodLink "PostChainLaw" 22 M_PC_way.1 ∈ gx_T := gx_T_in (List.mem_append_right _ (show _ ∈ tables_1 from (List.mem_append_right _ (List.mem_append_right _ (List.mem_append_right _ (List.mem_append_left _ (List.mem_of_getElem? (i := 33) (by decide +kernel)))))))) (by decide +kernel)
theorem d_Law_way_0 : decode method_6_code 0 = .ok (.aload_n 2, 1) := by decide +kernel
theorem d_Law_way_1 : decode method_6_code 1 = .ok (.iconst 0, 1) := by decide +kernel
theorem d_Law_way_2 : decode method_6_code 2 = .ok (.aload_n 0, 1) := by decide +kernel
theorem d_Law_way_3 : decode method_6_code 3 = .ok (.iload_n 1, 1) := by decide +kernel
theorem d_Law_way_4 : decode method_6_code 4 = .ok (.invokevirtual 22, 3) := by decide +kernel
theorem d_Law_way_7 : decode method_6_code 7 = .ok (.i2l, 1) := by decide +kernel
theorem d_Law_way_8 : decode method_6_code 8 = .ok (.lastore, 1) := by decide +kernel
theorem d_Law_way_9 : decode method_6_code 9 = .ok (.goto 6, 3) := by decide +kernel
theorem d_Law_way_12 : decode method_6_code 12 = .ok (.astore_n 3, 1) := by decide +kernel
theorem d_Law_way_13 : decode method_6_code 13 = .ok (.iconst 1, 1) := by decide +kernel
theorem d_Law_way_14 : decode method_6_code 14 = .ok (.ireturn, 1) := by decide +kernel
theorem d_Law_way_15 : decode method_6_code 15 = .ok (.iconst 0, 1) := by decide +kernel
theorem d_Law_way_16 : decode method_6_code 16 = .ok (.ireturn, 1) := by decide +kernel
theorem bd_Law_way {w : gx_W} {B O : Nat} {S : sp_St} (h : pcS w B S) (hS : sp_Sok S) {k : Int32} (hH : sp_hal S = false) (hB : w.1 B = some (pcO B)) : gx_X (fun _ _ => True) M_Law_way 8 (gx_nt (gx_eq (some (.int (nI 1))) (gx_gr w 1))) 0 [some (.ref B), some (.int k), some (.ref O), none] [] w (0 + 1, 0 + 6) := by
  refine gx_aload_n d_Law_way_0 rfl ?_
  refine gx_iconst d_Law_way_1 (nI 0) (by decide) ?_
  refine gx_aload_n d_Law_way_2 rfl ?_
  refine gx_iload_n d_Law_way_3 rfl ?_
  refine gx_callT (w1 := gx_gr w 1) (as := [.int k]) (C := "java/lang/IllegalStateException") (hpc := 12) (ct := 26) (pe := 9) lk_Law_22 ml_Law_22 d_Law_way_4 (by decide) (by decide +kernel) (th_way h hS hH) (Nat.le_of_ble_eq_true rfl) (Or.inl ⟨_, hB⟩) (by omega) rfl rfl (Nat.le_of_ble_eq_true rfl) ⟨Nat.le_refl _, Nat.le_refl _⟩ (by decide +kernel) (by decide) (by decide) cl_Law_26 (by decide) (fun x => ?_)
  refine gx_astore_n d_Law_way_12 (Nat.le_of_ble_eq_true rfl) rfl ?_
  refine gx_iconst d_Law_way_13 (nI 1) (by decide) ?_
  refine gx_ireturn rfl d_Law_way_14 ?_
  exact ⟨rfl, rfl⟩
theorem ml_Law_28 : Cond.methodLink "PostChainLaw" 28 M_PC_layWay.1 ∈ gx_T := gx_T_in (List.mem_append_right _ (show _ ∈ tables_1 from (List.mem_append_right _ (List.mem_append_right _ (List.mem_append_right _ (List.mem_append_left _ (List.mem_of_getElem? (i := 60) (by decide +kernel)))))))) (by decide +kernel)
theorem d_Law_layWay_0 : decode method_7_code 0 = .ok (.aload_n 1, 1) := by decide +kernel
theorem d_Law_layWay_1 : decode method_7_code 1 = .ok (.iconst 0, 1) := by decide +kernel
theorem d_Law_layWay_2 : decode method_7_code 2 = .ok (.aload_n 0, 1) := by decide +kernel
theorem d_Law_layWay_3 : decode method_7_code 3 = .ok (.invokevirtual 28, 3) := by decide +kernel
theorem d_Law_layWay_6 : decode method_7_code 6 = .ok (.i2l, 1) := by decide +kernel
theorem d_Law_layWay_7 : decode method_7_code 7 = .ok (.lastore, 1) := by decide +kernel
theorem d_Law_layWay_8 : decode method_7_code 8 = .ok (.goto 6, 3) := by decide +kernel
theorem d_Law_layWay_11 : decode method_7_code 11 = .ok (.astore_n 2, 1) := by decide +kernel
theorem d_Law_layWay_12 : decode method_7_code 12 = .ok (.iconst 1, 1) := by decide +kernel
theorem d_Law_layWay_13 : decode method_7_code 13 = .ok (.ireturn, 1) := by decide +kernel
theorem d_Law_layWay_14 : decode method_7_code 14 = .ok (.iconst 0, 1) := by decide +kernel
theorem d_Law_layWay_15 : decode method_7_code 15 = .ok (.ireturn, 1) := by decide +kernel
theorem bd_Law_layWay {w : gx_W} {B O : Nat} {S : sp_St} (h : pcS w B S) (hS : sp_Sok S) (hH : sp_hal S = false) (hB : w.1 B = some (pcO B)) : gx_X (fun _ _ => True) M_Law_layWay 8 (gx_nt (gx_eq (some (.int (nI 1))) (gx_gr w 1))) 0 [some (.ref B), some (.ref O), none] [] w (0 + 1, 0 + 6) := by
  refine gx_aload_n d_Law_layWay_0 rfl ?_
  refine gx_iconst d_Law_layWay_1 (nI 0) (by decide) ?_
  refine gx_aload_n d_Law_layWay_2 rfl ?_
  refine gx_callT (w1 := gx_gr w 1) (as := []) (C := "java/lang/IllegalStateException") (hpc := 11) (ct := 26) (pe := 8) lk_Law_28 ml_Law_28 d_Law_layWay_3 (by decide) (by decide +kernel) (th_layWay h hS hH) (Nat.le_of_ble_eq_true rfl) (Or.inl ⟨_, hB⟩) (by omega) rfl rfl (Nat.le_of_ble_eq_true rfl) ⟨Nat.le_refl _, Nat.le_refl _⟩ (by decide +kernel) (by decide) (by decide) cl_Law_26 (by decide) (fun x => ?_)
  refine gx_astore_n d_Law_layWay_11 (Nat.le_of_ble_eq_true rfl) rfl ?_
  refine gx_iconst d_Law_layWay_12 (nI 1) (by decide) ?_
  refine gx_ireturn rfl d_Law_layWay_13 ?_
  exact ⟨rfl, rfl⟩
theorem ok_Law_rule {w : gx_W} {B O : Nat} {f : Nat → Int64} {S : sp_St} (h : pcS w B S) (hS : sp_Sok S) (hO : w.1 O = some (gx_al8 5 1 f)) (hBO : B + 360 ≤ O) {q s wr rt nx : Nat} (hq : q < 4) (hs : s < 3) (hwr : wr < 3) (hrt : rt ≤ 1) (hnx : nx ≤ 4) : gx_X (fun _ _ => True) M_Law_rule 8 (gx_nt (fun v w' => v = some (.int (nI 0)) ∧ ∃ w1, pcS w1 B (op_rule S q s wr rt nx).2 ∧ gx_kp w w1 B (B + 360) ∧ w' = gx_st w1 O (gx_al8 5 1 (vp_updL f 0 (lN (op_rule S q s wr rt nx).1))))) 0 [some (.ref B), some (.int (nI q)), some (.int (nI s)), some (.int (nI wr)), some (.int (nI rt)), some (.int (nI nx)), some (.ref O), none] [] w (0 + 1, 0 + 6) := by
  have hb1 := op_rule_1 S q s wr rt nx
  refine gx_aload d_Law_rule_0 rfl ?_
  refine gx_iconst d_Law_rule_2 (nI 0) (by decide) ?_
  refine gx_aload_n d_Law_rule_3 rfl ?_
  refine gx_iload_n d_Law_rule_4 rfl ?_
  refine gx_iload_n d_Law_rule_5 rfl ?_
  refine gx_iload_n d_Law_rule_6 rfl ?_
  refine gx_iload d_Law_rule_7 rfl ?_
  refine gx_iload d_Law_rule_9 rfl ?_
  refine gx_cVr lk_Law_7 d_Law_rule_11 (ct_rule h hS hq hs hwr hrt hnx) (Or.inl ⟨_, h.1.1⟩) (by omega) rfl rfl (Nat.le_of_ble_eq_true rfl) (fun r2 w2 hq => ?_)
  obtain ⟨rfl, hA, k2⟩ := hq
  have hO2 : w2.1 O = some (gx_al8 5 1 f) := by rw [k2.2 _ (by omega)]; exact hO
  refine gx_if_eqN (by omega) (tgt := 21) d_Law_rule_14 (by decide) (fun h14 => ?_) (fun h14 => ?_)
  · refine gx_lconst d_Law_rule_21 (lN 0) rfl ?_
    refine gx_last d_Law_rule_22 hO2 (by omega) (by omega) ?_
    refine gx_goto (tgt := 30) d_Law_rule_23 (by decide) ?_
    refine gx_iconst d_Law_rule_30 (nI 0) (by decide) ?_
    refine gx_ireturn rfl d_Law_rule_31 ?_
    exact ⟨rfl, w2, hA, k2, by rw [h14]⟩
  · refine gx_lconst d_Law_rule_17 (lN 1) rfl ?_
    refine gx_goto (tgt := 22) d_Law_rule_18 (by decide) ?_
    refine gx_last d_Law_rule_22 hO2 (by omega) (by omega) ?_
    refine gx_goto (tgt := 30) d_Law_rule_23 (by decide) ?_
    refine gx_iconst d_Law_rule_30 (nI 0) (by decide) ?_
    refine gx_ireturn rfl d_Law_rule_31 ?_
    exact ⟨rfl, w2, hA, k2, by rw [show (op_rule S q s wr rt nx).1 = 1 by omega]⟩
theorem ok_Law_drop {w : gx_W} {B O : Nat} {f : Nat → Int64} {S : sp_St} (h : pcS w B S) (hS : sp_Sok S) (hO : w.1 O = some (gx_al8 5 1 f)) (hBO : B + 360 ≤ O) {q s : Nat} (hq : q < 4) (hs : s < 3) : gx_X (fun _ _ => True) M_Law_drop 8 (gx_nt (fun v w' => v = some (.int (nI 0)) ∧ ∃ w1, pcS w1 B (op_drop S q s).2 ∧ gx_kp w w1 B (B + 360) ∧ w' = gx_st w1 O (gx_al8 5 1 (vp_updL f 0 (lN (op_drop S q s).1))))) 0 [some (.ref B), some (.int (nI q)), some (.int (nI s)), some (.ref O), none] [] w (0 + 1, 0 + 6) := by
  have hb1 := op_drop_1 S q s
  refine gx_aload_n d_Law_drop_0 rfl ?_
  refine gx_iconst d_Law_drop_1 (nI 0) (by decide) ?_
  refine gx_aload_n d_Law_drop_2 rfl ?_
  refine gx_iload_n d_Law_drop_3 rfl ?_
  refine gx_iload_n d_Law_drop_4 rfl ?_
  refine gx_cVr lk_Law_15 d_Law_drop_5 (ct_drop h hS hq hs) (Or.inl ⟨_, h.1.1⟩) (by omega) rfl rfl (Nat.le_of_ble_eq_true rfl) (fun r2 w2 hq => ?_)
  obtain ⟨rfl, hA, k2⟩ := hq
  have hO2 : w2.1 O = some (gx_al8 5 1 f) := by rw [k2.2 _ (by omega)]; exact hO
  refine gx_if_eqN (by omega) (tgt := 15) d_Law_drop_8 (by decide) (fun h8 => ?_) (fun h8 => ?_)
  · refine gx_lconst d_Law_drop_15 (lN 0) rfl ?_
    refine gx_last d_Law_drop_16 hO2 (by omega) (by omega) ?_
    refine gx_goto (tgt := 24) d_Law_drop_17 (by decide) ?_
    refine gx_iconst d_Law_drop_24 (nI 0) (by decide) ?_
    refine gx_ireturn rfl d_Law_drop_25 ?_
    exact ⟨rfl, w2, hA, k2, by rw [h8]⟩
  · refine gx_lconst d_Law_drop_11 (lN 1) rfl ?_
    refine gx_goto (tgt := 16) d_Law_drop_12 (by decide) ?_
    refine gx_last d_Law_drop_16 hO2 (by omega) (by omega) ?_
    refine gx_goto (tgt := 24) d_Law_drop_17 (by decide) ?_
    refine gx_iconst d_Law_drop_24 (nI 0) (by decide) ?_
    refine gx_ireturn rfl d_Law_drop_25 ?_
    exact ⟨rfl, w2, hA, k2, by rw [show (op_drop S q s).1 = 1 by omega]⟩
theorem ok_Law_input {w : gx_W} {B O : Nat} {f : Nat → Int64} {S : sp_St} (h : pcS w B S) (hS : sp_Sok S) (hO : w.1 O = some (gx_al8 5 1 f)) (hBO : B + 360 ≤ O) {n word : Nat} (hn : n ≤ 4) (hword : word < 2 ^ 31) : gx_X (fun _ _ => True) M_Law_input 8 (gx_nt (fun v w' => v = some (.int (nI 0)) ∧ ∃ w1, pcS w1 B (op_input S n word).2 ∧ gx_kp w w1 B (B + 360) ∧ w' = gx_st w1 O (gx_al8 5 1 (vp_updL f 0 (lN (op_input S n word).1))))) 0 [some (.ref B), some (.int (nI n)), some (.int (nI word)), some (.ref O), none] [] w (0 + 1, 0 + 6) := by
  have hb1 := op_input_1 S n word
  refine gx_aload_n d_Law_input_0 rfl ?_
  refine gx_iconst d_Law_input_1 (nI 0) (by decide) ?_
  refine gx_aload_n d_Law_input_2 rfl ?_
  refine gx_iload_n d_Law_input_3 rfl ?_
  refine gx_iload_n d_Law_input_4 rfl ?_
  refine gx_cVr lk_Law_19 d_Law_input_5 (ct_input h hS hn hword) (Or.inl ⟨_, h.1.1⟩) (by omega) rfl rfl (Nat.le_of_ble_eq_true rfl) (fun r2 w2 hq => ?_)
  obtain ⟨rfl, hA, k2⟩ := hq
  have hO2 : w2.1 O = some (gx_al8 5 1 f) := by rw [k2.2 _ (by omega)]; exact hO
  refine gx_if_eqN (by omega) (tgt := 15) d_Law_input_8 (by decide) (fun h8 => ?_) (fun h8 => ?_)
  · refine gx_lconst d_Law_input_15 (lN 0) rfl ?_
    refine gx_last d_Law_input_16 hO2 (by omega) (by omega) ?_
    refine gx_goto (tgt := 24) d_Law_input_17 (by decide) ?_
    refine gx_iconst d_Law_input_24 (nI 0) (by decide) ?_
    refine gx_ireturn rfl d_Law_input_25 ?_
    exact ⟨rfl, w2, hA, k2, by rw [h8]⟩
  · refine gx_lconst d_Law_input_11 (lN 1) rfl ?_
    refine gx_goto (tgt := 16) d_Law_input_12 (by decide) ?_
    refine gx_last d_Law_input_16 hO2 (by omega) (by omega) ?_
    refine gx_goto (tgt := 24) d_Law_input_17 (by decide) ?_
    refine gx_iconst d_Law_input_24 (nI 0) (by decide) ?_
    refine gx_ireturn rfl d_Law_input_25 ?_
    exact ⟨rfl, w2, hA, k2, by rw [show (op_input S n word).1 = 1 by omega]⟩
theorem ok_Law_way {w : gx_W} {B O : Nat} {f : Nat → Int64} {S : sp_St} (h : pcS w B S) (hS : sp_Sok S) (hO : w.1 O = some (gx_al8 5 1 f)) (hBO : B + 360 ≤ O) {k : Int32} (hH : sp_hal S = true) : gx_X (fun _ _ => True) M_Law_way 8 (gx_nt (gx_eq (some (.int (nI 0))) (gx_st w O (gx_al8 5 1 (vp_updL f 0 (sp_ask (sp_wyx S.1 S.2.1) k).toInt64))))) 0 [some (.ref B), some (.int k), some (.ref O), none] [] w (0 + 1, 0 + 6) := by
  refine gx_aload_n d_Law_way_0 rfl ?_
  refine gx_iconst d_Law_way_1 (nI 0) (by decide) ?_
  refine gx_aload_n d_Law_way_2 rfl ?_
  refine gx_iload_n d_Law_way_3 rfl ?_
  refine gx_cV1 lk_Law_22 d_Law_way_4 (ct_way h hS hH) (Or.inl ⟨_, h.1.1⟩) (by omega) rfl rfl (Nat.le_of_ble_eq_true rfl) ?_
  refine gx_i2l d_Law_way_7 ?_
  refine gx_last d_Law_way_8 hO (by omega) (by omega) ?_
  refine gx_goto (tgt := 15) d_Law_way_9 (by decide) ?_
  refine gx_iconst d_Law_way_15 (nI 0) (by decide) ?_
  refine gx_ireturn rfl d_Law_way_16 ?_
  exact ⟨rfl, rfl⟩
theorem ok_Law_layWay {w : gx_W} {B O : Nat} {f : Nat → Int64} {S : sp_St} (h : pcS w B S) (hS : sp_Sok S) (hO : w.1 O = some (gx_al8 5 1 f)) (hBO : B + 360 ≤ O) (hH : sp_hal S = true) : gx_X (fun _ _ => True) M_Law_layWay 8 (gx_nt (fun v w' => v = some (.int (nI 0)) ∧ ∃ w1, pcS w1 B (op_layWay S).2 ∧ gx_kp w w1 B (B + 360) ∧ w' = gx_st w1 O (gx_al8 5 1 (vp_updL f 0 (op_layWay S).1.toInt64)))) 0 [some (.ref B), some (.ref O), none] [] w (0 + 1, 0 + 6) := by
  refine gx_aload_n d_Law_layWay_0 rfl ?_
  refine gx_iconst d_Law_layWay_1 (nI 0) (by decide) ?_
  refine gx_aload_n d_Law_layWay_2 rfl ?_
  refine gx_cVr lk_Law_28 d_Law_layWay_3 (ct_layWay h hS hH) (Or.inl ⟨_, h.1.1⟩) (by omega) rfl rfl (Nat.le_of_ble_eq_true rfl) (fun r2 w2 hq => ?_)
  obtain ⟨rfl, hA, k2⟩ := hq
  have hO2 : w2.1 O = some (gx_al8 5 1 f) := by rw [k2.2 _ (by omega)]; exact hO
  refine gx_i2l d_Law_layWay_6 ?_
  refine gx_last d_Law_layWay_7 hO2 (by omega) (by omega) ?_
  refine gx_goto (tgt := 14) d_Law_layWay_8 (by decide) ?_
  refine gx_iconst d_Law_layWay_14 (nI 0) (by decide) ?_
  refine gx_ireturn rfl d_Law_layWay_15 ?_
  exact ⟨rfl, w2, hA, k2, rfl⟩
