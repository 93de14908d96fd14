/-! the reference: what it is asked, lay, layWay, clear -/
theorem gx_ic3 (i : Int32) : ¬ nI 4294967295 ≤ i ∨ i = nI 4294967295 ∨ ∃ j, j < 2 ^ 31 ∧ i = nI j := by
  have hm : (nI 4294967295).toInt = -1 := by decide
  have h1 := i.toInt_lt
  by_cases h0 : 0 ≤ i.toInt
  · refine Or.inr (Or.inr ⟨i.toInt.toNat, by omega, ?_⟩)
    apply Int32.toInt_inj.mp
    rw [nI_toInt (by omega)]
    omega
  · by_cases h : i.toInt = -1
    · exact Or.inr (Or.inl (Int32.toInt_inj.mp (by rw [h, hm])))
    · refine Or.inl (fun g => ?_)
      rw [Int32.le_iff_toInt_le, hm] at g
      omega
theorem ak_lo {l : List Nat} {i : Int32} (h : ¬ nI 4294967295 ≤ i) : sp_ask l i = -1 := by
  have hm : (nI 4294967295).toInt = -1 := by decide
  rw [Int32.le_iff_toInt_le, hm] at h
  refine sp_ask_lt (fun e => h ?_) ?_
  · rw [e]; decide
  · rw [Int32.lt_iff_toInt_lt]
    have : (0 : Int32).toInt = 0 := rfl
    omega
theorem ak_m1 {l : List Nat} : sp_ask l (nI 4294967295) = nI l.length := by rw [← gx_m1]; exact sp_ask_m1
theorem ak_hi {l : List Nat} {j : Nat} (h : l.length ≤ j) (hj : j < 2 ^ 31) : sp_ask l (nI j) = -1 := by
  refine sp_ask_ge (gx_nm1 hj) ?_
  rw [Int32.le_iff_toInt_le, nI_toInt hj, nI_toInt (by omega)]
  omega
theorem gx_m1lt : nI 4294967295 < (0 : Int32) := by decide
theorem gx_m1le : nI 4294967295 ≤ nI 4294967295 := by decide
theorem gx_m1n {j : Nat} (h : j < 2 ^ 31) : nI 4294967295 ≤ nI j := by
  rw [Int32.le_iff_toInt_le, nI_toInt h]
  have hm : (nI 4294967295).toInt = -1 := by decide
  omega
theorem mdl.rs {I : Nat → Nat} {A : Nat → Nat → Nat} {S : sp_St} (h : mdl I A S) (hS : sp_Sok S) : 0 < (sp_rsx S.1 S.2.1).length ∧ (sp_rsx S.1 S.2.1).length ≤ 13 ∧ ∀ i, i < (sp_rsx S.1 S.2.1).length → sp_ok ((sp_rsx S.1 S.2.1).getD i ([], 0, [])) ∧ sp_len ((sp_rsx S.1 S.2.1).getD i ([], 0, [])) ≤ 10 := by
  refine ⟨List.length_pos_iff.mpr (sp_run_ne _ _ _), sp_run_len S.1 12 (sp_c0 S.2.1), fun i hi => ?_⟩
  have h4 := hS.2.1.1
  exact sp_run_ok hS.1 12 (sp_c0 S.2.1) (sp_c0_k hS.2.1) (by rw [sp_c0_len]; omega) _ (gx_cmem hi)
theorem mdl.d {I : Nat → Nat} {A : Nat → Nat → Nat} {S : sp_St} (h : mdl I A S) : I 3 = (sp_dS S).length ∧ moDs A (sp_dS S) := h.1.2.2.2.1
theorem mdl.hal {w : gx_W} {m : Nat} {I : Nat → Nat} {A : Nat → Nat → Nat} {S : sp_St} (h : mdl I A S) (hS : sp_Sok S) : gx_Ct M_Mo_halted 3 0 0 [.ref m] (gx_mo w m I A) (gx_eq (some (.int (nI (sp_hal S).toNat))) (gx_mo w m I A)) := by
  obtain ⟨h1, h2, h3⟩ := h.rs hS
  exact cm_halted (k := (sp_rsx S.1 S.2.1).length - 1) (c := sp_lc S.1 S.2.1) (by omega) (h3 _ (by omega)).1 (Nat.le_trans (h3 _ (by omega)).2 (by decide)) (h.1.2.2.1.2 _ (by omega)) h.1.2.2.1.1
theorem sp_in_so {x : Int32} {n : Nat} (hn : n < 2 ^ 31) (h : ¬ x < 0) (h2 : ¬ nI (n - 1) < x) (h0 : 0 < n) : sp_in x n = true := sp_in_gt hn (by omega) h h2
theorem d_Mo_steps_0 : decode prog_11_method_14_code 0 = .ok (.aload_n 0, 1) := by decide +kernel
theorem d_Mo_steps_1 : decode prog_11_method_14_code 1 = .ok (.iconst 0, 1) := by decide +kernel
theorem d_Mo_steps_2 : decode prog_11_method_14_code 2 = .ok (.putfield 90, 3) := by decide +kernel
theorem d_Mo_steps_5 : decode prog_11_method_14_code 5 = .ok (.aload_n 0, 1) := by decide +kernel
theorem d_Mo_steps_6 : decode prog_11_method_14_code 6 = .ok (.getfield 110, 3) := by decide +kernel
theorem d_Mo_steps_9 : decode prog_11_method_14_code 9 = .ok (.ireturn, 1) := by decide +kernel
theorem cm_steps {w : gx_W} {m : Nat} {I : Nat → Nat} {A : Nat → Nat → Nat} {S : sp_St} (h : mdl I A S) (hS : sp_Sok S)  : gx_Ct M_Mo_steps 7 0 0 [.ref m] (gx_mo w m I A) (moQ w m (nI ((sp_rsx S.1 S.2.1).length - 1)) S 0) := by
  refine gx_ct (L := [some (.ref m)]) (by decide) (Nat.le_of_ble_eq_true rfl) rfl ?_
  refine gx_aload_n d_Mo_steps_0 rfl ?_
  refine gx_iconst d_Mo_steps_1 (nI 0) (by decide) ?_
  refine gx_put fp_Mo_90 (fun h => by cases h) d_Mo_steps_2 mo_o rfl rfl (Nat.le_of_ble_eq_true rfl) ?_
  refine gx_w mo_p0 ?_
  refine gx_aload_n d_Mo_steps_5 rfl ?_
  refine gx_get fl_Mo_110 d_Mo_steps_6 mo_o rfl ?_
  rw [ui_o (by decide), h.1.2.2.1.1]
  refine gx_ireturn rfl d_Mo_steps_9 ?_
  exact ⟨rfl, _, _, rfl, h.t, ui_s⟩
theorem d_Mo_halts_0 : decode prog_11_method_15_code 0 = .ok (.aload_n 0, 1) := by decide +kernel
theorem d_Mo_halts_1 : decode prog_11_method_15_code 1 = .ok (.iconst 0, 1) := by decide +kernel
theorem d_Mo_halts_2 : decode prog_11_method_15_code 2 = .ok (.putfield 90, 3) := by decide +kernel
theorem d_Mo_halts_5 : decode prog_11_method_15_code 5 = .ok (.aload_n 0, 1) := by decide +kernel
theorem d_Mo_halts_6 : decode prog_11_method_15_code 6 = .ok (.invokevirtual 122, 3) := by decide +kernel
theorem d_Mo_halts_9 : decode prog_11_method_15_code 9 = .ok (.ireturn, 1) := by decide +kernel
theorem cm_halts {w : gx_W} {m : Nat} {I : Nat → Nat} {A : Nat → Nat → Nat} {S : sp_St} (h : mdl I A S) (hS : sp_Sok S)  : gx_Ct M_Mo_halts 7 0 0 [.ref m] (gx_mo w m I A) (moQ w m (nI (sp_hal S).toNat) S 0) := by
  refine gx_ct (L := [some (.ref m)]) (by decide) (Nat.le_of_ble_eq_true rfl) rfl ?_
  refine gx_aload_n d_Mo_halts_0 rfl ?_
  refine gx_iconst d_Mo_halts_1 (nI 0) (by decide) ?_
  refine gx_put fp_Mo_90 (fun h => by cases h) d_Mo_halts_2 mo_o rfl rfl (Nat.le_of_ble_eq_true rfl) ?_
  refine gx_w mo_p0 ?_
  refine gx_aload_n d_Mo_halts_5 rfl ?_
  refine gx_cV1 lk_Mo_122 d_Mo_halts_6 (h.t.hal hS) (Or.inl ⟨_, mo_o⟩) (by omega) rfl rfl (Nat.le_of_ble_eq_true rfl) ?_
  refine gx_zreturn rfl (by cases sp_hal S <;> decide) d_Mo_halts_9 ?_
  exact ⟨rfl, _, _, rfl, h.t, ui_s⟩
theorem d_Mo_dominoes_0 : decode prog_11_method_22_code 0 = .ok (.aload_n 0, 1) := by decide +kernel
theorem d_Mo_dominoes_1 : decode prog_11_method_22_code 1 = .ok (.iconst 0, 1) := by decide +kernel
theorem d_Mo_dominoes_2 : decode prog_11_method_22_code 2 = .ok (.putfield 90, 3) := by decide +kernel
theorem d_Mo_dominoes_5 : decode prog_11_method_22_code 5 = .ok (.aload_n 0, 1) := by decide +kernel
theorem d_Mo_dominoes_6 : decode prog_11_method_22_code 6 = .ok (.getfield 139, 3) := by decide +kernel
theorem d_Mo_dominoes_9 : decode prog_11_method_22_code 9 = .ok (.ireturn, 1) := by decide +kernel
theorem cm_dominoes {w : gx_W} {m : Nat} {I : Nat → Nat} {A : Nat → Nat → Nat} {S : sp_St} (h : mdl I A S) (hS : sp_Sok S)  : gx_Ct M_Mo_dominoes 7 0 0 [.ref m] (gx_mo w m I A) (moQ w m (nI (sp_dS S).length) S 0) := by
  refine gx_ct (L := [some (.ref m)]) (by decide) (Nat.le_of_ble_eq_true rfl) rfl ?_
  refine gx_aload_n d_Mo_dominoes_0 rfl ?_
  refine gx_iconst d_Mo_dominoes_1 (nI 0) (by decide) ?_
  refine gx_put fp_Mo_90 (fun h => by cases h) d_Mo_dominoes_2 mo_o rfl rfl (Nat.le_of_ble_eq_true rfl) ?_
  refine gx_w mo_p0 ?_
  refine gx_aload_n d_Mo_dominoes_5 rfl ?_
  refine gx_get fl_Mo_139 d_Mo_dominoes_6 mo_o rfl ?_
  rw [ui_o (by decide), h.d.1]
  refine gx_ireturn rfl d_Mo_dominoes_9 ?_
  exact ⟨rfl, _, _, rfl, h.t, ui_s⟩
theorem d_Mo_looked_0 : decode prog_11_method_41_code 0 = .ok (.aload_n 0, 1) := by decide +kernel
theorem d_Mo_looked_1 : decode prog_11_method_41_code 1 = .ok (.iconst 0, 1) := by decide +kernel
theorem d_Mo_looked_2 : decode prog_11_method_41_code 2 = .ok (.putfield 90, 3) := by decide +kernel
theorem d_Mo_looked_5 : decode prog_11_method_41_code 5 = .ok (.aload_n 0, 1) := by decide +kernel
theorem d_Mo_looked_6 : decode prog_11_method_41_code 6 = .ok (.getfield 59, 3) := by decide +kernel
theorem d_Mo_looked_9 : decode prog_11_method_41_code 9 = .ok (.ireturn, 1) := by decide +kernel
theorem cm_looked {w : gx_W} {m : Nat} {I : Nat → Nat} {A : Nat → Nat → Nat} {S : sp_St} (h : mdl I A S) (hS : sp_Sok S)  : gx_Ct M_Mo_looked 7 0 0 [.ref m] (gx_mo w m I A) (moQ w m S.2.2.2.2 S 0) := by
  refine gx_ct (L := [some (.ref m)]) (by decide) (Nat.le_of_ble_eq_true rfl) rfl ?_
  refine gx_aload_n d_Mo_looked_0 rfl ?_
  refine gx_iconst d_Mo_looked_1 (nI 0) (by decide) ?_
  refine gx_put fp_Mo_90 (fun h => by cases h) d_Mo_looked_2 mo_o rfl rfl (Nat.le_of_ble_eq_true rfl) ?_
  refine gx_w mo_p0 ?_
  refine gx_aload_n d_Mo_looked_5 rfl ?_
  refine gx_get fl_Mo_59 d_Mo_looked_6 mo_o rfl ?_
  rw [ui_o (by decide), h.2.2.2]
  refine gx_ireturn rfl d_Mo_looked_9 ?_
  exact ⟨rfl, _, _, rfl, h.t, ui_s⟩
theorem d_Mo_thrown_0 : decode prog_11_method_2_code 0 = .ok (.aload_n 0, 1) := by decide +kernel
theorem d_Mo_thrown_1 : decode prog_11_method_2_code 1 = .ok (.getfield 90, 3) := by decide +kernel
theorem d_Mo_thrown_4 : decode prog_11_method_2_code 4 = .ok (.ireturn, 1) := by decide +kernel
theorem cm_thrown {w : gx_W} {m : Nat} {I : Nat → Nat} {A : Nat → Nat → Nat}  : gx_Ct M_Mo_thrown 7 0 0 [.ref m] (gx_mo w m I A) (gx_eq (some (.int (nI (I 0)))) (gx_mo w m I A)) := by
  refine gx_ct (L := [some (.ref m)]) (by decide) (Nat.le_of_ble_eq_true rfl) rfl ?_
  refine gx_aload_n d_Mo_thrown_0 rfl ?_
  refine gx_get fl_Mo_90 d_Mo_thrown_1 mo_o rfl ?_
  refine gx_ireturn rfl d_Mo_thrown_4 ?_
  exact ⟨rfl, rfl⟩
theorem d_Mo_clear_0 : decode prog_11_method_31_code 0 = .ok (.aload_n 0, 1) := by decide +kernel
theorem d_Mo_clear_1 : decode prog_11_method_31_code 1 = .ok (.iconst 0, 1) := by decide +kernel
theorem d_Mo_clear_2 : decode prog_11_method_31_code 2 = .ok (.putfield 90, 3) := by decide +kernel
theorem d_Mo_clear_5 : decode prog_11_method_31_code 5 = .ok (.aload_n 0, 1) := by decide +kernel
theorem d_Mo_clear_6 : decode prog_11_method_31_code 6 = .ok (.iconst 0, 1) := by decide +kernel
theorem d_Mo_clear_7 : decode prog_11_method_31_code 7 = .ok (.putfield 129, 3) := by decide +kernel
theorem d_Mo_clear_10 : decode prog_11_method_31_code 10 = .ok (.aload_n 0, 1) := by decide +kernel
theorem d_Mo_clear_11 : decode prog_11_method_31_code 11 = .ok (.iconst 0, 1) := by decide +kernel
theorem d_Mo_clear_12 : decode prog_11_method_31_code 12 = .ok (.putfield 132, 3) := by decide +kernel
theorem d_Mo_clear_15 : decode prog_11_method_31_code 15 = .ok (.return_, 1) := by decide +kernel
theorem cm_clear {w : gx_W} {m : Nat} {I : Nat → Nat} {A : Nat → Nat → Nat} {S : sp_St} (h : mdl I A S) (hS : sp_Sok S)  : gx_Ct M_Mo_clear 7 0 0 [.ref m] (gx_mo w m I A) (fun r w' => r = none ∧ ∃ I' A', w' = gx_mo w m I' A' ∧ mdl I' A' (S.1, S.2.1, [], [], S.2.2.2.2) ∧ I' 0 = 0) := by
  refine gx_ct (L := [some (.ref m)]) (by decide) (Nat.le_of_ble_eq_true rfl) rfl ?_
  refine gx_aload_n d_Mo_clear_0 rfl ?_
  refine gx_iconst d_Mo_clear_1 (nI 0) (by decide) ?_
  refine gx_put fp_Mo_90 (fun h => by cases h) d_Mo_clear_2 mo_o rfl rfl (Nat.le_of_ble_eq_true rfl) ?_
  refine gx_w mo_p0 ?_
  refine gx_aload_n d_Mo_clear_5 rfl ?_
  refine gx_iconst d_Mo_clear_6 (nI 0) (by decide) ?_
  refine gx_put fp_Mo_129 (fun h => by cases h) d_Mo_clear_7 mo_o rfl rfl (Nat.le_of_ble_eq_true rfl) ?_
  refine gx_w mo_p5 ?_
  refine gx_aload_n d_Mo_clear_10 rfl ?_
  refine gx_iconst d_Mo_clear_11 (nI 0) (by decide) ?_
  refine gx_put fp_Mo_132 (fun h => by cases h) d_Mo_clear_12 mo_o rfl rfl (Nat.le_of_ble_eq_true rfl) ?_
  refine gx_w mo_p6 ?_
  refine gx_return rfl d_Mo_clear_15 ?_
  refine ⟨rfl, _, _, rfl, ⟨?_, ⟨by rw [ui_o (by decide), ui_s]; rfl, fun i hi => absurd hi (Nat.not_lt_zero _)⟩, ⟨by rw [ui_s]; rfl, fun i hi => absurd hi (Nat.not_lt_zero _)⟩, ?_⟩, ?_⟩
  · have h1 := h.1
    unfold mdC at h1 ⊢
    rw [ui_o (by decide), ui_o (by decide), ui_o (by decide), ui_o (by decide), ui_o (by decide), ui_o (by decide), ui_o (by decide), ui_o (by decide), ui_o (by decide), ui_o (by decide), ui_o (by decide), ui_o (by decide)]
    exact h1
  · rw [ui_o (by decide), ui_o (by decide), ui_o (by decide)]; exact h.2.2.2
  · rw [ui_o (by decide), ui_o (by decide), ui_s]
theorem d_Mo_run_0 : decode prog_11_method_16_code 0 = .ok (.aload_n 0, 1) := by decide +kernel
theorem d_Mo_run_1 : decode prog_11_method_16_code 1 = .ok (.iconst 0, 1) := by decide +kernel
theorem d_Mo_run_2 : decode prog_11_method_16_code 2 = .ok (.putfield 90, 3) := by decide +kernel
theorem d_Mo_run_5 : decode prog_11_method_16_code 5 = .ok (.iload_n 1, 1) := by decide +kernel
theorem d_Mo_run_6 : decode prog_11_method_16_code 6 = .ok (.ifCond .lt 16, 3) := by decide +kernel
theorem d_Mo_run_9 : decode prog_11_method_16_code 9 = .ok (.iload_n 1, 1) := by decide +kernel
theorem d_Mo_run_10 : decode prog_11_method_16_code 10 = .ok (.aload_n 0, 1) := by decide +kernel
theorem d_Mo_run_11 : decode prog_11_method_16_code 11 = .ok (.getfield 110, 3) := by decide +kernel
theorem d_Mo_run_14 : decode prog_11_method_16_code 14 = .ok (.if_icmp .gt 8, 3) := by decide +kernel
theorem d_Mo_run_17 : decode prog_11_method_16_code 17 = .ok (.iload_n 2, 1) := by decide +kernel
theorem d_Mo_run_18 : decode prog_11_method_16_code 18 = .ok (.iconst (-1), 1) := by decide +kernel
theorem d_Mo_run_19 : decode prog_11_method_16_code 19 = .ok (.if_icmp .ge 5, 3) := by decide +kernel
theorem d_Mo_run_22 : decode prog_11_method_16_code 22 = .ok (.iconst (-1), 1) := by decide +kernel
theorem d_Mo_run_23 : decode prog_11_method_16_code 23 = .ok (.ireturn, 1) := by decide +kernel
theorem d_Mo_run_24 : decode prog_11_method_16_code 24 = .ok (.iload_n 2, 1) := by decide +kernel
theorem d_Mo_run_25 : decode prog_11_method_16_code 25 = .ok (.ifCond .ge 12, 3) := by decide +kernel
theorem d_Mo_run_28 : decode prog_11_method_16_code 28 = .ok (.aload_n 0, 1) := by decide +kernel
theorem d_Mo_run_29 : decode prog_11_method_16_code 29 = .ok (.getfield 26, 3) := by decide +kernel
theorem d_Mo_run_32 : decode prog_11_method_16_code 32 = .ok (.iload_n 1, 1) := by decide +kernel
theorem d_Mo_run_33 : decode prog_11_method_16_code 33 = .ok (.iaload, 1) := by decide +kernel
theorem d_Mo_run_34 : decode prog_11_method_16_code 34 = .ok (.goto 28, 3) := by decide +kernel
theorem d_Mo_run_37 : decode prog_11_method_16_code 37 = .ok (.iload_n 2, 1) := by decide +kernel
theorem d_Mo_run_38 : decode prog_11_method_16_code 38 = .ok (.aload_n 0, 1) := by decide +kernel
theorem d_Mo_run_39 : decode prog_11_method_16_code 39 = .ok (.getfield 26, 3) := by decide +kernel
theorem d_Mo_run_42 : decode prog_11_method_16_code 42 = .ok (.iload_n 1, 1) := by decide +kernel
theorem d_Mo_run_43 : decode prog_11_method_16_code 43 = .ok (.iaload, 1) := by decide +kernel
theorem d_Mo_run_44 : decode prog_11_method_16_code 44 = .ok (.if_icmp .ge 17, 3) := by decide +kernel
theorem d_Mo_run_47 : decode prog_11_method_16_code 47 = .ok (.aload_n 0, 1) := by decide +kernel
theorem d_Mo_run_48 : decode prog_11_method_16_code 48 = .ok (.getfield 29, 3) := by decide +kernel
theorem d_Mo_run_51 : decode prog_11_method_16_code 51 = .ok (.bipush 12, 2) := by decide +kernel
theorem d_Mo_run_53 : decode prog_11_method_16_code 53 = .ok (.iload_n 1, 1) := by decide +kernel
theorem d_Mo_run_54 : decode prog_11_method_16_code 54 = .ok (.imul, 1) := by decide +kernel
theorem d_Mo_run_55 : decode prog_11_method_16_code 55 = .ok (.iload_n 2, 1) := by decide +kernel
theorem d_Mo_run_56 : decode prog_11_method_16_code 56 = .ok (.iadd, 1) := by decide +kernel
theorem d_Mo_run_57 : decode prog_11_method_16_code 57 = .ok (.iaload, 1) := by decide +kernel
theorem d_Mo_run_58 : decode prog_11_method_16_code 58 = .ok (.goto 4, 3) := by decide +kernel
theorem d_Mo_run_61 : decode prog_11_method_16_code 61 = .ok (.iconst (-1), 1) := by decide +kernel
theorem d_Mo_run_62 : decode prog_11_method_16_code 62 = .ok (.ireturn, 1) := by decide +kernel
theorem bm_run {w : gx_W} {m : Nat} {I : Nat → Nat} {A : Nat → Nat → Nat} {S : sp_St} (h : mdl I A S) (hS : sp_Sok S) {k i : Int32} (hbad : ¬ (sp_in k (sp_rsx S.1 S.2.1).length = true ∧ nI 4294967295 ≤ i)) : gx_Ct M_Mo_run 7 0 0 [.ref m, .int k, .int i] (gx_mo w m I A) (gx_eq (some (.int (nI 4294967295))) (gx_mo w m (sp_u I 0 0) A)) := by
  refine gx_ct (L := [some (.ref m), some (.int k), some (.int i)]) (by decide) (Nat.le_of_ble_eq_true rfl) rfl ?_
  obtain ⟨hr0, hr13, hrk⟩ := h.rs hS
  refine gx_aload_n d_Mo_run_0 rfl ?_
  refine gx_iconst d_Mo_run_1 (nI 0) (by decide) ?_
  refine gx_put fp_Mo_90 (fun h => by cases h) d_Mo_run_2 mo_o rfl rfl (Nat.le_of_ble_eq_true rfl) ?_
  refine gx_w mo_p0 ?_
  refine gx_iload_n d_Mo_run_5 rfl ?_
  refine gx_if_lt (tgt := 22) d_Mo_run_6 (by decide) (fun h6 => ?_) (fun h6 => ?_)
  · refine gx_iconst d_Mo_run_22 (nI 4294967295) (by decide) ?_
    refine gx_ireturn rfl d_Mo_run_23 ?_
    exact ⟨rfl, rfl⟩
  · refine gx_iload_n d_Mo_run_9 rfl ?_
    refine gx_aload_n d_Mo_run_10 rfl ?_
    refine gx_get fl_Mo_110 d_Mo_run_11 mo_o rfl ?_
    rw [ui_o (by decide), h.1.2.2.1.1]
    refine gx_icmp_gt (tgt := 22) d_Mo_run_14 (by decide) (fun h14 => ?_) (fun h14 => ?_)
    · refine gx_iconst d_Mo_run_22 (nI 4294967295) (by decide) ?_
      refine gx_ireturn rfl d_Mo_run_23 ?_
      exact ⟨rfl, rfl⟩
    · refine gx_iload_n d_Mo_run_17 rfl ?_
      refine gx_iconst d_Mo_run_18 (nI 4294967295) (by decide) ?_
      refine gx_icmp_ge (tgt := 24) d_Mo_run_19 (by decide) (fun h19 => ?_) (fun h19 => ?_)
      · exact absurd ⟨sp_in_so (by omega) h6 h14 hr0, h19⟩ hbad
      · refine gx_iconst d_Mo_run_22 (nI 4294967295) (by decide) ?_
        refine gx_ireturn rfl d_Mo_run_23 ?_
        exact ⟨rfl, rfl⟩
theorem cm_run1 {w : gx_W} {m : Nat} {I : Nat → Nat} {A : Nat → Nat → Nat} {S : sp_St} (h : mdl I A S) (hS : sp_Sok S) {k : Nat} (hk : k < (sp_rsx S.1 S.2.1).length) : gx_Ct M_Mo_run 7 0 0 [.ref m, .int (nI k), .int (nI 4294967295)] (gx_mo w m I A) (gx_eq (some (.int (nI (sp_txt ((sp_rsx S.1 S.2.1).getD k ([], 0, []))).length))) (gx_mo w m (sp_u I 0 0) A)) := by
  refine gx_ct (L := [some (.ref m), some (.int (nI k)), some (.int (nI 4294967295))]) (by decide) (Nat.le_of_ble_eq_true rfl) rfl ?_
  obtain ⟨hr0, hr13, hrk⟩ := h.rs hS
  have hT := h.1.2.2.1.2 k hk
  refine gx_aload_n d_Mo_run_0 rfl ?_
  refine gx_iconst d_Mo_run_1 (nI 0) (by decide) ?_
  refine gx_put fp_Mo_90 (fun h => by cases h) d_Mo_run_2 mo_o rfl rfl (Nat.le_of_ble_eq_true rfl) ?_
  refine gx_w mo_p0 ?_
  refine gx_iload_n d_Mo_run_5 rfl ?_
  refine gx_if_ltN (by omega) (tgt := 22) d_Mo_run_6 (by decide) ?_
  refine gx_iload_n d_Mo_run_9 rfl ?_
  refine gx_aload_n d_Mo_run_10 rfl ?_
  refine gx_get fl_Mo_110 d_Mo_run_11 mo_o rfl ?_
  rw [ui_o (by decide), h.1.2.2.1.1]
  refine gx_icmp_gtN (by omega) (by omega) (tgt := 22) d_Mo_run_14 (by decide) (fun h14 => ?_) (fun h14 => ?_)
  · exact absurd h14 (by omega)
  · refine gx_iload_n d_Mo_run_17 rfl ?_
    refine gx_iconst d_Mo_run_18 (nI 4294967295) (by decide) ?_
    refine gx_icmp_ge (tgt := 24) d_Mo_run_19 (by decide) (fun h19 => ?_) (fun h19 => ?_)
    · refine gx_iload_n d_Mo_run_24 rfl ?_
      refine gx_if_ge (tgt := 37) d_Mo_run_25 (by decide) (fun h25 => ?_) (fun h25 => ?_)
      · exact absurd gx_m1lt (gx_n0 h25)
      · refine gx_aload_n d_Mo_run_28 rfl ?_
        refine gx_get fl_Mo_26 d_Mo_run_29 mo_o rfl ?_
        refine gx_iload_n d_Mo_run_32 rfl ?_
        refine gx_iald d_Mo_run_33 mo_6 (by omega) (by omega) ?_
        rw [hT.1, ← sp_txt_len]
        refine gx_goto (tgt := 62) d_Mo_run_34 (by decide) ?_
        refine gx_ireturn rfl d_Mo_run_62 ?_
        exact ⟨rfl, rfl⟩
    · exact absurd gx_m1le h19
theorem cm_run2 {w : gx_W} {m : Nat} {I : Nat → Nat} {A : Nat → Nat → Nat} {S : sp_St} (h : mdl I A S) (hS : sp_Sok S) {k i : Nat} (hk : k < (sp_rsx S.1 S.2.1).length) (hi : i < 2 ^ 31) : gx_Ct M_Mo_run 7 0 0 [.ref m, .int (nI k), .int (nI i)] (gx_mo w m I A) (gx_eq (some (.int (sp_ask (sp_txt ((sp_rsx S.1 S.2.1).getD k ([], 0, []))) (nI i)))) (gx_mo w m (sp_u I 0 0) A)) := by
  refine gx_ct (L := [some (.ref m), some (.int (nI k)), some (.int (nI i))]) (by decide) (Nat.le_of_ble_eq_true rfl) rfl ?_
  obtain ⟨hr0, hr13, hrk⟩ := h.rs hS
  have hT := h.1.2.2.1.2 k hk
  have hl10 := (hrk k hk).2
  have hsz := sp_txt_len ((sp_rsx S.1 S.2.1).getD k ([], 0, []))
  refine gx_aload_n d_Mo_run_0 rfl ?_
  refine gx_iconst d_Mo_run_1 (nI 0) (by decide) ?_
  refine gx_put fp_Mo_90 (fun h => by cases h) d_Mo_run_2 mo_o rfl rfl (Nat.le_of_ble_eq_true rfl) ?_
  refine gx_w mo_p0 ?_
  refine gx_iload_n d_Mo_run_5 rfl ?_
  refine gx_if_ltN (by omega) (tgt := 22) d_Mo_run_6 (by decide) ?_
  refine gx_iload_n d_Mo_run_9 rfl ?_
  refine gx_aload_n d_Mo_run_10 rfl ?_
  refine gx_get fl_Mo_110 d_Mo_run_11 mo_o rfl ?_
  rw [ui_o (by decide), h.1.2.2.1.1]
  refine gx_icmp_gtN (by omega) (by omega) (tgt := 22) d_Mo_run_14 (by decide) (fun h14 => ?_) (fun h14 => ?_)
  · exact absurd h14 (by omega)
  · refine gx_iload_n d_Mo_run_17 rfl ?_
    refine gx_iconst d_Mo_run_18 (nI 4294967295) (by decide) ?_
    refine gx_icmp_ge (tgt := 24) d_Mo_run_19 (by decide) (fun h19 => ?_) (fun h19 => ?_)
    · refine gx_iload_n d_Mo_run_24 rfl ?_
      refine gx_if_geN (by omega) (tgt := 37) d_Mo_run_25 (by decide) ?_
      refine gx_iload_n d_Mo_run_37 rfl ?_
      refine gx_aload_n d_Mo_run_38 rfl ?_
      refine gx_get fl_Mo_26 d_Mo_run_39 mo_o rfl ?_
      refine gx_iload_n d_Mo_run_42 rfl ?_
      refine gx_iald d_Mo_run_43 mo_6 (by omega) (by omega) ?_
      rw [hT.1]
      refine gx_icmp_geN (by omega) (by omega) (tgt := 61) d_Mo_run_44 (by decide) (fun h44 => ?_) (fun h44 => ?_)
      · refine gx_iconst d_Mo_run_61 (nI 4294967295) (by decide) ?_
        refine gx_ireturn rfl d_Mo_run_62 ?_
        rw [ak_hi (by omega) hi]
        exact ⟨congrArg (fun x => some (Value.int x)) gx_m1.symm, rfl⟩
      · refine gx_aload_n d_Mo_run_47 rfl ?_
        refine gx_get fl_Mo_29 d_Mo_run_48 mo_o rfl ?_
        refine gx_bipush d_Mo_run_51 (nI 12) (by decide) ?_
        refine gx_iload_n d_Mo_run_53 rfl ?_
        refine gx_imulN d_Mo_run_54 ?_
        refine gx_iload_n d_Mo_run_55 rfl ?_
        refine gx_iaddN d_Mo_run_56 ?_
        refine gx_iald d_Mo_run_57 mo_7 (by omega) (by omega) ?_
        rw [hT.2 i (by omega)]
        refine gx_goto (tgt := 62) d_Mo_run_58 (by decide) ?_
        refine gx_ireturn rfl d_Mo_run_62 ?_
        rw [sp_ask_in (by omega) (by omega)]
        exact ⟨rfl, rfl⟩
    · exact absurd (gx_m1n hi) h19
theorem cm_run {w : gx_W} {m : Nat} {I : Nat → Nat} {A : Nat → Nat → Nat} {S : sp_St} (h : mdl I A S) (hS : sp_Sok S) {k i : Int32} : gx_Ct M_Mo_run 7 0 0 [.ref m, .int k, .int i] (gx_mo w m I A) (gx_eq (some (.int (sp_runv (sp_rsx S.1 S.2.1) k i))) (gx_mo w m (sp_u I 0 0) A)) := by
  obtain ⟨hr0, hr13, hrk⟩ := h.rs hS
  by_cases hbad : sp_in k (sp_rsx S.1 S.2.1).length = true ∧ nI 4294967295 ≤ i
  · obtain ⟨kk, hk, rfl⟩ := sp_in_ex (by omega) hbad.1
    have e : sp_runv (sp_rsx S.1 S.2.1) (nI kk) i = sp_ask (sp_txt ((sp_rsx S.1 S.2.1).getD kk ([], 0, []))) i := by unfold sp_runv; rw [if_pos hbad.1, gx_clz (by omega)]
    rw [e]
    rcases gx_ic3 i with g | rfl | ⟨j, hj, rfl⟩
    · exact absurd hbad.2 g
    · rw [ak_m1]; exact cm_run1 h hS hk
    · exact cm_run2 h hS hk hj
  · have e : sp_runv (sp_rsx S.1 S.2.1) k i = nI 4294967295 := by
      rw [← gx_m1]
      unfold sp_runv
      by_cases g : sp_in k (sp_rsx S.1 S.2.1).length = true
      · rw [if_pos g]; exact ak_lo (fun g2 => hbad ⟨g, g2⟩)
      · rw [if_neg g]
    rw [e]; exact bm_run h hS hbad
theorem d_Mo_domino_0 : decode prog_11_method_23_code 0 = .ok (.aload_n 0, 1) := by decide +kernel
theorem d_Mo_domino_1 : decode prog_11_method_23_code 1 = .ok (.iconst 0, 1) := by decide +kernel
theorem d_Mo_domino_2 : decode prog_11_method_23_code 2 = .ok (.putfield 90, 3) := by decide +kernel
theorem d_Mo_domino_5 : decode prog_11_method_23_code 5 = .ok (.iload_n 1, 1) := by decide +kernel
theorem d_Mo_domino_6 : decode prog_11_method_23_code 6 = .ok (.ifCond .lt 16, 3) := by decide +kernel
theorem d_Mo_domino_9 : decode prog_11_method_23_code 9 = .ok (.iload_n 1, 1) := by decide +kernel
theorem d_Mo_domino_10 : decode prog_11_method_23_code 10 = .ok (.aload_n 0, 1) := by decide +kernel
theorem d_Mo_domino_11 : decode prog_11_method_23_code 11 = .ok (.getfield 139, 3) := by decide +kernel
theorem d_Mo_domino_14 : decode prog_11_method_23_code 14 = .ok (.if_icmp .ge 8, 3) := by decide +kernel
theorem d_Mo_domino_17 : decode prog_11_method_23_code 17 = .ok (.iload_n 3, 1) := by decide +kernel
theorem d_Mo_domino_18 : decode prog_11_method_23_code 18 = .ok (.iconst (-1), 1) := by decide +kernel
theorem d_Mo_domino_19 : decode prog_11_method_23_code 19 = .ok (.if_icmp .ge 5, 3) := by decide +kernel
theorem d_Mo_domino_22 : decode prog_11_method_23_code 22 = .ok (.iconst (-1), 1) := by decide +kernel
theorem d_Mo_domino_23 : decode prog_11_method_23_code 23 = .ok (.ireturn, 1) := by decide +kernel
theorem d_Mo_domino_24 : decode prog_11_method_23_code 24 = .ok (.iload_n 2, 1) := by decide +kernel
theorem d_Mo_domino_25 : decode prog_11_method_23_code 25 = .ok (.ifCond .eq 12, 3) := by decide +kernel
theorem d_Mo_domino_28 : decode prog_11_method_23_code 28 = .ok (.aload_n 0, 1) := by decide +kernel
theorem d_Mo_domino_29 : decode prog_11_method_23_code 29 = .ok (.getfield 32, 3) := by decide +kernel
theorem d_Mo_domino_32 : decode prog_11_method_23_code 32 = .ok (.iload_n 1, 1) := by decide +kernel
theorem d_Mo_domino_33 : decode prog_11_method_23_code 33 = .ok (.iaload, 1) := by decide +kernel
theorem d_Mo_domino_34 : decode prog_11_method_23_code 34 = .ok (.goto 9, 3) := by decide +kernel
theorem d_Mo_domino_37 : decode prog_11_method_23_code 37 = .ok (.aload_n 0, 1) := by decide +kernel
theorem d_Mo_domino_38 : decode prog_11_method_23_code 38 = .ok (.getfield 38, 3) := by decide +kernel
theorem d_Mo_domino_41 : decode prog_11_method_23_code 41 = .ok (.iload_n 1, 1) := by decide +kernel
theorem d_Mo_domino_42 : decode prog_11_method_23_code 42 = .ok (.iaload, 1) := by decide +kernel
theorem d_Mo_domino_43 : decode prog_11_method_23_code 43 = .ok (.istore 4, 2) := by decide +kernel
theorem d_Mo_domino_45 : decode prog_11_method_23_code 45 = .ok (.iload_n 3, 1) := by decide +kernel
theorem d_Mo_domino_46 : decode prog_11_method_23_code 46 = .ok (.ifCond .ge 8, 3) := by decide +kernel
theorem d_Mo_domino_49 : decode prog_11_method_23_code 49 = .ok (.iload 4, 2) := by decide +kernel
theorem d_Mo_domino_51 : decode prog_11_method_23_code 51 = .ok (.goto 41, 3) := by decide +kernel
theorem d_Mo_domino_54 : decode prog_11_method_23_code 54 = .ok (.iload_n 3, 1) := by decide +kernel
theorem d_Mo_domino_55 : decode prog_11_method_23_code 55 = .ok (.iload 4, 2) := by decide +kernel
theorem d_Mo_domino_57 : decode prog_11_method_23_code 57 = .ok (.if_icmp .lt 7, 3) := by decide +kernel
theorem d_Mo_domino_60 : decode prog_11_method_23_code 60 = .ok (.iconst (-1), 1) := by decide +kernel
theorem d_Mo_domino_61 : decode prog_11_method_23_code 61 = .ok (.goto 31, 3) := by decide +kernel
theorem d_Mo_domino_64 : decode prog_11_method_23_code 64 = .ok (.iload_n 2, 1) := by decide +kernel
theorem d_Mo_domino_65 : decode prog_11_method_23_code 65 = .ok (.ifCond .eq 16, 3) := by decide +kernel
theorem d_Mo_domino_68 : decode prog_11_method_23_code 68 = .ok (.aload_n 0, 1) := by decide +kernel
theorem d_Mo_domino_69 : decode prog_11_method_23_code 69 = .ok (.getfield 35, 3) := by decide +kernel
theorem d_Mo_domino_72 : decode prog_11_method_23_code 72 = .ok (.iconst 4, 1) := by decide +kernel
theorem d_Mo_domino_73 : decode prog_11_method_23_code 73 = .ok (.iload_n 1, 1) := by decide +kernel
theorem d_Mo_domino_74 : decode prog_11_method_23_code 74 = .ok (.imul, 1) := by decide +kernel
theorem d_Mo_domino_75 : decode prog_11_method_23_code 75 = .ok (.iload_n 3, 1) := by decide +kernel
theorem d_Mo_domino_76 : decode prog_11_method_23_code 76 = .ok (.iadd, 1) := by decide +kernel
theorem d_Mo_domino_77 : decode prog_11_method_23_code 77 = .ok (.iaload, 1) := by decide +kernel
theorem d_Mo_domino_78 : decode prog_11_method_23_code 78 = .ok (.goto 14, 3) := by decide +kernel
theorem d_Mo_domino_81 : decode prog_11_method_23_code 81 = .ok (.aload_n 0, 1) := by decide +kernel
theorem d_Mo_domino_82 : decode prog_11_method_23_code 82 = .ok (.getfield 41, 3) := by decide +kernel
theorem d_Mo_domino_85 : decode prog_11_method_23_code 85 = .ok (.bipush 8, 2) := by decide +kernel
theorem d_Mo_domino_87 : decode prog_11_method_23_code 87 = .ok (.iload_n 1, 1) := by decide +kernel
theorem d_Mo_domino_88 : decode prog_11_method_23_code 88 = .ok (.imul, 1) := by decide +kernel
theorem d_Mo_domino_89 : decode prog_11_method_23_code 89 = .ok (.iload_n 3, 1) := by decide +kernel
theorem d_Mo_domino_90 : decode prog_11_method_23_code 90 = .ok (.iadd, 1) := by decide +kernel
theorem d_Mo_domino_91 : decode prog_11_method_23_code 91 = .ok (.iaload, 1) := by decide +kernel
theorem d_Mo_domino_92 : decode prog_11_method_23_code 92 = .ok (.ireturn, 1) := by decide +kernel
theorem bm_domino {w : gx_W} {m : Nat} {I : Nat → Nat} {A : Nat → Nat → Nat} {S : sp_St} (h : mdl I A S) (hS : sp_Sok S) {k i p : Int32} (hbad : ¬ (sp_in k (sp_dS S).length = true ∧ nI 4294967295 ≤ i)) : gx_Ct M_Mo_domino 7 0 0 [.ref m, .int k, .int p, .int i] (gx_mo w m I A) (gx_eq (some (.int (nI 4294967295))) (gx_mo w m (sp_u I 0 0) A)) := by
  refine gx_ct (L := [some (.ref m), some (.int k), some (.int p), some (.int i), none]) (by decide) (Nat.le_of_ble_eq_true rfl) rfl ?_
  have hdl : 12 ≤ (sp_dS S).length ∧ (sp_dS S).length ≤ 60 := sp_dsx_len S.1 S.2.1
  refine gx_aload_n d_Mo_domino_0 rfl ?_
  refine gx_iconst d_Mo_domino_1 (nI 0) (by decide) ?_
  refine gx_put fp_Mo_90 (fun h => by cases h) d_Mo_domino_2 mo_o rfl rfl (Nat.le_of_ble_eq_true rfl) ?_
  refine gx_w mo_p0 ?_
  refine gx_iload_n d_Mo_domino_5 rfl ?_
  refine gx_if_lt (tgt := 22) d_Mo_domino_6 (by decide) (fun h6 => ?_) (fun h6 => ?_)
  · refine gx_iconst d_Mo_domino_22 (nI 4294967295) (by decide) ?_
    refine gx_ireturn rfl d_Mo_domino_23 ?_
    exact ⟨rfl, rfl⟩
  · refine gx_iload_n d_Mo_domino_9 rfl ?_
    refine gx_aload_n d_Mo_domino_10 rfl ?_
    refine gx_get fl_Mo_139 d_Mo_domino_11 mo_o rfl ?_
    rw [ui_o (by decide), h.d.1]
    refine gx_icmp_ge (tgt := 22) d_Mo_domino_14 (by decide) (fun h14 => ?_) (fun h14 => ?_)
    · refine gx_iconst d_Mo_domino_22 (nI 4294967295) (by decide) ?_
      refine gx_ireturn rfl d_Mo_domino_23 ?_
      exact ⟨rfl, rfl⟩
    · refine gx_iload_n d_Mo_domino_17 rfl ?_
      refine gx_iconst d_Mo_domino_18 (nI 4294967295) (by decide) ?_
      refine gx_icmp_ge (tgt := 24) d_Mo_domino_19 (by decide) (fun h19 => ?_) (fun h19 => ?_)
      · exact absurd ⟨sp_in_t h6 h14, h19⟩ hbad
      · refine gx_iconst d_Mo_domino_22 (nI 4294967295) (by decide) ?_
        refine gx_ireturn rfl d_Mo_domino_23 ?_
        exact ⟨rfl, rfl⟩
theorem cm_dom11 {w : gx_W} {m : Nat} {I : Nat → Nat} {A : Nat → Nat → Nat} {S : sp_St} (h : mdl I A S) (hS : sp_Sok S) {k : Nat} (hk : k < (sp_dS S).length) : gx_Ct M_Mo_domino 7 0 0 [.ref m, .int (nI k), .int (nI 1), .int (nI 4294967295)] (gx_mo w m I A) (gx_eq (some (.int (nI ((sp_dS S).getD k ([], [])).1.length))) (gx_mo w m (sp_u I 0 0) A)) := by
  refine gx_ct (L := [some (.ref m), some (.int (nI k)), some (.int (nI 1)), some (.int (nI 4294967295)), none]) (by decide) (Nat.le_of_ble_eq_true rfl) rfl ?_
  have hdl : 12 ≤ (sp_dS S).length ∧ (sp_dS S).length ≤ 60 := sp_dsx_len S.1 S.2.1
  obtain ⟨⟨a1, a2⟩, ⟨a3, a4⟩, a5, a6⟩ := h.d.2 k hk
  refine gx_aload_n d_Mo_domino_0 rfl ?_
  refine gx_iconst d_Mo_domino_1 (nI 0) (by decide) ?_
  refine gx_put fp_Mo_90 (fun h => by cases h) d_Mo_domino_2 mo_o rfl rfl (Nat.le_of_ble_eq_true rfl) ?_
  refine gx_w mo_p0 ?_
  refine gx_iload_n d_Mo_domino_5 rfl ?_
  refine gx_if_ltN (by omega) (tgt := 22) d_Mo_domino_6 (by decide) ?_
  refine gx_iload_n d_Mo_domino_9 rfl ?_
  refine gx_aload_n d_Mo_domino_10 rfl ?_
  refine gx_get fl_Mo_139 d_Mo_domino_11 mo_o rfl ?_
  rw [ui_o (by decide), h.d.1]
  refine gx_icmp_geN (by omega) (by omega) (tgt := 22) d_Mo_domino_14 (by decide) (fun h14 => ?_) (fun h14 => ?_)
  · exact absurd h14 (by omega)
  · refine gx_iload_n d_Mo_domino_17 rfl ?_
    refine gx_iconst d_Mo_domino_18 (nI 4294967295) (by decide) ?_
    refine gx_icmp_ge (tgt := 24) d_Mo_domino_19 (by decide) (fun h19 => ?_) (fun h19 => ?_)
    · refine gx_iload_n d_Mo_domino_24 rfl ?_
      refine gx_if_eqN (by omega) (tgt := 37) d_Mo_domino_25 (by decide) (fun h25 => ?_) (fun h25 => ?_)
      · exact absurd h25 (by decide)
      · refine gx_aload_n d_Mo_domino_28 rfl ?_
        refine gx_get fl_Mo_32 d_Mo_domino_29 mo_o rfl ?_
        refine gx_iload_n d_Mo_domino_32 rfl ?_
        refine gx_iald d_Mo_domino_33 mo_8 (by omega) (by omega) ?_
        rw [a1]
        refine gx_goto (tgt := 43) d_Mo_domino_34 (by decide) ?_
        refine gx_istore d_Mo_domino_43 (Nat.le_of_ble_eq_true rfl) rfl ?_
        refine gx_iload_n d_Mo_domino_45 rfl ?_
        refine gx_if_ge (tgt := 54) d_Mo_domino_46 (by decide) (fun h46 => ?_) (fun h46 => ?_)
        · exact absurd gx_m1lt (gx_n0 h46)
        · refine gx_iload d_Mo_domino_49 rfl ?_
          refine gx_goto (tgt := 92) d_Mo_domino_51 (by decide) ?_
          refine gx_ireturn rfl d_Mo_domino_92 ?_
          exact ⟨rfl, rfl⟩
    · exact absurd gx_m1le h19
theorem cm_dom21 {w : gx_W} {m : Nat} {I : Nat → Nat} {A : Nat → Nat → Nat} {S : sp_St} (h : mdl I A S) (hS : sp_Sok S) {k i : Nat} (hk : k < (sp_dS S).length) (hi : i < 2 ^ 31) : gx_Ct M_Mo_domino 7 0 0 [.ref m, .int (nI k), .int (nI 1), .int (nI i)] (gx_mo w m I A) (gx_eq (some (.int (sp_ask ((sp_dS S).getD k ([], [])).1 (nI i)))) (gx_mo w m (sp_u I 0 0) A)) := by
  refine gx_ct (L := [some (.ref m), some (.int (nI k)), some (.int (nI 1)), some (.int (nI i)), none]) (by decide) (Nat.le_of_ble_eq_true rfl) rfl ?_
  have hdl : 12 ≤ (sp_dS S).length ∧ (sp_dS S).length ≤ 60 := sp_dsx_len S.1 S.2.1
  obtain ⟨⟨a1, a2⟩, ⟨a3, a4⟩, a5, a6⟩ := h.d.2 k hk
  refine gx_aload_n d_Mo_domino_0 rfl ?_
  refine gx_iconst d_Mo_domino_1 (nI 0) (by decide) ?_
  refine gx_put fp_Mo_90 (fun h => by cases h) d_Mo_domino_2 mo_o rfl rfl (Nat.le_of_ble_eq_true rfl) ?_
  refine gx_w mo_p0 ?_
  refine gx_iload_n d_Mo_domino_5 rfl ?_
  refine gx_if_ltN (by omega) (tgt := 22) d_Mo_domino_6 (by decide) ?_
  refine gx_iload_n d_Mo_domino_9 rfl ?_
  refine gx_aload_n d_Mo_domino_10 rfl ?_
  refine gx_get fl_Mo_139 d_Mo_domino_11 mo_o rfl ?_
  rw [ui_o (by decide), h.d.1]
  refine gx_icmp_geN (by omega) (by omega) (tgt := 22) d_Mo_domino_14 (by decide) (fun h14 => ?_) (fun h14 => ?_)
  · exact absurd h14 (by omega)
  · refine gx_iload_n d_Mo_domino_17 rfl ?_
    refine gx_iconst d_Mo_domino_18 (nI 4294967295) (by decide) ?_
    refine gx_icmp_ge (tgt := 24) d_Mo_domino_19 (by decide) (fun h19 => ?_) (fun h19 => ?_)
    · refine gx_iload_n d_Mo_domino_24 rfl ?_
      refine gx_if_eqN (by omega) (tgt := 37) d_Mo_domino_25 (by decide) (fun h25 => ?_) (fun h25 => ?_)
      · exact absurd h25 (by decide)
      · refine gx_aload_n d_Mo_domino_28 rfl ?_
        refine gx_get fl_Mo_32 d_Mo_domino_29 mo_o rfl ?_
        refine gx_iload_n d_Mo_domino_32 rfl ?_
        refine gx_iald d_Mo_domino_33 mo_8 (by omega) (by omega) ?_
        rw [a1]
        refine gx_goto (tgt := 43) d_Mo_domino_34 (by decide) ?_
        refine gx_istore d_Mo_domino_43 (Nat.le_of_ble_eq_true rfl) rfl ?_
        refine gx_iload_n d_Mo_domino_45 rfl ?_
        refine gx_if_geN (by omega) (tgt := 54) d_Mo_domino_46 (by decide) ?_
        refine gx_iload_n d_Mo_domino_54 rfl ?_
        refine gx_iload d_Mo_domino_55 rfl ?_
        refine gx_icmp_ltN (by omega) (by omega) (tgt := 64) d_Mo_domino_57 (by decide) (fun h57 => ?_) (fun h57 => ?_)
        · refine gx_iload_n d_Mo_domino_64 rfl ?_
          refine gx_if_eqN (by omega) (tgt := 81) d_Mo_domino_65 (by decide) (fun h65 => ?_) (fun h65 => ?_)
          · exact absurd h65 (by decide)
          · refine gx_aload_n d_Mo_domino_68 rfl ?_
            refine gx_get fl_Mo_35 d_Mo_domino_69 mo_o rfl ?_
            refine gx_iconst d_Mo_domino_72 (nI 4) (by decide) ?_
            refine gx_iload_n d_Mo_domino_73 rfl ?_
            refine gx_imulN d_Mo_domino_74 ?_
            refine gx_iload_n d_Mo_domino_75 rfl ?_
            refine gx_iaddN d_Mo_domino_76 ?_
            refine gx_iald d_Mo_domino_77 mo_9 (by omega) (by omega) ?_
            rw [a5 i (by omega)]
            refine gx_goto (tgt := 92) d_Mo_domino_78 (by decide) ?_
            refine gx_ireturn rfl d_Mo_domino_92 ?_
            rw [sp_ask_in (by omega) (by omega)]
            exact ⟨rfl, rfl⟩
        · refine gx_iconst d_Mo_domino_60 (nI 4294967295) (by decide) ?_
          refine gx_goto (tgt := 92) d_Mo_domino_61 (by decide) ?_
          refine gx_ireturn rfl d_Mo_domino_92 ?_
          rw [ak_hi (by omega) hi]
          exact ⟨congrArg (fun x => some (Value.int x)) gx_m1.symm, rfl⟩
    · exact absurd (gx_m1n hi) h19
theorem cm_dom10 {w : gx_W} {m : Nat} {I : Nat → Nat} {A : Nat → Nat → Nat} {S : sp_St} (h : mdl I A S) (hS : sp_Sok S) {k : Nat} (hk : k < (sp_dS S).length) : gx_Ct M_Mo_domino 7 0 0 [.ref m, .int (nI k), .int (nI 0), .int (nI 4294967295)] (gx_mo w m I A) (gx_eq (some (.int (nI ((sp_dS S).getD k ([], [])).2.length))) (gx_mo w m (sp_u I 0 0) A)) := by
  refine gx_ct (L := [some (.ref m), some (.int (nI k)), some (.int (nI 0)), some (.int (nI 4294967295)), none]) (by decide) (Nat.le_of_ble_eq_true rfl) rfl ?_
  have hdl : 12 ≤ (sp_dS S).length ∧ (sp_dS S).length ≤ 60 := sp_dsx_len S.1 S.2.1
  obtain ⟨⟨a1, a2⟩, ⟨a3, a4⟩, a5, a6⟩ := h.d.2 k hk
  refine gx_aload_n d_Mo_domino_0 rfl ?_
  refine gx_iconst d_Mo_domino_1 (nI 0) (by decide) ?_
  refine gx_put fp_Mo_90 (fun h => by cases h) d_Mo_domino_2 mo_o rfl rfl (Nat.le_of_ble_eq_true rfl) ?_
  refine gx_w mo_p0 ?_
  refine gx_iload_n d_Mo_domino_5 rfl ?_
  refine gx_if_ltN (by omega) (tgt := 22) d_Mo_domino_6 (by decide) ?_
  refine gx_iload_n d_Mo_domino_9 rfl ?_
  refine gx_aload_n d_Mo_domino_10 rfl ?_
  refine gx_get fl_Mo_139 d_Mo_domino_11 mo_o rfl ?_
  rw [ui_o (by decide), h.d.1]
  refine gx_icmp_geN (by omega) (by omega) (tgt := 22) d_Mo_domino_14 (by decide) (fun h14 => ?_) (fun h14 => ?_)
  · exact absurd h14 (by omega)
  · refine gx_iload_n d_Mo_domino_17 rfl ?_
    refine gx_iconst d_Mo_domino_18 (nI 4294967295) (by decide) ?_
    refine gx_icmp_ge (tgt := 24) d_Mo_domino_19 (by decide) (fun h19 => ?_) (fun h19 => ?_)
    · refine gx_iload_n d_Mo_domino_24 rfl ?_
      refine gx_if_eqN (by omega) (tgt := 37) d_Mo_domino_25 (by decide) (fun h25 => ?_) (fun h25 => ?_)
      · refine gx_aload_n d_Mo_domino_37 rfl ?_
        refine gx_get fl_Mo_38 d_Mo_domino_38 mo_o rfl ?_
        refine gx_iload_n d_Mo_domino_41 rfl ?_
        refine gx_iald d_Mo_domino_42 mo_10 (by omega) (by omega) ?_
        rw [a2]
        refine gx_istore d_Mo_domino_43 (Nat.le_of_ble_eq_true rfl) rfl ?_
        refine gx_iload_n d_Mo_domino_45 rfl ?_
        refine gx_if_ge (tgt := 54) d_Mo_domino_46 (by decide) (fun h46 => ?_) (fun h46 => ?_)
        · exact absurd gx_m1lt (gx_n0 h46)
        · refine gx_iload d_Mo_domino_49 rfl ?_
          refine gx_goto (tgt := 92) d_Mo_domino_51 (by decide) ?_
          refine gx_ireturn rfl d_Mo_domino_92 ?_
          exact ⟨rfl, rfl⟩
      · exact absurd rfl h25
    · exact absurd gx_m1le h19
theorem cm_dom20 {w : gx_W} {m : Nat} {I : Nat → Nat} {A : Nat → Nat → Nat} {S : sp_St} (h : mdl I A S) (hS : sp_Sok S) {k i : Nat} (hk : k < (sp_dS S).length) (hi : i < 2 ^ 31) : gx_Ct M_Mo_domino 7 0 0 [.ref m, .int (nI k), .int (nI 0), .int (nI i)] (gx_mo w m I A) (gx_eq (some (.int (sp_ask ((sp_dS S).getD k ([], [])).2 (nI i)))) (gx_mo w m (sp_u I 0 0) A)) := by
  refine gx_ct (L := [some (.ref m), some (.int (nI k)), some (.int (nI 0)), some (.int (nI i)), none]) (by decide) (Nat.le_of_ble_eq_true rfl) rfl ?_
  have hdl : 12 ≤ (sp_dS S).length ∧ (sp_dS S).length ≤ 60 := sp_dsx_len S.1 S.2.1
  obtain ⟨⟨a1, a2⟩, ⟨a3, a4⟩, a5, a6⟩ := h.d.2 k hk
  refine gx_aload_n d_Mo_domino_0 rfl ?_
  refine gx_iconst d_Mo_domino_1 (nI 0) (by decide) ?_
  refine gx_put fp_Mo_90 (fun h => by cases h) d_Mo_domino_2 mo_o rfl rfl (Nat.le_of_ble_eq_true rfl) ?_
  refine gx_w mo_p0 ?_
  refine gx_iload_n d_Mo_domino_5 rfl ?_
  refine gx_if_ltN (by omega) (tgt := 22) d_Mo_domino_6 (by decide) ?_
  refine gx_iload_n d_Mo_domino_9 rfl ?_
  refine gx_aload_n d_Mo_domino_10 rfl ?_
  refine gx_get fl_Mo_139 d_Mo_domino_11 mo_o rfl ?_
  rw [ui_o (by decide), h.d.1]
  refine gx_icmp_geN (by omega) (by omega) (tgt := 22) d_Mo_domino_14 (by decide) (fun h14 => ?_) (fun h14 => ?_)
  · exact absurd h14 (by omega)
  · refine gx_iload_n d_Mo_domino_17 rfl ?_
    refine gx_iconst d_Mo_domino_18 (nI 4294967295) (by decide) ?_
    refine gx_icmp_ge (tgt := 24) d_Mo_domino_19 (by decide) (fun h19 => ?_) (fun h19 => ?_)
    · refine gx_iload_n d_Mo_domino_24 rfl ?_
      refine gx_if_eqN (by omega) (tgt := 37) d_Mo_domino_25 (by decide) (fun h25 => ?_) (fun h25 => ?_)
      · refine gx_aload_n d_Mo_domino_37 rfl ?_
        refine gx_get fl_Mo_38 d_Mo_domino_38 mo_o rfl ?_
        refine gx_iload_n d_Mo_domino_41 rfl ?_
        refine gx_iald d_Mo_domino_42 mo_10 (by omega) (by omega) ?_
        rw [a2]
        refine gx_istore d_Mo_domino_43 (Nat.le_of_ble_eq_true rfl) rfl ?_
        refine gx_iload_n d_Mo_domino_45 rfl ?_
        refine gx_if_geN (by omega) (tgt := 54) d_Mo_domino_46 (by decide) ?_
        refine gx_iload_n d_Mo_domino_54 rfl ?_
        refine gx_iload d_Mo_domino_55 rfl ?_
        refine gx_icmp_ltN (by omega) (by omega) (tgt := 64) d_Mo_domino_57 (by decide) (fun h57 => ?_) (fun h57 => ?_)
        · refine gx_iload_n d_Mo_domino_64 rfl ?_
          refine gx_if_eqN (by omega) (tgt := 81) d_Mo_domino_65 (by decide) (fun h65 => ?_) (fun h65 => ?_)
          · refine gx_aload_n d_Mo_domino_81 rfl ?_
            refine gx_get fl_Mo_41 d_Mo_domino_82 mo_o rfl ?_
            refine gx_bipush d_Mo_domino_85 (nI 8) (by decide) ?_
            refine gx_iload_n d_Mo_domino_87 rfl ?_
            refine gx_imulN d_Mo_domino_88 ?_
            refine gx_iload_n d_Mo_domino_89 rfl ?_
            refine gx_iaddN d_Mo_domino_90 ?_
            refine gx_iald d_Mo_domino_91 mo_11 (by omega) (by omega) ?_
            rw [a6 i (by omega)]
            refine gx_ireturn rfl d_Mo_domino_92 ?_
            rw [sp_ask_in (by omega) (by omega)]
            exact ⟨rfl, rfl⟩
          · exact absurd rfl h65
        · refine gx_iconst d_Mo_domino_60 (nI 4294967295) (by decide) ?_
          refine gx_goto (tgt := 92) d_Mo_domino_61 (by decide) ?_
          refine gx_ireturn rfl d_Mo_domino_92 ?_
          rw [ak_hi (by omega) hi]
          exact ⟨congrArg (fun x => some (Value.int x)) gx_m1.symm, rfl⟩
      · exact absurd rfl h25
    · exact absurd (gx_m1n hi) h19
theorem cm_domino {w : gx_W} {m : Nat} {I : Nat → Nat} {A : Nat → Nat → Nat} {S : sp_St} (h : mdl I A S) (hS : sp_Sok S) {k i : Int32} {up : Bool} : gx_Ct M_Mo_domino 7 0 0 [.ref m, .int k, .int (nI up.toNat), .int i] (gx_mo w m I A) (gx_eq (some (.int (sp_domv (sp_dS S) k up i))) (gx_mo w m (sp_u I 0 0) A)) := by
  have hdl : 12 ≤ (sp_dS S).length ∧ (sp_dS S).length ≤ 60 := sp_dsx_len S.1 S.2.1
  by_cases hbad : sp_in k (sp_dS S).length = true ∧ nI 4294967295 ≤ i
  · obtain ⟨kk, hk, rfl⟩ := sp_in_ex (by omega) hbad.1
    have e : sp_domv (sp_dS S) (nI kk) up i = sp_ask (if up then ((sp_dS S).getD kk ([], [])).1 else ((sp_dS S).getD kk ([], [])).2) i := by unfold sp_domv; rw [if_pos hbad.1, gx_clz (by omega)]
    rw [e]
    rcases gx_ic3 i with g | rfl | ⟨j, hj, rfl⟩
    · exact absurd hbad.2 g
    · rw [ak_m1]
      cases up
      · exact cm_dom10 h hS hk
      · exact cm_dom11 h hS hk
    · cases up
      · exact cm_dom20 h hS hk hj
      · exact cm_dom21 h hS hk hj
  · have e : sp_domv (sp_dS S) k up i = nI 4294967295 := by
      rw [← gx_m1]
      unfold sp_domv
      by_cases g : sp_in k (sp_dS S).length = true
      · rw [if_pos g]; exact ak_lo (fun g2 => hbad ⟨g, g2⟩)
      · rw [if_neg g]
    rw [e]; exact bm_domino h hS hbad
theorem sp_fm_len {M : sp_M} {rs : List sp_C} (h : ∀ i, i + 1 < rs.length → (sp_ws M (rs.getD i ([], 0, []))).length ≤ 10) : ∀ k, k ≤ rs.length - 1 → ((rs.take k).flatMap (sp_ws M)).length ≤ 10 * k
  | 0, _ => by simp
  | k + 1, hk => by
    have ih := sp_fm_len h k (by omega)
    have h2 := h k (by omega)
    rw [gx_takeC (by omega), List.flatMap_append, List.length_append]
    simp only [List.flatMap_cons, List.flatMap_nil, List.append_nil]
    omega
theorem sp_wyx_300 {S : sp_St} (hS : sp_Sok S) : (sp_wyx S.1 S.2.1).length ≤ 300 := by
  have h4 := hS.2.1.1
  have h0 : 0 < (sp_rsx S.1 S.2.1).length := List.length_pos_iff.mpr (sp_run_ne _ _ _)
  have h13 : (sp_rsx S.1 S.2.1).length ≤ 13 := sp_run_len S.1 12 (sp_c0 S.2.1)
  have hk : ∀ i, i < (sp_rsx S.1 S.2.1).length → sp_ok ((sp_rsx S.1 S.2.1).getD i ([], 0, [])) ∧ sp_len ((sp_rsx S.1 S.2.1).getD i ([], 0, [])) ≤ 10 := fun i hi => sp_run_ok hS.1 12 (sp_c0 S.2.1) (sp_c0_k hS.2.1) (by rw [sp_c0_len]; omega) _ (gx_cmem hi)
  by_cases e : (sp_lc S.1 S.2.1).2.1 = 4
  · rw [sp_wyx_so e]
    have h1 := sp_fm_len (M := S.1) (rs := sp_rsx S.1 S.2.1) (fun i hi => Nat.le_trans (sp_ws_len (by rw [show sp_step S.1 ((sp_rsx S.1 S.2.1).getD i ([], 0, [])) = _ from sp_run_step _ _ _ _ hi]; exact fun g => nomatch g)) (hk i (by omega)).2) _ (Nat.le_refl _)
    have h5 := (hk ((sp_rsx S.1 S.2.1).length - 1) (by omega)).2
    unfold sp_wy
    obtain ⟨c, hc⟩ : ∃ c, (sp_rsx S.1 S.2.1).getD ((sp_rsx S.1 S.2.1).length - 1) ([], 0, []) = c := ⟨_, rfl⟩
    rw [hc] at h5 ⊢
    have hlen : sp_len c = c.1.length + 1 + c.2.2.length := rfl
    have hh := sp_hw_len ((sp_dsx S.1 S.2.1).length - 7) (c.1.length + c.2.2.length) c rfl
    have hq := Nat.mul_le_mul (show c.1.length + c.2.2.length ≤ 9 by omega) (show c.1.length + c.2.2.length + 2 ≤ 11 by omega)
    rw [List.length_append, List.length_append, List.length_cons, List.length_singleton]
    omega
  · rw [sp_wyx_no e]; exact Nat.zero_le _
theorem d_Mo_way_0 : decode prog_11_method_28_code 0 = .ok (.aload_n 0, 1) := by decide +kernel
theorem d_Mo_way_1 : decode prog_11_method_28_code 1 = .ok (.aload_n 0, 1) := by decide +kernel
theorem d_Mo_way_2 : decode prog_11_method_28_code 2 = .ok (.invokevirtual 122, 3) := by decide +kernel
theorem d_Mo_way_5 : decode prog_11_method_28_code 5 = .ok (.ifCond .eq 7, 3) := by decide +kernel
theorem d_Mo_way_8 : decode prog_11_method_28_code 8 = .ok (.iconst 0, 1) := by decide +kernel
theorem d_Mo_way_9 : decode prog_11_method_28_code 9 = .ok (.goto 4, 3) := by decide +kernel
theorem d_Mo_way_12 : decode prog_11_method_28_code 12 = .ok (.iconst 1, 1) := by decide +kernel
theorem d_Mo_way_13 : decode prog_11_method_28_code 13 = .ok (.putfield 90, 3) := by decide +kernel
theorem d_Mo_way_16 : decode prog_11_method_28_code 16 = .ok (.aload_n 0, 1) := by decide +kernel
theorem d_Mo_way_17 : decode prog_11_method_28_code 17 = .ok (.getfield 90, 3) := by decide +kernel
theorem d_Mo_way_20 : decode prog_11_method_28_code 20 = .ok (.ifCond .le 7, 3) := by decide +kernel
theorem d_Mo_way_23 : decode prog_11_method_28_code 23 = .ok (.iconst 0, 1) := by decide +kernel
theorem d_Mo_way_24 : decode prog_11_method_28_code 24 = .ok (.goto 37, 3) := by decide +kernel
theorem d_Mo_way_27 : decode prog_11_method_28_code 27 = .ok (.iload_n 1, 1) := by decide +kernel
theorem d_Mo_way_28 : decode prog_11_method_28_code 28 = .ok (.iconst (-1), 1) := by decide +kernel
theorem d_Mo_way_29 : decode prog_11_method_28_code 29 = .ok (.if_icmp .ne 10, 3) := by decide +kernel
theorem d_Mo_way_32 : decode prog_11_method_28_code 32 = .ok (.aload_n 0, 1) := by decide +kernel
theorem d_Mo_way_33 : decode prog_11_method_28_code 33 = .ok (.getfield 119, 3) := by decide +kernel
theorem d_Mo_way_36 : decode prog_11_method_28_code 36 = .ok (.goto 25, 3) := by decide +kernel
theorem d_Mo_way_39 : decode prog_11_method_28_code 39 = .ok (.iload_n 1, 1) := by decide +kernel
theorem d_Mo_way_40 : decode prog_11_method_28_code 40 = .ok (.ifCond .lt 11, 3) := by decide +kernel
theorem d_Mo_way_43 : decode prog_11_method_28_code 43 = .ok (.iload_n 1, 1) := by decide +kernel
theorem d_Mo_way_44 : decode prog_11_method_28_code 44 = .ok (.aload_n 0, 1) := by decide +kernel
theorem d_Mo_way_45 : decode prog_11_method_28_code 45 = .ok (.getfield 119, 3) := by decide +kernel
theorem d_Mo_way_48 : decode prog_11_method_28_code 48 = .ok (.if_icmp .lt 7, 3) := by decide +kernel
theorem d_Mo_way_51 : decode prog_11_method_28_code 51 = .ok (.iconst (-1), 1) := by decide +kernel
theorem d_Mo_way_52 : decode prog_11_method_28_code 52 = .ok (.goto 9, 3) := by decide +kernel
theorem d_Mo_way_55 : decode prog_11_method_28_code 55 = .ok (.aload_n 0, 1) := by decide +kernel
theorem d_Mo_way_56 : decode prog_11_method_28_code 56 = .ok (.getfield 44, 3) := by decide +kernel
theorem d_Mo_way_59 : decode prog_11_method_28_code 59 = .ok (.iload_n 1, 1) := by decide +kernel
theorem d_Mo_way_60 : decode prog_11_method_28_code 60 = .ok (.iaload, 1) := by decide +kernel
theorem d_Mo_way_61 : decode prog_11_method_28_code 61 = .ok (.ireturn, 1) := by decide +kernel
theorem bm_way {w : gx_W} {m : Nat} {I : Nat → Nat} {A : Nat → Nat → Nat} {S : sp_St} (h : mdl I A S) (hS : sp_Sok S) {k : Int32} (hH : sp_hal S = false) : gx_Ct M_Mo_way 7 0 0 [.ref m, .int k] (gx_mo w m I A) (gx_eq (some (.int (nI 0))) (gx_mo w m (sp_u I 0 1) A)) := by
  refine gx_ct (L := [some (.ref m), some (.int k)]) (by decide) (Nat.le_of_ble_eq_true rfl) rfl ?_
  refine gx_aload_n d_Mo_way_0 rfl ?_
  refine gx_aload_n d_Mo_way_1 rfl ?_
  refine gx_cV1 lk_Mo_122 d_Mo_way_2 (h.hal hS) (Or.inl ⟨_, mo_o⟩) (by omega) rfl rfl (Nat.le_of_ble_eq_true rfl) ?_
  rw [hH]
  refine gx_top (show nI (Bool.toNat false) = nI 0 from rfl) ?_
  refine gx_if_eqN (by omega) (tgt := 12) d_Mo_way_5 (by decide) (fun h5 => ?_) (fun h5 => ?_)
  · refine gx_iconst d_Mo_way_12 (nI 1) (by decide) ?_
    refine gx_put fp_Mo_90 (fun h => by cases h) d_Mo_way_13 mo_o rfl rfl (Nat.le_of_ble_eq_true rfl) ?_
    refine gx_w mo_p0 ?_
    refine gx_aload_n d_Mo_way_16 rfl ?_
    refine gx_get fl_Mo_90 d_Mo_way_17 mo_o rfl ?_
    rw [ui_s]
    refine gx_if_leN (by omega) (tgt := 27) d_Mo_way_20 (by decide) (fun h20 => ?_) (fun h20 => ?_)
    · exact absurd h20 (by decide)
    · refine gx_iconst d_Mo_way_23 (nI 0) (by decide) ?_
      refine gx_goto (tgt := 61) d_Mo_way_24 (by decide) ?_
      refine gx_ireturn rfl d_Mo_way_61 ?_
      exact ⟨rfl, rfl⟩
  · exact absurd rfl h5
theorem cm_way0 {w : gx_W} {m : Nat} {I : Nat → Nat} {A : Nat → Nat → Nat} {S : sp_St} (h : mdl I A S) (hS : sp_Sok S) {k : Int32} (hH : sp_hal S = true) (hk : ¬ nI 4294967295 ≤ k) : gx_Ct M_Mo_way 7 0 0 [.ref m, .int k] (gx_mo w m I A) (gx_eq (some (.int (sp_ask (sp_wyx S.1 S.2.1) k))) (gx_mo w m (sp_u I 0 0) A)) := by
  refine gx_ct (L := [some (.ref m), some (.int k)]) (by decide) (Nat.le_of_ble_eq_true rfl) rfl ?_
  have hwl : (sp_wyx S.1 S.2.1).length ≤ 300 := sp_wyx_300 hS
  refine gx_aload_n d_Mo_way_0 rfl ?_
  refine gx_aload_n d_Mo_way_1 rfl ?_
  refine gx_cV1 lk_Mo_122 d_Mo_way_2 (h.hal hS) (Or.inl ⟨_, mo_o⟩) (by omega) rfl rfl (Nat.le_of_ble_eq_true rfl) ?_
  rw [hH]
  refine gx_top (show nI (Bool.toNat true) = nI 1 from rfl) ?_
  refine gx_if_eqN (by omega) (tgt := 12) d_Mo_way_5 (by decide) (fun h5 => ?_) (fun h5 => ?_)
  · exact absurd h5 (by decide)
  · refine gx_iconst d_Mo_way_8 (nI 0) (by decide) ?_
    refine gx_goto (tgt := 13) d_Mo_way_9 (by decide) ?_
    refine gx_put fp_Mo_90 (fun h => by cases h) d_Mo_way_13 mo_o rfl rfl (Nat.le_of_ble_eq_true rfl) ?_
    refine gx_w mo_p0 ?_
    refine gx_aload_n d_Mo_way_16 rfl ?_
    refine gx_get fl_Mo_90 d_Mo_way_17 mo_o rfl ?_
    rw [ui_s]
    refine gx_if_leN (by omega) (tgt := 27) d_Mo_way_20 (by decide) (fun h20 => ?_) (fun h20 => ?_)
    · refine gx_iload_n d_Mo_way_27 rfl ?_
      refine gx_iconst d_Mo_way_28 (nI 4294967295) (by decide) ?_
      refine gx_icmp_ne (tgt := 39) d_Mo_way_29 (by decide) (fun h29 => ?_) (fun h29 => ?_)
      · refine gx_iload_n d_Mo_way_39 rfl ?_
        refine gx_if_lt (tgt := 51) d_Mo_way_40 (by decide) (fun h40 => ?_) (fun h40 => ?_)
        · refine gx_iconst d_Mo_way_51 (nI 4294967295) (by decide) ?_
          refine gx_goto (tgt := 61) d_Mo_way_52 (by decide) ?_
          refine gx_ireturn rfl d_Mo_way_61 ?_
          rw [ak_lo hk]
          exact ⟨congrArg (fun x => some (Value.int x)) gx_m1.symm, rfl⟩
        · exact absurd (Int32.le_of_lt (Int32.lt_of_lt_of_le gx_m1lt (by rw [Int32.not_lt] at h40; exact h40))) hk
      · exact absurd (by rw [h29]; exact gx_m1le) hk
    · exact absurd h20 (by decide)
theorem cm_way1 {w : gx_W} {m : Nat} {I : Nat → Nat} {A : Nat → Nat → Nat} {S : sp_St} (h : mdl I A S) (hS : sp_Sok S) (hH : sp_hal S = true) : gx_Ct M_Mo_way 7 0 0 [.ref m, .int (nI 4294967295)] (gx_mo w m I A) (gx_eq (some (.int (sp_ask (sp_wyx S.1 S.2.1) (nI 4294967295)))) (gx_mo w m (sp_u I 0 0) A)) := by
  refine gx_ct (L := [some (.ref m), some (.int (nI 4294967295))]) (by decide) (Nat.le_of_ble_eq_true rfl) rfl ?_
  have hwl : (sp_wyx S.1 S.2.1).length ≤ 300 := sp_wyx_300 hS
  refine gx_aload_n d_Mo_way_0 rfl ?_
  refine gx_aload_n d_Mo_way_1 rfl ?_
  refine gx_cV1 lk_Mo_122 d_Mo_way_2 (h.hal hS) (Or.inl ⟨_, mo_o⟩) (by omega) rfl rfl (Nat.le_of_ble_eq_true rfl) ?_
  rw [hH]
  refine gx_top (show nI (Bool.toNat true) = nI 1 from rfl) ?_
  refine gx_if_eqN (by omega) (tgt := 12) d_Mo_way_5 (by decide) (fun h5 => ?_) (fun h5 => ?_)
  · exact absurd h5 (by decide)
  · refine gx_iconst d_Mo_way_8 (nI 0) (by decide) ?_
    refine gx_goto (tgt := 13) d_Mo_way_9 (by decide) ?_
    refine gx_put fp_Mo_90 (fun h => by cases h) d_Mo_way_13 mo_o rfl rfl (Nat.le_of_ble_eq_true rfl) ?_
    refine gx_w mo_p0 ?_
    refine gx_aload_n d_Mo_way_16 rfl ?_
    refine gx_get fl_Mo_90 d_Mo_way_17 mo_o rfl ?_
    rw [ui_s]
    refine gx_if_leN (by omega) (tgt := 27) d_Mo_way_20 (by decide) (fun h20 => ?_) (fun h20 => ?_)
    · refine gx_iload_n d_Mo_way_27 rfl ?_
      refine gx_iconst d_Mo_way_28 (nI 4294967295) (by decide) ?_
      refine gx_icmp_ne (tgt := 39) d_Mo_way_29 (by decide) (fun h29 => ?_) (fun h29 => ?_)
      · exact absurd rfl h29
      · refine gx_aload_n d_Mo_way_32 rfl ?_
        refine gx_get fl_Mo_119 d_Mo_way_33 mo_o rfl ?_
        rw [ui_o (by decide), h.1.2.2.2.2.1]
        refine gx_goto (tgt := 61) d_Mo_way_36 (by decide) ?_
        refine gx_ireturn rfl d_Mo_way_61 ?_
        rw [ak_m1]
        exact ⟨rfl, rfl⟩
    · exact absurd h20 (by decide)
theorem cm_way2 {w : gx_W} {m : Nat} {I : Nat → Nat} {A : Nat → Nat → Nat} {S : sp_St} (h : mdl I A S) (hS : sp_Sok S) {k : Nat} (hk : k < 2 ^ 31) (hH : sp_hal S = true) : gx_Ct M_Mo_way 7 0 0 [.ref m, .int (nI k)] (gx_mo w m I A) (gx_eq (some (.int (sp_ask (sp_wyx S.1 S.2.1) (nI k)))) (gx_mo w m (sp_u I 0 0) A)) := by
  refine gx_ct (L := [some (.ref m), some (.int (nI k))]) (by decide) (Nat.le_of_ble_eq_true rfl) rfl ?_
  have hwl : (sp_wyx S.1 S.2.1).length ≤ 300 := sp_wyx_300 hS
  refine gx_aload_n d_Mo_way_0 rfl ?_
  refine gx_aload_n d_Mo_way_1 rfl ?_
  refine gx_cV1 lk_Mo_122 d_Mo_way_2 (h.hal hS) (Or.inl ⟨_, mo_o⟩) (by omega) rfl rfl (Nat.le_of_ble_eq_true rfl) ?_
  rw [hH]
  refine gx_top (show nI (Bool.toNat true) = nI 1 from rfl) ?_
  refine gx_if_eqN (by omega) (tgt := 12) d_Mo_way_5 (by decide) (fun h5 => ?_) (fun h5 => ?_)
  · exact absurd h5 (by decide)
  · refine gx_iconst d_Mo_way_8 (nI 0) (by decide) ?_
    refine gx_goto (tgt := 13) d_Mo_way_9 (by decide) ?_
    refine gx_put fp_Mo_90 (fun h => by cases h) d_Mo_way_13 mo_o rfl rfl (Nat.le_of_ble_eq_true rfl) ?_
    refine gx_w mo_p0 ?_
    refine gx_aload_n d_Mo_way_16 rfl ?_
    refine gx_get fl_Mo_90 d_Mo_way_17 mo_o rfl ?_
    rw [ui_s]
    refine gx_if_leN (by omega) (tgt := 27) d_Mo_way_20 (by decide) (fun h20 => ?_) (fun h20 => ?_)
    · refine gx_iload_n d_Mo_way_27 rfl ?_
      refine gx_iconst d_Mo_way_28 (nI 4294967295) (by decide) ?_
      refine gx_icmp_ne (tgt := 39) d_Mo_way_29 (by decide) (fun h29 => ?_) (fun h29 => ?_)
      · refine gx_iload_n d_Mo_way_39 rfl ?_
        refine gx_if_ltN (by omega) (tgt := 51) d_Mo_way_40 (by decide) ?_
        refine gx_iload_n d_Mo_way_43 rfl ?_
        refine gx_aload_n d_Mo_way_44 rfl ?_
        refine gx_get fl_Mo_119 d_Mo_way_45 mo_o rfl ?_
        rw [ui_o (by decide), h.1.2.2.2.2.1]
        refine gx_icmp_ltN (by omega) (by omega) (tgt := 55) d_Mo_way_48 (by decide) (fun h48 => ?_) (fun h48 => ?_)
        · refine gx_aload_n d_Mo_way_55 rfl ?_
          refine gx_get fl_Mo_44 d_Mo_way_56 mo_o rfl ?_
          refine gx_iload_n d_Mo_way_59 rfl ?_
          refine gx_iald d_Mo_way_60 mo_12 (by omega) (by omega) ?_
          rw [h.1.2.2.2.2.2 k (by omega)]
          refine gx_ireturn rfl d_Mo_way_61 ?_
          rw [sp_ask_in (by omega) (by omega)]
          exact ⟨rfl, rfl⟩
        · refine gx_iconst d_Mo_way_51 (nI 4294967295) (by decide) ?_
          refine gx_goto (tgt := 61) d_Mo_way_52 (by decide) ?_
          refine gx_ireturn rfl d_Mo_way_61 ?_
          rw [ak_hi (by omega) hk]
          exact ⟨congrArg (fun x => some (Value.int x)) gx_m1.symm, rfl⟩
      · exact absurd (h29.trans gx_m1.symm) (gx_nm1 hk)
    · exact absurd h20 (by decide)
theorem cm_way {w : gx_W} {m : Nat} {I : Nat → Nat} {A : Nat → Nat → Nat} {S : sp_St} (h : mdl I A S) (hS : sp_Sok S) {k : Int32} (hH : sp_hal S = true) : gx_Ct M_Mo_way 7 0 0 [.ref m, .int k] (gx_mo w m I A) (gx_eq (some (.int (sp_ask (sp_wyx S.1 S.2.1) k))) (gx_mo w m (sp_u I 0 0) A)) := by
  rcases gx_ic3 k with g | rfl | ⟨j, hj, rfl⟩
  · exact cm_way0 h hS hH g
  · exact cm_way1 h hS hH
  · exact cm_way2 h hS hj hH
theorem d_Mo_lay_0 : decode prog_11_method_29_code 0 = .ok (.aload_n 0, 1) := by decide +kernel
theorem d_Mo_lay_1 : decode prog_11_method_29_code 1 = .ok (.iconst 0, 1) := by decide +kernel
theorem d_Mo_lay_2 : decode prog_11_method_29_code 2 = .ok (.putfield 90, 3) := by decide +kernel
theorem d_Mo_lay_5 : decode prog_11_method_29_code 5 = .ok (.iload_n 1, 1) := by decide +kernel
theorem d_Mo_lay_6 : decode prog_11_method_29_code 6 = .ok (.ifCond .lt 20, 3) := by decide +kernel
theorem d_Mo_lay_9 : decode prog_11_method_29_code 9 = .ok (.iload_n 1, 1) := by decide +kernel
theorem d_Mo_lay_10 : decode prog_11_method_29_code 10 = .ok (.aload_n 0, 1) := by decide +kernel
theorem d_Mo_lay_11 : decode prog_11_method_29_code 11 = .ok (.getfield 139, 3) := by decide +kernel
theorem d_Mo_lay_14 : decode prog_11_method_29_code 14 = .ok (.if_icmp .ge 12, 3) := by decide +kernel
theorem d_Mo_lay_17 : decode prog_11_method_29_code 17 = .ok (.aload_n 0, 1) := by decide +kernel
theorem d_Mo_lay_18 : decode prog_11_method_29_code 18 = .ok (.getfield 129, 3) := by decide +kernel
theorem d_Mo_lay_21 : decode prog_11_method_29_code 21 = .ok (.bipush 60, 2) := by decide +kernel
theorem d_Mo_lay_23 : decode prog_11_method_29_code 23 = .ok (.if_icmp .ne 5, 3) := by decide +kernel
theorem d_Mo_lay_26 : decode prog_11_method_29_code 26 = .ok (.iconst (-1), 1) := by decide +kernel
theorem d_Mo_lay_27 : decode prog_11_method_29_code 27 = .ok (.ireturn, 1) := by decide +kernel
theorem d_Mo_lay_28 : decode prog_11_method_29_code 28 = .ok (.aload_n 0, 1) := by decide +kernel
theorem d_Mo_lay_29 : decode prog_11_method_29_code 29 = .ok (.getfield 47, 3) := by decide +kernel
theorem d_Mo_lay_32 : decode prog_11_method_29_code 32 = .ok (.aload_n 0, 1) := by decide +kernel
theorem d_Mo_lay_33 : decode prog_11_method_29_code 33 = .ok (.getfield 129, 3) := by decide +kernel
theorem d_Mo_lay_36 : decode prog_11_method_29_code 36 = .ok (.iload_n 1, 1) := by decide +kernel
theorem d_Mo_lay_37 : decode prog_11_method_29_code 37 = .ok (.iastore, 1) := by decide +kernel
theorem d_Mo_lay_38 : decode prog_11_method_29_code 38 = .ok (.aload_n 0, 1) := by decide +kernel
theorem d_Mo_lay_39 : decode prog_11_method_29_code 39 = .ok (.dup, 1) := by decide +kernel
theorem d_Mo_lay_40 : decode prog_11_method_29_code 40 = .ok (.getfield 129, 3) := by decide +kernel
theorem d_Mo_lay_43 : decode prog_11_method_29_code 43 = .ok (.iconst 1, 1) := by decide +kernel
theorem d_Mo_lay_44 : decode prog_11_method_29_code 44 = .ok (.iadd, 1) := by decide +kernel
theorem d_Mo_lay_45 : decode prog_11_method_29_code 45 = .ok (.putfield 129, 3) := by decide +kernel
theorem d_Mo_lay_48 : decode prog_11_method_29_code 48 = .ok (.aload_n 0, 1) := by decide +kernel
theorem d_Mo_lay_49 : decode prog_11_method_29_code 49 = .ok (.getfield 129, 3) := by decide +kernel
theorem d_Mo_lay_52 : decode prog_11_method_29_code 52 = .ok (.ireturn, 1) := by decide +kernel
theorem bm_lay {w : gx_W} {m : Nat} {I : Nat → Nat} {A : Nat → Nat → Nat} {S : sp_St} (h : mdl I A S) (hS : sp_Sok S) {k : Int32} (hk : sp_in k (sp_dS S).length = false) : gx_Ct M_Mo_lay 7 0 0 [.ref m, .int k] (gx_mo w m I A) (moQ w m (sp_lay (sp_dS S).length S.2.2.1 k).1 (S.1, S.2.1, (sp_lay (sp_dS S).length S.2.2.1 k).2, S.2.2.2.1, S.2.2.2.2) 0) := by
  refine gx_ct (L := [some (.ref m), some (.int k)]) (by decide) (Nat.le_of_ble_eq_true rfl) rfl ?_
  refine gx_aload_n d_Mo_lay_0 rfl ?_
  refine gx_iconst d_Mo_lay_1 (nI 0) (by decide) ?_
  refine gx_put fp_Mo_90 (fun h => by cases h) d_Mo_lay_2 mo_o rfl rfl (Nat.le_of_ble_eq_true rfl) ?_
  refine gx_w mo_p0 ?_
  refine gx_iload_n d_Mo_lay_5 rfl ?_
  refine gx_if_lt (tgt := 26) d_Mo_lay_6 (by decide) (fun h6 => ?_) (fun h6 => ?_)
  · refine gx_iconst d_Mo_lay_26 (nI 4294967295) (by decide) ?_
    refine gx_ireturn rfl d_Mo_lay_27 ?_
    rw [show sp_lay (sp_dS S).length S.2.2.1 k = (-1, S.2.2.1) from if_neg (fun g => by rw [hk] at g; exact absurd g.1 (by decide))]
    exact ⟨congrArg (fun x => some (Value.int x)) gx_m1.symm, _, _, rfl, h.t, ui_s⟩
  · refine gx_iload_n d_Mo_lay_9 rfl ?_
    refine gx_aload_n d_Mo_lay_10 rfl ?_
    refine gx_get fl_Mo_139 d_Mo_lay_11 mo_o rfl ?_
    rw [ui_o (by decide), h.d.1]
    refine gx_icmp_ge (tgt := 26) d_Mo_lay_14 (by decide) (fun h14 => ?_) (fun h14 => ?_)
    · refine gx_iconst d_Mo_lay_26 (nI 4294967295) (by decide) ?_
      refine gx_ireturn rfl d_Mo_lay_27 ?_
      rw [show sp_lay (sp_dS S).length S.2.2.1 k = (-1, S.2.2.1) from if_neg (fun g => by rw [hk] at g; exact absurd g.1 (by decide))]
      exact ⟨congrArg (fun x => some (Value.int x)) gx_m1.symm, _, _, rfl, h.t, ui_s⟩
    · exact absurd (sp_in_t h6 h14) (by rw [hk]; decide)
theorem moL.push {n : Nat} {f : Nat → Nat → Nat} {j : Nat} {l : List Nat} {x : Nat} (h : moL n (f j) l) : moL (n + 1) (uA f j n x j) (l ++ [x]) := by
  obtain ⟨h1, h2⟩ := h
  subst h1
  refine ⟨by rw [List.length_append]; rfl, fun i hi => ?_⟩
  rw [List.length_append, List.length_singleton] at hi
  by_cases e : i = l.length
  · subst e; rw [uA_s, gx_gd_mid]
  · rw [uA_i e, h2 i (by omega), gx_gd_app (by omega)]
theorem mdl.lay {I I' : Nat → Nat} {A A' : Nat → Nat → Nat} {S : sp_St} {l : List Nat} (h : mdl I A S) (hI : ∀ k, k ≠ 0 → k ≠ 5 → I' k = I k) (hA : ∀ j, j ≠ 13 → A' j = A j) (hl : moL (I' 5) (A' 13) l) : mdl I' A' (S.1, S.2.1, l, S.2.2.2.1, S.2.2.2.2) := by
  refine ⟨?_, hl, ?_, ?_⟩
  · have h1 := h.1
    unfold mdC moM moL moT moDs at h1 ⊢
    rw [hI 1 (by decide) (by decide), hI 2 (by decide) (by decide), hI 3 (by decide) (by decide), hI 4 (by decide) (by decide), hA 1 (by decide), hA 2 (by decide), hA 3 (by decide), hA 4 (by decide), hA 5 (by decide), hA 6 (by decide), hA 7 (by decide), hA 8 (by decide), hA 9 (by decide), hA 10 (by decide), hA 11 (by decide), hA 12 (by decide)]
    exact h1
  · show moL (I' 6) (A' 14) S.2.2.2.1
    rw [hI 6 (by decide) (by decide), hA 14 (by decide)]; exact h.2.2.1
  · show nI (I' 7) = _
    rw [hI 7 (by decide) (by decide)]; exact h.2.2.2
theorem cm_lay1 {w : gx_W} {m : Nat} {I : Nat → Nat} {A : Nat → Nat → Nat} {S : sp_St} (h : mdl I A S) (hS : sp_Sok S) {n : Nat} (hn : n < (sp_dS S).length) : gx_Ct M_Mo_lay 7 0 0 [.ref m, .int (nI n)] (gx_mo w m I A) (moQ w m (sp_lay (sp_dS S).length S.2.2.1 (nI n)).1 (S.1, S.2.1, (sp_lay (sp_dS S).length S.2.2.1 (nI n)).2, S.2.2.2.1, S.2.2.2.2) 0) := by
  refine gx_ct (L := [some (.ref m), some (.int (nI n))]) (by decide) (Nat.le_of_ble_eq_true rfl) rfl ?_
  have hdl : 12 ≤ (sp_dS S).length ∧ (sp_dS S).length ≤ 60 := sp_dsx_len S.1 S.2.1
  have h60 := hS.2.2.2.1
  have hin : sp_in (nI n) (sp_dS S).length = true := by rw [sp_in_nI (by omega) (by omega), decide_eq_true hn]
  refine gx_aload_n d_Mo_lay_0 rfl ?_
  refine gx_iconst d_Mo_lay_1 (nI 0) (by decide) ?_
  refine gx_put fp_Mo_90 (fun h => by cases h) d_Mo_lay_2 mo_o rfl rfl (Nat.le_of_ble_eq_true rfl) ?_
  refine gx_w mo_p0 ?_
  refine gx_iload_n d_Mo_lay_5 rfl ?_
  refine gx_if_ltN (by omega) (tgt := 26) d_Mo_lay_6 (by decide) ?_
  refine gx_iload_n d_Mo_lay_9 rfl ?_
  refine gx_aload_n d_Mo_lay_10 rfl ?_
  refine gx_get fl_Mo_139 d_Mo_lay_11 mo_o rfl ?_
  rw [ui_o (by decide), h.d.1]
  refine gx_icmp_geN (by omega) (by omega) (tgt := 26) d_Mo_lay_14 (by decide) (fun h14 => ?_) (fun h14 => ?_)
  · exact absurd h14 (by omega)
  · refine gx_aload_n d_Mo_lay_17 rfl ?_
    refine gx_get fl_Mo_129 d_Mo_lay_18 mo_o rfl ?_
    rw [ui_o (by decide), h.2.1.1]
    refine gx_bipush d_Mo_lay_21 (nI 60) (by decide) ?_
    refine gx_icmp_neN (by omega) (by omega) (tgt := 28) d_Mo_lay_23 (by decide) (fun h23 => ?_) (fun h23 => ?_)
    · refine gx_aload_n d_Mo_lay_28 rfl ?_
      refine gx_get fl_Mo_47 d_Mo_lay_29 mo_o rfl ?_
      refine gx_aload_n d_Mo_lay_32 rfl ?_
      refine gx_get fl_Mo_129 d_Mo_lay_33 mo_o rfl ?_
      rw [ui_o (by decide), h.2.1.1]
      refine gx_iload_n d_Mo_lay_36 rfl ?_
      refine gx_iast d_Mo_lay_37 mo_13 (by omega) (by omega) ?_
      refine gx_w mo_s13 ?_
      refine gx_aload_n d_Mo_lay_38 rfl ?_
      refine gx_dup d_Mo_lay_39 rfl ?_
      refine gx_get fl_Mo_129 d_Mo_lay_40 mo_o rfl ?_
      rw [ui_o (by decide), h.2.1.1]
      refine gx_iconst d_Mo_lay_43 (nI 1) (by decide) ?_
      refine gx_iaddN d_Mo_lay_44 ?_
      refine gx_put fp_Mo_129 (fun h => by cases h) d_Mo_lay_45 mo_o rfl rfl (Nat.le_of_ble_eq_true rfl) ?_
      refine gx_w mo_p5 ?_
      refine gx_aload_n d_Mo_lay_48 rfl ?_
      refine gx_get fl_Mo_129 d_Mo_lay_49 mo_o rfl ?_
      rw [ui_s]
      refine gx_ireturn rfl d_Mo_lay_52 ?_
      rw [show sp_lay (sp_dS S).length S.2.2.1 (nI n) = (nI (S.2.2.1.length + 1), S.2.2.1 ++ [n]) by unfold sp_lay; rw [if_pos ⟨hin, by omega⟩, gx_clz (by omega)]]
      refine ⟨rfl, _, _, rfl, h.lay (fun k h0 h5 => by rw [ui_o h5, ui_o h0]) (fun j hj => uA_oj hj) ?_, by rw [ui_o (by decide), ui_s]⟩
      rw [ui_s]
      have h1 := moL.push (x := n) (show moL S.2.2.1.length (A 13) S.2.2.1 from ⟨rfl, h.2.1.2⟩)
      exact h1
    · refine gx_iconst d_Mo_lay_26 (nI 4294967295) (by decide) ?_
      refine gx_ireturn rfl d_Mo_lay_27 ?_
      rw [show sp_lay (sp_dS S).length S.2.2.1 (nI n) = (-1, S.2.2.1) from if_neg (fun g => by omega)]
      exact ⟨congrArg (fun x => some (Value.int x)) gx_m1.symm, _, _, rfl, h.t, ui_s⟩
theorem cm_lay {w : gx_W} {m : Nat} {I : Nat → Nat} {A : Nat → Nat → Nat} {S : sp_St} (h : mdl I A S) (hS : sp_Sok S) {k : Int32} : gx_Ct M_Mo_lay 7 0 0 [.ref m, .int k] (gx_mo w m I A) (moQ w m (sp_lay (sp_dS S).length S.2.2.1 k).1 (S.1, S.2.1, (sp_lay (sp_dS S).length S.2.2.1 k).2, S.2.2.2.1, S.2.2.2.2) 0) := by
  have hdl : 12 ≤ (sp_dS S).length ∧ (sp_dS S).length ≤ 60 := sp_dsx_len S.1 S.2.1
  rcases hk : sp_in k (sp_dS S).length with _ | _
  · exact bm_lay h hS hk
  · obtain ⟨n, hn, rfl⟩ := sp_in_ex (by omega) hk
    exact cm_lay1 h hS hn
theorem d_Mo_layWay_0 : decode prog_11_method_30_code 0 = .ok (.aload_n 0, 1) := by decide +kernel
theorem d_Mo_layWay_1 : decode prog_11_method_30_code 1 = .ok (.aload_n 0, 1) := by decide +kernel
theorem d_Mo_layWay_2 : decode prog_11_method_30_code 2 = .ok (.invokevirtual 122, 3) := by decide +kernel
theorem d_Mo_layWay_5 : decode prog_11_method_30_code 5 = .ok (.ifCond .eq 7, 3) := by decide +kernel
theorem d_Mo_layWay_8 : decode prog_11_method_30_code 8 = .ok (.iconst 0, 1) := by decide +kernel
theorem d_Mo_layWay_9 : decode prog_11_method_30_code 9 = .ok (.goto 4, 3) := by decide +kernel
theorem d_Mo_layWay_12 : decode prog_11_method_30_code 12 = .ok (.iconst 1, 1) := by decide +kernel
theorem d_Mo_layWay_13 : decode prog_11_method_30_code 13 = .ok (.putfield 90, 3) := by decide +kernel
theorem d_Mo_layWay_16 : decode prog_11_method_30_code 16 = .ok (.aload_n 0, 1) := by decide +kernel
theorem d_Mo_layWay_17 : decode prog_11_method_30_code 17 = .ok (.getfield 90, 3) := by decide +kernel
theorem d_Mo_layWay_20 : decode prog_11_method_30_code 20 = .ok (.ifCond .le 5, 3) := by decide +kernel
theorem d_Mo_layWay_23 : decode prog_11_method_30_code 23 = .ok (.iconst 0, 1) := by decide +kernel
theorem d_Mo_layWay_24 : decode prog_11_method_30_code 24 = .ok (.ireturn, 1) := by decide +kernel
theorem d_Mo_layWay_25 : decode prog_11_method_30_code 25 = .ok (.aload_n 0, 1) := by decide +kernel
theorem d_Mo_layWay_26 : decode prog_11_method_30_code 26 = .ok (.getfield 119, 3) := by decide +kernel
theorem d_Mo_layWay_29 : decode prog_11_method_30_code 29 = .ok (.bipush 60, 2) := by decide +kernel
theorem d_Mo_layWay_31 : decode prog_11_method_30_code 31 = .ok (.if_icmp .le 5, 3) := by decide +kernel
theorem d_Mo_layWay_34 : decode prog_11_method_30_code 34 = .ok (.iconst (-1), 1) := by decide +kernel
theorem d_Mo_layWay_35 : decode prog_11_method_30_code 35 = .ok (.ireturn, 1) := by decide +kernel
theorem d_Mo_layWay_36 : decode prog_11_method_30_code 36 = .ok (.iconst 0, 1) := by decide +kernel
theorem d_Mo_layWay_37 : decode prog_11_method_30_code 37 = .ok (.istore_n 1, 1) := by decide +kernel
theorem d_Mo_layWay_38 : decode prog_11_method_30_code 38 = .ok (.iload_n 1, 1) := by decide +kernel
theorem d_Mo_layWay_39 : decode prog_11_method_30_code 39 = .ok (.aload_n 0, 1) := by decide +kernel
theorem d_Mo_layWay_40 : decode prog_11_method_30_code 40 = .ok (.getfield 119, 3) := by decide +kernel
theorem d_Mo_layWay_43 : decode prog_11_method_30_code 43 = .ok (.if_icmp .ge 21, 3) := by decide +kernel
theorem d_Mo_layWay_46 : decode prog_11_method_30_code 46 = .ok (.aload_n 0, 1) := by decide +kernel
theorem d_Mo_layWay_47 : decode prog_11_method_30_code 47 = .ok (.getfield 47, 3) := by decide +kernel
theorem d_Mo_layWay_50 : decode prog_11_method_30_code 50 = .ok (.iload_n 1, 1) := by decide +kernel
theorem d_Mo_layWay_51 : decode prog_11_method_30_code 51 = .ok (.aload_n 0, 1) := by decide +kernel
theorem d_Mo_layWay_52 : decode prog_11_method_30_code 52 = .ok (.getfield 44, 3) := by decide +kernel
theorem d_Mo_layWay_55 : decode prog_11_method_30_code 55 = .ok (.iload_n 1, 1) := by decide +kernel
theorem d_Mo_layWay_56 : decode prog_11_method_30_code 56 = .ok (.iaload, 1) := by decide +kernel
theorem d_Mo_layWay_57 : decode prog_11_method_30_code 57 = .ok (.iastore, 1) := by decide +kernel
theorem d_Mo_layWay_58 : decode prog_11_method_30_code 58 = .ok (.iinc 1 1, 3) := by decide +kernel
theorem d_Mo_layWay_61 : decode prog_11_method_30_code 61 = .ok (.goto (-23), 3) := by decide +kernel
theorem d_Mo_layWay_64 : decode prog_11_method_30_code 64 = .ok (.aload_n 0, 1) := by decide +kernel
theorem d_Mo_layWay_65 : decode prog_11_method_30_code 65 = .ok (.aload_n 0, 1) := by decide +kernel
theorem d_Mo_layWay_66 : decode prog_11_method_30_code 66 = .ok (.getfield 119, 3) := by decide +kernel
theorem d_Mo_layWay_69 : decode prog_11_method_30_code 69 = .ok (.putfield 129, 3) := by decide +kernel
theorem d_Mo_layWay_72 : decode prog_11_method_30_code 72 = .ok (.aload_n 0, 1) := by decide +kernel
theorem d_Mo_layWay_73 : decode prog_11_method_30_code 73 = .ok (.getfield 129, 3) := by decide +kernel
theorem d_Mo_layWay_76 : decode prog_11_method_30_code 76 = .ok (.ireturn, 1) := by decide +kernel
theorem bm_layWay {w : gx_W} {m : Nat} {I : Nat → Nat} {A : Nat → Nat → Nat} {S : sp_St} (h : mdl I A S) (hS : sp_Sok S) (hH : sp_hal S = false) : gx_Ct M_Mo_layWay 7 0 0 [.ref m] (gx_mo w m I A) (gx_eq (some (.int (nI 0))) (gx_mo w m (sp_u I 0 1) A)) := by
  refine gx_ct (L := [some (.ref m), none]) (by decide) (Nat.le_of_ble_eq_true rfl) rfl ?_
  refine gx_aload_n d_Mo_layWay_0 rfl ?_
  refine gx_aload_n d_Mo_layWay_1 rfl ?_
  refine gx_cV1 lk_Mo_122 d_Mo_layWay_2 (h.hal hS) (Or.inl ⟨_, mo_o⟩) (by omega) rfl rfl (Nat.le_of_ble_eq_true rfl) ?_
  rw [hH]
  refine gx_top (show nI (Bool.toNat false) = nI 0 from rfl) ?_
  refine gx_if_eqN (by omega) (tgt := 12) d_Mo_layWay_5 (by decide) (fun h5 => ?_) (fun h5 => ?_)
  · refine gx_iconst d_Mo_layWay_12 (nI 1) (by decide) ?_
    refine gx_put fp_Mo_90 (fun h => by cases h) d_Mo_layWay_13 mo_o rfl rfl (Nat.le_of_ble_eq_true rfl) ?_
    refine gx_w mo_p0 ?_
    refine gx_aload_n d_Mo_layWay_16 rfl ?_
    refine gx_get fl_Mo_90 d_Mo_layWay_17 mo_o rfl ?_
    rw [ui_s]
    refine gx_if_leN (by omega) (tgt := 25) d_Mo_layWay_20 (by decide) (fun h20 => ?_) (fun h20 => ?_)
    · exact absurd h20 (by decide)
    · refine gx_iconst d_Mo_layWay_23 (nI 0) (by decide) ?_
      refine gx_ireturn rfl d_Mo_layWay_24 ?_
      exact ⟨rfl, rfl⟩
  · exact absurd rfl h5
theorem lm_layWay {Q : gx_P} {w : gx_W} {m : Nat} {I : Nat → Nat} {A : Nat → Nat → Nat} {l : List Nat} (hl : moL (I 4) (A 12) l) (h60 : l.length ≤ 60) : ∀ (fu : Nat) (i : Nat) (A' : Nat → Nat → Nat), l.length - i < fu → (i ≤ l.length) → (∀ j, j ≠ 13 → A' j = A j) → (∀ k, k < i → A' 13 k = l.getD k 0) → (∀ A'' L1, (∀ j, j ≠ 13 → A'' j = A j) → (∀ k, k < l.length → A'' 13 k = l.getD k 0) → gx_X (fun _ _ => True) M_Mo_layWay 7 Q 64 [some (.ref m), L1] [] (gx_mo w m I A'') (0, 0)) → gx_X (fun _ _ => True) M_Mo_layWay 7 Q 38 [some (.ref m), some (.int (nI i))] [] (gx_mo w m I A') (0, 0) := by
  intro fu
  induction fu with
  | zero => intro i A' hfu; exact absurd hfu (Nat.not_lt_zero _)
  | succ fu ih =>
    intro i A' hfu hi hA hB hX
    refine gx_iload_n d_Mo_layWay_38 rfl ?_
    refine gx_aload_n d_Mo_layWay_39 rfl ?_
    refine gx_get fl_Mo_119 d_Mo_layWay_40 mo_o rfl ?_
    rw [hl.1]
    refine gx_icmp_geN (by omega) (by omega) (tgt := 64) d_Mo_layWay_43 (by decide) (fun h43 => ?_) (fun h43 => ?_)
    · obtain rfl : i = l.length := by omega
      exact hX _ _ hA hB
    · refine gx_aload_n d_Mo_layWay_46 rfl ?_
      refine gx_get fl_Mo_47 d_Mo_layWay_47 mo_o rfl ?_
      refine gx_iload_n d_Mo_layWay_50 rfl ?_
      refine gx_aload_n d_Mo_layWay_51 rfl ?_
      refine gx_get fl_Mo_44 d_Mo_layWay_52 mo_o rfl ?_
      refine gx_iload_n d_Mo_layWay_55 rfl ?_
      refine gx_iald d_Mo_layWay_56 mo_12 (by omega) (by omega) ?_
      rw [hA 12 (by decide), hl.2 i (by omega)]
      refine gx_iast d_Mo_layWay_57 mo_13 (by omega) (by omega) ?_
      refine gx_w mo_s13 ?_
      refine gx_iincN (n := 1) d_Mo_layWay_58 rfl (by decide) (Nat.le_of_ble_eq_true rfl) rfl ?_
      refine gx_goto (tgt := 38) d_Mo_layWay_61 (by decide) ?_
      refine ih (i + 1) _ (by omega) (by omega) (fun j hj => by rw [uA_oj hj]; exact hA j hj) (fun k hk => ?_) hX
      by_cases e : k = i
      · subst e; rw [uA_s]
      · rw [uA_i e]; exact hB k (by omega)
theorem cm_layWay {w : gx_W} {m : Nat} {I : Nat → Nat} {A : Nat → Nat → Nat} {S : sp_St} (h : mdl I A S) (hS : sp_Sok S) (hH : sp_hal S = true) : gx_Ct M_Mo_layWay 7 0 0 [.ref m] (gx_mo w m I A) (moQ w m (op_layWay S).1 (op_layWay S).2 0) := by
  refine gx_ct (L := [some (.ref m), none]) (by decide) (Nat.le_of_ble_eq_true rfl) rfl ?_
  have hwl : (sp_wyx S.1 S.2.1).length ≤ 300 := sp_wyx_300 hS
  refine gx_aload_n d_Mo_layWay_0 rfl ?_
  refine gx_aload_n d_Mo_layWay_1 rfl ?_
  refine gx_cV1 lk_Mo_122 d_Mo_layWay_2 (h.hal hS) (Or.inl ⟨_, mo_o⟩) (by omega) rfl rfl (Nat.le_of_ble_eq_true rfl) ?_
  rw [hH]
  refine gx_top (show nI (Bool.toNat true) = nI 1 from rfl) ?_
  refine gx_if_eqN (by omega) (tgt := 12) d_Mo_layWay_5 (by decide) (fun h5 => ?_) (fun h5 => ?_)
  · exact absurd h5 (by decide)
  · refine gx_iconst d_Mo_layWay_8 (nI 0) (by decide) ?_
    refine gx_goto (tgt := 13) d_Mo_layWay_9 (by decide) ?_
    refine gx_put fp_Mo_90 (fun h => by cases h) d_Mo_layWay_13 mo_o rfl rfl (Nat.le_of_ble_eq_true rfl) ?_
    refine gx_w mo_p0 ?_
    refine gx_aload_n d_Mo_layWay_16 rfl ?_
    refine gx_get fl_Mo_90 d_Mo_layWay_17 mo_o rfl ?_
    rw [ui_s]
    refine gx_if_leN (by omega) (tgt := 25) d_Mo_layWay_20 (by decide) (fun h20 => ?_) (fun h20 => ?_)
    · refine gx_aload_n d_Mo_layWay_25 rfl ?_
      refine gx_get fl_Mo_119 d_Mo_layWay_26 mo_o rfl ?_
      rw [ui_o (by decide), h.1.2.2.2.2.1]
      refine gx_bipush d_Mo_layWay_29 (nI 60) (by decide) ?_
      refine gx_icmp_leN (by omega) (by omega) (tgt := 36) d_Mo_layWay_31 (by decide) (fun h31 => ?_) (fun h31 => ?_)
      · refine gx_iconst d_Mo_layWay_36 (nI 0) (by decide) ?_
        refine gx_istore_n d_Mo_layWay_37 (Nat.le_of_ble_eq_true rfl) rfl ?_
        refine lm_layWay (l := sp_wyx S.1 S.2.1) h.t.1.2.2.2.2 (by omega) 301 0 A (by omega) (Nat.zero_le _) (fun _ _ => rfl) (fun k hk => absurd hk (Nat.not_lt_zero _)) (fun A1 L1 hA1 hB1 => ?_)
        refine gx_aload_n d_Mo_layWay_64 rfl ?_
        refine gx_aload_n d_Mo_layWay_65 rfl ?_
        refine gx_get fl_Mo_119 d_Mo_layWay_66 mo_o rfl ?_
        rw [ui_o (by decide), h.1.2.2.2.2.1]
        refine gx_put fp_Mo_129 (fun h => by cases h) d_Mo_layWay_69 mo_o rfl rfl (Nat.le_of_ble_eq_true rfl) ?_
        refine gx_w mo_p5 ?_
        refine gx_aload_n d_Mo_layWay_72 rfl ?_
        refine gx_get fl_Mo_129 d_Mo_layWay_73 mo_o rfl ?_
        rw [ui_s]
        refine gx_ireturn rfl d_Mo_layWay_76 ?_
        rw [show op_layWay S = (nI (sp_wyx S.1 S.2.1).length, (S.1, S.2.1, sp_wyx S.1 S.2.1, S.2.2.2.1, S.2.2.2.2)) from if_pos (by omega)]
        exact ⟨rfl, _, _, rfl, h.lay (fun k h0 h5 => by rw [ui_o h5, ui_o h0]) hA1 ⟨ui_s, hB1⟩, by rw [ui_o (by decide), ui_s]⟩
      · refine gx_iconst d_Mo_layWay_34 (nI 4294967295) (by decide) ?_
        refine gx_ireturn rfl d_Mo_layWay_35 ?_
        rw [show op_layWay S = (-1, S) from if_neg (by omega)]
        exact ⟨congrArg (fun x => some (Value.int x)) gx_m1.symm, _, _, rfl, h.t, ui_s⟩
    · exact absurd h20 (by decide)
