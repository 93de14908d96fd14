/-! PostChain: the calls that ask -/
theorem d_PC_steps_0 : decode prog_1_method_5_code 0 = .ok (.aload_n 0, 1) := by decide +kernel
theorem d_PC_steps_1 : decode prog_1_method_5_code 1 = .ok (.getfield 19, 3) := by decide +kernel
theorem d_PC_steps_4 : decode prog_1_method_5_code 4 = .ok (.invokevirtual 102, 3) := by decide +kernel
theorem d_PC_steps_7 : decode prog_1_method_5_code 7 = .ok (.ireturn, 1) := by decide +kernel
theorem ct_steps {w : gx_W} {B : Nat} {M : sp_M} {inp laid typed : List Nat} {lk : Int32} (h : pcAt w B M inp laid typed lk)  : gx_Ct M_PC_steps 2 0 0 [.ref B] w (gx_eq (some (.int (nI ((sp_rsx M inp).length - 1)))) w) := by
  refine gx_ct (L := [some (.ref B)]) (by decide) (Nat.le_of_ble_eq_true rfl) rfl ?_
  obtain ⟨⟨h0, h1, h2, ⟨fo, h3, hfo⟩, ⟨t4, h4⟩, ⟨q5, op5, h5⟩, h6, h7⟩, ⟨l8, h8⟩, ⟨l9, h9⟩⟩ := h
  have h2a := h2
  obtain ⟨hne2, h13, T2, r2, hT2⟩ := h2
  have hpos : 0 < (sp_rsx M inp).length := List.length_pos_iff.mpr hne2
  refine gx_aload_n d_PC_steps_0 rfl ?_
  refine gx_get fl_PC_19 d_PC_steps_1 h0 rfl ?_
  refine gx_cV1 lk_PC_102 d_PC_steps_4 (ct_stepCount r2) (Or.inl ⟨_, r2.1⟩) (by omega) rfl rfl (Nat.le_of_ble_eq_true rfl) ?_
  refine gx_ireturn rfl d_PC_steps_7 ?_
  exact ⟨rfl, rfl⟩
theorem d_PC_halts_0 : decode prog_1_method_6_code 0 = .ok (.aload_n 0, 1) := by decide +kernel
theorem d_PC_halts_1 : decode prog_1_method_6_code 1 = .ok (.getfield 19, 3) := by decide +kernel
theorem d_PC_halts_4 : decode prog_1_method_6_code 4 = .ok (.invokevirtual 106, 3) := by decide +kernel
theorem d_PC_halts_7 : decode prog_1_method_6_code 7 = .ok (.ireturn, 1) := by decide +kernel
theorem ct_halts {w : gx_W} {B : Nat} {M : sp_M} {inp laid typed : List Nat} {lk : Int32} (h : pcAt w B M inp laid typed lk) (hM : sp_Mok M) (hi : sp_iok inp) : gx_Ct M_PC_halts 3 0 0 [.ref B] w (gx_eq (some (.int (nI (decide ((sp_lc M inp).2.1 = 4)).toNat))) w) := by
  refine gx_ct (L := [some (.ref B)]) (by decide) (Nat.le_of_ble_eq_true rfl) rfl ?_
  obtain ⟨⟨h0, h1, h2, ⟨fo, h3, hfo⟩, ⟨t4, h4⟩, ⟨q5, op5, h5⟩, h6, h7⟩, ⟨l8, h8⟩, ⟨l9, h9⟩⟩ := h
  have h2a := h2
  obtain ⟨hne2, h13, T2, r2, hT2⟩ := h2
  have hpos : 0 < (sp_rsx M inp).length := List.length_pos_iff.mpr hne2
  refine gx_aload_n d_PC_halts_0 rfl ?_
  refine gx_get fl_PC_19 d_PC_halts_1 h0 rfl ?_
  refine gx_cV1 lk_PC_106 d_PC_halts_4 (ct_isHalted h2a (sp_lc_ok hM hi) rfl) (Or.inl ⟨_, r2.1⟩) (by omega) rfl rfl (Nat.le_of_ble_eq_true rfl) ?_
  refine gx_zreturn rfl (by cases hq : decide ((sp_lc M inp).2.1 = 4) <;> decide) d_PC_halts_7 ?_
  exact ⟨rfl, rfl⟩
def sp_runv (rs : List sp_C) (k i : Int32) : Int32 := if sp_in k rs.length = true then sp_ask (sp_txt (rs.getD k.toNatClampNeg ([], 0, []))) i else -1
theorem d_PC_run_0 : decode prog_1_method_7_code 0 = .ok (.iload_n 1, 1) := by decide +kernel
theorem d_PC_run_1 : decode prog_1_method_7_code 1 = .ok (.ifCond .lt 14, 3) := by decide +kernel
theorem d_PC_run_4 : decode prog_1_method_7_code 4 = .ok (.iload_n 1, 1) := by decide +kernel
theorem d_PC_run_5 : decode prog_1_method_7_code 5 = .ok (.aload_n 0, 1) := by decide +kernel
theorem d_PC_run_6 : decode prog_1_method_7_code 6 = .ok (.getfield 19, 3) := by decide +kernel
theorem d_PC_run_9 : decode prog_1_method_7_code 9 = .ok (.invokevirtual 102, 3) := by decide +kernel
theorem d_PC_run_12 : decode prog_1_method_7_code 12 = .ok (.if_icmp .le 7, 3) := by decide +kernel
theorem d_PC_run_15 : decode prog_1_method_7_code 15 = .ok (.iconst (-1), 1) := by decide +kernel
theorem d_PC_run_16 : decode prog_1_method_7_code 16 = .ok (.goto 15, 3) := by decide +kernel
theorem d_PC_run_19 : decode prog_1_method_7_code 19 = .ok (.aload_n 0, 1) := by decide +kernel
theorem d_PC_run_20 : decode prog_1_method_7_code 20 = .ok (.getfield 19, 3) := by decide +kernel
theorem d_PC_run_23 : decode prog_1_method_7_code 23 = .ok (.iload_n 1, 1) := by decide +kernel
theorem d_PC_run_24 : decode prog_1_method_7_code 24 = .ok (.invokevirtual 110, 3) := by decide +kernel
theorem d_PC_run_27 : decode prog_1_method_7_code 27 = .ok (.iload_n 2, 1) := by decide +kernel
theorem d_PC_run_28 : decode prog_1_method_7_code 28 = .ok (.invokevirtual 114, 3) := by decide +kernel
theorem d_PC_run_31 : decode prog_1_method_7_code 31 = .ok (.ireturn, 1) := by decide +kernel
theorem ct_run {w : gx_W} {B : Nat} {M : sp_M} {inp laid typed : List Nat} {lk : Int32} (h : pcAt w B M inp laid typed lk) {k i : Int32} : gx_Ct M_PC_run 2 0 0 [.ref B, .int k, .int i] w (gx_eq (some (.int (sp_runv (sp_rsx M inp) k i))) w) := by
  refine gx_ct (L := [some (.ref B), some (.int k), some (.int i)]) (by decide) (Nat.le_of_ble_eq_true rfl) rfl ?_
  obtain ⟨⟨h0, h1, h2, ⟨fo, h3, hfo⟩, ⟨t4, h4⟩, ⟨q5, op5, h5⟩, h6, h7⟩, ⟨l8, h8⟩, ⟨l9, h9⟩⟩ := h
  have h2a := h2
  obtain ⟨hne2, h13, T2, r2, hT2⟩ := h2
  have hpos : 0 < (sp_rsx M inp).length := List.length_pos_iff.mpr hne2
  unfold sp_runv
  refine gx_iload_n d_PC_run_0 rfl ?_
  refine gx_if_lt (tgt := 15) d_PC_run_1 (by decide) (fun h1 => ?_) (fun h1 => ?_)
  · rw [sp_in_lt h1, if_neg (by decide)]
    refine gx_iconst d_PC_run_15 (-1) (by decide) ?_
    refine gx_goto (tgt := 31) d_PC_run_16 (by decide) ?_
    refine gx_ireturn rfl d_PC_run_31 ?_
    exact ⟨rfl, rfl⟩
  · refine gx_iload_n d_PC_run_4 rfl ?_
    refine gx_aload_n d_PC_run_5 rfl ?_
    refine gx_get fl_PC_19 d_PC_run_6 h0 rfl ?_
    refine gx_cV1 lk_PC_102 d_PC_run_9 (ct_stepCount r2) (Or.inl ⟨_, r2.1⟩) (by omega) rfl rfl (Nat.le_of_ble_eq_true rfl) ?_
    refine gx_icmp_le (tgt := 19) d_PC_run_12 (by decide) (fun h12 => ?_) (fun h12 => ?_)
    · obtain ⟨j, hj, rfl⟩ := nI_of h1
      have hjl : j < (sp_rsx M inp).length := by have := (nI_leI hj (show (sp_rsx M inp).length - 1 < 2 ^ 31 by omega)).mp h12; omega
      rw [sp_in_nI hj (by omega), decide_eq_true hjl, if_pos rfl, nI_clamp hj]
      have hwt : w.1 (B + 8 + 2 + 2 * j) = some (gx_bx 0 11 (sp_txt ((sp_rsx M inp).getD j ([], 0, [])))) := by rw [r2.2.2 j (by omega), hT2 j hjl]
      refine gx_aload_n d_PC_run_19 rfl ?_
      refine gx_get fl_PC_19 d_PC_run_20 h0 rfl ?_
      refine gx_iload_n d_PC_run_23 rfl ?_
      refine gx_cV1 lk_PC_110 d_PC_run_24 (ct_text r2 (by omega) (by omega)) (Or.inl ⟨_, r2.1⟩) (by omega) rfl rfl (Nat.le_of_ble_eq_true rfl) ?_
      refine gx_iload_n d_PC_run_27 rfl ?_
      refine gx_cV1 lk_PC_114 d_PC_run_28 (ct_Word_ask hwt) (Or.inr ⟨_, _, hwt⟩) (by omega) rfl rfl (Nat.le_of_ble_eq_true rfl) ?_
      refine gx_ireturn rfl d_PC_run_31 ?_
      exact ⟨rfl, rfl⟩
    · rw [sp_in_ge (show nI (sp_rsx M inp).length ≤ k by
        obtain ⟨j, hj, rfl⟩ := nI_of h1
        exact nI_le (Nat.le_of_not_lt fun g => h12 (nI_le (by omega) (by omega))) hj), if_neg (by decide)]
      refine gx_iconst d_PC_run_15 (-1) (by decide) ?_
      refine gx_goto (tgt := 31) d_PC_run_16 (by decide) ?_
      refine gx_ireturn rfl d_PC_run_31 ?_
      exact ⟨rfl, rfl⟩
theorem d_PC_dominoes_0 : decode prog_1_method_8_code 0 = .ok (.aload_n 0, 1) := by decide +kernel
theorem d_PC_dominoes_1 : decode prog_1_method_8_code 1 = .ok (.getfield 26, 3) := by decide +kernel
theorem d_PC_dominoes_4 : decode prog_1_method_8_code 4 = .ok (.invokevirtual 118, 3) := by decide +kernel
theorem d_PC_dominoes_7 : decode prog_1_method_8_code 7 = .ok (.ireturn, 1) := by decide +kernel
theorem ct_dominoes {w : gx_W} {B : Nat} {M : sp_M} {inp laid typed : List Nat} {lk : Int32} (h : pcAt w B M inp laid typed lk)  : gx_Ct M_PC_dominoes 2 0 0 [.ref B] w (gx_eq (some (.int (nI (sp_dsx M inp).length))) w) := by
  refine gx_ct (L := [some (.ref B)]) (by decide) (Nat.le_of_ble_eq_true rfl) rfl ?_
  obtain ⟨⟨h0, h1, h2, ⟨fo, h3, hfo⟩, ⟨t4, h4⟩, ⟨q5, op5, h5⟩, h6, h7⟩, ⟨l8, h8⟩, ⟨l9, h9⟩⟩ := h
  obtain ⟨hd60, U3, V3, b3, hd3⟩ := h3
  refine gx_aload_n d_PC_dominoes_0 rfl ?_
  refine gx_get fl_PC_26 d_PC_dominoes_1 h0 rfl ?_
  refine gx_cV1 lk_PC_118 d_PC_dominoes_4 (ct_Box_size b3) (Or.inl ⟨_, b3.1⟩) (by omega) rfl rfl (Nat.le_of_ble_eq_true rfl) ?_
  refine gx_ireturn rfl d_PC_dominoes_7 ?_
  exact ⟨rfl, rfl⟩
def sp_domv (ds : List (List Nat × List Nat)) (d : Int32) (up : Bool) (i : Int32) : Int32 := if sp_in d ds.length = true then sp_ask (if up then (ds.getD d.toNatClampNeg ([], [])).1 else (ds.getD d.toNatClampNeg ([], [])).2) i else -1
theorem d_PC_domino_0 : decode prog_1_method_9_code 0 = .ok (.aload_n 0, 1) := by decide +kernel
theorem d_PC_domino_1 : decode prog_1_method_9_code 1 = .ok (.getfield 26, 3) := by decide +kernel
theorem d_PC_domino_4 : decode prog_1_method_9_code 4 = .ok (.iload_n 1, 1) := by decide +kernel
theorem d_PC_domino_5 : decode prog_1_method_9_code 5 = .ok (.invokevirtual 121, 3) := by decide +kernel
theorem d_PC_domino_8 : decode prog_1_method_9_code 8 = .ok (.ifCond .ne 5, 3) := by decide +kernel
theorem d_PC_domino_11 : decode prog_1_method_9_code 11 = .ok (.iconst (-1), 1) := by decide +kernel
theorem d_PC_domino_12 : decode prog_1_method_9_code 12 = .ok (.ireturn, 1) := by decide +kernel
theorem d_PC_domino_13 : decode prog_1_method_9_code 13 = .ok (.iload_n 2, 1) := by decide +kernel
theorem d_PC_domino_14 : decode prog_1_method_9_code 14 = .ok (.ifCond .eq 21, 3) := by decide +kernel
theorem d_PC_domino_17 : decode prog_1_method_9_code 17 = .ok (.aload_n 0, 1) := by decide +kernel
theorem d_PC_domino_18 : decode prog_1_method_9_code 18 = .ok (.getfield 26, 3) := by decide +kernel
theorem d_PC_domino_21 : decode prog_1_method_9_code 21 = .ok (.iload_n 1, 1) := by decide +kernel
theorem d_PC_domino_22 : decode prog_1_method_9_code 22 = .ok (.invokevirtual 124, 3) := by decide +kernel
theorem d_PC_domino_25 : decode prog_1_method_9_code 25 = .ok (.getfield 128, 3) := by decide +kernel
theorem d_PC_domino_28 : decode prog_1_method_9_code 28 = .ok (.iload_n 3, 1) := by decide +kernel
theorem d_PC_domino_29 : decode prog_1_method_9_code 29 = .ok (.invokevirtual 114, 3) := by decide +kernel
theorem d_PC_domino_32 : decode prog_1_method_9_code 32 = .ok (.goto 18, 3) := by decide +kernel
theorem d_PC_domino_35 : decode prog_1_method_9_code 35 = .ok (.aload_n 0, 1) := by decide +kernel
theorem d_PC_domino_36 : decode prog_1_method_9_code 36 = .ok (.getfield 26, 3) := by decide +kernel
theorem d_PC_domino_39 : decode prog_1_method_9_code 39 = .ok (.iload_n 1, 1) := by decide +kernel
theorem d_PC_domino_40 : decode prog_1_method_9_code 40 = .ok (.invokevirtual 124, 3) := by decide +kernel
theorem d_PC_domino_43 : decode prog_1_method_9_code 43 = .ok (.getfield 133, 3) := by decide +kernel
theorem d_PC_domino_46 : decode prog_1_method_9_code 46 = .ok (.iload_n 3, 1) := by decide +kernel
theorem d_PC_domino_47 : decode prog_1_method_9_code 47 = .ok (.invokevirtual 114, 3) := by decide +kernel
theorem d_PC_domino_50 : decode prog_1_method_9_code 50 = .ok (.ireturn, 1) := by decide +kernel
theorem ct_domino {w : gx_W} {B : Nat} {M : sp_M} {inp laid typed : List Nat} {lk : Int32} (h : pcAt w B M inp laid typed lk) {dd i : Int32} {up : Bool} : gx_Ct M_PC_domino 3 0 0 [.ref B, .int dd, .int (nI up.toNat), .int i] w (gx_eq (some (.int (sp_domv (sp_dsx M inp) dd up i))) w) := by
  refine gx_ct (L := [some (.ref B), some (.int dd), some (.int (nI up.toNat)), some (.int i)]) (by decide) (Nat.le_of_ble_eq_true rfl) rfl ?_
  obtain ⟨⟨h0, h1, h2, ⟨fo, h3, hfo⟩, ⟨t4, h4⟩, ⟨q5, op5, h5⟩, h6, h7⟩, ⟨l8, h8⟩, ⟨l9, h9⟩⟩ := h
  obtain ⟨hd60, U3, V3, b3, hd3⟩ := h3
  have hbt := Bool.toNat_le (sp_in dd (sp_dsx M inp).length)
  have hut := Bool.toNat_le up
  unfold sp_domv
  refine gx_aload_n d_PC_domino_0 rfl ?_
  refine gx_get fl_PC_26 d_PC_domino_1 h0 rfl ?_
  refine gx_iload_n d_PC_domino_4 rfl ?_
  refine gx_cV1 lk_PC_121 d_PC_domino_5 (ct_Box_has (i := dd) b3) (Or.inl ⟨_, b3.1⟩) (by omega) rfl rfl (Nat.le_of_ble_eq_true rfl) ?_
  refine gx_if_neN (by omega) (tgt := 13) d_PC_domino_8 (by decide) (fun h8 => ?_) (fun h8 => ?_)
  · obtain ⟨j, hj, rfl⟩ : ∃ j, j < (sp_dsx M inp).length ∧ dd = nI j := by
      have hin : sp_in dd (sp_dsx M inp).length = true := by cases hq : sp_in dd (sp_dsx M inp).length <;> simp_all
      unfold sp_in at hin
      simp only [Bool.and_eq_true, decide_eq_true_eq] at hin
      obtain ⟨j, hj, rfl⟩ := nI_of (x := dd) (by have := hin.1; rw [Int32.lt_iff_toInt_lt]; rw [Int32.le_iff_toInt_le] at this; omega)
      exact ⟨j, (nI_ltI hj (by omega)).mp hin.2, rfl⟩
    obtain ⟨hD, hu, hl⟩ := b3.2.2.2 j (by omega)
    rw [(hd3 j hj).1] at hu
    rw [(hd3 j hj).2] at hl
    rw [sp_in_nI (by omega) (by omega), decide_eq_true hj, if_pos rfl, nI_clamp (by omega)]
    refine gx_iload_n d_PC_domino_13 rfl ?_
    refine gx_if_eqN (by omega) (tgt := 35) d_PC_domino_14 (by decide) (fun h14 => ?_) (fun h14 => ?_)
    · rw [if_neg (show ¬ up = true from fun g => by rw [g] at h14; exact absurd h14 (by decide))]
      refine gx_aload_n d_PC_domino_35 rfl ?_
      refine gx_get fl_PC_26 d_PC_domino_36 h0 rfl ?_
      refine gx_iload_n d_PC_domino_39 rfl ?_
      refine gx_cV1 lk_PC_124 d_PC_domino_40 (ct_Box_get b3 hj hd60) (Or.inl ⟨_, b3.1⟩) (by omega) rfl rfl (Nat.le_of_ble_eq_true rfl) ?_
      refine gx_get fl_PC_133 d_PC_domino_43 hD rfl ?_
      refine gx_iload_n d_PC_domino_46 rfl ?_
      refine gx_cV1 lk_PC_114 d_PC_domino_47 (ct_Word_ask hl) (Or.inr ⟨_, _, hl⟩) (by omega) rfl rfl (Nat.le_of_ble_eq_true rfl) ?_
      refine gx_ireturn rfl d_PC_domino_50 ?_
      exact ⟨rfl, rfl⟩
    · rw [if_pos (show up = true by cases up <;> simp_all)]
      refine gx_aload_n d_PC_domino_17 rfl ?_
      refine gx_get fl_PC_26 d_PC_domino_18 h0 rfl ?_
      refine gx_iload_n d_PC_domino_21 rfl ?_
      refine gx_cV1 lk_PC_124 d_PC_domino_22 (ct_Box_get b3 hj hd60) (Or.inl ⟨_, b3.1⟩) (by omega) rfl rfl (Nat.le_of_ble_eq_true rfl) ?_
      refine gx_get fl_PC_128 d_PC_domino_25 hD rfl ?_
      refine gx_iload_n d_PC_domino_28 rfl ?_
      refine gx_cV1 lk_PC_114 d_PC_domino_29 (ct_Word_ask hu) (Or.inr ⟨_, _, hu⟩) (by omega) rfl rfl (Nat.le_of_ble_eq_true rfl) ?_
      refine gx_goto (tgt := 50) d_PC_domino_32 (by decide) ?_
      refine gx_ireturn rfl d_PC_domino_50 ?_
      exact ⟨rfl, rfl⟩
  · rw [if_neg (show ¬ sp_in dd (sp_dsx M inp).length = true from fun g => by rw [g] at h8; exact absurd h8 (by decide))]
    refine gx_iconst d_PC_domino_11 (-1) (by decide) ?_
    refine gx_ireturn rfl d_PC_domino_12 ?_
    exact ⟨rfl, rfl⟩
theorem d_PC_looked_0 : decode prog_1_method_19_code 0 = .ok (.aload_n 0, 1) := by decide +kernel
theorem d_PC_looked_1 : decode prog_1_method_19_code 1 = .ok (.getfield 40, 3) := by decide +kernel
theorem d_PC_looked_4 : decode prog_1_method_19_code 4 = .ok (.invokevirtual 200, 3) := by decide +kernel
theorem d_PC_looked_7 : decode prog_1_method_19_code 7 = .ok (.ireturn, 1) := by decide +kernel
theorem ct_looked {w : gx_W} {B : Nat} {M : sp_M} {inp laid typed : List Nat} {lk : Int32} (h : pcAt w B M inp laid typed lk)  : gx_Ct M_PC_looked 2 0 0 [.ref B] w (gx_eq (some (.int lk)) w) := by
  refine gx_ct (L := [some (.ref B)]) (by decide) (Nat.le_of_ble_eq_true rfl) rfl ?_
  obtain ⟨⟨h0, h1, h2, ⟨fo, h3, hfo⟩, ⟨t4, h4⟩, ⟨q5, op5, h5⟩, h6, h7⟩, ⟨l8, h8⟩, ⟨l9, h9⟩⟩ := h
  obtain ⟨-, g1, g2, g3, g4, g5, hz, -⟩ := h5
  refine gx_aload_n d_PC_looked_0 rfl ?_
  refine gx_get fl_PC_40 d_PC_looked_1 h0 rfl ?_
  refine gx_cV1 lk_PC_200 d_PC_looked_4 (ct_lookedAt hz) (Or.inl ⟨_, hz.1⟩) (by omega) rfl rfl (Nat.le_of_ble_eq_true rfl) ?_
  refine gx_ireturn rfl d_PC_looked_7 ?_
  exact ⟨rfl, rfl⟩
def sp_lay (nd : Nat) (laid : List Nat) (d : Int32) : Int32 × List Nat := if sp_in d nd = true ∧ laid.length < 60 then (nI (laid.length + 1), laid ++ [d.toNatClampNeg]) else (-1, laid)
theorem d_PC_lay_0 : decode prog_1_method_11_code 0 = .ok (.aload_n 0, 1) := by decide +kernel
theorem d_PC_lay_1 : decode prog_1_method_11_code 1 = .ok (.getfield 26, 3) := by decide +kernel
theorem d_PC_lay_4 : decode prog_1_method_11_code 4 = .ok (.iload_n 1, 1) := by decide +kernel
theorem d_PC_lay_5 : decode prog_1_method_11_code 5 = .ok (.invokevirtual 121, 3) := by decide +kernel
theorem d_PC_lay_8 : decode prog_1_method_11_code 8 = .ok (.ifCond .eq 15, 3) := by decide +kernel
theorem d_PC_lay_11 : decode prog_1_method_11_code 11 = .ok (.aload_n 0, 1) := by decide +kernel
theorem d_PC_lay_12 : decode prog_1_method_11_code 12 = .ok (.getfield 49, 3) := by decide +kernel
theorem d_PC_lay_15 : decode prog_1_method_11_code 15 = .ok (.invokevirtual 146, 3) := by decide +kernel
theorem d_PC_lay_18 : decode prog_1_method_11_code 18 = .ok (.bipush 60, 2) := by decide +kernel
theorem d_PC_lay_20 : decode prog_1_method_11_code 20 = .ok (.if_icmp .lt 5, 3) := by decide +kernel
theorem d_PC_lay_23 : decode prog_1_method_11_code 23 = .ok (.iconst (-1), 1) := by decide +kernel
theorem d_PC_lay_24 : decode prog_1_method_11_code 24 = .ok (.ireturn, 1) := by decide +kernel
theorem d_PC_lay_25 : decode prog_1_method_11_code 25 = .ok (.aload_n 0, 1) := by decide +kernel
theorem d_PC_lay_26 : decode prog_1_method_11_code 26 = .ok (.getfield 49, 3) := by decide +kernel
theorem d_PC_lay_29 : decode prog_1_method_11_code 29 = .ok (.iload_n 1, 1) := by decide +kernel
theorem d_PC_lay_30 : decode prog_1_method_11_code 30 = .ok (.invokevirtual 147, 3) := by decide +kernel
theorem d_PC_lay_33 : decode prog_1_method_11_code 33 = .ok (.aload_n 0, 1) := by decide +kernel
theorem d_PC_lay_34 : decode prog_1_method_11_code 34 = .ok (.getfield 49, 3) := by decide +kernel
theorem d_PC_lay_37 : decode prog_1_method_11_code 37 = .ok (.invokevirtual 146, 3) := by decide +kernel
theorem d_PC_lay_40 : decode prog_1_method_11_code 40 = .ok (.ireturn, 1) := by decide +kernel
theorem ct_lay {w : gx_W} {B : Nat} {M : sp_M} {inp laid typed : List Nat} {lk : Int32} (h : pcAt w B M inp laid typed lk) {dd : Int32} : gx_Ct M_PC_lay 2 0 0 [.ref B, .int dd] w (fun v w' => v = some (.int (sp_lay (sp_dsx M inp).length laid dd).1) ∧ pcAt w' B M inp (sp_lay (sp_dsx M inp).length laid dd).2 typed lk ∧ gx_kp w w' B (B + 360)) := by
  refine gx_ct (L := [some (.ref B), some (.int dd)]) (by decide) (Nat.le_of_ble_eq_true rfl) rfl ?_
  have hP := h
  obtain ⟨⟨h0, h1, h2, ⟨fo, h3, hfo⟩, ⟨t4, h4⟩, ⟨q5, op5, h5⟩, h6, h7⟩, ⟨l8, h8⟩, ⟨l9, h9⟩⟩ := h
  obtain ⟨hd60, U3, V3, b3, hd3⟩ := h3
  have hbt := Bool.toNat_le (sp_in dd (sp_dsx M inp).length)
  unfold sp_lay
  refine gx_bsz h6 (fun hlen hcap hsm => ?_)
  refine gx_aload_n d_PC_lay_0 rfl ?_
  refine gx_get fl_PC_26 d_PC_lay_1 h0 rfl ?_
  refine gx_iload_n d_PC_lay_4 rfl ?_
  refine gx_cV1 lk_PC_121 d_PC_lay_5 (ct_Box_has (i := dd) b3) (Or.inl ⟨_, b3.1⟩) (by omega) rfl rfl (Nat.le_of_ble_eq_true rfl) ?_
  refine gx_if_eqN (by omega) (tgt := 23) d_PC_lay_8 (by decide) (fun h8 => ?_) (fun h8 => ?_)
  · rw [if_neg (show ¬ (sp_in dd (sp_dsx M inp).length = true ∧ laid.length < 60) from fun g => by rw [g.1] at h8; exact absurd h8 (by decide))]
    refine gx_iconst d_PC_lay_23 (-1) (by decide) ?_
    refine gx_ireturn rfl d_PC_lay_24 ?_
    exact ⟨rfl, hP, gx_kp.rf⟩
  · obtain ⟨j, hj, rfl⟩ : ∃ j, j < (sp_dsx M inp).length ∧ dd = nI j := by
      have hin : sp_in dd (sp_dsx M inp).length = true := by cases hq : sp_in dd (sp_dsx M inp).length <;> simp_all
      unfold sp_in at hin
      simp only [Bool.and_eq_true, decide_eq_true_eq] at hin
      obtain ⟨j, hj, rfl⟩ := nI_of (x := dd) (by have := hin.1; rw [Int32.lt_iff_toInt_lt]; rw [Int32.le_iff_toInt_le] at this; omega)
      exact ⟨j, (nI_ltI hj (by omega)).mp hin.2, rfl⟩
    obtain ⟨hD, hu, hl⟩ := b3.2.2.2 j (by omega)
    rw [(hd3 j hj).1] at hu
    rw [(hd3 j hj).2] at hl
    refine gx_aload_n d_PC_lay_11 rfl ?_
    refine gx_get fl_PC_49 d_PC_lay_12 h0 rfl ?_
    refine gx_cV1 lk_PC_146 d_PC_lay_15 (ct_Row_size h6) (Or.inr ⟨_, _, h6⟩) (by omega) rfl rfl (Nat.le_of_ble_eq_true rfl) ?_
    refine gx_bipush d_PC_lay_18 (nI 60) (by decide) ?_
    refine gx_icmp_ltN (by omega) (by omega) (tgt := 25) d_PC_lay_20 (by decide) (fun h20 => ?_) (fun h20 => ?_)
    · rw [sp_in_nI (by omega) (by omega), decide_eq_true hj, if_pos ⟨rfl, h20⟩, nI_clamp (by omega)]
      refine gx_aload_n d_PC_lay_25 rfl ?_
      refine gx_get fl_PC_49 d_PC_lay_26 h0 rfl ?_
      refine gx_iload_n d_PC_lay_29 rfl ?_
      refine gx_cV0 lk_PC_147 d_PC_lay_30 (ct_Row_add h6 (show j < 65536 by omega) h20) (Or.inr ⟨_, _, h6⟩) (by omega) rfl rfl (Nat.le_of_ble_eq_true rfl) ?_
      have hP2 := hP.laid (laid ++ [j])
      refine gx_aload_n d_PC_lay_33 rfl ?_
      refine gx_get fl_PC_49 d_PC_lay_34 hP2.1.1 rfl ?_
      refine gx_cV1 lk_PC_146 d_PC_lay_37 (ct_Row_size gx_st_eq) (Or.inr ⟨_, _, gx_st_eq⟩) (by omega) rfl rfl (Nat.le_of_ble_eq_true rfl) ?_
      refine gx_ireturn rfl d_PC_lay_40 ?_
      exact ⟨by simp, hP2, gx_kp.st (by omega) (by omega)⟩
    · rw [if_neg (show ¬ (_ ∧ laid.length < 60) from fun g => h20 g.2)]
      refine gx_iconst d_PC_lay_23 (-1) (by decide) ?_
      refine gx_ireturn rfl d_PC_lay_24 ?_
      exact ⟨rfl, hP, gx_kp.rf⟩
theorem d_PC_clear_0 : decode prog_1_method_13_code 0 = .ok (.aload_n 0, 1) := by decide +kernel
theorem d_PC_clear_1 : decode prog_1_method_13_code 1 = .ok (.getfield 49, 3) := by decide +kernel
theorem d_PC_clear_4 : decode prog_1_method_13_code 4 = .ok (.invokevirtual 154, 3) := by decide +kernel
theorem d_PC_clear_7 : decode prog_1_method_13_code 7 = .ok (.aload_n 0, 1) := by decide +kernel
theorem d_PC_clear_8 : decode prog_1_method_13_code 8 = .ok (.getfield 56, 3) := by decide +kernel
theorem d_PC_clear_11 : decode prog_1_method_13_code 11 = .ok (.invokevirtual 157, 3) := by decide +kernel
theorem d_PC_clear_14 : decode prog_1_method_13_code 14 = .ok (.return_, 1) := by decide +kernel
theorem ct_clear {w : gx_W} {B : Nat} {M : sp_M} {inp laid typed : List Nat} {lk : Int32} (h : pcAt w B M inp laid typed lk)  : gx_Ct M_PC_clear 2 0 0 [.ref B] w (fun v w' => v = none ∧ pcAt w' B M inp [] [] lk ∧ gx_kp w w' B (B + 360)) := by
  refine gx_ct (L := [some (.ref B)]) (by decide) (Nat.le_of_ble_eq_true rfl) rfl ?_
  refine gx_aload_n d_PC_clear_0 rfl ?_
  refine gx_get fl_PC_49 d_PC_clear_1 h.1.1 rfl ?_
  refine gx_cV0 lk_PC_154 d_PC_clear_4 (ct_Row_empty h.1.2.2.2.2.2.2.1) (Or.inr ⟨_, _, h.1.2.2.2.2.2.2.1⟩) (by omega) rfl rfl (Nat.le_of_ble_eq_true rfl) ?_
  have h2 := h.laid []
  have k2 : gx_kp w (gx_st w (B + 352) (gx_bx 1 60 [])) B (B + 360) := gx_kp.st (by omega) (by omega)
  refine gx_aload_n d_PC_clear_7 rfl ?_
  refine gx_get fl_PC_56 d_PC_clear_8 h2.1.1 rfl ?_
  refine gx_cV0 lk_PC_157 d_PC_clear_11 (ct_Word_empty h2.1.2.2.2.2.2.2.2) (Or.inr ⟨_, _, h2.1.2.2.2.2.2.2.2⟩) (by omega) rfl rfl (Nat.le_of_ble_eq_true rfl) ?_
  refine gx_return rfl d_PC_clear_14 ?_
  exact ⟨rfl, h2.typed [], k2.trans (gx_kp.st (by omega) (by omega))⟩
def sp_up (ds : List (List Nat × List Nat)) (laid : List Nat) : List Nat := laid.flatMap (fun d => (ds.getD d ([], [])).1)
def sp_lw (ds : List (List Nat × List Nat)) (laid : List Nat) : List Nat := laid.flatMap (fun d => (ds.getD d ([], [])).2)
theorem gx_td {l : List Nat} : (l.take l.length).drop 0 = l := by simp
theorem d_PC_spellLaid_0 : decode prog_1_method_21_code 0 = .ok (.aload_n 0, 1) := by decide +kernel
theorem d_PC_spellLaid_1 : decode prog_1_method_21_code 1 = .ok (.getfield 60, 3) := by decide +kernel
theorem d_PC_spellLaid_4 : decode prog_1_method_21_code 4 = .ok (.invokevirtual 157, 3) := by decide +kernel
theorem d_PC_spellLaid_7 : decode prog_1_method_21_code 7 = .ok (.aload_n 0, 1) := by decide +kernel
theorem d_PC_spellLaid_8 : decode prog_1_method_21_code 8 = .ok (.getfield 63, 3) := by decide +kernel
theorem d_PC_spellLaid_11 : decode prog_1_method_21_code 11 = .ok (.invokevirtual 157, 3) := by decide +kernel
theorem d_PC_spellLaid_14 : decode prog_1_method_21_code 14 = .ok (.iconst 0, 1) := by decide +kernel
theorem d_PC_spellLaid_15 : decode prog_1_method_21_code 15 = .ok (.istore_n 1, 1) := by decide +kernel
theorem d_PC_spellLaid_16 : decode prog_1_method_21_code 16 = .ok (.iload_n 1, 1) := by decide +kernel
theorem d_PC_spellLaid_17 : decode prog_1_method_21_code 17 = .ok (.aload_n 0, 1) := by decide +kernel
theorem d_PC_spellLaid_18 : decode prog_1_method_21_code 18 = .ok (.getfield 49, 3) := by decide +kernel
theorem d_PC_spellLaid_21 : decode prog_1_method_21_code 21 = .ok (.invokevirtual 146, 3) := by decide +kernel
theorem d_PC_spellLaid_24 : decode prog_1_method_21_code 24 = .ok (.if_icmp .ge 63, 3) := by decide +kernel
theorem d_PC_spellLaid_27 : decode prog_1_method_21_code 27 = .ok (.aload_n 0, 1) := by decide +kernel
theorem d_PC_spellLaid_28 : decode prog_1_method_21_code 28 = .ok (.getfield 26, 3) := by decide +kernel
theorem d_PC_spellLaid_31 : decode prog_1_method_21_code 31 = .ok (.aload_n 0, 1) := by decide +kernel
theorem d_PC_spellLaid_32 : decode prog_1_method_21_code 32 = .ok (.getfield 49, 3) := by decide +kernel
theorem d_PC_spellLaid_35 : decode prog_1_method_21_code 35 = .ok (.iload_n 1, 1) := by decide +kernel
theorem d_PC_spellLaid_36 : decode prog_1_method_21_code 36 = .ok (.invokevirtual 145, 3) := by decide +kernel
theorem d_PC_spellLaid_39 : decode prog_1_method_21_code 39 = .ok (.invokevirtual 124, 3) := by decide +kernel
theorem d_PC_spellLaid_42 : decode prog_1_method_21_code 42 = .ok (.astore_n 2, 1) := by decide +kernel
theorem d_PC_spellLaid_43 : decode prog_1_method_21_code 43 = .ok (.aload_n 0, 1) := by decide +kernel
theorem d_PC_spellLaid_44 : decode prog_1_method_21_code 44 = .ok (.getfield 60, 3) := by decide +kernel
theorem d_PC_spellLaid_47 : decode prog_1_method_21_code 47 = .ok (.aload_n 2, 1) := by decide +kernel
theorem d_PC_spellLaid_48 : decode prog_1_method_21_code 48 = .ok (.getfield 128, 3) := by decide +kernel
theorem d_PC_spellLaid_51 : decode prog_1_method_21_code 51 = .ok (.iconst 0, 1) := by decide +kernel
theorem d_PC_spellLaid_52 : decode prog_1_method_21_code 52 = .ok (.aload_n 2, 1) := by decide +kernel
theorem d_PC_spellLaid_53 : decode prog_1_method_21_code 53 = .ok (.getfield 128, 3) := by decide +kernel
theorem d_PC_spellLaid_56 : decode prog_1_method_21_code 56 = .ok (.invokevirtual 186, 3) := by decide +kernel
theorem d_PC_spellLaid_59 : decode prog_1_method_21_code 59 = .ok (.invokevirtual 216, 3) := by decide +kernel
theorem d_PC_spellLaid_62 : decode prog_1_method_21_code 62 = .ok (.aload_n 0, 1) := by decide +kernel
theorem d_PC_spellLaid_63 : decode prog_1_method_21_code 63 = .ok (.getfield 63, 3) := by decide +kernel
theorem d_PC_spellLaid_66 : decode prog_1_method_21_code 66 = .ok (.aload_n 2, 1) := by decide +kernel
theorem d_PC_spellLaid_67 : decode prog_1_method_21_code 67 = .ok (.getfield 133, 3) := by decide +kernel
theorem d_PC_spellLaid_70 : decode prog_1_method_21_code 70 = .ok (.iconst 0, 1) := by decide +kernel
theorem d_PC_spellLaid_71 : decode prog_1_method_21_code 71 = .ok (.aload_n 2, 1) := by decide +kernel
theorem d_PC_spellLaid_72 : decode prog_1_method_21_code 72 = .ok (.getfield 133, 3) := by decide +kernel
theorem d_PC_spellLaid_75 : decode prog_1_method_21_code 75 = .ok (.invokevirtual 186, 3) := by decide +kernel
theorem d_PC_spellLaid_78 : decode prog_1_method_21_code 78 = .ok (.invokevirtual 216, 3) := by decide +kernel
theorem d_PC_spellLaid_81 : decode prog_1_method_21_code 81 = .ok (.iinc 1 1, 3) := by decide +kernel
theorem d_PC_spellLaid_84 : decode prog_1_method_21_code 84 = .ok (.goto (-68), 3) := by decide +kernel
theorem d_PC_spellLaid_87 : decode prog_1_method_21_code 87 = .ok (.return_, 1) := by decide +kernel
theorem lp_spell {Q : gx_P} {w0 : gx_W} {B : Nat} {M : sp_M} {inp laid typed : List Nat} {lk : Int32} (h0 : pcC w0 B M inp laid typed lk) (hlaid : ∀ d ∈ laid, d < (sp_dsx M inp).length) : ∀ (fu : Nat) (i : Nat) (w : gx_W) (u : List Nat) (v : List Nat) (L2 : Option Value), laid.length - i < fu → (gx_kp w0 w (B + 356) (B + 360)) → (w.1 (B + 356) = some (gx_bx 0 180 u)) → (w.1 (B + 358) = some (gx_bx 0 420 v)) → (u = sp_up (sp_dsx M inp) (laid.take i)) → (v = sp_lw (sp_dsx M inp) (laid.take i)) → (u.length ≤ 3 * i) → (v.length ≤ 7 * i) → (i ≤ laid.length) → (∀ w', gx_kp w0 w' (B + 356) (B + 360) → w'.1 (B + 356) = some (gx_bx 0 180 (sp_up (sp_dsx M inp) laid)) → w'.1 (B + 358) = some (gx_bx 0 420 (sp_lw (sp_dsx M inp) laid)) → Q.1 none w') → gx_X (fun _ _ => True) M_PC_spellLaid 3 Q 16 [some (.ref B), some (.int (nI i)), L2] [] w (0, 0) := by
  intro fu
  induction fu with
  | zero => intro i w u v L2 hfu; exact absurd hfu (Nat.not_lt_zero _)
  | succ fu ih =>
    intro i w u v L2 hfu hk hu hv hue hve hul hvl hi hQ
    have hC := h0.kept hk (by omega)
    obtain ⟨c0, c1, c2, ⟨fo, c3, hfo⟩, c4, c5, c6, c7⟩ := hC
    obtain ⟨hd60, U3, V3, b3, hd3⟩ := c3
    refine gx_bsz c6 (fun hlen hcap hsm => ?_)
    refine gx_iload_n d_PC_spellLaid_16 rfl ?_
    refine gx_aload_n d_PC_spellLaid_17 rfl ?_
    refine gx_get fl_PC_49 d_PC_spellLaid_18 c0 rfl ?_
    refine gx_cV1 lk_PC_146 d_PC_spellLaid_21 (ct_Row_size c6) (Or.inr ⟨_, _, c6⟩) (by omega) rfl rfl (Nat.le_of_ble_eq_true rfl) ?_
    refine gx_icmp_geN (by omega) (by omega) (tgt := 87) d_PC_spellLaid_24 (by decide) (fun h24 => ?_) (fun h24 => ?_)
    · refine gx_return rfl d_PC_spellLaid_87 ?_
      have e : i = laid.length := by omega
      subst e
      rw [List.take_of_length_le (Nat.le_refl _)] at hue hve
      rw [hue] at hu
      rw [hve] at hv
      exact hQ w hk hu hv
    · refine gx_aload_n d_PC_spellLaid_27 rfl ?_
      have hj := hlaid _ (gx_gd_mem (show i < laid.length by omega))
      obtain ⟨hD, hwu, hwl⟩ := b3.2.2.2 (laid.getD i 0) (by omega)
      rw [(hd3 _ hj).1] at hwu
      rw [(hd3 _ hj).2] at hwl
      refine gx_get fl_PC_26 d_PC_spellLaid_28 c0 rfl ?_
      refine gx_aload_n d_PC_spellLaid_31 rfl ?_
      refine gx_get fl_PC_49 d_PC_spellLaid_32 c0 rfl ?_
      refine gx_iload_n d_PC_spellLaid_35 rfl ?_
      refine gx_cV1 lk_PC_145 d_PC_spellLaid_36 (ct_Row_ask (i := nI i) c6) (Or.inr ⟨_, _, c6⟩) (by omega) rfl rfl (Nat.le_of_ble_eq_true rfl) ?_
      refine gx_top (sp_ask_in (show i < laid.length by omega) (by omega)) ?_
      refine gx_cV1 lk_PC_124 d_PC_spellLaid_39 (ct_Box_get b3 hj hd60) (Or.inl ⟨_, b3.1⟩) (by omega) rfl rfl (Nat.le_of_ble_eq_true rfl) ?_
      refine gx_astore_n d_PC_spellLaid_42 (Nat.le_of_ble_eq_true rfl) rfl ?_
      refine gx_aload_n d_PC_spellLaid_43 rfl ?_
      refine gx_bsz hwu (fun hlu hcu hsu => ?_)
      refine gx_bsz hwl (fun hll hcl hsl => ?_)
      refine gx_get fl_PC_60 d_PC_spellLaid_44 c0 rfl ?_
      refine gx_aload_n d_PC_spellLaid_47 rfl ?_
      refine gx_get fl_PC_128 d_PC_spellLaid_48 hD rfl ?_
      refine gx_iconst d_PC_spellLaid_51 (nI 0) (by decide) ?_
      refine gx_aload_n d_PC_spellLaid_52 rfl ?_
      refine gx_get fl_PC_128 d_PC_spellLaid_53 hD rfl ?_
      refine gx_cV1 lk_PC_186 d_PC_spellLaid_56 (ct_Word_size hwu) (Or.inr ⟨_, _, hwu⟩) (by omega) rfl rfl (Nat.le_of_ble_eq_true rfl) ?_
      refine gx_cV0 lk_PC_216 d_PC_spellLaid_59 (ct_Word_addPart (a := 0) (b := ((sp_dsx M inp).getD (laid.getD i 0) ([], [])).1.length) hu hwu (by omega) (by omega) (Nat.le_refl _) (by omega)) (Or.inr ⟨_, _, hu⟩) (by omega) rfl rfl (Nat.le_of_ble_eq_true rfl) ?_
      rw [gx_td]
      refine gx_aload_n d_PC_spellLaid_62 rfl ?_
      refine gx_get fl_PC_63 d_PC_spellLaid_63 (by rw [gx_st_ne (by omega)]; exact c0) rfl ?_
      refine gx_aload_n d_PC_spellLaid_66 rfl ?_
      refine gx_get fl_PC_133 d_PC_spellLaid_67 (by rw [gx_st_ne (by omega)]; exact hD) rfl ?_
      refine gx_iconst d_PC_spellLaid_70 (nI 0) (by decide) ?_
      refine gx_aload_n d_PC_spellLaid_71 rfl ?_
      refine gx_get fl_PC_133 d_PC_spellLaid_72 (by rw [gx_st_ne (by omega)]; exact hD) rfl ?_
      have hwl2 : (gx_st w (B + 356) (gx_bx 0 180 (u ++ ((sp_dsx M inp).getD (laid.getD i 0) ([], [])).1))).1 (B + 36 + 6 + 5 * laid.getD i 0) = some (gx_bx 0 7 ((sp_dsx M inp).getD (laid.getD i 0) ([], [])).2) := by rw [gx_st_ne (by omega)]; exact hwl
      have hv2 : (gx_st w (B + 356) (gx_bx 0 180 (u ++ ((sp_dsx M inp).getD (laid.getD i 0) ([], [])).1))).1 (B + 358) = some (gx_bx 0 420 v) := by rw [gx_st_ne (by omega)]; exact hv
      refine gx_cV1 lk_PC_186 d_PC_spellLaid_75 (ct_Word_size hwl2) (Or.inr ⟨_, _, hwl2⟩) (by omega) rfl rfl (Nat.le_of_ble_eq_true rfl) ?_
      refine gx_cV0 lk_PC_216 d_PC_spellLaid_78 (ct_Word_addPart (a := 0) (b := ((sp_dsx M inp).getD (laid.getD i 0) ([], [])).2.length) hv2 hwl2 (by omega) (by omega) (Nat.le_refl _) (by omega)) (Or.inr ⟨_, _, hv2⟩) (by omega) rfl rfl (Nat.le_of_ble_eq_true rfl) ?_
      rw [gx_td]
      refine gx_iincN (n := 1) d_PC_spellLaid_81 rfl (by decide) (Nat.le_of_ble_eq_true rfl) rfl ?_
      refine gx_goto (tgt := 16) d_PC_spellLaid_84 (by decide) ?_
      refine ih (i + 1) _ (u ++ ((sp_dsx M inp).getD (laid.getD i 0) ([], [])).1) (v ++ ((sp_dsx M inp).getD (laid.getD i 0) ([], [])).2) _ (by omega) ((hk.trans (gx_kp.st (by omega) (by omega))).trans (gx_kp.st (by omega) (by omega))) (by rw [gx_st_ne (by omega)]; exact gx_st_eq) gx_st_eq ?_ ?_ (by rw [List.length_append]; omega) (by rw [List.length_append]; omega) (by omega) hQ
      · rw [hue, gx_take_succ (by omega)]
        unfold sp_up
        rw [List.flatMap_append]; simp
      · rw [hve, gx_take_succ (by omega)]
        unfold sp_lw
        rw [List.flatMap_append]; simp
theorem ct_spellLaid {w : gx_W} {B : Nat} {M : sp_M} {inp laid typed : List Nat} {lk : Int32} (h : pcAt w B M inp laid typed lk) (hlaid : ∀ d ∈ laid, d < (sp_dsx M inp).length)  : gx_Ct M_PC_spellLaid 3 0 0 [.ref B] w (fun r w' => r = none ∧ pcC w' B M inp laid typed lk ∧ w'.1 (B + 356) = some (gx_bx 0 180 (sp_up (sp_dsx M inp) laid)) ∧ w'.1 (B + 358) = some (gx_bx 0 420 (sp_lw (sp_dsx M inp) laid)) ∧ gx_kp w w' (B + 356) (B + 360)) := by
  refine gx_ct (L := [some (.ref B), none, none]) (by decide) (Nat.le_of_ble_eq_true rfl) rfl ?_
  obtain ⟨hC, ⟨l8, h8⟩, ⟨l9, h9⟩⟩ := h
  refine gx_aload_n d_PC_spellLaid_0 rfl ?_
  refine gx_get fl_PC_60 d_PC_spellLaid_1 hC.1 rfl ?_
  refine gx_cV0 lk_PC_157 d_PC_spellLaid_4 (ct_Word_empty h8) (Or.inr ⟨_, _, h8⟩) (by omega) rfl rfl (Nat.le_of_ble_eq_true rfl) ?_
  have k1 : gx_kp w (gx_st w (B + 356) (gx_bx 0 180 [])) (B + 356) (B + 360) := gx_kp.st (by omega) (by omega)
  have h9a : (gx_st w (B + 356) (gx_bx 0 180 [])).1 (B + 358) = some (gx_bx 0 420 l9) := by rw [gx_st_ne (by omega)]; exact h9
  refine gx_aload_n d_PC_spellLaid_7 rfl ?_
  refine gx_get fl_PC_63 d_PC_spellLaid_8 (by rw [gx_st_ne (by omega)]; exact hC.1) rfl ?_
  refine gx_cV0 lk_PC_157 d_PC_spellLaid_11 (ct_Word_empty h9a) (Or.inr ⟨_, _, h9a⟩) (by omega) rfl rfl (Nat.le_of_ble_eq_true rfl) ?_
  refine gx_iconst d_PC_spellLaid_14 (nI 0) (by decide) ?_
  refine gx_istore_n d_PC_spellLaid_15 (Nat.le_of_ble_eq_true rfl) rfl ?_
  exact lp_spell hC hlaid (laid.length + 1) 0 _ [] [] none (by omega) (k1.trans (gx_kp.st (by omega) (by omega))) (by rw [gx_st_ne (by omega)]; exact gx_st_eq) gx_st_eq (by simp [sp_up]) (by simp [sp_lw]) (by simp) (by simp) (Nat.zero_le _) (fun w' k2 h3 h4 => ⟨rfl, hC.kept k2 (by omega), h3, h4, k2⟩)
def sp_tray (ds : List (List Nat × List Nat)) (laid : List Nat) : Nat := if sp_agb (sp_up ds laid) (sp_lw ds laid) = true then (if laid.getD 0 1 = 0 ∧ sp_up ds laid = sp_lw ds laid then 2 else 1) else 0
theorem sp_ask0 {laid : List Nat} (h : laid.length < 2 ^ 31) (hs : gx_sm laid) : sp_ask laid (nI 0) = 0 ↔ laid.getD 0 1 = 0 := by
  cases laid with
  | nil => simp [sp_ask]; decide
  | cons a t =>
    rw [sp_ask_in (by simp) h]
    show nI a = 0 ↔ a = 0
    exact gx_z0 (by have := hs a List.mem_cons_self; omega)
theorem d_PC_tray_0 : decode prog_1_method_14_code 0 = .ok (.aload_n 0, 1) := by decide +kernel
theorem d_PC_tray_1 : decode prog_1_method_14_code 1 = .ok (.invokevirtual 158, 3) := by decide +kernel
theorem d_PC_tray_4 : decode prog_1_method_14_code 4 = .ok (.aload_n 0, 1) := by decide +kernel
theorem d_PC_tray_5 : decode prog_1_method_14_code 5 = .ok (.getfield 60, 3) := by decide +kernel
theorem d_PC_tray_8 : decode prog_1_method_14_code 8 = .ok (.aload_n 0, 1) := by decide +kernel
theorem d_PC_tray_9 : decode prog_1_method_14_code 9 = .ok (.getfield 63, 3) := by decide +kernel
theorem d_PC_tray_12 : decode prog_1_method_14_code 12 = .ok (.invokevirtual 161, 3) := by decide +kernel
theorem d_PC_tray_15 : decode prog_1_method_14_code 15 = .ok (.ifCond .ne 5, 3) := by decide +kernel
theorem d_PC_tray_18 : decode prog_1_method_14_code 18 = .ok (.iconst 0, 1) := by decide +kernel
theorem d_PC_tray_19 : decode prog_1_method_14_code 19 = .ok (.ireturn, 1) := by decide +kernel
theorem d_PC_tray_20 : decode prog_1_method_14_code 20 = .ok (.aload_n 0, 1) := by decide +kernel
theorem d_PC_tray_21 : decode prog_1_method_14_code 21 = .ok (.getfield 49, 3) := by decide +kernel
theorem d_PC_tray_24 : decode prog_1_method_14_code 24 = .ok (.iconst 0, 1) := by decide +kernel
theorem d_PC_tray_25 : decode prog_1_method_14_code 25 = .ok (.invokevirtual 145, 3) := by decide +kernel
theorem d_PC_tray_28 : decode prog_1_method_14_code 28 = .ok (.ifCond .ne 21, 3) := by decide +kernel
theorem d_PC_tray_31 : decode prog_1_method_14_code 31 = .ok (.aload_n 0, 1) := by decide +kernel
theorem d_PC_tray_32 : decode prog_1_method_14_code 32 = .ok (.getfield 60, 3) := by decide +kernel
theorem d_PC_tray_35 : decode prog_1_method_14_code 35 = .ok (.aload_n 0, 1) := by decide +kernel
theorem d_PC_tray_36 : decode prog_1_method_14_code 36 = .ok (.getfield 63, 3) := by decide +kernel
theorem d_PC_tray_39 : decode prog_1_method_14_code 39 = .ok (.invokevirtual 165, 3) := by decide +kernel
theorem d_PC_tray_42 : decode prog_1_method_14_code 42 = .ok (.ifCond .eq 7, 3) := by decide +kernel
theorem d_PC_tray_45 : decode prog_1_method_14_code 45 = .ok (.iconst 2, 1) := by decide +kernel
theorem d_PC_tray_46 : decode prog_1_method_14_code 46 = .ok (.goto 4, 3) := by decide +kernel
theorem d_PC_tray_49 : decode prog_1_method_14_code 49 = .ok (.iconst 1, 1) := by decide +kernel
theorem d_PC_tray_50 : decode prog_1_method_14_code 50 = .ok (.ireturn, 1) := by decide +kernel
theorem ct_tray {w : gx_W} {B : Nat} {M : sp_M} {inp laid typed : List Nat} {lk : Int32} (h : pcAt w B M inp laid typed lk) (hlaid : ∀ d ∈ laid, d < (sp_dsx M inp).length)  : gx_Ct M_PC_tray 4 0 0 [.ref B] w (fun v w' => v = some (.int (nI (sp_tray (sp_dsx M inp) laid))) ∧ pcAt w' B M inp laid typed lk ∧ w'.1 (B + 356) = some (gx_bx 0 180 (sp_up (sp_dsx M inp) laid)) ∧ gx_kp w w' (B + 356) (B + 360)) := by
  refine gx_ct (L := [some (.ref B)]) (by decide) (Nat.le_of_ble_eq_true rfl) rfl ?_
  refine gx_aload_n d_PC_tray_0 rfl ?_
  refine gx_cVr lk_PC_158 d_PC_tray_1 (ct_spellLaid h hlaid) (Or.inl ⟨_, h.1.1⟩) (by omega) rfl rfl (Nat.le_of_ble_eq_true rfl) (fun r2 w2 hq => ?_)
  obtain ⟨rfl, hC, hu, hl, kk⟩ := hq
  have hA : pcAt w2 B M inp laid typed lk := ⟨hC, ⟨_, hu⟩, ⟨_, hl⟩⟩
  have hbt := Bool.toNat_le (sp_agb (sp_up (sp_dsx M inp) laid) (sp_lw (sp_dsx M inp) laid))
  have hbt2 := Bool.toNat_le (decide (sp_up (sp_dsx M inp) laid = sp_lw (sp_dsx M inp) laid))
  refine gx_bsz hC.2.2.2.2.2.2.1 (fun hlen hcap hsm => ?_)
  have ha0 := sp_ask0 (laid := laid) (by omega) hsm
  unfold sp_tray
  refine gx_aload_n d_PC_tray_4 rfl ?_
  refine gx_get fl_PC_60 d_PC_tray_5 hC.1 rfl ?_
  refine gx_aload_n d_PC_tray_8 rfl ?_
  refine gx_get fl_PC_63 d_PC_tray_9 hC.1 rfl ?_
  refine gx_cV1 lk_PC_161 d_PC_tray_12 (ct_Word_agrees hu hl) (Or.inr ⟨_, _, hu⟩) (by omega) rfl rfl (Nat.le_of_ble_eq_true rfl) ?_
  refine gx_if_neN (by omega) (tgt := 20) d_PC_tray_15 (by decide) (fun h15 => ?_) (fun h15 => ?_)
  · rw [if_pos (show sp_agb (sp_up (sp_dsx M inp) laid) (sp_lw (sp_dsx M inp) laid) = true by cases hq : sp_agb (sp_up (sp_dsx M inp) laid) (sp_lw (sp_dsx M inp) laid) <;> simp_all)]
    refine gx_aload_n d_PC_tray_20 rfl ?_
    refine gx_get fl_PC_49 d_PC_tray_21 hC.1 rfl ?_
    refine gx_iconst d_PC_tray_24 (nI 0) (by decide) ?_
    refine gx_cV1 lk_PC_145 d_PC_tray_25 (ct_Row_ask (i := nI 0) hC.2.2.2.2.2.2.1) (Or.inr ⟨_, _, hC.2.2.2.2.2.2.1⟩) (by omega) rfl rfl (Nat.le_of_ble_eq_true rfl) ?_
    refine gx_if_ne (tgt := 49) d_PC_tray_28 (by decide) (fun h28 => ?_) (fun h28 => ?_)
    · rw [if_neg (fun g => h28 (ha0.mpr g.1))]
      refine gx_iconst d_PC_tray_49 (nI 1) (by decide) ?_
      refine gx_ireturn rfl d_PC_tray_50 ?_
      exact ⟨rfl, hA, hu, kk⟩
    · refine gx_aload_n d_PC_tray_31 rfl ?_
      refine gx_get fl_PC_60 d_PC_tray_32 hC.1 rfl ?_
      refine gx_aload_n d_PC_tray_35 rfl ?_
      refine gx_get fl_PC_63 d_PC_tray_36 hC.1 rfl ?_
      refine gx_cV1 lk_PC_165 d_PC_tray_39 (ct_Word_same hu hl) (Or.inr ⟨_, _, hu⟩) (by omega) rfl rfl (Nat.le_of_ble_eq_true rfl) ?_
      refine gx_if_eqN (by omega) (tgt := 49) d_PC_tray_42 (by decide) (fun h42 => ?_) (fun h42 => ?_)
      · rw [if_neg (fun g => by rw [decide_eq_true g.2] at h42; exact absurd h42 (by decide))]
        refine gx_iconst d_PC_tray_49 (nI 1) (by decide) ?_
        refine gx_ireturn rfl d_PC_tray_50 ?_
        exact ⟨rfl, hA, hu, kk⟩
      · rw [if_pos ⟨ha0.mp h28, by cases hq : decide (sp_up (sp_dsx M inp) laid = sp_lw (sp_dsx M inp) laid) <;> simp_all⟩]
        refine gx_iconst d_PC_tray_45 (nI 2) (by decide) ?_
        refine gx_goto (tgt := 50) d_PC_tray_46 (by decide) ?_
        refine gx_ireturn rfl d_PC_tray_50 ?_
        exact ⟨rfl, hA, hu, kk⟩
  · rw [if_neg (show ¬ sp_agb (sp_up (sp_dsx M inp) laid) (sp_lw (sp_dsx M inp) laid) = true from fun g => by rw [g] at h15; exact absurd h15 (by decide))]
    refine gx_iconst d_PC_tray_18 (nI 0) (by decide) ?_
    refine gx_ireturn rfl d_PC_tray_19 ?_
    exact ⟨rfl, hA, hu, kk⟩
def sp_hh : List Nat → Nat
  | [] => 0
  | c :: t => if c = 104 then 0 else (if c = 35 then 1 else 0) + sp_hh t
theorem d_PC_hashesAheadOfHalt_0 : decode prog_1_method_22_code 0 = .ok (.iconst 0, 1) := by decide +kernel
theorem d_PC_hashesAheadOfHalt_1 : decode prog_1_method_22_code 1 = .ok (.istore_n 1, 1) := by decide +kernel
theorem d_PC_hashesAheadOfHalt_2 : decode prog_1_method_22_code 2 = .ok (.iconst 0, 1) := by decide +kernel
theorem d_PC_hashesAheadOfHalt_3 : decode prog_1_method_22_code 3 = .ok (.istore_n 2, 1) := by decide +kernel
theorem d_PC_hashesAheadOfHalt_4 : decode prog_1_method_22_code 4 = .ok (.iload_n 2, 1) := by decide +kernel
theorem d_PC_hashesAheadOfHalt_5 : decode prog_1_method_22_code 5 = .ok (.aload_n 0, 1) := by decide +kernel
theorem d_PC_hashesAheadOfHalt_6 : decode prog_1_method_22_code 6 = .ok (.invokevirtual 186, 3) := by decide +kernel
theorem d_PC_hashesAheadOfHalt_9 : decode prog_1_method_22_code 9 = .ok (.if_icmp .ge 39, 3) := by decide +kernel
theorem d_PC_hashesAheadOfHalt_12 : decode prog_1_method_22_code 12 = .ok (.aload_n 0, 1) := by decide +kernel
theorem d_PC_hashesAheadOfHalt_13 : decode prog_1_method_22_code 13 = .ok (.iload_n 2, 1) := by decide +kernel
theorem d_PC_hashesAheadOfHalt_14 : decode prog_1_method_22_code 14 = .ok (.invokevirtual 220, 3) := by decide +kernel
theorem d_PC_hashesAheadOfHalt_17 : decode prog_1_method_22_code 17 = .ok (.iconst 4, 1) := by decide +kernel
theorem d_PC_hashesAheadOfHalt_18 : decode prog_1_method_22_code 18 = .ok (.invokestatic 224, 3) := by decide +kernel
theorem d_PC_hashesAheadOfHalt_21 : decode prog_1_method_22_code 21 = .ok (.if_icmp .eq 27, 3) := by decide +kernel
theorem d_PC_hashesAheadOfHalt_24 : decode prog_1_method_22_code 24 = .ok (.iload_n 1, 1) := by decide +kernel
theorem d_PC_hashesAheadOfHalt_25 : decode prog_1_method_22_code 25 = .ok (.aload_n 0, 1) := by decide +kernel
theorem d_PC_hashesAheadOfHalt_26 : decode prog_1_method_22_code 26 = .ok (.iload_n 2, 1) := by decide +kernel
theorem d_PC_hashesAheadOfHalt_27 : decode prog_1_method_22_code 27 = .ok (.invokevirtual 220, 3) := by decide +kernel
theorem d_PC_hashesAheadOfHalt_30 : decode prog_1_method_22_code 30 = .ok (.bipush 35, 2) := by decide +kernel
theorem d_PC_hashesAheadOfHalt_32 : decode prog_1_method_22_code 32 = .ok (.if_icmp .ne 7, 3) := by decide +kernel
theorem d_PC_hashesAheadOfHalt_35 : decode prog_1_method_22_code 35 = .ok (.iconst 1, 1) := by decide +kernel
theorem d_PC_hashesAheadOfHalt_36 : decode prog_1_method_22_code 36 = .ok (.goto 4, 3) := by decide +kernel
theorem d_PC_hashesAheadOfHalt_39 : decode prog_1_method_22_code 39 = .ok (.iconst 0, 1) := by decide +kernel
theorem d_PC_hashesAheadOfHalt_40 : decode prog_1_method_22_code 40 = .ok (.iadd, 1) := by decide +kernel
theorem d_PC_hashesAheadOfHalt_41 : decode prog_1_method_22_code 41 = .ok (.istore_n 1, 1) := by decide +kernel
theorem d_PC_hashesAheadOfHalt_42 : decode prog_1_method_22_code 42 = .ok (.iinc 2 1, 3) := by decide +kernel
theorem d_PC_hashesAheadOfHalt_45 : decode prog_1_method_22_code 45 = .ok (.goto (-41), 3) := by decide +kernel
theorem d_PC_hashesAheadOfHalt_48 : decode prog_1_method_22_code 48 = .ok (.iload_n 1, 1) := by decide +kernel
theorem d_PC_hashesAheadOfHalt_49 : decode prog_1_method_22_code 49 = .ok (.ireturn, 1) := by decide +kernel
theorem lp_hashes {Q : gx_P} {w : gx_W} {h cap : Nat} {l : List Nat} (hw : w.1 h = some (gx_bx 0 cap l)) : ∀ (fu : Nat) (i : Nat) (m : Nat), l.length - i < fu → (i ≤ l.length) → (m ≤ i) → (Q.1 (some (.int (nI (m + sp_hh (l.drop i))))) w) → gx_X (fun _ _ => True) M_PC_hashesAheadOfHalt 2 Q 4 [some (.ref h), some (.int (nI m)), some (.int (nI i))] [] w (0, 0) := by
  intro fu
  induction fu with
  | zero => intro i m hfu; exact absurd hfu (Nat.not_lt_zero _)
  | succ fu ih =>
    intro i m hfu hi hm hQ
    refine gx_bsz hw (fun hlen hcap hsm => ?_)
    have hs := gx_sm_at hsm i
    refine gx_iload_n d_PC_hashesAheadOfHalt_4 rfl ?_
    refine gx_aload_n d_PC_hashesAheadOfHalt_5 rfl ?_
    refine gx_cV1 lk_PC_186 d_PC_hashesAheadOfHalt_6 (ct_Word_size hw) (Or.inr ⟨_, _, hw⟩) (by omega) rfl rfl (Nat.le_of_ble_eq_true rfl) ?_
    refine gx_icmp_geN (by omega) (by omega) (tgt := 48) d_PC_hashesAheadOfHalt_9 (by decide) (fun h9 => ?_) (fun h9 => ?_)
    · refine gx_iload_n d_PC_hashesAheadOfHalt_48 rfl ?_
      refine gx_ireturn rfl d_PC_hashesAheadOfHalt_49 ?_
      rw [List.drop_eq_nil_of_le h9] at hQ
      exact hQ
    · rw [gx_drop_cons (show i < l.length by omega)] at hQ
      unfold sp_hh at hQ
      refine gx_aload_n d_PC_hashesAheadOfHalt_12 rfl ?_
      refine gx_iload_n d_PC_hashesAheadOfHalt_13 rfl ?_
      refine gx_cV1 lk_PC_220 d_PC_hashesAheadOfHalt_14 (ct_Word_at hw (by omega)) (Or.inr ⟨_, _, hw⟩) (by omega) rfl rfl (Nat.le_of_ble_eq_true rfl) ?_
      refine gx_iconst d_PC_hashesAheadOfHalt_17 (nI 4) (by decide) ?_
      refine gx_cS1 lk_PC_224 d_PC_hashesAheadOfHalt_18 (ct_letter (q := 4) (by omega)) (by omega) rfl rfl (Nat.le_of_ble_eq_true rfl) ?_
      refine gx_top (show _ = nI 104 from rfl) ?_
      refine gx_icmp_eqN (by omega) (by omega) (tgt := 48) d_PC_hashesAheadOfHalt_21 (by decide) (fun h21 => ?_) (fun h21 => ?_)
      · rw [if_pos h21] at hQ
        refine gx_iload_n d_PC_hashesAheadOfHalt_48 rfl ?_
        refine gx_ireturn rfl d_PC_hashesAheadOfHalt_49 ?_
        exact hQ
      · rw [if_neg h21] at hQ
        refine gx_iload_n d_PC_hashesAheadOfHalt_24 rfl ?_
        refine gx_aload_n d_PC_hashesAheadOfHalt_25 rfl ?_
        refine gx_iload_n d_PC_hashesAheadOfHalt_26 rfl ?_
        refine gx_cV1 lk_PC_220 d_PC_hashesAheadOfHalt_27 (ct_Word_at hw (by omega)) (Or.inr ⟨_, _, hw⟩) (by omega) rfl rfl (Nat.le_of_ble_eq_true rfl) ?_
        refine gx_bipush d_PC_hashesAheadOfHalt_30 (nI 35) (by decide) ?_
        refine gx_icmp_neN (by omega) (by omega) (tgt := 39) d_PC_hashesAheadOfHalt_32 (by decide) (fun h32 => ?_) (fun h32 => ?_)
        · rw [if_neg h32] at hQ
          refine gx_iconst d_PC_hashesAheadOfHalt_39 (nI 0) (by decide) ?_
          refine gx_iaddN d_PC_hashesAheadOfHalt_40 ?_
          refine gx_istore_n d_PC_hashesAheadOfHalt_41 (Nat.le_of_ble_eq_true rfl) rfl ?_
          refine gx_iincN (n := 1) d_PC_hashesAheadOfHalt_42 rfl (by decide) (Nat.le_of_ble_eq_true rfl) rfl ?_
          refine gx_goto (tgt := 4) d_PC_hashesAheadOfHalt_45 (by decide) ?_
          refine ih (i + 1) (m + 0) (by omega) (by omega) (by omega) ?_
          rw [Nat.add_assoc]
          exact hQ
        · rw [if_pos h32] at hQ
          refine gx_iconst d_PC_hashesAheadOfHalt_35 (nI 1) (by decide) ?_
          refine gx_goto (tgt := 40) d_PC_hashesAheadOfHalt_36 (by decide) ?_
          refine gx_iaddN d_PC_hashesAheadOfHalt_40 ?_
          refine gx_istore_n d_PC_hashesAheadOfHalt_41 (Nat.le_of_ble_eq_true rfl) rfl ?_
          refine gx_iincN (n := 1) d_PC_hashesAheadOfHalt_42 rfl (by decide) (Nat.le_of_ble_eq_true rfl) rfl ?_
          refine gx_goto (tgt := 4) d_PC_hashesAheadOfHalt_45 (by decide) ?_
          refine ih (i + 1) (m + 1) (by omega) (by omega) (by omega) ?_
          rw [Nat.add_assoc]
          exact hQ
theorem ct_hashes {w : gx_W} {h cap : Nat} {l : List Nat} (hw : w.1 h = some (gx_bx 0 cap l)) : gx_Ct M_PC_hashesAheadOfHalt 2 0 0 [.ref h] w (gx_eq (some (.int (nI (sp_hh l)))) w) := by
  refine gx_ct (L := [some (.ref h), none, none]) (by decide) (Nat.le_of_ble_eq_true rfl) rfl ?_
  refine gx_iconst d_PC_hashesAheadOfHalt_0 (nI 0) (by decide) ?_
  refine gx_istore_n d_PC_hashesAheadOfHalt_1 (Nat.le_of_ble_eq_true rfl) rfl ?_
  refine gx_iconst d_PC_hashesAheadOfHalt_2 (nI 0) (by decide) ?_
  refine gx_istore_n d_PC_hashesAheadOfHalt_3 (Nat.le_of_ble_eq_true rfl) rfl ?_
  exact lp_hashes hw (l.length + 1) 0 0 (by omega) (Nat.zero_le _) (Nat.le_refl _) ⟨by simp, rfl⟩
def sp_back (ds : List (List Nat × List Nat)) (laid : List Nat) : Int32 := if sp_tray ds laid = 2 then nI (sp_hh (sp_up ds laid)) - nI 1 else -1
theorem d_PC_back_0 : decode prog_1_method_15_code 0 = .ok (.aload_n 0, 1) := by decide +kernel
theorem d_PC_back_1 : decode prog_1_method_15_code 1 = .ok (.invokevirtual 168, 3) := by decide +kernel
theorem d_PC_back_4 : decode prog_1_method_15_code 4 = .ok (.iconst 2, 1) := by decide +kernel
theorem d_PC_back_5 : decode prog_1_method_15_code 5 = .ok (.if_icmp .ne 15, 3) := by decide +kernel
theorem d_PC_back_8 : decode prog_1_method_15_code 8 = .ok (.aload_n 0, 1) := by decide +kernel
theorem d_PC_back_9 : decode prog_1_method_15_code 9 = .ok (.getfield 60, 3) := by decide +kernel
theorem d_PC_back_12 : decode prog_1_method_15_code 12 = .ok (.invokestatic 171, 3) := by decide +kernel
theorem d_PC_back_15 : decode prog_1_method_15_code 15 = .ok (.iconst 1, 1) := by decide +kernel
theorem d_PC_back_16 : decode prog_1_method_15_code 16 = .ok (.isub, 1) := by decide +kernel
theorem d_PC_back_17 : decode prog_1_method_15_code 17 = .ok (.goto 4, 3) := by decide +kernel
theorem d_PC_back_20 : decode prog_1_method_15_code 20 = .ok (.iconst (-1), 1) := by decide +kernel
theorem d_PC_back_21 : decode prog_1_method_15_code 21 = .ok (.ireturn, 1) := by decide +kernel
theorem ct_back {w : gx_W} {B : Nat} {M : sp_M} {inp laid typed : List Nat} {lk : Int32} (h : pcAt w B M inp laid typed lk) (hlaid : ∀ d ∈ laid, d < (sp_dsx M inp).length)  : gx_Ct M_PC_back 5 0 0 [.ref B] w (fun v w' => v = some (.int (sp_back (sp_dsx M inp) laid)) ∧ pcAt w' B M inp laid typed lk ∧ gx_kp w w' (B + 356) (B + 360)) := by
  refine gx_ct (L := [some (.ref B)]) (by decide) (Nat.le_of_ble_eq_true rfl) rfl ?_
  have hb2 : sp_tray (sp_dsx M inp) laid ≤ 2 := by
    unfold sp_tray
    split
    · split <;> omega
    · omega
  unfold sp_back
  refine gx_aload_n d_PC_back_0 rfl ?_
  refine gx_cVr lk_PC_168 d_PC_back_1 (ct_tray h hlaid) (Or.inl ⟨_, h.1.1⟩) (by omega) rfl rfl (Nat.le_of_ble_eq_true rfl) (fun r2 w2 hq => ?_)
  obtain ⟨rfl, hA, hu, kk⟩ := hq
  refine gx_iconst d_PC_back_4 (nI 2) (by decide) ?_
  refine gx_icmp_neN (by omega) (by omega) (tgt := 20) d_PC_back_5 (by decide) (fun h5 => ?_) (fun h5 => ?_)
  · rw [if_neg h5]
    refine gx_iconst d_PC_back_20 (-1) (by decide) ?_
    refine gx_ireturn rfl d_PC_back_21 ?_
    exact ⟨rfl, hA, kk⟩
  · rw [if_pos h5]
    refine gx_aload_n d_PC_back_8 rfl ?_
    refine gx_get fl_PC_60 d_PC_back_9 hA.1.1 rfl ?_
    refine gx_cS1 lk_PC_171 d_PC_back_12 (ct_hashes hu) (by omega) rfl rfl (Nat.le_of_ble_eq_true rfl) ?_
    refine gx_iconst d_PC_back_15 (nI 1) (by decide) ?_
    refine gx_isub d_PC_back_16 ?_
    refine gx_goto (tgt := 21) d_PC_back_17 (by decide) ?_
    refine gx_ireturn rfl d_PC_back_21 ?_
    exact ⟨rfl, hA, kk⟩
def sp_trees (ds : List (List Nat × List Nat)) (laid typed : List Nat) : Nat := if laid.length = 0 then 0 else (decide (typed = sp_up ds laid)).toNat + (decide (typed = sp_lw ds laid)).toNat
theorem d_PC_trees_0 : decode prog_1_method_17_code 0 = .ok (.aload_n 0, 1) := by decide +kernel
theorem d_PC_trees_1 : decode prog_1_method_17_code 1 = .ok (.getfield 49, 3) := by decide +kernel
theorem d_PC_trees_4 : decode prog_1_method_17_code 4 = .ok (.invokevirtual 146, 3) := by decide +kernel
theorem d_PC_trees_7 : decode prog_1_method_17_code 7 = .ok (.ifCond .ne 5, 3) := by decide +kernel
theorem d_PC_trees_10 : decode prog_1_method_17_code 10 = .ok (.iconst 0, 1) := by decide +kernel
theorem d_PC_trees_11 : decode prog_1_method_17_code 11 = .ok (.ireturn, 1) := by decide +kernel
theorem d_PC_trees_12 : decode prog_1_method_17_code 12 = .ok (.aload_n 0, 1) := by decide +kernel
theorem d_PC_trees_13 : decode prog_1_method_17_code 13 = .ok (.invokevirtual 158, 3) := by decide +kernel
theorem d_PC_trees_16 : decode prog_1_method_17_code 16 = .ok (.aload_n 0, 1) := by decide +kernel
theorem d_PC_trees_17 : decode prog_1_method_17_code 17 = .ok (.getfield 56, 3) := by decide +kernel
theorem d_PC_trees_20 : decode prog_1_method_17_code 20 = .ok (.aload_n 0, 1) := by decide +kernel
theorem d_PC_trees_21 : decode prog_1_method_17_code 21 = .ok (.getfield 60, 3) := by decide +kernel
theorem d_PC_trees_24 : decode prog_1_method_17_code 24 = .ok (.invokevirtual 165, 3) := by decide +kernel
theorem d_PC_trees_27 : decode prog_1_method_17_code 27 = .ok (.ifCond .eq 7, 3) := by decide +kernel
theorem d_PC_trees_30 : decode prog_1_method_17_code 30 = .ok (.iconst 1, 1) := by decide +kernel
theorem d_PC_trees_31 : decode prog_1_method_17_code 31 = .ok (.goto 4, 3) := by decide +kernel
theorem d_PC_trees_34 : decode prog_1_method_17_code 34 = .ok (.iconst 0, 1) := by decide +kernel
theorem d_PC_trees_35 : decode prog_1_method_17_code 35 = .ok (.aload_n 0, 1) := by decide +kernel
theorem d_PC_trees_36 : decode prog_1_method_17_code 36 = .ok (.getfield 56, 3) := by decide +kernel
theorem d_PC_trees_39 : decode prog_1_method_17_code 39 = .ok (.aload_n 0, 1) := by decide +kernel
theorem d_PC_trees_40 : decode prog_1_method_17_code 40 = .ok (.getfield 63, 3) := by decide +kernel
theorem d_PC_trees_43 : decode prog_1_method_17_code 43 = .ok (.invokevirtual 165, 3) := by decide +kernel
theorem d_PC_trees_46 : decode prog_1_method_17_code 46 = .ok (.ifCond .eq 7, 3) := by decide +kernel
theorem d_PC_trees_49 : decode prog_1_method_17_code 49 = .ok (.iconst 1, 1) := by decide +kernel
theorem d_PC_trees_50 : decode prog_1_method_17_code 50 = .ok (.goto 4, 3) := by decide +kernel
theorem d_PC_trees_53 : decode prog_1_method_17_code 53 = .ok (.iconst 0, 1) := by decide +kernel
theorem d_PC_trees_54 : decode prog_1_method_17_code 54 = .ok (.iadd, 1) := by decide +kernel
theorem d_PC_trees_55 : decode prog_1_method_17_code 55 = .ok (.ireturn, 1) := by decide +kernel
theorem ct_trees {w : gx_W} {B : Nat} {M : sp_M} {inp laid typed : List Nat} {lk : Int32} (h : pcAt w B M inp laid typed lk) (hlaid : ∀ d ∈ laid, d < (sp_dsx M inp).length)  : gx_Ct M_PC_trees 4 0 0 [.ref B] w (fun v w' => v = some (.int (nI (sp_trees (sp_dsx M inp) laid typed))) ∧ pcAt w' B M inp laid typed lk ∧ gx_kp w w' (B + 356) (B + 360)) := by
  refine gx_ct (L := [some (.ref B)]) (by decide) (Nat.le_of_ble_eq_true rfl) rfl ?_
  unfold sp_trees
  have hbt := Bool.toNat_le (decide (typed = sp_up (sp_dsx M inp) laid))
  have hbt2 := Bool.toNat_le (decide (typed = sp_lw (sp_dsx M inp) laid))
  refine gx_bsz h.1.2.2.2.2.2.2.1 (fun hlen hcap hsm => ?_)
  refine gx_aload_n d_PC_trees_0 rfl ?_
  refine gx_get fl_PC_49 d_PC_trees_1 h.1.1 rfl ?_
  refine gx_cV1 lk_PC_146 d_PC_trees_4 (ct_Row_size h.1.2.2.2.2.2.2.1) (Or.inr ⟨_, _, h.1.2.2.2.2.2.2.1⟩) (by omega) rfl rfl (Nat.le_of_ble_eq_true rfl) ?_
  refine gx_if_neN (by omega) (tgt := 12) d_PC_trees_7 (by decide) (fun h7 => ?_) (fun h7 => ?_)
  · rw [if_neg h7]
    refine gx_aload_n d_PC_trees_12 rfl ?_
    refine gx_cVr lk_PC_158 d_PC_trees_13 (ct_spellLaid h hlaid) (Or.inl ⟨_, h.1.1⟩) (by omega) rfl rfl (Nat.le_of_ble_eq_true rfl) (fun r2 w2 hq => ?_)
    obtain ⟨rfl, hC, hu, hl, kk⟩ := hq
    have hA : pcAt w2 B M inp laid typed lk := ⟨hC, ⟨_, hu⟩, ⟨_, hl⟩⟩
    refine gx_aload_n d_PC_trees_16 rfl ?_
    refine gx_get fl_PC_56 d_PC_trees_17 hC.1 rfl ?_
    refine gx_aload_n d_PC_trees_20 rfl ?_
    refine gx_get fl_PC_60 d_PC_trees_21 hC.1 rfl ?_
    refine gx_cV1 lk_PC_165 d_PC_trees_24 (ct_Word_same hC.2.2.2.2.2.2.2 hu) (Or.inr ⟨_, _, hC.2.2.2.2.2.2.2⟩) (by omega) rfl rfl (Nat.le_of_ble_eq_true rfl) ?_
    refine gx_if_eqN (by omega) (tgt := 34) d_PC_trees_27 (by decide) (fun h27 => ?_) (fun h27 => ?_)
    · rw [h27]
      refine gx_iconst d_PC_trees_34 (nI 0) (by decide) ?_
      refine gx_aload_n d_PC_trees_35 rfl ?_
      refine gx_get fl_PC_56 d_PC_trees_36 hC.1 rfl ?_
      refine gx_aload_n d_PC_trees_39 rfl ?_
      refine gx_get fl_PC_63 d_PC_trees_40 hC.1 rfl ?_
      refine gx_cV1 lk_PC_165 d_PC_trees_43 (ct_Word_same hC.2.2.2.2.2.2.2 hl) (Or.inr ⟨_, _, hC.2.2.2.2.2.2.2⟩) (by omega) rfl rfl (Nat.le_of_ble_eq_true rfl) ?_
      refine gx_if_eqN (by omega) (tgt := 53) d_PC_trees_46 (by decide) (fun h46 => ?_) (fun h46 => ?_)
      · rw [h46]
        refine gx_iconst d_PC_trees_53 (nI 0) (by decide) ?_
        refine gx_iaddN d_PC_trees_54 ?_
        refine gx_ireturn rfl d_PC_trees_55 ?_
        exact ⟨rfl, hA, kk⟩
      · rw [show (decide (typed = sp_lw (sp_dsx M inp) laid)).toNat = 1 by omega]
        refine gx_iconst d_PC_trees_49 (nI 1) (by decide) ?_
        refine gx_goto (tgt := 54) d_PC_trees_50 (by decide) ?_
        refine gx_iaddN d_PC_trees_54 ?_
        refine gx_ireturn rfl d_PC_trees_55 ?_
        exact ⟨rfl, hA, kk⟩
    · rw [show (decide (typed = sp_up (sp_dsx M inp) laid)).toNat = 1 by omega]
      refine gx_iconst d_PC_trees_30 (nI 1) (by decide) ?_
      refine gx_goto (tgt := 35) d_PC_trees_31 (by decide) ?_
      refine gx_aload_n d_PC_trees_35 rfl ?_
      refine gx_get fl_PC_56 d_PC_trees_36 hC.1 rfl ?_
      refine gx_aload_n d_PC_trees_39 rfl ?_
      refine gx_get fl_PC_63 d_PC_trees_40 hC.1 rfl ?_
      refine gx_cV1 lk_PC_165 d_PC_trees_43 (ct_Word_same hC.2.2.2.2.2.2.2 hl) (Or.inr ⟨_, _, hC.2.2.2.2.2.2.2⟩) (by omega) rfl rfl (Nat.le_of_ble_eq_true rfl) ?_
      refine gx_if_eqN (by omega) (tgt := 53) d_PC_trees_46 (by decide) (fun h46 => ?_) (fun h46 => ?_)
      · rw [h46]
        refine gx_iconst d_PC_trees_53 (nI 0) (by decide) ?_
        refine gx_iaddN d_PC_trees_54 ?_
        refine gx_ireturn rfl d_PC_trees_55 ?_
        exact ⟨rfl, hA, kk⟩
      · rw [show (decide (typed = sp_lw (sp_dsx M inp) laid)).toNat = 1 by omega]
        refine gx_iconst d_PC_trees_49 (nI 1) (by decide) ?_
        refine gx_goto (tgt := 54) d_PC_trees_50 (by decide) ?_
        refine gx_iaddN d_PC_trees_54 ?_
        refine gx_ireturn rfl d_PC_trees_55 ?_
        exact ⟨rfl, hA, kk⟩
  · rw [if_pos h7]
    refine gx_iconst d_PC_trees_10 (nI 0) (by decide) ?_
    refine gx_ireturn rfl d_PC_trees_11 ?_
    exact ⟨rfl, h, gx_kp.rf⟩
