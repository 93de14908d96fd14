/-! Machine: its methods -/
theorem d_Machine_ruleFor_0 : decode prog_5_method_5_code 0 = .ok (.aload_n 1, 1) := by decide +kernel
theorem d_Machine_ruleFor_1 : decode prog_5_method_5_code 1 = .ok (.invokevirtual 54, 3) := by decide +kernel
theorem d_Machine_ruleFor_4 : decode prog_5_method_5_code 4 = .ok (.istore_n 2, 1) := by decide +kernel
theorem d_Machine_ruleFor_5 : decode prog_5_method_5_code 5 = .ok (.aload_n 1, 1) := by decide +kernel
theorem d_Machine_ruleFor_6 : decode prog_5_method_5_code 6 = .ok (.iload_n 2, 1) := by decide +kernel
theorem d_Machine_ruleFor_7 : decode prog_5_method_5_code 7 = .ok (.invokevirtual 58, 3) := by decide +kernel
theorem d_Machine_ruleFor_10 : decode prog_5_method_5_code 10 = .ok (.iconst 0, 1) := by decide +kernel
theorem d_Machine_ruleFor_11 : decode prog_5_method_5_code 11 = .ok (.invokestatic 34, 3) := by decide +kernel
theorem d_Machine_ruleFor_14 : decode prog_5_method_5_code 14 = .ok (.isub, 1) := by decide +kernel
theorem d_Machine_ruleFor_15 : decode prog_5_method_5_code 15 = .ok (.istore_n 3, 1) := by decide +kernel
theorem d_Machine_ruleFor_16 : decode prog_5_method_5_code 16 = .ok (.iload_n 2, 1) := by decide +kernel
theorem d_Machine_ruleFor_17 : decode prog_5_method_5_code 17 = .ok (.iconst 1, 1) := by decide +kernel
theorem d_Machine_ruleFor_18 : decode prog_5_method_5_code 18 = .ok (.iadd, 1) := by decide +kernel
theorem d_Machine_ruleFor_19 : decode prog_5_method_5_code 19 = .ok (.aload_n 1, 1) := by decide +kernel
theorem d_Machine_ruleFor_20 : decode prog_5_method_5_code 20 = .ok (.invokevirtual 61, 3) := by decide +kernel
theorem d_Machine_ruleFor_23 : decode prog_5_method_5_code 23 = .ok (.if_icmp .ge 16, 3) := by decide +kernel
theorem d_Machine_ruleFor_26 : decode prog_5_method_5_code 26 = .ok (.aload_n 1, 1) := by decide +kernel
theorem d_Machine_ruleFor_27 : decode prog_5_method_5_code 27 = .ok (.iload_n 2, 1) := by decide +kernel
theorem d_Machine_ruleFor_28 : decode prog_5_method_5_code 28 = .ok (.iconst 1, 1) := by decide +kernel
theorem d_Machine_ruleFor_29 : decode prog_5_method_5_code 29 = .ok (.iadd, 1) := by decide +kernel
theorem d_Machine_ruleFor_30 : decode prog_5_method_5_code 30 = .ok (.invokevirtual 58, 3) := by decide +kernel
theorem d_Machine_ruleFor_33 : decode prog_5_method_5_code 33 = .ok (.invokestatic 64, 3) := by decide +kernel
theorem d_Machine_ruleFor_36 : decode prog_5_method_5_code 36 = .ok (.goto 4, 3) := by decide +kernel
theorem d_Machine_ruleFor_39 : decode prog_5_method_5_code 39 = .ok (.iconst 0, 1) := by decide +kernel
theorem d_Machine_ruleFor_40 : decode prog_5_method_5_code 40 = .ok (.istore 4, 2) := by decide +kernel
theorem d_Machine_ruleFor_42 : decode prog_5_method_5_code 42 = .ok (.iload_n 3, 1) := by decide +kernel
theorem d_Machine_ruleFor_43 : decode prog_5_method_5_code 43 = .ok (.invokestatic 68, 3) := by decide +kernel
theorem d_Machine_ruleFor_46 : decode prog_5_method_5_code 46 = .ok (.ifCond .eq 25, 3) := by decide +kernel
theorem d_Machine_ruleFor_49 : decode prog_5_method_5_code 49 = .ok (.iload 4, 2) := by decide +kernel
theorem d_Machine_ruleFor_51 : decode prog_5_method_5_code 51 = .ok (.invokestatic 72, 3) := by decide +kernel
theorem d_Machine_ruleFor_54 : decode prog_5_method_5_code 54 = .ok (.ifCond .eq 17, 3) := by decide +kernel
theorem d_Machine_ruleFor_57 : decode prog_5_method_5_code 57 = .ok (.aload_n 0, 1) := by decide +kernel
theorem d_Machine_ruleFor_58 : decode prog_5_method_5_code 58 = .ok (.getfield 9, 3) := by decide +kernel
theorem d_Machine_ruleFor_61 : decode prog_5_method_5_code 61 = .ok (.iload_n 3, 1) := by decide +kernel
theorem d_Machine_ruleFor_62 : decode prog_5_method_5_code 62 = .ok (.iload 4, 2) := by decide +kernel
theorem d_Machine_ruleFor_64 : decode prog_5_method_5_code 64 = .ok (.invokestatic 75, 3) := by decide +kernel
theorem d_Machine_ruleFor_67 : decode prog_5_method_5_code 67 = .ok (.baload, 1) := by decide +kernel
theorem d_Machine_ruleFor_68 : decode prog_5_method_5_code 68 = .ok (.ifCond .ne 5, 3) := by decide +kernel
theorem d_Machine_ruleFor_71 : decode prog_5_method_5_code 71 = .ok (.iconst (-1), 1) := by decide +kernel
theorem d_Machine_ruleFor_72 : decode prog_5_method_5_code 72 = .ok (.ireturn, 1) := by decide +kernel
theorem d_Machine_ruleFor_73 : decode prog_5_method_5_code 73 = .ok (.iload_n 3, 1) := by decide +kernel
theorem d_Machine_ruleFor_74 : decode prog_5_method_5_code 74 = .ok (.iload 4, 2) := by decide +kernel
theorem d_Machine_ruleFor_76 : decode prog_5_method_5_code 76 = .ok (.invokestatic 75, 3) := by decide +kernel
theorem d_Machine_ruleFor_79 : decode prog_5_method_5_code 79 = .ok (.ireturn, 1) := by decide +kernel
theorem rf_tail {Q : gx_P} {w : gx_W} {a : Nat} {M : sp_M} {t : List Nat} (hm : mcAt w a M t) (hM : sp_Mok M) {h k st s : Nat} {L4 : Option Value} (hs : s < 3) (hst : st < 8) (hQ : Q.1 (some (.int (if st < 4 ∧ sp_kn M (st * 3 + s) = 1 then nI (st * 3 + s) else -1))) w) : gx_X (fun _ _ => True) M_Machine_ruleFor 2 Q 40 [some (.ref a), some (.ref h), some (.int (nI k)), some (.int (nI st)), L4] [.int (nI s)] w (0, 0) := by
  obtain ⟨m0, m1, m2, m3, m4, m5⟩ := hm
  have hb1 := Bool.toNat_le (decide (st < 4))
  have hb2 := Bool.toNat_le (decide (s < 3))
  have hkn := (hM (st * 3 + s)).1
  refine gx_istore d_Machine_ruleFor_40 (Nat.le_of_ble_eq_true rfl) rfl ?_
  refine gx_iload_n d_Machine_ruleFor_42 rfl ?_
  refine gx_cS1 lk_Machine_68 d_Machine_ruleFor_43 (ct_isState) (by omega) rfl rfl (Nat.le_of_ble_eq_true rfl) ?_
  refine gx_top (show _ = nI (decide (st < 4)).toNat by rw [sp_in_nI (by omega) (by omega)]) ?_
  refine gx_if_eqN (by omega) (tgt := 71) d_Machine_ruleFor_46 (by decide) (fun h46 => ?_) (fun h46 => ?_)
  · have h4 : ¬ st < 4 := by simpa using h46
    rw [if_neg (fun g => h4 g.1)] at hQ
    refine gx_iconst d_Machine_ruleFor_71 (-1) (by decide) ?_
    refine gx_ireturn rfl d_Machine_ruleFor_72 ?_
    exact hQ
  · have h4 : st < 4 := by cases hq : decide (st < 4) <;> simp_all
    refine gx_iload d_Machine_ruleFor_49 rfl ?_
    refine gx_cS1 lk_Machine_72 d_Machine_ruleFor_51 (ct_isSymbol) (by omega) rfl rfl (Nat.le_of_ble_eq_true rfl) ?_
    refine gx_top (show _ = nI (decide (s < 3)).toNat by rw [sp_in_nI (by omega) (by omega)]) ?_
    refine gx_if_eqN (by omega) (tgt := 71) d_Machine_ruleFor_54 (by decide) (fun h54 => ?_) (fun h54 => ?_)
    · exact absurd (show decide (s < 3) = false by cases hq : decide (s < 3) <;> simp_all) (by simp [hs])
    · refine gx_aload_n d_Machine_ruleFor_57 rfl ?_
      refine gx_get fl_Machine_9 d_Machine_ruleFor_58 m0 rfl ?_
      refine gx_iload_n d_Machine_ruleFor_61 rfl ?_
      refine gx_iload d_Machine_ruleFor_62 rfl ?_
      refine gx_cS1 lk_Machine_75 d_Machine_ruleFor_64 (ct_ruleNumber) (by omega) rfl rfl (Nat.le_of_ble_eq_true rfl) ?_
      refine gx_zald d_Machine_ruleFor_67 m1 (by omega) (by omega) ?_
      refine gx_if_neN (by omega) (tgt := 73) d_Machine_ruleFor_68 (by decide) (fun h68 => ?_) (fun h68 => ?_)
      · rw [if_pos ⟨h4, by omega⟩] at hQ
        refine gx_iload_n d_Machine_ruleFor_73 rfl ?_
        refine gx_iload d_Machine_ruleFor_74 rfl ?_
        refine gx_cS1 lk_Machine_75 d_Machine_ruleFor_76 (ct_ruleNumber) (by omega) rfl rfl (Nat.le_of_ble_eq_true rfl) ?_
        refine gx_ireturn rfl d_Machine_ruleFor_79 ?_
        exact hQ
      · rw [if_neg (fun g => by omega)] at hQ
        refine gx_iconst d_Machine_ruleFor_71 (-1) (by decide) ?_
        refine gx_ireturn rfl d_Machine_ruleFor_72 ?_
        exact hQ
def sp_ri (M : sp_M) (c : sp_C) : Int32 := match sp_rl M c with
  | none => -1
  | some r => nI r
theorem sp_ri_eq {M : sp_M} {c : sp_C} (hc : sp_ok c) : (if sp_let c.2.1 - 97 < 4 ∧ sp_kn M ((sp_let c.2.1 - 97) * 3 + c.2.2.getD 0 0) = 1 then nI ((sp_let c.2.1 - 97) * 3 + c.2.2.getD 0 0) else -1) = sp_ri M c := by
  unfold sp_ri sp_rl
  by_cases h4 : c.2.1 = 4
  · rw [h4, if_neg (fun g => absurd g.1 (by decide)), if_neg (fun g => absurd g.1 (by decide))]
  · have e : sp_let c.2.1 - 97 = c.2.1 := by unfold sp_let; rw [if_neg h4]; omega
    rw [e]
    by_cases h5 : c.2.1 < 4 ∧ sp_kn M (c.2.1 * 3 + c.2.2.getD 0 0) = 1
    · rw [if_pos h5, if_pos h5]
    · rw [if_neg h5, if_neg h5]
theorem ct_ruleFor {w : gx_W} {a : Nat} {M : sp_M} {t : List Nat} (hm : mcAt w a M t) (hM : sp_Mok M) {h cap : Nat} {c : sp_C} (hw : w.1 h = some (gx_bx 0 cap (sp_txt c))) (hc : sp_ok c)  : gx_Ct M_Machine_ruleFor 2 0 0 [.ref a, .ref h] w (gx_eq (some (.int (sp_ri M c))) w) := by
  refine gx_ct (L := [some (.ref a), some (.ref h), none, none, none]) (by decide) (Nat.le_of_ble_eq_true rfl) rfl ?_
  have hm0 := hm
  obtain ⟨m0, m1, m2, m3, m4, m5⟩ := hm
  refine gx_bsz hw (fun hlen hcap hsm => ?_)
  rw [sp_txt_len] at hlen
  have hge := sp_let_ge c.2.1
  have hlt := sp_let_lt hc.2.1
  have hs3 := sp_gd_lt hc.2.2 0
  have hsl : sp_len c = c.1.length + 1 + c.2.2.length := rfl
  refine gx_aload_n d_Machine_ruleFor_0 rfl ?_
  refine gx_cV1 lk_Machine_54 d_Machine_ruleFor_1 (ct_Word_head hw sp_hd3 (sp_hd1 hc) sp_hd2) (Or.inr ⟨_, _, hw⟩) (by omega) rfl rfl (Nat.le_of_ble_eq_true rfl) ?_
  refine gx_istore_n d_Machine_ruleFor_4 (Nat.le_of_ble_eq_true rfl) rfl ?_
  refine gx_aload_n d_Machine_ruleFor_5 rfl ?_
  refine gx_iload_n d_Machine_ruleFor_6 rfl ?_
  refine gx_cV1 lk_Machine_58 d_Machine_ruleFor_7 (ct_Word_at (j := c.1.length) hw (by omega)) (Or.inr ⟨_, _, hw⟩) (by omega) rfl rfl (Nat.le_of_ble_eq_true rfl) ?_
  refine gx_top (congrArg nI sp_txt_mid) ?_
  refine gx_iconst d_Machine_ruleFor_10 (nI 0) (by decide) ?_
  refine gx_cS1 lk_Machine_34 d_Machine_ruleFor_11 (ct_letter (q := 0) (by omega)) (by omega) rfl rfl (Nat.le_of_ble_eq_true rfl) ?_
  refine gx_top (show _ = nI 97 from rfl) ?_
  refine gx_isubN (by omega) d_Machine_ruleFor_14 ?_
  refine gx_istore_n d_Machine_ruleFor_15 (Nat.le_of_ble_eq_true rfl) rfl ?_
  refine gx_iload_n d_Machine_ruleFor_16 rfl ?_
  refine gx_iconst d_Machine_ruleFor_17 (nI 1) (by decide) ?_
  refine gx_iaddN d_Machine_ruleFor_18 ?_
  refine gx_aload_n d_Machine_ruleFor_19 rfl ?_
  refine gx_cV1 lk_Machine_61 d_Machine_ruleFor_20 (ct_Word_size hw) (Or.inr ⟨_, _, hw⟩) (by omega) rfl rfl (Nat.le_of_ble_eq_true rfl) ?_
  refine gx_top (congrArg nI (sp_txt_len c)) ?_
  refine gx_icmp_geN (by omega) (by omega) (tgt := 39) d_Machine_ruleFor_23 (by decide) (fun h23 => ?_) (fun h23 => ?_)
  · refine gx_iconst d_Machine_ruleFor_39 (nI (c.2.2.getD 0 0)) (by rw [gx_gd_ge (by omega)]; decide) ?_
    exact rf_tail (s := c.2.2.getD 0 0) (st := sp_let c.2.1 - 97) ⟨m0, m1, m2, m3, m4, m5⟩ hM hs3 (by omega) ⟨by rw [sp_ri_eq hc], rfl⟩
  · refine gx_aload_n d_Machine_ruleFor_26 rfl ?_
    refine gx_iload_n d_Machine_ruleFor_27 rfl ?_
    refine gx_iconst d_Machine_ruleFor_28 (nI 1) (by decide) ?_
    refine gx_iaddN d_Machine_ruleFor_29 ?_
    refine gx_cV1 lk_Machine_58 d_Machine_ruleFor_30 (ct_Word_at (j := c.1.length + 1) hw (by omega)) (Or.inr ⟨_, _, hw⟩) (by omega) rfl rfl (Nat.le_of_ble_eq_true rfl) ?_
    refine gx_top (congrArg nI (sp_txt_hi (i := 0) (by omega))) ?_
    refine gx_cS1 lk_Machine_64 d_Machine_ruleFor_33 (ct_symbolOf) (by omega) rfl rfl (Nat.le_of_ble_eq_true rfl) ?_
    refine gx_top (show _ = nI (c.2.2.getD 0 0) by rw [pk_sub (by omega), Nat.add_sub_cancel_left]) ?_
    refine gx_goto (tgt := 40) d_Machine_ruleFor_36 (by decide) ?_
    exact rf_tail (s := c.2.2.getD 0 0) (st := sp_let c.2.1 - 97) ⟨m0, m1, m2, m3, m4, m5⟩ hM hs3 (by omega) ⟨by rw [sp_ri_eq hc], rfl⟩
theorem d_Machine_step_0 : decode prog_5_method_6_code 0 = .ok (.aload_n 0, 1) := by decide +kernel
theorem d_Machine_step_1 : decode prog_5_method_6_code 1 = .ok (.aload_n 1, 1) := by decide +kernel
theorem d_Machine_step_2 : decode prog_5_method_6_code 2 = .ok (.invokevirtual 78, 3) := by decide +kernel
theorem d_Machine_step_5 : decode prog_5_method_6_code 5 = .ok (.istore_n 3, 1) := by decide +kernel
theorem d_Machine_step_6 : decode prog_5_method_6_code 6 = .ok (.aload_n 1, 1) := by decide +kernel
theorem d_Machine_step_7 : decode prog_5_method_6_code 7 = .ok (.invokevirtual 54, 3) := by decide +kernel
theorem d_Machine_step_10 : decode prog_5_method_6_code 10 = .ok (.istore 4, 2) := by decide +kernel
theorem d_Machine_step_12 : decode prog_5_method_6_code 12 = .ok (.iload_n 3, 1) := by decide +kernel
theorem d_Machine_step_13 : decode prog_5_method_6_code 13 = .ok (.iconst (-1), 1) := by decide +kernel
theorem d_Machine_step_14 : decode prog_5_method_6_code 14 = .ok (.if_icmp .eq 17, 3) := by decide +kernel
theorem d_Machine_step_17 : decode prog_5_method_6_code 17 = .ok (.iload 4, 2) := by decide +kernel
theorem d_Machine_step_19 : decode prog_5_method_6_code 19 = .ok (.ifCond .ne 14, 3) := by decide +kernel
theorem d_Machine_step_22 : decode prog_5_method_6_code 22 = .ok (.aload_n 0, 1) := by decide +kernel
theorem d_Machine_step_23 : decode prog_5_method_6_code 23 = .ok (.getfield 15, 3) := by decide +kernel
theorem d_Machine_step_26 : decode prog_5_method_6_code 26 = .ok (.iload_n 3, 1) := by decide +kernel
theorem d_Machine_step_27 : decode prog_5_method_6_code 27 = .ok (.baload, 1) := by decide +kernel
theorem d_Machine_step_28 : decode prog_5_method_6_code 28 = .ok (.ifCond .ne 5, 3) := by decide +kernel
theorem d_Machine_step_31 : decode prog_5_method_6_code 31 = .ok (.iconst 0, 1) := by decide +kernel
theorem d_Machine_step_32 : decode prog_5_method_6_code 32 = .ok (.ireturn, 1) := by decide +kernel
theorem d_Machine_step_33 : decode prog_5_method_6_code 33 = .ok (.aload_n 2, 1) := by decide +kernel
theorem d_Machine_step_34 : decode prog_5_method_6_code 34 = .ok (.invokevirtual 42, 3) := by decide +kernel
theorem d_Machine_step_37 : decode prog_5_method_6_code 37 = .ok (.aload_n 0, 1) := by decide +kernel
theorem d_Machine_step_38 : decode prog_5_method_6_code 38 = .ok (.getfield 15, 3) := by decide +kernel
theorem d_Machine_step_41 : decode prog_5_method_6_code 41 = .ok (.iload_n 3, 1) := by decide +kernel
theorem d_Machine_step_42 : decode prog_5_method_6_code 42 = .ok (.baload, 1) := by decide +kernel
theorem d_Machine_step_43 : decode prog_5_method_6_code 43 = .ok (.ifCond .eq 40, 3) := by decide +kernel
theorem d_Machine_step_46 : decode prog_5_method_6_code 46 = .ok (.aload_n 2, 1) := by decide +kernel
theorem d_Machine_step_47 : decode prog_5_method_6_code 47 = .ok (.aload_n 1, 1) := by decide +kernel
theorem d_Machine_step_48 : decode prog_5_method_6_code 48 = .ok (.iconst 0, 1) := by decide +kernel
theorem d_Machine_step_49 : decode prog_5_method_6_code 49 = .ok (.iload 4, 2) := by decide +kernel
theorem d_Machine_step_51 : decode prog_5_method_6_code 51 = .ok (.invokevirtual 82, 3) := by decide +kernel
theorem d_Machine_step_54 : decode prog_5_method_6_code 54 = .ok (.aload_n 2, 1) := by decide +kernel
theorem d_Machine_step_55 : decode prog_5_method_6_code 55 = .ok (.aload_n 0, 1) := by decide +kernel
theorem d_Machine_step_56 : decode prog_5_method_6_code 56 = .ok (.getfield 18, 3) := by decide +kernel
theorem d_Machine_step_59 : decode prog_5_method_6_code 59 = .ok (.iload_n 3, 1) := by decide +kernel
theorem d_Machine_step_60 : decode prog_5_method_6_code 60 = .ok (.iaload, 1) := by decide +kernel
theorem d_Machine_step_61 : decode prog_5_method_6_code 61 = .ok (.invokestatic 45, 3) := by decide +kernel
theorem d_Machine_step_64 : decode prog_5_method_6_code 64 = .ok (.invokevirtual 38, 3) := by decide +kernel
theorem d_Machine_step_67 : decode prog_5_method_6_code 67 = .ok (.aload_n 0, 1) := by decide +kernel
theorem d_Machine_step_68 : decode prog_5_method_6_code 68 = .ok (.getfield 22, 3) := by decide +kernel
theorem d_Machine_step_71 : decode prog_5_method_6_code 71 = .ok (.iload_n 3, 1) := by decide +kernel
theorem d_Machine_step_72 : decode prog_5_method_6_code 72 = .ok (.iaload, 1) := by decide +kernel
theorem d_Machine_step_73 : decode prog_5_method_6_code 73 = .ok (.invokestatic 34, 3) := by decide +kernel
theorem d_Machine_step_76 : decode prog_5_method_6_code 76 = .ok (.invokevirtual 38, 3) := by decide +kernel
theorem d_Machine_step_79 : decode prog_5_method_6_code 79 = .ok (.pop, 1) := by decide +kernel
theorem d_Machine_step_80 : decode prog_5_method_6_code 80 = .ok (.goto 50, 3) := by decide +kernel
theorem d_Machine_step_83 : decode prog_5_method_6_code 83 = .ok (.aload_n 2, 1) := by decide +kernel
theorem d_Machine_step_84 : decode prog_5_method_6_code 84 = .ok (.aload_n 1, 1) := by decide +kernel
theorem d_Machine_step_85 : decode prog_5_method_6_code 85 = .ok (.iconst 0, 1) := by decide +kernel
theorem d_Machine_step_86 : decode prog_5_method_6_code 86 = .ok (.iload 4, 2) := by decide +kernel
theorem d_Machine_step_88 : decode prog_5_method_6_code 88 = .ok (.iconst 1, 1) := by decide +kernel
theorem d_Machine_step_89 : decode prog_5_method_6_code 89 = .ok (.isub, 1) := by decide +kernel
theorem d_Machine_step_90 : decode prog_5_method_6_code 90 = .ok (.invokevirtual 82, 3) := by decide +kernel
theorem d_Machine_step_93 : decode prog_5_method_6_code 93 = .ok (.aload_n 2, 1) := by decide +kernel
theorem d_Machine_step_94 : decode prog_5_method_6_code 94 = .ok (.aload_n 0, 1) := by decide +kernel
theorem d_Machine_step_95 : decode prog_5_method_6_code 95 = .ok (.getfield 22, 3) := by decide +kernel
theorem d_Machine_step_98 : decode prog_5_method_6_code 98 = .ok (.iload_n 3, 1) := by decide +kernel
theorem d_Machine_step_99 : decode prog_5_method_6_code 99 = .ok (.iaload, 1) := by decide +kernel
theorem d_Machine_step_100 : decode prog_5_method_6_code 100 = .ok (.invokestatic 34, 3) := by decide +kernel
theorem d_Machine_step_103 : decode prog_5_method_6_code 103 = .ok (.invokevirtual 38, 3) := by decide +kernel
theorem d_Machine_step_106 : decode prog_5_method_6_code 106 = .ok (.aload_n 1, 1) := by decide +kernel
theorem d_Machine_step_107 : decode prog_5_method_6_code 107 = .ok (.iload 4, 2) := by decide +kernel
theorem d_Machine_step_109 : decode prog_5_method_6_code 109 = .ok (.iconst 1, 1) := by decide +kernel
theorem d_Machine_step_110 : decode prog_5_method_6_code 110 = .ok (.isub, 1) := by decide +kernel
theorem d_Machine_step_111 : decode prog_5_method_6_code 111 = .ok (.invokevirtual 58, 3) := by decide +kernel
theorem d_Machine_step_114 : decode prog_5_method_6_code 114 = .ok (.invokevirtual 38, 3) := by decide +kernel
theorem d_Machine_step_117 : decode prog_5_method_6_code 117 = .ok (.aload_n 0, 1) := by decide +kernel
theorem d_Machine_step_118 : decode prog_5_method_6_code 118 = .ok (.getfield 18, 3) := by decide +kernel
theorem d_Machine_step_121 : decode prog_5_method_6_code 121 = .ok (.iload_n 3, 1) := by decide +kernel
theorem d_Machine_step_122 : decode prog_5_method_6_code 122 = .ok (.iaload, 1) := by decide +kernel
theorem d_Machine_step_123 : decode prog_5_method_6_code 123 = .ok (.invokestatic 45, 3) := by decide +kernel
theorem d_Machine_step_126 : decode prog_5_method_6_code 126 = .ok (.invokevirtual 38, 3) := by decide +kernel
theorem d_Machine_step_129 : decode prog_5_method_6_code 129 = .ok (.pop, 1) := by decide +kernel
theorem d_Machine_step_130 : decode prog_5_method_6_code 130 = .ok (.aload_n 2, 1) := by decide +kernel
theorem d_Machine_step_131 : decode prog_5_method_6_code 131 = .ok (.aload_n 1, 1) := by decide +kernel
theorem d_Machine_step_132 : decode prog_5_method_6_code 132 = .ok (.iload 4, 2) := by decide +kernel
theorem d_Machine_step_134 : decode prog_5_method_6_code 134 = .ok (.iconst 2, 1) := by decide +kernel
theorem d_Machine_step_135 : decode prog_5_method_6_code 135 = .ok (.iadd, 1) := by decide +kernel
theorem d_Machine_step_136 : decode prog_5_method_6_code 136 = .ok (.aload_n 1, 1) := by decide +kernel
theorem d_Machine_step_137 : decode prog_5_method_6_code 137 = .ok (.invokevirtual 61, 3) := by decide +kernel
theorem d_Machine_step_140 : decode prog_5_method_6_code 140 = .ok (.invokevirtual 82, 3) := by decide +kernel
theorem d_Machine_step_143 : decode prog_5_method_6_code 143 = .ok (.iconst 1, 1) := by decide +kernel
theorem d_Machine_step_144 : decode prog_5_method_6_code 144 = .ok (.ireturn, 1) := by decide +kernel
theorem ct_step_none {w : gx_W} {a : Nat} {M : sp_M} {t : List Nat} (hm : mcAt w a M t) (hM : sp_Mok M) {h cap : Nat} {c : sp_C} (hw : w.1 h = some (gx_bx 0 cap (sp_txt c))) (hc : sp_ok c) {h2 : Nat} (hn : sp_step M c = none) : gx_Ct M_Machine_step 3 0 0 [.ref a, .ref h, .ref h2] w (gx_eq (some (.int (nI 0))) w) := by
  refine gx_ct (L := [some (.ref a), some (.ref h), some (.ref h2), none, none]) (by decide) (Nat.le_of_ble_eq_true rfl) rfl ?_
  have hm0 := hm
  obtain ⟨m0, m1, m2, m3, m4, m5⟩ := hm
  refine gx_bsz hw (fun hlen hcap hsm => ?_)
  rw [sp_txt_len] at hlen
  have hsl : sp_len c = c.1.length + 1 + c.2.2.length := rfl
  refine gx_aload_n d_Machine_step_0 rfl ?_
  refine gx_aload_n d_Machine_step_1 rfl ?_
  refine gx_cV1 lk_Machine_78 d_Machine_step_2 (ct_ruleFor hm0 hM hw hc) (Or.inl ⟨_, m0⟩) (by omega) rfl rfl (Nat.le_of_ble_eq_true rfl) ?_
  refine gx_istore_n d_Machine_step_5 (Nat.le_of_ble_eq_true rfl) rfl ?_
  refine gx_aload_n d_Machine_step_6 rfl ?_
  refine gx_cV1 lk_Machine_54 d_Machine_step_7 (ct_Word_head hw sp_hd3 (sp_hd1 hc) sp_hd2) (Or.inr ⟨_, _, hw⟩) (by omega) rfl rfl (Nat.le_of_ble_eq_true rfl) ?_
  refine gx_istore d_Machine_step_10 (Nat.le_of_ble_eq_true rfl) rfl ?_
  refine gx_iload_n d_Machine_step_12 rfl ?_
  refine gx_iconst d_Machine_step_13 (-1) (by decide) ?_
  refine gx_icmp_eq (tgt := 31) d_Machine_step_14 (by decide) (fun h14 => ?_) (fun h14 => ?_)
  · refine gx_iconst d_Machine_step_31 (nI 0) (by decide) ?_
    refine gx_zreturn rfl (by decide) d_Machine_step_32 ?_
    exact ⟨rfl, rfl⟩
  · obtain ⟨r, hr, hri, hn0⟩ : ∃ r, sp_rl M c = some r ∧ sp_ri M c = nI r ∧ (sp_rt M r = 0 ∧ c.1.length = 0) := by
      cases hr : sp_rl M c with
      | none => exact absurd (show sp_ri M c = -1 by unfold sp_ri; rw [hr]) h14
      | some r =>
        refine ⟨r, rfl, by unfold sp_ri; rw [hr], ?_⟩
        unfold sp_step at hn
        rw [hr] at hn
        have h1 := (hM r).2.1
        by_cases e : sp_rt M r = 1
        · simp [e] at hn
        · by_cases e2 : c.1.length = 0
          · exact ⟨by omega, e2⟩
          · simp only [if_neg e, if_neg e2] at hn
            cases hn
    obtain ⟨hr12, -⟩ := sp_rl_lt hr hc
    rw [hri]
    refine gx_iload d_Machine_step_17 rfl ?_
    refine gx_if_neN (by omega) (tgt := 33) d_Machine_step_19 (by decide) (fun h19 => ?_) (fun h19 => ?_)
    · exact absurd hn0.2 h19
    · refine gx_aload_n d_Machine_step_22 rfl ?_
      refine gx_get fl_Machine_15 d_Machine_step_23 m0 rfl ?_
      refine gx_iload_n d_Machine_step_26 rfl ?_
      refine gx_zald d_Machine_step_27 m2 (by omega) (by omega) ?_
      refine gx_if_neN (by omega) (tgt := 33) d_Machine_step_28 (by decide) (fun h28 => ?_) (fun h28 => ?_)
      · exact absurd hn0.1 (by omega)
      · refine gx_iconst d_Machine_step_31 (nI 0) (by decide) ?_
        refine gx_zreturn rfl (by decide) d_Machine_step_32 ?_
        exact ⟨rfl, rfl⟩
theorem st_tail {Q : gx_P} {w : gx_W} {a h h2 cap cap2 r : Nat} {c : sp_C} {l : List Nat} (hw : w.1 h = some (gx_bx 0 cap (sp_txt c))) (hw2 : w.1 h2 = some (gx_bx 0 cap2 l)) (hne : h ≠ h2) (hl : l.length + c.2.2.tail.length ≤ cap2) (hQ : Q.1 (some (.int (nI 1))) (gx_st w h2 (gx_bx 0 cap2 (l ++ sp_ds c.2.2.tail)))) : gx_X (fun _ _ => True) M_Machine_step 3 Q 130 [some (.ref a), some (.ref h), some (.ref h2), some (.int (nI r)), some (.int (nI c.1.length))] [] w (0, 0) := by
  refine gx_bsz hw (fun hlen hcap hsm => ?_)
  have hlen2 := hlen
  rw [sp_txt_len] at hlen
  have hsl : sp_len c = c.1.length + 1 + c.2.2.length := rfl
  have htl : c.2.2.tail.length = c.2.2.length - 1 := List.length_tail
  refine gx_aload_n d_Machine_step_130 rfl ?_
  refine gx_aload_n d_Machine_step_131 rfl ?_
  refine gx_iload d_Machine_step_132 rfl ?_
  refine gx_iconst d_Machine_step_134 (nI 2) (by decide) ?_
  refine gx_iaddN d_Machine_step_135 ?_
  refine gx_aload_n d_Machine_step_136 rfl ?_
  refine gx_cV1 lk_Machine_61 d_Machine_step_137 (ct_Word_size hw) (Or.inr ⟨_, _, hw⟩) (by omega) rfl rfl (Nat.le_of_ble_eq_true rfl) ?_
  refine gx_cV0 lk_Machine_82 d_Machine_step_140 (ct_Word_addPart (a := c.1.length + 2) (b := (sp_txt c).length) hw2 hw hne (by omega) (Nat.le_refl _) (by rw [sp_txt_len]; omega)) (Or.inr ⟨_, _, hw2⟩) (by omega) rfl rfl (Nat.le_of_ble_eq_true rfl) ?_
  refine gx_iconst d_Machine_step_143 (nI 1) (by decide) ?_
  refine gx_zreturn rfl (by decide) d_Machine_step_144 ?_
  rw [sp_drop2]
  exact hQ
theorem sp_step_R {M : sp_M} {c c' : sp_C} {r : Nat} (h : sp_rl M c = some r) (h1 : sp_rt M r = 1) (h2 : sp_step M c = some c') : sp_txt c' = sp_ds c.1 ++ [48 + sp_wr M r] ++ [sp_let (sp_nx M r)] ++ sp_ds c.2.2.tail := by
  unfold sp_step at h2
  rw [h] at h2
  simp only [if_pos h1] at h2
  cases h2
  simp [sp_txt, sp_ds]
theorem sp_step_L {M : sp_M} {c c' : sp_C} {r : Nat} (h : sp_rl M c = some r) (h1 : ¬ sp_rt M r = 1) (h2 : sp_step M c = some c') : c.1.length ≠ 0 ∧ sp_txt c' = sp_ds c.1.dropLast ++ [sp_let (sp_nx M r)] ++ [48 + sp_lst c.1] ++ [48 + sp_wr M r] ++ sp_ds c.2.2.tail := by
  unfold sp_step at h2
  rw [h] at h2
  simp only [if_neg h1] at h2
  by_cases e : c.1.length = 0
  · rw [if_pos e] at h2; cases h2
  · rw [if_neg e] at h2
    cases h2
    exact ⟨e, by simp [sp_txt, sp_ds]⟩
theorem sp_step_rl {M : sp_M} {c c' : sp_C} (h : sp_step M c = some c') : ∃ r, sp_rl M c = some r ∧ sp_ri M c = nI r := by
  unfold sp_step at h
  unfold sp_ri
  cases hr : sp_rl M c with
  | none => rw [hr] at h; cases h
  | some r => exact ⟨r, rfl, rfl⟩
theorem ct_step_some {w : gx_W} {a : Nat} {M : sp_M} {t : List Nat} (hm : mcAt w a M t) (hM : sp_Mok M) {h cap : Nat} {c : sp_C} (hw : w.1 h = some (gx_bx 0 cap (sp_txt c))) (hc : sp_ok c) {h2 cap2 : Nat} {c' : sp_C} {l2 : List Nat} (hw2 : w.1 h2 = some (gx_bx 0 cap2 l2)) (hne : h ≠ h2) (hah : a + 7 ≤ h2) (hs : sp_step M c = some c') (hl : sp_len c' ≤ cap2) : gx_Ct M_Machine_step 3 0 0 [.ref a, .ref h, .ref h2] w (gx_eq (some (.int (nI 1))) (gx_st w h2 (gx_bx 0 cap2 (sp_txt c')))) := by
  refine gx_ct (L := [some (.ref a), some (.ref h), some (.ref h2), none, none]) (by decide) (Nat.le_of_ble_eq_true rfl) rfl ?_
  have hm0 := hm
  obtain ⟨m0, m1, m2, m3, m4, m5⟩ := hm
  refine gx_bsz hw (fun hlen hcap hsm => ?_)
  rw [sp_txt_len] at hlen
  have hsl : sp_len c = c.1.length + 1 + c.2.2.length := rfl
  obtain ⟨r, hr, hri⟩ := sp_step_rl hs
  obtain ⟨hr12, -⟩ := sp_rl_lt hr hc
  have hMr := hM r
  have htl : c.2.2.tail.length = c.2.2.length - 1 := List.length_tail
  rw [← sp_txt_len] at hl
  refine gx_aload_n d_Machine_step_0 rfl ?_
  refine gx_aload_n d_Machine_step_1 rfl ?_
  refine gx_cV1 lk_Machine_78 d_Machine_step_2 (ct_ruleFor hm0 hM hw hc) (Or.inl ⟨_, m0⟩) (by omega) rfl rfl (Nat.le_of_ble_eq_true rfl) ?_
  rw [hri]
  refine gx_istore_n d_Machine_step_5 (Nat.le_of_ble_eq_true rfl) rfl ?_
  refine gx_aload_n d_Machine_step_6 rfl ?_
  refine gx_cV1 lk_Machine_54 d_Machine_step_7 (ct_Word_head hw sp_hd3 (sp_hd1 hc) sp_hd2) (Or.inr ⟨_, _, hw⟩) (by omega) rfl rfl (Nat.le_of_ble_eq_true rfl) ?_
  refine gx_istore d_Machine_step_10 (Nat.le_of_ble_eq_true rfl) rfl ?_
  refine gx_iload_n d_Machine_step_12 rfl ?_
  refine gx_iconst d_Machine_step_13 (-1) (by decide) ?_
  refine gx_icmp_eq (tgt := 31) d_Machine_step_14 (by decide) (fun h14 => ?_) (fun h14 => ?_)
  · exact absurd h14 (gx_nm1 (by omega))
  · refine gx_iload d_Machine_step_17 rfl ?_
    refine gx_if_neN (by omega) (tgt := 33) d_Machine_step_19 (by decide) (fun h19 => ?_) (fun h19 => ?_)
    · refine gx_aload_n d_Machine_step_33 rfl ?_
      refine gx_cV0 lk_Machine_42 d_Machine_step_34 (ct_Word_empty hw2) (Or.inr ⟨_, _, hw2⟩) (by omega) rfl rfl (Nat.le_of_ble_eq_true rfl) ?_
      have e2 : (gx_st w h2 (gx_bx 0 cap2 [])).1 h2 = some (gx_bx 0 cap2 []) := gx_st_eq
      generalize hwe : gx_st w h2 (gx_bx 0 cap2 []) = w1 at e2 ⊢
      have k0 := (show w1.1 a = w.1 a by rw [← hwe, gx_st_ne (by omega)]).trans m0
      have k2 := (show w1.1 (a + 2) = w.1 (a + 2) by rw [← hwe, gx_st_ne (by omega)]).trans m2
      have k3 := (show w1.1 (a + 3) = w.1 (a + 3) by rw [← hwe, gx_st_ne (by omega)]).trans m3
      have k4 := (show w1.1 (a + 4) = w.1 (a + 4) by rw [← hwe, gx_st_ne (by omega)]).trans m4
      have kh := (show w1.1 h = w.1 h by rw [← hwe, gx_st_ne hne]).trans hw
      have kfin : ∀ x, gx_st w1 h2 x = gx_st w h2 x := fun x => by rw [← hwe, gx_st_st]
      refine gx_aload_n d_Machine_step_37 rfl ?_
      refine gx_get fl_Machine_15 d_Machine_step_38 k0 rfl ?_
      refine gx_iload_n d_Machine_step_41 rfl ?_
      refine gx_zald d_Machine_step_42 k2 (by omega) (by omega) ?_
      refine gx_if_eqN (by omega) (tgt := 83) d_Machine_step_43 (by decide) (fun h43 => ?_) (fun h43 => ?_)
      · have hLL := sp_step_L hr (by omega) hs
        refine gx_aload_n d_Machine_step_83 rfl ?_
        refine gx_aload_n d_Machine_step_84 rfl ?_
        refine gx_iconst d_Machine_step_85 (nI 0) (by decide) ?_
        refine gx_iload d_Machine_step_86 rfl ?_
        refine gx_iconst d_Machine_step_88 (nI 1) (by decide) ?_
        refine gx_isubN (by omega) d_Machine_step_89 ?_
        refine gx_cV0 lk_Machine_82 d_Machine_step_90 (ct_Word_addPart (a := 0) (b := c.1.length - 1) e2 kh hne (by omega) (by have := sp_hd3 (c := c); omega) (by rw [hLL.2] at hl; simp [sp_ds_len] at hl ⊢; omega)) (Or.inr ⟨_, _, e2⟩) (by omega) rfl rfl (Nat.le_of_ble_eq_true rfl) ?_
        rw [sp_take1, List.nil_append]
        refine gx_aload_n d_Machine_step_93 rfl ?_
        refine gx_aload_n d_Machine_step_94 rfl ?_
        refine gx_get fl_Machine_22 d_Machine_step_95 (by rw [gx_st_ne (by omega)]; exact k0) rfl ?_
        refine gx_iload_n d_Machine_step_98 rfl ?_
        refine gx_iald d_Machine_step_99 (by rw [gx_st_ne (by omega)]; exact k4) (by omega) (by omega) ?_
        refine gx_cS1 lk_Machine_34 d_Machine_step_100 (ct_letter hMr.2.2.2) (by omega) rfl rfl (Nat.le_of_ble_eq_true rfl) ?_
        refine gx_cV1 lk_Machine_38 d_Machine_step_103 (ct_Word_add gx_st_eq (by have := sp_let_lt hMr.2.2.2; omega) (by rw [hLL.2] at hl; simp [sp_ds_len] at hl ⊢; omega)) (Or.inr ⟨_, _, gx_st_eq⟩) (by omega) rfl rfl (Nat.le_of_ble_eq_true rfl) ?_
        rw [gx_st_st]
        refine gx_aload_n d_Machine_step_106 rfl ?_
        refine gx_iload d_Machine_step_107 rfl ?_
        refine gx_iconst d_Machine_step_109 (nI 1) (by decide) ?_
        refine gx_isubN (by omega) d_Machine_step_110 ?_
        refine gx_cV1 lk_Machine_58 d_Machine_step_111 (ct_Word_at (j := c.1.length - 1) (w := gx_st w1 h2 _) (by rw [gx_st_ne hne]; exact kh) (by omega)) (Or.inr ⟨_, _, by rw [gx_st_ne hne]; exact kh⟩) (by omega) rfl rfl (Nat.le_of_ble_eq_true rfl) ?_
        refine gx_top (congrArg nI (sp_txt_lo (by omega))) ?_
        refine gx_cV1 lk_Machine_38 d_Machine_step_114 (ct_Word_add gx_st_eq (by have := sp_gd_lt hc.1 (c.1.length - 1); omega) (by rw [hLL.2] at hl; simp [sp_ds_len] at hl ⊢; omega)) (Or.inr ⟨_, _, gx_st_eq⟩) (by omega) rfl rfl (Nat.le_of_ble_eq_true rfl) ?_
        rw [gx_st_st]
        refine gx_aload_n d_Machine_step_117 rfl ?_
        refine gx_get fl_Machine_18 d_Machine_step_118 (by rw [gx_st_ne (by omega)]; exact k0) rfl ?_
        refine gx_iload_n d_Machine_step_121 rfl ?_
        refine gx_iald d_Machine_step_122 (by rw [gx_st_ne (by omega)]; exact k3) (by omega) (by omega) ?_
        refine gx_cS1 lk_Machine_45 d_Machine_step_123 (ct_digit (by omega)) (by omega) rfl rfl (Nat.le_of_ble_eq_true rfl) ?_
        refine gx_cV1 lk_Machine_38 d_Machine_step_126 (ct_Word_add gx_st_eq (by omega) (by rw [hLL.2] at hl; simp [sp_ds_len] at hl ⊢; omega)) (Or.inr ⟨_, _, gx_st_eq⟩) (by omega) rfl rfl (Nat.le_of_ble_eq_true rfl) ?_
        rw [gx_st_st]
        refine gx_pop d_Machine_step_129 rfl ?_
        refine st_tail (w := gx_st w1 h2 _) (by rw [gx_st_ne hne]; exact kh) gx_st_eq hne ?_ ?_
        · first | (rw [hR] at hl; simp [sp_ds_len] at hl ⊢; omega) | (rw [hLL.2] at hl; simp [sp_ds_len] at hl ⊢; omega)
        · rw [gx_st_st, kfin]
          first | (rw [hR]; exact ⟨rfl, rfl⟩) | (rw [hLL.2]; exact ⟨rfl, rfl⟩)
      · have hR := sp_step_R hr (by omega) hs
        refine gx_aload_n d_Machine_step_46 rfl ?_
        refine gx_aload_n d_Machine_step_47 rfl ?_
        refine gx_iconst d_Machine_step_48 (nI 0) (by decide) ?_
        refine gx_iload d_Machine_step_49 rfl ?_
        refine gx_cV0 lk_Machine_82 d_Machine_step_51 (ct_Word_addPart (a := 0) (b := c.1.length) e2 kh hne (by omega) (Nat.le_of_lt sp_hd3) (by rw [hR] at hl; simp [sp_ds_len] at hl ⊢; omega)) (Or.inr ⟨_, _, e2⟩) (by omega) rfl rfl (Nat.le_of_ble_eq_true rfl) ?_
        rw [sp_take0, List.nil_append]
        refine gx_aload_n d_Machine_step_54 rfl ?_
        refine gx_aload_n d_Machine_step_55 rfl ?_
        refine gx_get fl_Machine_18 d_Machine_step_56 (by rw [gx_st_ne (by omega)]; exact k0) rfl ?_
        refine gx_iload_n d_Machine_step_59 rfl ?_
        refine gx_iald d_Machine_step_60 (by rw [gx_st_ne (by omega)]; exact k3) (by omega) (by omega) ?_
        refine gx_cS1 lk_Machine_45 d_Machine_step_61 (ct_digit (by omega)) (by omega) rfl rfl (Nat.le_of_ble_eq_true rfl) ?_
        refine gx_cV1 lk_Machine_38 d_Machine_step_64 (ct_Word_add gx_st_eq (by omega) (by rw [hR] at hl; simp [sp_ds_len] at hl ⊢; omega)) (Or.inr ⟨_, _, gx_st_eq⟩) (by omega) rfl rfl (Nat.le_of_ble_eq_true rfl) ?_
        rw [gx_st_st]
        refine gx_aload_n d_Machine_step_67 rfl ?_
        refine gx_get fl_Machine_22 d_Machine_step_68 (by rw [gx_st_ne (by omega)]; exact k0) rfl ?_
        refine gx_iload_n d_Machine_step_71 rfl ?_
        refine gx_iald d_Machine_step_72 (by rw [gx_st_ne (by omega)]; exact k4) (by omega) (by omega) ?_
        refine gx_cS1 lk_Machine_34 d_Machine_step_73 (ct_letter hMr.2.2.2) (by omega) rfl rfl (Nat.le_of_ble_eq_true rfl) ?_
        refine gx_cV1 lk_Machine_38 d_Machine_step_76 (ct_Word_add gx_st_eq (by have := sp_let_lt hMr.2.2.2; omega) (by rw [hR] at hl; simp [sp_ds_len] at hl ⊢; omega)) (Or.inr ⟨_, _, gx_st_eq⟩) (by omega) rfl rfl (Nat.le_of_ble_eq_true rfl) ?_
        rw [gx_st_st]
        refine gx_pop d_Machine_step_79 rfl ?_
        refine gx_goto (tgt := 130) d_Machine_step_80 (by decide) ?_
        refine st_tail (w := gx_st w1 h2 _) (by rw [gx_st_ne hne]; exact kh) gx_st_eq hne ?_ ?_
        · first | (rw [hR] at hl; simp [sp_ds_len] at hl ⊢; omega) | (rw [hLL.2] at hl; simp [sp_ds_len] at hl ⊢; omega)
        · rw [gx_st_st, kfin]
          first | (rw [hR]; exact ⟨rfl, rfl⟩) | (rw [hLL.2]; exact ⟨rfl, rfl⟩)
    · refine gx_aload_n d_Machine_step_22 rfl ?_
      refine gx_get fl_Machine_15 d_Machine_step_23 m0 rfl ?_
      refine gx_iload_n d_Machine_step_26 rfl ?_
      refine gx_zald d_Machine_step_27 m2 (by omega) (by omega) ?_
      refine gx_if_neN (by omega) (tgt := 33) d_Machine_step_28 (by decide) (fun h28 => ?_) (fun h28 => ?_)
      · refine gx_aload_n d_Machine_step_33 rfl ?_
        refine gx_cV0 lk_Machine_42 d_Machine_step_34 (ct_Word_empty hw2) (Or.inr ⟨_, _, hw2⟩) (by omega) rfl rfl (Nat.le_of_ble_eq_true rfl) ?_
        have e2 : (gx_st w h2 (gx_bx 0 cap2 [])).1 h2 = some (gx_bx 0 cap2 []) := gx_st_eq
        generalize hwe : gx_st w h2 (gx_bx 0 cap2 []) = w1 at e2 ⊢
        have k0 := (show w1.1 a = w.1 a by rw [← hwe, gx_st_ne (by omega)]).trans m0
        have k2 := (show w1.1 (a + 2) = w.1 (a + 2) by rw [← hwe, gx_st_ne (by omega)]).trans m2
        have k3 := (show w1.1 (a + 3) = w.1 (a + 3) by rw [← hwe, gx_st_ne (by omega)]).trans m3
        have k4 := (show w1.1 (a + 4) = w.1 (a + 4) by rw [← hwe, gx_st_ne (by omega)]).trans m4
        have kh := (show w1.1 h = w.1 h by rw [← hwe, gx_st_ne hne]).trans hw
        have kfin : ∀ x, gx_st w1 h2 x = gx_st w h2 x := fun x => by rw [← hwe, gx_st_st]
        refine gx_aload_n d_Machine_step_37 rfl ?_
        refine gx_get fl_Machine_15 d_Machine_step_38 k0 rfl ?_
        refine gx_iload_n d_Machine_step_41 rfl ?_
        refine gx_zald d_Machine_step_42 k2 (by omega) (by omega) ?_
        refine gx_if_eqN (by omega) (tgt := 83) d_Machine_step_43 (by decide) (fun h43 => ?_) (fun h43 => ?_)
        · have hLL := sp_step_L hr (by omega) hs
          refine gx_aload_n d_Machine_step_83 rfl ?_
          refine gx_aload_n d_Machine_step_84 rfl ?_
          refine gx_iconst d_Machine_step_85 (nI 0) (by decide) ?_
          refine gx_iload d_Machine_step_86 rfl ?_
          refine gx_iconst d_Machine_step_88 (nI 1) (by decide) ?_
          refine gx_isubN (by omega) d_Machine_step_89 ?_
          refine gx_cV0 lk_Machine_82 d_Machine_step_90 (ct_Word_addPart (a := 0) (b := c.1.length - 1) e2 kh hne (by omega) (by have := sp_hd3 (c := c); omega) (by rw [hLL.2] at hl; simp [sp_ds_len] at hl ⊢; omega)) (Or.inr ⟨_, _, e2⟩) (by omega) rfl rfl (Nat.le_of_ble_eq_true rfl) ?_
          rw [sp_take1, List.nil_append]
          refine gx_aload_n d_Machine_step_93 rfl ?_
          refine gx_aload_n d_Machine_step_94 rfl ?_
          refine gx_get fl_Machine_22 d_Machine_step_95 (by rw [gx_st_ne (by omega)]; exact k0) rfl ?_
          refine gx_iload_n d_Machine_step_98 rfl ?_
          refine gx_iald d_Machine_step_99 (by rw [gx_st_ne (by omega)]; exact k4) (by omega) (by omega) ?_
          refine gx_cS1 lk_Machine_34 d_Machine_step_100 (ct_letter hMr.2.2.2) (by omega) rfl rfl (Nat.le_of_ble_eq_true rfl) ?_
          refine gx_cV1 lk_Machine_38 d_Machine_step_103 (ct_Word_add gx_st_eq (by have := sp_let_lt hMr.2.2.2; omega) (by rw [hLL.2] at hl; simp [sp_ds_len] at hl ⊢; omega)) (Or.inr ⟨_, _, gx_st_eq⟩) (by omega) rfl rfl (Nat.le_of_ble_eq_true rfl) ?_
          rw [gx_st_st]
          refine gx_aload_n d_Machine_step_106 rfl ?_
          refine gx_iload d_Machine_step_107 rfl ?_
          refine gx_iconst d_Machine_step_109 (nI 1) (by decide) ?_
          refine gx_isubN (by omega) d_Machine_step_110 ?_
          refine gx_cV1 lk_Machine_58 d_Machine_step_111 (ct_Word_at (j := c.1.length - 1) (w := gx_st w1 h2 _) (by rw [gx_st_ne hne]; exact kh) (by omega)) (Or.inr ⟨_, _, by rw [gx_st_ne hne]; exact kh⟩) (by omega) rfl rfl (Nat.le_of_ble_eq_true rfl) ?_
          refine gx_top (congrArg nI (sp_txt_lo (by omega))) ?_
          refine gx_cV1 lk_Machine_38 d_Machine_step_114 (ct_Word_add gx_st_eq (by have := sp_gd_lt hc.1 (c.1.length - 1); omega) (by rw [hLL.2] at hl; simp [sp_ds_len] at hl ⊢; omega)) (Or.inr ⟨_, _, gx_st_eq⟩) (by omega) rfl rfl (Nat.le_of_ble_eq_true rfl) ?_
          rw [gx_st_st]
          refine gx_aload_n d_Machine_step_117 rfl ?_
          refine gx_get fl_Machine_18 d_Machine_step_118 (by rw [gx_st_ne (by omega)]; exact k0) rfl ?_
          refine gx_iload_n d_Machine_step_121 rfl ?_
          refine gx_iald d_Machine_step_122 (by rw [gx_st_ne (by omega)]; exact k3) (by omega) (by omega) ?_
          refine gx_cS1 lk_Machine_45 d_Machine_step_123 (ct_digit (by omega)) (by omega) rfl rfl (Nat.le_of_ble_eq_true rfl) ?_
          refine gx_cV1 lk_Machine_38 d_Machine_step_126 (ct_Word_add gx_st_eq (by omega) (by rw [hLL.2] at hl; simp [sp_ds_len] at hl ⊢; omega)) (Or.inr ⟨_, _, gx_st_eq⟩) (by omega) rfl rfl (Nat.le_of_ble_eq_true rfl) ?_
          rw [gx_st_st]
          refine gx_pop d_Machine_step_129 rfl ?_
          refine st_tail (w := gx_st w1 h2 _) (by rw [gx_st_ne hne]; exact kh) gx_st_eq hne ?_ ?_
          · first | (rw [hR] at hl; simp [sp_ds_len] at hl ⊢; omega) | (rw [hLL.2] at hl; simp [sp_ds_len] at hl ⊢; omega)
          · rw [gx_st_st, kfin]
            first | (rw [hR]; exact ⟨rfl, rfl⟩) | (rw [hLL.2]; exact ⟨rfl, rfl⟩)
        · have hR := sp_step_R hr (by omega) hs
          refine gx_aload_n d_Machine_step_46 rfl ?_
          refine gx_aload_n d_Machine_step_47 rfl ?_
          refine gx_iconst d_Machine_step_48 (nI 0) (by decide) ?_
          refine gx_iload d_Machine_step_49 rfl ?_
          refine gx_cV0 lk_Machine_82 d_Machine_step_51 (ct_Word_addPart (a := 0) (b := c.1.length) e2 kh hne (by omega) (Nat.le_of_lt sp_hd3) (by rw [hR] at hl; simp [sp_ds_len] at hl ⊢; omega)) (Or.inr ⟨_, _, e2⟩) (by omega) rfl rfl (Nat.le_of_ble_eq_true rfl) ?_
          rw [sp_take0, List.nil_append]
          refine gx_aload_n d_Machine_step_54 rfl ?_
          refine gx_aload_n d_Machine_step_55 rfl ?_
          refine gx_get fl_Machine_18 d_Machine_step_56 (by rw [gx_st_ne (by omega)]; exact k0) rfl ?_
          refine gx_iload_n d_Machine_step_59 rfl ?_
          refine gx_iald d_Machine_step_60 (by rw [gx_st_ne (by omega)]; exact k3) (by omega) (by omega) ?_
          refine gx_cS1 lk_Machine_45 d_Machine_step_61 (ct_digit (by omega)) (by omega) rfl rfl (Nat.le_of_ble_eq_true rfl) ?_
          refine gx_cV1 lk_Machine_38 d_Machine_step_64 (ct_Word_add gx_st_eq (by omega) (by rw [hR] at hl; simp [sp_ds_len] at hl ⊢; omega)) (Or.inr ⟨_, _, gx_st_eq⟩) (by omega) rfl rfl (Nat.le_of_ble_eq_true rfl) ?_
          rw [gx_st_st]
          refine gx_aload_n d_Machine_step_67 rfl ?_
          refine gx_get fl_Machine_22 d_Machine_step_68 (by rw [gx_st_ne (by omega)]; exact k0) rfl ?_
          refine gx_iload_n d_Machine_step_71 rfl ?_
          refine gx_iald d_Machine_step_72 (by rw [gx_st_ne (by omega)]; exact k4) (by omega) (by omega) ?_
          refine gx_cS1 lk_Machine_34 d_Machine_step_73 (ct_letter hMr.2.2.2) (by omega) rfl rfl (Nat.le_of_ble_eq_true rfl) ?_
          refine gx_cV1 lk_Machine_38 d_Machine_step_76 (ct_Word_add gx_st_eq (by have := sp_let_lt hMr.2.2.2; omega) (by rw [hR] at hl; simp [sp_ds_len] at hl ⊢; omega)) (Or.inr ⟨_, _, gx_st_eq⟩) (by omega) rfl rfl (Nat.le_of_ble_eq_true rfl) ?_
          rw [gx_st_st]
          refine gx_pop d_Machine_step_79 rfl ?_
          refine gx_goto (tgt := 130) d_Machine_step_80 (by decide) ?_
          refine st_tail (w := gx_st w1 h2 _) (by rw [gx_st_ne hne]; exact kh) gx_st_eq hne ?_ ?_
          · first | (rw [hR] at hl; simp [sp_ds_len] at hl ⊢; omega) | (rw [hLL.2] at hl; simp [sp_ds_len] at hl ⊢; omega)
          · rw [gx_st_st, kfin]
            first | (rw [hR]; exact ⟨rfl, rfl⟩) | (rw [hLL.2]; exact ⟨rfl, rfl⟩)
      · exact absurd (sp_step_L hr (by omega) hs).1 (by omega)
