/-! the reference: the texts of a run, a step -/
/-- row k of the texts holds c -/
def moT (A : Nat → Nat → Nat) (k : Nat) (c : sp_C) : Prop := A 6 k = sp_len c ∧ ∀ i, i < sp_len c → A 7 (12 * k + i) = (sp_txt c).getD i 0
def moM (A : Nat → Nat → Nat) : sp_M := (A 1, A 3, A 2, A 4)
theorem sp_let_eq {q : Nat} (h : q ≤ 4) : sp_let q = 104 ↔ q = 4 := by unfold sp_let; split <;> omega
theorem sp_let_lo {q : Nat} (h : q < 4) : sp_let q = 97 + q := by unfold sp_let; rw [if_neg (by omega)]
theorem d_Mo_head_0 : decode prog_11_method_4_code 0 = .ok (.iconst 0, 1) := by decide +kernel
theorem d_Mo_head_1 : decode prog_11_method_4_code 1 = .ok (.istore_n 2, 1) := by decide +kernel
theorem d_Mo_head_2 : decode prog_11_method_4_code 2 = .ok (.iload_n 2, 1) := by decide +kernel
theorem d_Mo_head_3 : decode prog_11_method_4_code 3 = .ok (.aload_n 0, 1) := by decide +kernel
theorem d_Mo_head_4 : decode prog_11_method_4_code 4 = .ok (.getfield 26, 3) := by decide +kernel
theorem d_Mo_head_7 : decode prog_11_method_4_code 7 = .ok (.iload_n 1, 1) := by decide +kernel
theorem d_Mo_head_8 : decode prog_11_method_4_code 8 = .ok (.iaload, 1) := by decide +kernel
theorem d_Mo_head_9 : decode prog_11_method_4_code 9 = .ok (.iconst 1, 1) := by decide +kernel
theorem d_Mo_head_10 : decode prog_11_method_4_code 10 = .ok (.isub, 1) := by decide +kernel
theorem d_Mo_head_11 : decode prog_11_method_4_code 11 = .ok (.if_icmp .ge 26, 3) := by decide +kernel
theorem d_Mo_head_14 : decode prog_11_method_4_code 14 = .ok (.aload_n 0, 1) := by decide +kernel
theorem d_Mo_head_15 : decode prog_11_method_4_code 15 = .ok (.getfield 29, 3) := by decide +kernel
theorem d_Mo_head_18 : decode prog_11_method_4_code 18 = .ok (.bipush 12, 2) := by decide +kernel
theorem d_Mo_head_20 : decode prog_11_method_4_code 20 = .ok (.iload_n 1, 1) := by decide +kernel
theorem d_Mo_head_21 : decode prog_11_method_4_code 21 = .ok (.imul, 1) := by decide +kernel
theorem d_Mo_head_22 : decode prog_11_method_4_code 22 = .ok (.iload_n 2, 1) := by decide +kernel
theorem d_Mo_head_23 : decode prog_11_method_4_code 23 = .ok (.iadd, 1) := by decide +kernel
theorem d_Mo_head_24 : decode prog_11_method_4_code 24 = .ok (.iaload, 1) := by decide +kernel
theorem d_Mo_head_25 : decode prog_11_method_4_code 25 = .ok (.invokestatic 93, 3) := by decide +kernel
theorem d_Mo_head_28 : decode prog_11_method_4_code 28 = .ok (.ifCond .eq 9, 3) := by decide +kernel
theorem d_Mo_head_31 : decode prog_11_method_4_code 31 = .ok (.iinc 2 1, 3) := by decide +kernel
theorem d_Mo_head_34 : decode prog_11_method_4_code 34 = .ok (.goto (-32), 3) := by decide +kernel
theorem d_Mo_head_37 : decode prog_11_method_4_code 37 = .ok (.iload_n 2, 1) := by decide +kernel
theorem d_Mo_head_38 : decode prog_11_method_4_code 38 = .ok (.ireturn, 1) := by decide +kernel
theorem lm_head {Q : gx_P} {w : gx_W} {m : Nat} {I : Nat → Nat} {A : Nat → Nat → Nat} {k : Nat} {c : sp_C} (hk : k ≤ 13) (hc : sp_ok c) (hl : sp_len c ≤ 12) (hT : moT A k c) (hQ : Q.1 (some (.int (nI c.1.length))) (gx_mo w m I A)) : ∀ (fu : Nat) (p : Nat), c.1.length - p < fu → (p ≤ c.1.length) → gx_X (fun _ _ => True) M_Mo_head 2 Q 2 [some (.ref m), some (.int (nI k)), some (.int (nI p))] [] (gx_mo w m I A) (0, 0) := by
  intro fu
  induction fu with
  | zero => intro p hfu; exact absurd hfu (Nat.not_lt_zero _)
  | succ fu ih =>
    intro p hfu hp
    have hlen : sp_len c = c.1.length + 1 + c.2.2.length := rfl
    have hsz := sp_txt_len c
    have hsm := sp_txt_sm hc
    have hcp := gx_sm_at hsm p
    refine gx_iload_n d_Mo_head_2 rfl ?_
    refine gx_aload_n d_Mo_head_3 rfl ?_
    refine gx_get fl_Mo_26 d_Mo_head_4 mo_o rfl ?_
    refine gx_iload_n d_Mo_head_7 rfl ?_
    refine gx_iald d_Mo_head_8 mo_6 (by omega) (by omega) ?_
    rw [hT.1]
    refine gx_iconst d_Mo_head_9 (nI 1) (by decide) ?_
    refine gx_isubN (by omega) d_Mo_head_10 ?_
    refine gx_icmp_geN (by omega) (by omega) (tgt := 37) d_Mo_head_11 (by decide) (fun h11 => ?_) (fun h11 => ?_)
    · refine gx_iload_n d_Mo_head_37 rfl ?_
      refine gx_ireturn rfl d_Mo_head_38 ?_
      rw [show p = c.1.length by omega]
      exact hQ
    · refine gx_aload_n d_Mo_head_14 rfl ?_
      refine gx_get fl_Mo_29 d_Mo_head_15 mo_o rfl ?_
      refine gx_bipush d_Mo_head_18 (nI 12) (by decide) ?_
      refine gx_iload_n d_Mo_head_20 rfl ?_
      refine gx_imulN d_Mo_head_21 ?_
      refine gx_iload_n d_Mo_head_22 rfl ?_
      refine gx_iaddN d_Mo_head_23 ?_
      refine gx_iald d_Mo_head_24 mo_7 (by omega) (by omega) ?_
      rw [hT.2 p (by omega)]
      refine gx_cS1 lk_Mo_93 d_Mo_head_25 (cm_isSymbol hcp) (by omega) rfl rfl (Nat.le_of_ble_eq_true rfl) ?_
      have hbt := Bool.toNat_le (decide (48 ≤ (sp_txt c).getD p 0 ∧ (sp_txt c).getD p 0 ≤ 50))
      refine gx_if_eqN (by omega) (tgt := 37) d_Mo_head_28 (by decide) (fun h28 => ?_) (fun h28 => ?_)
      · refine gx_iload_n d_Mo_head_37 rfl ?_
        refine gx_ireturn rfl d_Mo_head_38 ?_
        have e : p = c.1.length := by
          refine Nat.le_antisymm hp (Nat.le_of_not_lt fun g => ?_)
          have h1 := sp_txt_lo (c := c) g
          have h2 := sp_gd_lt hc.1 p
          rw [decide_eq_true (by omega)] at h28
          exact absurd h28 (by decide)
        rw [e]
        exact hQ
      · refine gx_iincN (n := 1) d_Mo_head_31 rfl (by decide) (Nat.le_of_ble_eq_true rfl) rfl ?_
        refine gx_goto (tgt := 2) d_Mo_head_34 (by decide) ?_
        have hlt : p < c.1.length := by
          refine Nat.lt_of_le_of_ne hp (fun e => ?_)
          have h1 : 97 ≤ (sp_txt c).getD p 0 := by rw [e]; exact sp_hd2
          rw [decide_eq_false (by omega)] at h28
          exact absurd rfl h28
        exact ih (p + 1) (by omega) (by omega)
theorem cm_head {w : gx_W} {m : Nat} {I : Nat → Nat} {A : Nat → Nat → Nat} {k : Nat} {c : sp_C} (hk : k ≤ 13) (hc : sp_ok c) (hl : sp_len c ≤ 12) (hT : moT A k c)  : gx_Ct M_Mo_head 2 0 0 [.ref m, .int (nI k)] (gx_mo w m I A) (gx_eq (some (.int (nI c.1.length))) (gx_mo w m I A)) := by
  refine gx_ct (L := [some (.ref m), some (.int (nI k)), none]) (by decide) (Nat.le_of_ble_eq_true rfl) rfl ?_
  refine gx_iconst d_Mo_head_0 (nI 0) (by decide) ?_
  refine gx_istore_n d_Mo_head_1 (Nat.le_of_ble_eq_true rfl) rfl ?_
  refine lm_head hk hc hl hT ?_ (c.1.length + 1) 0 (by omega) (Nat.zero_le _)
  exact ⟨rfl, rfl⟩
theorem sp_ri_no {M : sp_M} {c : sp_C} (h : sp_rl M c = none) : sp_ri M c = nI 4294967295 := by unfold sp_ri; rw [h]; exact gx_m1
theorem sp_ri_so {M : sp_M} {c : sp_C} {r : Nat} (h : sp_rl M c = some r) : sp_ri M c = nI r := by unfold sp_ri; rw [h]
theorem sp_rl_a {M : sp_M} {c : sp_C} {s : Nat} (h : c.2.1 < 4) (hs : s = c.2.2.getD 0 0) (hk : sp_kn M (3 * c.2.1 + s) = 1) : sp_rl M c = some (3 * c.2.1 + s) := by
  subst hs
  unfold sp_rl
  rw [Nat.mul_comm 3] at hk ⊢
  rw [if_pos ⟨h, hk⟩]
theorem sp_rl_b {M : sp_M} {c : sp_C} {s : Nat} (hs : s = c.2.2.getD 0 0) (hk : sp_kn M (3 * c.2.1 + s) = 0) : sp_rl M c = none := by
  subst hs
  unfold sp_rl
  rw [Nat.mul_comm 3] at hk
  rw [if_neg (fun g => by rw [hk] at g; exact absurd g.2 (by decide))]
theorem sp_rl_4 {M : sp_M} {c : sp_C} (h : c.2.1 = 4) : sp_rl M c = none := by
  unfold sp_rl
  rw [if_neg (fun g => by omega)]
theorem d_Mo_ruleOf_0 : decode prog_11_method_5_code 0 = .ok (.aload_n 0, 1) := by decide +kernel
theorem d_Mo_ruleOf_1 : decode prog_11_method_5_code 1 = .ok (.iload_n 1, 1) := by decide +kernel
theorem d_Mo_ruleOf_2 : decode prog_11_method_5_code 2 = .ok (.invokevirtual 97, 3) := by decide +kernel
theorem d_Mo_ruleOf_5 : decode prog_11_method_5_code 5 = .ok (.istore_n 2, 1) := by decide +kernel
theorem d_Mo_ruleOf_6 : decode prog_11_method_5_code 6 = .ok (.aload_n 0, 1) := by decide +kernel
theorem d_Mo_ruleOf_7 : decode prog_11_method_5_code 7 = .ok (.getfield 29, 3) := by decide +kernel
theorem d_Mo_ruleOf_10 : decode prog_11_method_5_code 10 = .ok (.bipush 12, 2) := by decide +kernel
theorem d_Mo_ruleOf_12 : decode prog_11_method_5_code 12 = .ok (.iload_n 1, 1) := by decide +kernel
theorem d_Mo_ruleOf_13 : decode prog_11_method_5_code 13 = .ok (.imul, 1) := by decide +kernel
theorem d_Mo_ruleOf_14 : decode prog_11_method_5_code 14 = .ok (.iload_n 2, 1) := by decide +kernel
theorem d_Mo_ruleOf_15 : decode prog_11_method_5_code 15 = .ok (.iadd, 1) := by decide +kernel
theorem d_Mo_ruleOf_16 : decode prog_11_method_5_code 16 = .ok (.iaload, 1) := by decide +kernel
theorem d_Mo_ruleOf_17 : decode prog_11_method_5_code 17 = .ok (.istore_n 3, 1) := by decide +kernel
theorem d_Mo_ruleOf_18 : decode prog_11_method_5_code 18 = .ok (.iload_n 3, 1) := by decide +kernel
theorem d_Mo_ruleOf_19 : decode prog_11_method_5_code 19 = .ok (.bipush 104, 2) := by decide +kernel
theorem d_Mo_ruleOf_21 : decode prog_11_method_5_code 21 = .ok (.if_icmp .ne 5, 3) := by decide +kernel
theorem d_Mo_ruleOf_24 : decode prog_11_method_5_code 24 = .ok (.iconst (-1), 1) := by decide +kernel
theorem d_Mo_ruleOf_25 : decode prog_11_method_5_code 25 = .ok (.ireturn, 1) := by decide +kernel
theorem d_Mo_ruleOf_26 : decode prog_11_method_5_code 26 = .ok (.iconst 3, 1) := by decide +kernel
theorem d_Mo_ruleOf_27 : decode prog_11_method_5_code 27 = .ok (.iload_n 3, 1) := by decide +kernel
theorem d_Mo_ruleOf_28 : decode prog_11_method_5_code 28 = .ok (.bipush 97, 2) := by decide +kernel
theorem d_Mo_ruleOf_30 : decode prog_11_method_5_code 30 = .ok (.isub, 1) := by decide +kernel
theorem d_Mo_ruleOf_31 : decode prog_11_method_5_code 31 = .ok (.imul, 1) := by decide +kernel
theorem d_Mo_ruleOf_32 : decode prog_11_method_5_code 32 = .ok (.iload_n 2, 1) := by decide +kernel
theorem d_Mo_ruleOf_33 : decode prog_11_method_5_code 33 = .ok (.iconst 1, 1) := by decide +kernel
theorem d_Mo_ruleOf_34 : decode prog_11_method_5_code 34 = .ok (.iadd, 1) := by decide +kernel
theorem d_Mo_ruleOf_35 : decode prog_11_method_5_code 35 = .ok (.aload_n 0, 1) := by decide +kernel
theorem d_Mo_ruleOf_36 : decode prog_11_method_5_code 36 = .ok (.getfield 26, 3) := by decide +kernel
theorem d_Mo_ruleOf_39 : decode prog_11_method_5_code 39 = .ok (.iload_n 1, 1) := by decide +kernel
theorem d_Mo_ruleOf_40 : decode prog_11_method_5_code 40 = .ok (.iaload, 1) := by decide +kernel
theorem d_Mo_ruleOf_41 : decode prog_11_method_5_code 41 = .ok (.if_icmp .ge 22, 3) := by decide +kernel
theorem d_Mo_ruleOf_44 : decode prog_11_method_5_code 44 = .ok (.aload_n 0, 1) := by decide +kernel
theorem d_Mo_ruleOf_45 : decode prog_11_method_5_code 45 = .ok (.getfield 29, 3) := by decide +kernel
theorem d_Mo_ruleOf_48 : decode prog_11_method_5_code 48 = .ok (.bipush 12, 2) := by decide +kernel
theorem d_Mo_ruleOf_50 : decode prog_11_method_5_code 50 = .ok (.iload_n 1, 1) := by decide +kernel
theorem d_Mo_ruleOf_51 : decode prog_11_method_5_code 51 = .ok (.imul, 1) := by decide +kernel
theorem d_Mo_ruleOf_52 : decode prog_11_method_5_code 52 = .ok (.iload_n 2, 1) := by decide +kernel
theorem d_Mo_ruleOf_53 : decode prog_11_method_5_code 53 = .ok (.iadd, 1) := by decide +kernel
theorem d_Mo_ruleOf_54 : decode prog_11_method_5_code 54 = .ok (.iconst 1, 1) := by decide +kernel
theorem d_Mo_ruleOf_55 : decode prog_11_method_5_code 55 = .ok (.iadd, 1) := by decide +kernel
theorem d_Mo_ruleOf_56 : decode prog_11_method_5_code 56 = .ok (.iaload, 1) := by decide +kernel
theorem d_Mo_ruleOf_57 : decode prog_11_method_5_code 57 = .ok (.bipush 48, 2) := by decide +kernel
theorem d_Mo_ruleOf_59 : decode prog_11_method_5_code 59 = .ok (.isub, 1) := by decide +kernel
theorem d_Mo_ruleOf_60 : decode prog_11_method_5_code 60 = .ok (.goto 4, 3) := by decide +kernel
theorem d_Mo_ruleOf_63 : decode prog_11_method_5_code 63 = .ok (.iconst 0, 1) := by decide +kernel
theorem d_Mo_ruleOf_64 : decode prog_11_method_5_code 64 = .ok (.iadd, 1) := by decide +kernel
theorem d_Mo_ruleOf_65 : decode prog_11_method_5_code 65 = .ok (.istore 4, 2) := by decide +kernel
theorem d_Mo_ruleOf_67 : decode prog_11_method_5_code 67 = .ok (.aload_n 0, 1) := by decide +kernel
theorem d_Mo_ruleOf_68 : decode prog_11_method_5_code 68 = .ok (.getfield 7, 3) := by decide +kernel
theorem d_Mo_ruleOf_71 : decode prog_11_method_5_code 71 = .ok (.iload 4, 2) := by decide +kernel
theorem d_Mo_ruleOf_73 : decode prog_11_method_5_code 73 = .ok (.baload, 1) := by decide +kernel
theorem d_Mo_ruleOf_74 : decode prog_11_method_5_code 74 = .ok (.ifCond .eq 8, 3) := by decide +kernel
theorem d_Mo_ruleOf_77 : decode prog_11_method_5_code 77 = .ok (.iload 4, 2) := by decide +kernel
theorem d_Mo_ruleOf_79 : decode prog_11_method_5_code 79 = .ok (.goto 4, 3) := by decide +kernel
theorem d_Mo_ruleOf_82 : decode prog_11_method_5_code 82 = .ok (.iconst (-1), 1) := by decide +kernel
theorem d_Mo_ruleOf_83 : decode prog_11_method_5_code 83 = .ok (.ireturn, 1) := by decide +kernel
theorem cm_ruleOf {w : gx_W} {m : Nat} {I : Nat → Nat} {A : Nat → Nat → Nat} {k : Nat} {c : sp_C} (hk : k ≤ 13) (hc : sp_ok c) (hl : sp_len c ≤ 12) (hT : moT A k c) (hM : sp_Mok (moM A))  : gx_Ct M_Mo_ruleOf 3 0 0 [.ref m, .int (nI k)] (gx_mo w m I A) (gx_eq (some (.int (sp_ri (moM A) c))) (gx_mo w m I A)) := by
  refine gx_ct (L := [some (.ref m), some (.int (nI k)), none, none, none]) (by decide) (Nat.le_of_ble_eq_true rfl) rfl ?_
  have hlen : sp_len c = c.1.length + 1 + c.2.2.length := rfl
  have hsz := sp_txt_len c
  have hsm := sp_txt_sm hc
  have hq4 := hc.2.1
  have hle := sp_let_lt hq4
  have hlg := sp_let_ge c.2.1
  refine gx_aload_n d_Mo_ruleOf_0 rfl ?_
  refine gx_iload_n d_Mo_ruleOf_1 rfl ?_
  refine gx_cV1 lk_Mo_97 d_Mo_ruleOf_2 (cm_head hk hc hl hT) (Or.inl ⟨_, mo_o⟩) (by omega) rfl rfl (Nat.le_of_ble_eq_true rfl) ?_
  refine gx_istore_n d_Mo_ruleOf_5 (Nat.le_of_ble_eq_true rfl) rfl ?_
  refine gx_aload_n d_Mo_ruleOf_6 rfl ?_
  refine gx_get fl_Mo_29 d_Mo_ruleOf_7 mo_o rfl ?_
  refine gx_bipush d_Mo_ruleOf_10 (nI 12) (by decide) ?_
  refine gx_iload_n d_Mo_ruleOf_12 rfl ?_
  refine gx_imulN d_Mo_ruleOf_13 ?_
  refine gx_iload_n d_Mo_ruleOf_14 rfl ?_
  refine gx_iaddN d_Mo_ruleOf_15 ?_
  refine gx_iald d_Mo_ruleOf_16 mo_7 (by omega) (by omega) ?_
  rw [hT.2 _ (by omega), sp_txt_mid]
  refine gx_istore_n d_Mo_ruleOf_17 (Nat.le_of_ble_eq_true rfl) rfl ?_
  refine gx_iload_n d_Mo_ruleOf_18 rfl ?_
  refine gx_bipush d_Mo_ruleOf_19 (nI 104) (by decide) ?_
  refine gx_icmp_neN (by omega) (by omega) (tgt := 26) d_Mo_ruleOf_21 (by decide) (fun h21 => ?_) (fun h21 => ?_)
  · have hq3 : c.2.1 < 4 := by
      refine Nat.lt_of_le_of_ne hq4 (fun e => h21 ((sp_let_eq hq4).mpr e))
    have hel := sp_let_lo hq3
    refine gx_iconst d_Mo_ruleOf_26 (nI 3) (by decide) ?_
    refine gx_iload_n d_Mo_ruleOf_27 rfl ?_
    refine gx_bipush d_Mo_ruleOf_28 (nI 97) (by decide) ?_
    refine gx_isubN (by omega) d_Mo_ruleOf_30 ?_
    refine gx_imulN d_Mo_ruleOf_31 ?_
    refine gx_iload_n d_Mo_ruleOf_32 rfl ?_
    refine gx_iconst d_Mo_ruleOf_33 (nI 1) (by decide) ?_
    refine gx_iaddN d_Mo_ruleOf_34 ?_
    refine gx_aload_n d_Mo_ruleOf_35 rfl ?_
    refine gx_get fl_Mo_26 d_Mo_ruleOf_36 mo_o rfl ?_
    refine gx_iload_n d_Mo_ruleOf_39 rfl ?_
    refine gx_iald d_Mo_ruleOf_40 mo_6 (by omega) (by omega) ?_
    rw [hT.1]
    refine gx_icmp_geN (by omega) (by omega) (tgt := 63) d_Mo_ruleOf_41 (by decide) (fun h41 => ?_) (fun h41 => ?_)
    · refine gx_iconst d_Mo_ruleOf_63 (nI 0) (by decide) ?_
      rw [hel, Nat.add_sub_cancel_left]
      have es : 0 = c.2.2.getD 0 0 := (gx_gd_ge (by omega)).symm
      have hs3 : 0 < 3 := by rw [es]; exact sp_gd_lt hc.2.2 0
      have hmr := (hM (3 * c.2.1 + 0)).1
      have hmr2 : A 1 (3 * c.2.1 + 0) ≤ 1 := hmr
      refine gx_iaddN d_Mo_ruleOf_64 ?_
      refine gx_istore d_Mo_ruleOf_65 (Nat.le_of_ble_eq_true rfl) rfl ?_
      refine gx_aload_n d_Mo_ruleOf_67 rfl ?_
      refine gx_get fl_Mo_7 d_Mo_ruleOf_68 mo_o rfl ?_
      refine gx_iload d_Mo_ruleOf_71 rfl ?_
      refine gx_zald d_Mo_ruleOf_73 mo_1 (by omega) (by omega) ?_
      refine gx_if_eqN (by omega) (tgt := 82) d_Mo_ruleOf_74 (by decide) (fun h74 => ?_) (fun h74 => ?_)
      · refine gx_iconst d_Mo_ruleOf_82 (nI 4294967295) (by decide) ?_
        refine gx_ireturn rfl d_Mo_ruleOf_83 ?_
        rw [sp_ri_no (sp_rl_b (M := moM A) es h74)]
        exact ⟨rfl, rfl⟩
      · refine gx_iload d_Mo_ruleOf_77 rfl ?_
        refine gx_goto (tgt := 83) d_Mo_ruleOf_79 (by decide) ?_
        refine gx_ireturn rfl d_Mo_ruleOf_83 ?_
        rw [sp_ri_so (sp_rl_a (M := moM A) (by omega) es (show sp_kn (moM A) _ = 1 from by show A 1 _ = 1; omega))]
        exact ⟨rfl, rfl⟩
    · refine gx_aload_n d_Mo_ruleOf_44 rfl ?_
      refine gx_get fl_Mo_29 d_Mo_ruleOf_45 mo_o rfl ?_
      refine gx_bipush d_Mo_ruleOf_48 (nI 12) (by decide) ?_
      refine gx_iload_n d_Mo_ruleOf_50 rfl ?_
      refine gx_imulN d_Mo_ruleOf_51 ?_
      refine gx_iload_n d_Mo_ruleOf_52 rfl ?_
      refine gx_iaddN d_Mo_ruleOf_53 ?_
      refine gx_iconst d_Mo_ruleOf_54 (nI 1) (by decide) ?_
      refine gx_iaddN d_Mo_ruleOf_55 ?_
      refine gx_iald d_Mo_ruleOf_56 mo_7 (by omega) (by omega) ?_
      rw [show 12 * k + c.1.length + 1 = 12 * k + (c.1.length + 1 + 0) by omega, hT.2 _ (by omega), sp_txt_hi (i := 0) (by omega)]
      refine gx_bipush d_Mo_ruleOf_57 (nI 48) (by decide) ?_
      refine gx_isubN (by omega) d_Mo_ruleOf_59 ?_
      refine gx_goto (tgt := 64) d_Mo_ruleOf_60 (by decide) ?_
      rw [hel, Nat.add_sub_cancel_left, Nat.add_sub_cancel_left]
      have es : c.2.2.getD 0 0 = c.2.2.getD 0 0 := rfl
      have hs3 : c.2.2.getD 0 0 < 3 := by rw [es]; exact sp_gd_lt hc.2.2 0
      have hmr := (hM (3 * c.2.1 + c.2.2.getD 0 0)).1
      have hmr2 : A 1 (3 * c.2.1 + c.2.2.getD 0 0) ≤ 1 := hmr
      refine gx_iaddN d_Mo_ruleOf_64 ?_
      refine gx_istore d_Mo_ruleOf_65 (Nat.le_of_ble_eq_true rfl) rfl ?_
      refine gx_aload_n d_Mo_ruleOf_67 rfl ?_
      refine gx_get fl_Mo_7 d_Mo_ruleOf_68 mo_o rfl ?_
      refine gx_iload d_Mo_ruleOf_71 rfl ?_
      refine gx_zald d_Mo_ruleOf_73 mo_1 (by omega) (by omega) ?_
      refine gx_if_eqN (by omega) (tgt := 82) d_Mo_ruleOf_74 (by decide) (fun h74 => ?_) (fun h74 => ?_)
      · refine gx_iconst d_Mo_ruleOf_82 (nI 4294967295) (by decide) ?_
        refine gx_ireturn rfl d_Mo_ruleOf_83 ?_
        rw [sp_ri_no (sp_rl_b (M := moM A) es h74)]
        exact ⟨rfl, rfl⟩
      · refine gx_iload d_Mo_ruleOf_77 rfl ?_
        refine gx_goto (tgt := 83) d_Mo_ruleOf_79 (by decide) ?_
        refine gx_ireturn rfl d_Mo_ruleOf_83 ?_
        rw [sp_ri_so (sp_rl_a (M := moM A) (by omega) es (show sp_kn (moM A) _ = 1 from by show A 1 _ = 1; omega))]
        exact ⟨rfl, rfl⟩
  · refine gx_iconst d_Mo_ruleOf_24 (nI 4294967295) (by decide) ?_
    refine gx_ireturn rfl d_Mo_ruleOf_25 ?_
    rw [sp_ri_no (sp_rl_4 ((sp_let_eq hq4).mp h21))]
    exact ⟨rfl, rfl⟩
def moB (A A' : Nat → Nat → Nat) (y : Nat) (l : List Nat) : Prop := (∀ i, i < l.length → A' 7 (y + i) = l.getD i 0) ∧ ∀ j i, (j = 7 ∧ y ≤ i ∧ i < y + 12) ∨ A' j i = A j i
theorem moB.nil {A : Nat → Nat → Nat} {y : Nat} : moB A A y [] := ⟨fun i hi => absurd hi (Nat.not_lt_zero _), fun _ _ => Or.inr rfl⟩
theorem moB.push {A A' : Nat → Nat → Nat} {y x : Nat} {l : List Nat} (h : moB A A' y l) (hl : l.length < 12) : moB A (uA A' 7 (y + l.length) x) y (l ++ [x]) := by
  refine ⟨fun i hi => ?_, fun j i => ?_⟩
  · rw [List.length_append, List.length_singleton] at hi
    by_cases e : i = l.length
    · subst e; rw [uA_s, gx_gd_mid]
    · rw [uA_i (by omega), h.1 i (by omega), gx_gd_app (by omega)]
  · by_cases e : j = 7 ∧ i = y + l.length
    · exact Or.inl ⟨e.1, by omega, by omega⟩
    · rcases h.2 j i with g | g
      · exact Or.inl g
      · exact Or.inr ((if_neg e).trans g)
theorem moB.oj {A A' : Nat → Nat → Nat} {y j : Nat} {l : List Nat} (h : moB A A' y l) (hj : j ≠ 7) (i : Nat) : A' j i = A j i := by
  rcases h.2 j i with g | g
  · exact absurd g.1 hj
  · exact g
theorem moB.lo {A A' : Nat → Nat → Nat} {y i : Nat} {l : List Nat} (h : moB A A' y l) (hi : i < y) : A' 7 i = A 7 i := by
  rcases h.2 7 i with g | g
  · omega
  · exact g
theorem moB.T {A A' : Nat → Nat → Nat} {k : Nat} {l : List Nat} {c : sp_C} (h : moB A A' (12 * k + 12) l) (hT : moT A k c) (hl : sp_len c ≤ 12) : moT A' k c := ⟨by rw [h.oj (by decide)]; exact hT.1, fun i hi => by rw [h.lo (by omega)]; exact hT.2 i hi⟩
/-- what a step leaves: row k' is new -/
def moR (A A' : Nat → Nat → Nat) (k : Nat) : Prop := ∀ j i, (j = 6 ∧ i = k) ∨ (j = 7 ∧ 12 * k ≤ i ∧ i < 12 * k + 12) ∨ A' j i = A j i
theorem gx_drop_1 {l : List Nat} {i : Nat} (h : i < l.length) : l.drop i = l.getD i 0 :: l.drop (i + 1) := gx_drop_cons h
theorem d_Mo_step_0 : decode prog_11_method_7_code 0 = .ok (.aload_n 0, 1) := by decide +kernel
theorem d_Mo_step_1 : decode prog_11_method_7_code 1 = .ok (.iload_n 1, 1) := by decide +kernel
theorem d_Mo_step_2 : decode prog_11_method_7_code 2 = .ok (.invokevirtual 101, 3) := by decide +kernel
theorem d_Mo_step_5 : decode prog_11_method_7_code 5 = .ok (.istore_n 2, 1) := by decide +kernel
theorem d_Mo_step_6 : decode prog_11_method_7_code 6 = .ok (.aload_n 0, 1) := by decide +kernel
theorem d_Mo_step_7 : decode prog_11_method_7_code 7 = .ok (.iload_n 1, 1) := by decide +kernel
theorem d_Mo_step_8 : decode prog_11_method_7_code 8 = .ok (.invokevirtual 97, 3) := by decide +kernel
theorem d_Mo_step_11 : decode prog_11_method_7_code 11 = .ok (.istore_n 3, 1) := by decide +kernel
theorem d_Mo_step_12 : decode prog_11_method_7_code 12 = .ok (.iload_n 2, 1) := by decide +kernel
theorem d_Mo_step_13 : decode prog_11_method_7_code 13 = .ok (.ifCond .lt 16, 3) := by decide +kernel
theorem d_Mo_step_16 : decode prog_11_method_7_code 16 = .ok (.aload_n 0, 1) := by decide +kernel
theorem d_Mo_step_17 : decode prog_11_method_7_code 17 = .ok (.getfield 17, 3) := by decide +kernel
theorem d_Mo_step_20 : decode prog_11_method_7_code 20 = .ok (.iload_n 2, 1) := by decide +kernel
theorem d_Mo_step_21 : decode prog_11_method_7_code 21 = .ok (.baload, 1) := by decide +kernel
theorem d_Mo_step_22 : decode prog_11_method_7_code 22 = .ok (.ifCond .ne 9, 3) := by decide +kernel
theorem d_Mo_step_25 : decode prog_11_method_7_code 25 = .ok (.iload_n 3, 1) := by decide +kernel
theorem d_Mo_step_26 : decode prog_11_method_7_code 26 = .ok (.ifCond .ne 5, 3) := by decide +kernel
theorem d_Mo_step_29 : decode prog_11_method_7_code 29 = .ok (.iconst 0, 1) := by decide +kernel
theorem d_Mo_step_30 : decode prog_11_method_7_code 30 = .ok (.ireturn, 1) := by decide +kernel
theorem d_Mo_step_31 : decode prog_11_method_7_code 31 = .ok (.iload_n 3, 1) := by decide +kernel
theorem d_Mo_step_32 : decode prog_11_method_7_code 32 = .ok (.iconst 1, 1) := by decide +kernel
theorem d_Mo_step_33 : decode prog_11_method_7_code 33 = .ok (.iadd, 1) := by decide +kernel
theorem d_Mo_step_34 : decode prog_11_method_7_code 34 = .ok (.aload_n 0, 1) := by decide +kernel
theorem d_Mo_step_35 : decode prog_11_method_7_code 35 = .ok (.getfield 26, 3) := by decide +kernel
theorem d_Mo_step_38 : decode prog_11_method_7_code 38 = .ok (.iload_n 1, 1) := by decide +kernel
theorem d_Mo_step_39 : decode prog_11_method_7_code 39 = .ok (.iaload, 1) := by decide +kernel
theorem d_Mo_step_40 : decode prog_11_method_7_code 40 = .ok (.if_icmp .ge 7, 3) := by decide +kernel
theorem d_Mo_step_43 : decode prog_11_method_7_code 43 = .ok (.iconst 1, 1) := by decide +kernel
theorem d_Mo_step_44 : decode prog_11_method_7_code 44 = .ok (.goto 4, 3) := by decide +kernel
theorem d_Mo_step_47 : decode prog_11_method_7_code 47 = .ok (.iconst 0, 1) := by decide +kernel
theorem d_Mo_step_48 : decode prog_11_method_7_code 48 = .ok (.istore 4, 2) := by decide +kernel
theorem d_Mo_step_50 : decode prog_11_method_7_code 50 = .ok (.bipush 12, 2) := by decide +kernel
theorem d_Mo_step_52 : decode prog_11_method_7_code 52 = .ok (.iload_n 1, 1) := by decide +kernel
theorem d_Mo_step_53 : decode prog_11_method_7_code 53 = .ok (.imul, 1) := by decide +kernel
theorem d_Mo_step_54 : decode prog_11_method_7_code 54 = .ok (.istore 5, 2) := by decide +kernel
theorem d_Mo_step_56 : decode prog_11_method_7_code 56 = .ok (.bipush 12, 2) := by decide +kernel
theorem d_Mo_step_58 : decode prog_11_method_7_code 58 = .ok (.iload_n 1, 1) := by decide +kernel
theorem d_Mo_step_59 : decode prog_11_method_7_code 59 = .ok (.imul, 1) := by decide +kernel
theorem d_Mo_step_60 : decode prog_11_method_7_code 60 = .ok (.bipush 12, 2) := by decide +kernel
theorem d_Mo_step_62 : decode prog_11_method_7_code 62 = .ok (.iadd, 1) := by decide +kernel
theorem d_Mo_step_63 : decode prog_11_method_7_code 63 = .ok (.istore 6, 2) := by decide +kernel
theorem d_Mo_step_65 : decode prog_11_method_7_code 65 = .ok (.aload_n 0, 1) := by decide +kernel
theorem d_Mo_step_66 : decode prog_11_method_7_code 66 = .ok (.getfield 17, 3) := by decide +kernel
theorem d_Mo_step_69 : decode prog_11_method_7_code 69 = .ok (.iload_n 2, 1) := by decide +kernel
theorem d_Mo_step_70 : decode prog_11_method_7_code 70 = .ok (.baload, 1) := by decide +kernel
theorem d_Mo_step_71 : decode prog_11_method_7_code 71 = .ok (.ifCond .eq 7, 3) := by decide +kernel
theorem d_Mo_step_74 : decode prog_11_method_7_code 74 = .ok (.iload_n 3, 1) := by decide +kernel
theorem d_Mo_step_75 : decode prog_11_method_7_code 75 = .ok (.goto 6, 3) := by decide +kernel
theorem d_Mo_step_78 : decode prog_11_method_7_code 78 = .ok (.iload_n 3, 1) := by decide +kernel
theorem d_Mo_step_79 : decode prog_11_method_7_code 79 = .ok (.iconst 1, 1) := by decide +kernel
theorem d_Mo_step_80 : decode prog_11_method_7_code 80 = .ok (.isub, 1) := by decide +kernel
theorem d_Mo_step_81 : decode prog_11_method_7_code 81 = .ok (.istore 7, 2) := by decide +kernel
theorem d_Mo_step_83 : decode prog_11_method_7_code 83 = .ok (.iconst 0, 1) := by decide +kernel
theorem d_Mo_step_84 : decode prog_11_method_7_code 84 = .ok (.istore 8, 2) := by decide +kernel
theorem d_Mo_step_86 : decode prog_11_method_7_code 86 = .ok (.iload 8, 2) := by decide +kernel
theorem d_Mo_step_88 : decode prog_11_method_7_code 88 = .ok (.iload 7, 2) := by decide +kernel
theorem d_Mo_step_90 : decode prog_11_method_7_code 90 = .ok (.if_icmp .ge 29, 3) := by decide +kernel
theorem d_Mo_step_93 : decode prog_11_method_7_code 93 = .ok (.aload_n 0, 1) := by decide +kernel
theorem d_Mo_step_94 : decode prog_11_method_7_code 94 = .ok (.getfield 29, 3) := by decide +kernel
theorem d_Mo_step_97 : decode prog_11_method_7_code 97 = .ok (.iload 6, 2) := by decide +kernel
theorem d_Mo_step_99 : decode prog_11_method_7_code 99 = .ok (.iload 8, 2) := by decide +kernel
theorem d_Mo_step_101 : decode prog_11_method_7_code 101 = .ok (.iadd, 1) := by decide +kernel
theorem d_Mo_step_102 : decode prog_11_method_7_code 102 = .ok (.aload_n 0, 1) := by decide +kernel
theorem d_Mo_step_103 : decode prog_11_method_7_code 103 = .ok (.getfield 29, 3) := by decide +kernel
theorem d_Mo_step_106 : decode prog_11_method_7_code 106 = .ok (.iload 5, 2) := by decide +kernel
theorem d_Mo_step_108 : decode prog_11_method_7_code 108 = .ok (.iload 8, 2) := by decide +kernel
theorem d_Mo_step_110 : decode prog_11_method_7_code 110 = .ok (.iadd, 1) := by decide +kernel
theorem d_Mo_step_111 : decode prog_11_method_7_code 111 = .ok (.iaload, 1) := by decide +kernel
theorem d_Mo_step_112 : decode prog_11_method_7_code 112 = .ok (.iastore, 1) := by decide +kernel
theorem d_Mo_step_113 : decode prog_11_method_7_code 113 = .ok (.iinc 8 1, 3) := by decide +kernel
theorem d_Mo_step_116 : decode prog_11_method_7_code 116 = .ok (.goto (-30), 3) := by decide +kernel
theorem d_Mo_step_119 : decode prog_11_method_7_code 119 = .ok (.iload 7, 2) := by decide +kernel
theorem d_Mo_step_121 : decode prog_11_method_7_code 121 = .ok (.istore 8, 2) := by decide +kernel
theorem d_Mo_step_123 : decode prog_11_method_7_code 123 = .ok (.aload_n 0, 1) := by decide +kernel
theorem d_Mo_step_124 : decode prog_11_method_7_code 124 = .ok (.getfield 17, 3) := by decide +kernel
theorem d_Mo_step_127 : decode prog_11_method_7_code 127 = .ok (.iload_n 2, 1) := by decide +kernel
theorem d_Mo_step_128 : decode prog_11_method_7_code 128 = .ok (.baload, 1) := by decide +kernel
theorem d_Mo_step_129 : decode prog_11_method_7_code 129 = .ok (.ifCond .eq 49, 3) := by decide +kernel
theorem d_Mo_step_132 : decode prog_11_method_7_code 132 = .ok (.aload_n 0, 1) := by decide +kernel
theorem d_Mo_step_133 : decode prog_11_method_7_code 133 = .ok (.getfield 29, 3) := by decide +kernel
theorem d_Mo_step_136 : decode prog_11_method_7_code 136 = .ok (.iload 6, 2) := by decide +kernel
theorem d_Mo_step_138 : decode prog_11_method_7_code 138 = .ok (.iload 8, 2) := by decide +kernel
theorem d_Mo_step_140 : decode prog_11_method_7_code 140 = .ok (.iadd, 1) := by decide +kernel
theorem d_Mo_step_141 : decode prog_11_method_7_code 141 = .ok (.bipush 48, 2) := by decide +kernel
theorem d_Mo_step_143 : decode prog_11_method_7_code 143 = .ok (.aload_n 0, 1) := by decide +kernel
theorem d_Mo_step_144 : decode prog_11_method_7_code 144 = .ok (.getfield 13, 3) := by decide +kernel
theorem d_Mo_step_147 : decode prog_11_method_7_code 147 = .ok (.iload_n 2, 1) := by decide +kernel
theorem d_Mo_step_148 : decode prog_11_method_7_code 148 = .ok (.iaload, 1) := by decide +kernel
theorem d_Mo_step_149 : decode prog_11_method_7_code 149 = .ok (.iadd, 1) := by decide +kernel
theorem d_Mo_step_150 : decode prog_11_method_7_code 150 = .ok (.iastore, 1) := by decide +kernel
theorem d_Mo_step_151 : decode prog_11_method_7_code 151 = .ok (.aload_n 0, 1) := by decide +kernel
theorem d_Mo_step_152 : decode prog_11_method_7_code 152 = .ok (.getfield 29, 3) := by decide +kernel
theorem d_Mo_step_155 : decode prog_11_method_7_code 155 = .ok (.iload 6, 2) := by decide +kernel
theorem d_Mo_step_157 : decode prog_11_method_7_code 157 = .ok (.iload 8, 2) := by decide +kernel
theorem d_Mo_step_159 : decode prog_11_method_7_code 159 = .ok (.iadd, 1) := by decide +kernel
theorem d_Mo_step_160 : decode prog_11_method_7_code 160 = .ok (.iconst 1, 1) := by decide +kernel
theorem d_Mo_step_161 : decode prog_11_method_7_code 161 = .ok (.iadd, 1) := by decide +kernel
theorem d_Mo_step_162 : decode prog_11_method_7_code 162 = .ok (.aload_n 0, 1) := by decide +kernel
theorem d_Mo_step_163 : decode prog_11_method_7_code 163 = .ok (.getfield 20, 3) := by decide +kernel
theorem d_Mo_step_166 : decode prog_11_method_7_code 166 = .ok (.iload_n 2, 1) := by decide +kernel
theorem d_Mo_step_167 : decode prog_11_method_7_code 167 = .ok (.iaload, 1) := by decide +kernel
theorem d_Mo_step_168 : decode prog_11_method_7_code 168 = .ok (.invokestatic 104, 3) := by decide +kernel
theorem d_Mo_step_171 : decode prog_11_method_7_code 171 = .ok (.iastore, 1) := by decide +kernel
theorem d_Mo_step_172 : decode prog_11_method_7_code 172 = .ok (.iinc 8 2, 3) := by decide +kernel
theorem d_Mo_step_175 : decode prog_11_method_7_code 175 = .ok (.goto 69, 3) := by decide +kernel
theorem d_Mo_step_178 : decode prog_11_method_7_code 178 = .ok (.aload_n 0, 1) := by decide +kernel
theorem d_Mo_step_179 : decode prog_11_method_7_code 179 = .ok (.getfield 29, 3) := by decide +kernel
theorem d_Mo_step_182 : decode prog_11_method_7_code 182 = .ok (.iload 6, 2) := by decide +kernel
theorem d_Mo_step_184 : decode prog_11_method_7_code 184 = .ok (.iload 8, 2) := by decide +kernel
theorem d_Mo_step_186 : decode prog_11_method_7_code 186 = .ok (.iadd, 1) := by decide +kernel
theorem d_Mo_step_187 : decode prog_11_method_7_code 187 = .ok (.aload_n 0, 1) := by decide +kernel
theorem d_Mo_step_188 : decode prog_11_method_7_code 188 = .ok (.getfield 20, 3) := by decide +kernel
theorem d_Mo_step_191 : decode prog_11_method_7_code 191 = .ok (.iload_n 2, 1) := by decide +kernel
theorem d_Mo_step_192 : decode prog_11_method_7_code 192 = .ok (.iaload, 1) := by decide +kernel
theorem d_Mo_step_193 : decode prog_11_method_7_code 193 = .ok (.invokestatic 104, 3) := by decide +kernel
theorem d_Mo_step_196 : decode prog_11_method_7_code 196 = .ok (.iastore, 1) := by decide +kernel
theorem d_Mo_step_197 : decode prog_11_method_7_code 197 = .ok (.aload_n 0, 1) := by decide +kernel
theorem d_Mo_step_198 : decode prog_11_method_7_code 198 = .ok (.getfield 29, 3) := by decide +kernel
theorem d_Mo_step_201 : decode prog_11_method_7_code 201 = .ok (.iload 6, 2) := by decide +kernel
theorem d_Mo_step_203 : decode prog_11_method_7_code 203 = .ok (.iload 8, 2) := by decide +kernel
theorem d_Mo_step_205 : decode prog_11_method_7_code 205 = .ok (.iadd, 1) := by decide +kernel
theorem d_Mo_step_206 : decode prog_11_method_7_code 206 = .ok (.iconst 1, 1) := by decide +kernel
theorem d_Mo_step_207 : decode prog_11_method_7_code 207 = .ok (.iadd, 1) := by decide +kernel
theorem d_Mo_step_208 : decode prog_11_method_7_code 208 = .ok (.aload_n 0, 1) := by decide +kernel
theorem d_Mo_step_209 : decode prog_11_method_7_code 209 = .ok (.getfield 29, 3) := by decide +kernel
theorem d_Mo_step_212 : decode prog_11_method_7_code 212 = .ok (.iload 5, 2) := by decide +kernel
theorem d_Mo_step_214 : decode prog_11_method_7_code 214 = .ok (.iload_n 3, 1) := by decide +kernel
theorem d_Mo_step_215 : decode prog_11_method_7_code 215 = .ok (.iadd, 1) := by decide +kernel
theorem d_Mo_step_216 : decode prog_11_method_7_code 216 = .ok (.iconst 1, 1) := by decide +kernel
theorem d_Mo_step_217 : decode prog_11_method_7_code 217 = .ok (.isub, 1) := by decide +kernel
theorem d_Mo_step_218 : decode prog_11_method_7_code 218 = .ok (.iaload, 1) := by decide +kernel
theorem d_Mo_step_219 : decode prog_11_method_7_code 219 = .ok (.iastore, 1) := by decide +kernel
theorem d_Mo_step_220 : decode prog_11_method_7_code 220 = .ok (.aload_n 0, 1) := by decide +kernel
theorem d_Mo_step_221 : decode prog_11_method_7_code 221 = .ok (.getfield 29, 3) := by decide +kernel
theorem d_Mo_step_224 : decode prog_11_method_7_code 224 = .ok (.iload 6, 2) := by decide +kernel
theorem d_Mo_step_226 : decode prog_11_method_7_code 226 = .ok (.iload 8, 2) := by decide +kernel
theorem d_Mo_step_228 : decode prog_11_method_7_code 228 = .ok (.iadd, 1) := by decide +kernel
theorem d_Mo_step_229 : decode prog_11_method_7_code 229 = .ok (.iconst 2, 1) := by decide +kernel
theorem d_Mo_step_230 : decode prog_11_method_7_code 230 = .ok (.iadd, 1) := by decide +kernel
theorem d_Mo_step_231 : decode prog_11_method_7_code 231 = .ok (.bipush 48, 2) := by decide +kernel
theorem d_Mo_step_233 : decode prog_11_method_7_code 233 = .ok (.aload_n 0, 1) := by decide +kernel
theorem d_Mo_step_234 : decode prog_11_method_7_code 234 = .ok (.getfield 13, 3) := by decide +kernel
theorem d_Mo_step_237 : decode prog_11_method_7_code 237 = .ok (.iload_n 2, 1) := by decide +kernel
theorem d_Mo_step_238 : decode prog_11_method_7_code 238 = .ok (.iaload, 1) := by decide +kernel
theorem d_Mo_step_239 : decode prog_11_method_7_code 239 = .ok (.iadd, 1) := by decide +kernel
theorem d_Mo_step_240 : decode prog_11_method_7_code 240 = .ok (.iastore, 1) := by decide +kernel
theorem d_Mo_step_241 : decode prog_11_method_7_code 241 = .ok (.iinc 8 3, 3) := by decide +kernel
theorem d_Mo_step_244 : decode prog_11_method_7_code 244 = .ok (.iload 4, 2) := by decide +kernel
theorem d_Mo_step_246 : decode prog_11_method_7_code 246 = .ok (.ifCond .eq 9, 3) := by decide +kernel
theorem d_Mo_step_249 : decode prog_11_method_7_code 249 = .ok (.iload_n 3, 1) := by decide +kernel
theorem d_Mo_step_250 : decode prog_11_method_7_code 250 = .ok (.iconst 2, 1) := by decide +kernel
theorem d_Mo_step_251 : decode prog_11_method_7_code 251 = .ok (.iadd, 1) := by decide +kernel
theorem d_Mo_step_252 : decode prog_11_method_7_code 252 = .ok (.goto 6, 3) := by decide +kernel
theorem d_Mo_step_255 : decode prog_11_method_7_code 255 = .ok (.iload_n 3, 1) := by decide +kernel
theorem d_Mo_step_256 : decode prog_11_method_7_code 256 = .ok (.iconst 1, 1) := by decide +kernel
theorem d_Mo_step_257 : decode prog_11_method_7_code 257 = .ok (.iadd, 1) := by decide +kernel
theorem d_Mo_step_258 : decode prog_11_method_7_code 258 = .ok (.istore 9, 2) := by decide +kernel
theorem d_Mo_step_260 : decode prog_11_method_7_code 260 = .ok (.iload 9, 2) := by decide +kernel
theorem d_Mo_step_262 : decode prog_11_method_7_code 262 = .ok (.aload_n 0, 1) := by decide +kernel
theorem d_Mo_step_263 : decode prog_11_method_7_code 263 = .ok (.getfield 26, 3) := by decide +kernel
theorem d_Mo_step_266 : decode prog_11_method_7_code 266 = .ok (.iload_n 1, 1) := by decide +kernel
theorem d_Mo_step_267 : decode prog_11_method_7_code 267 = .ok (.iaload, 1) := by decide +kernel
theorem d_Mo_step_268 : decode prog_11_method_7_code 268 = .ok (.if_icmp .ge 32, 3) := by decide +kernel
theorem d_Mo_step_271 : decode prog_11_method_7_code 271 = .ok (.aload_n 0, 1) := by decide +kernel
theorem d_Mo_step_272 : decode prog_11_method_7_code 272 = .ok (.getfield 29, 3) := by decide +kernel
theorem d_Mo_step_275 : decode prog_11_method_7_code 275 = .ok (.iload 6, 2) := by decide +kernel
theorem d_Mo_step_277 : decode prog_11_method_7_code 277 = .ok (.iload 8, 2) := by decide +kernel
theorem d_Mo_step_279 : decode prog_11_method_7_code 279 = .ok (.iadd, 1) := by decide +kernel
theorem d_Mo_step_280 : decode prog_11_method_7_code 280 = .ok (.aload_n 0, 1) := by decide +kernel
theorem d_Mo_step_281 : decode prog_11_method_7_code 281 = .ok (.getfield 29, 3) := by decide +kernel
theorem d_Mo_step_284 : decode prog_11_method_7_code 284 = .ok (.iload 5, 2) := by decide +kernel
theorem d_Mo_step_286 : decode prog_11_method_7_code 286 = .ok (.iload 9, 2) := by decide +kernel
theorem d_Mo_step_288 : decode prog_11_method_7_code 288 = .ok (.iadd, 1) := by decide +kernel
theorem d_Mo_step_289 : decode prog_11_method_7_code 289 = .ok (.iaload, 1) := by decide +kernel
theorem d_Mo_step_290 : decode prog_11_method_7_code 290 = .ok (.iastore, 1) := by decide +kernel
theorem d_Mo_step_291 : decode prog_11_method_7_code 291 = .ok (.iinc 8 1, 3) := by decide +kernel
theorem d_Mo_step_294 : decode prog_11_method_7_code 294 = .ok (.iinc 9 1, 3) := by decide +kernel
theorem d_Mo_step_297 : decode prog_11_method_7_code 297 = .ok (.goto (-37), 3) := by decide +kernel
theorem d_Mo_step_300 : decode prog_11_method_7_code 300 = .ok (.aload_n 0, 1) := by decide +kernel
theorem d_Mo_step_301 : decode prog_11_method_7_code 301 = .ok (.getfield 26, 3) := by decide +kernel
theorem d_Mo_step_304 : decode prog_11_method_7_code 304 = .ok (.iload_n 1, 1) := by decide +kernel
theorem d_Mo_step_305 : decode prog_11_method_7_code 305 = .ok (.iconst 1, 1) := by decide +kernel
theorem d_Mo_step_306 : decode prog_11_method_7_code 306 = .ok (.iadd, 1) := by decide +kernel
theorem d_Mo_step_307 : decode prog_11_method_7_code 307 = .ok (.iload 8, 2) := by decide +kernel
theorem d_Mo_step_309 : decode prog_11_method_7_code 309 = .ok (.iastore, 1) := by decide +kernel
theorem d_Mo_step_310 : decode prog_11_method_7_code 310 = .ok (.iconst 1, 1) := by decide +kernel
theorem d_Mo_step_311 : decode prog_11_method_7_code 311 = .ok (.ireturn, 1) := by decide +kernel
theorem lm_step1 {Q : gx_P} {w : gx_W} {m : Nat} {I : Nat → Nat} {A : Nat → Nat → Nat} {k r th : Nat} {c : sp_C} (hk : k ≤ 12) (hc : sp_ok c) (hl : sp_len c ≤ 10) (hT : moT A k c) {kp : Nat} (hkp : kp ≤ c.1.length) : ∀ (fu : Nat) (i : Nat) (A' : Nat → Nat → Nat), kp - i < fu → (i ≤ kp) → (moB A A' (12 * k + 12) ((sp_txt c).take i)) → (∀ A'', moB A A'' (12 * k + 12) ((sp_txt c).take kp) → gx_X (fun _ _ => True) M_Mo_step 4 Q 119 [some (.ref m), some (.int (nI k)), some (.int (nI r)), some (.int (nI c.1.length)), some (.int (nI th)), some (.int (nI (12 * k))), some (.int (nI (12 * k + 12))), some (.int (nI kp)), some (.int (nI kp)), none] [] (gx_mo w m I A'') (0, 0)) → gx_X (fun _ _ => True) M_Mo_step 4 Q 86 [some (.ref m), some (.int (nI k)), some (.int (nI r)), some (.int (nI c.1.length)), some (.int (nI th)), some (.int (nI (12 * k))), some (.int (nI (12 * k + 12))), some (.int (nI kp)), some (.int (nI i)), none] [] (gx_mo w m I A') (0, 0) := by
  intro fu
  induction fu with
  | zero => intro i A' hfu; exact absurd hfu (Nat.not_lt_zero _)
  | succ fu ih =>
    intro i A' hfu hi hB hX
    have hlen : sp_len c = c.1.length + 1 + c.2.2.length := rfl
    have hsz := sp_txt_len c
    have htk : ((sp_txt c).take i).length = i := by rw [List.length_take]; omega
    refine gx_iload d_Mo_step_86 rfl ?_
    refine gx_iload d_Mo_step_88 rfl ?_
    refine gx_icmp_geN (by omega) (by omega) (tgt := 119) d_Mo_step_90 (by decide) (fun h90 => ?_) (fun h90 => ?_)
    · rw [show i = kp by omega] at hB ⊢
      exact hX _ hB
    · refine gx_aload_n d_Mo_step_93 rfl ?_
      refine gx_get fl_Mo_29 d_Mo_step_94 mo_o rfl ?_
      refine gx_iload d_Mo_step_97 rfl ?_
      refine gx_iload d_Mo_step_99 rfl ?_
      refine gx_iaddN d_Mo_step_101 ?_
      refine gx_aload_n d_Mo_step_102 rfl ?_
      refine gx_get fl_Mo_29 d_Mo_step_103 mo_o rfl ?_
      refine gx_iload d_Mo_step_106 rfl ?_
      refine gx_iload d_Mo_step_108 rfl ?_
      refine gx_iaddN d_Mo_step_110 ?_
      refine gx_iald d_Mo_step_111 mo_7 (by omega) (by omega) ?_
      rw [(hB.T hT (by omega)).2 i (by omega)]
      refine gx_iast d_Mo_step_112 mo_7 (by omega) (by omega) ?_
      refine gx_w mo_s7 ?_
      refine gx_iincN (n := 1) d_Mo_step_113 rfl (by decide) (Nat.le_of_ble_eq_true rfl) rfl ?_
      refine gx_goto (tgt := 86) d_Mo_step_116 (by decide) ?_
      refine ih (i + 1) _ (by omega) (by omega) ?_ hX
      have h5 := hB.push (x := (sp_txt c).getD i 0) (by omega)
      rw [htk, ← gx_take_succ (by omega)] at h5
      exact h5
theorem lm_step2 {Q : gx_P} {w : gx_W} {m : Nat} {I : Nat → Nat} {A : Nat → Nat → Nat} {k r th : Nat} {c : sp_C} (hk : k ≤ 12) (hc : sp_ok c) (hl : sp_len c ≤ 10) (hT : moT A k c) {kp : Nat} : ∀ (fu : Nat) (i : Nat) (A' : Nat → Nat → Nat) (l : List Nat), sp_len c - i < fu → (i ≤ sp_len c) → (l.length + (sp_len c - i) ≤ 12) → (moB A A' (12 * k + 12) l) → (∀ A'' L9, moB A A'' (12 * k + 12) (l ++ (sp_txt c).drop i) → gx_X (fun _ _ => True) M_Mo_step 4 Q 300 [some (.ref m), some (.int (nI k)), some (.int (nI r)), some (.int (nI c.1.length)), some (.int (nI th)), some (.int (nI (12 * k))), some (.int (nI (12 * k + 12))), some (.int (nI kp)), some (.int (nI (l ++ (sp_txt c).drop i).length)), L9] [] (gx_mo w m I A'') (0, 0)) → gx_X (fun _ _ => True) M_Mo_step 4 Q 260 [some (.ref m), some (.int (nI k)), some (.int (nI r)), some (.int (nI c.1.length)), some (.int (nI th)), some (.int (nI (12 * k))), some (.int (nI (12 * k + 12))), some (.int (nI kp)), some (.int (nI l.length)), some (.int (nI i))] [] (gx_mo w m I A') (0, 0) := by
  intro fu
  induction fu with
  | zero => intro i A' l hfu; exact absurd hfu (Nat.not_lt_zero _)
  | succ fu ih =>
    intro i A' l hfu hi hll hB hX
    have hlen : sp_len c = c.1.length + 1 + c.2.2.length := rfl
    have hsz := sp_txt_len c
    have hT' := hB.T hT (by omega)
    refine gx_iload d_Mo_step_260 rfl ?_
    refine gx_aload_n d_Mo_step_262 rfl ?_
    refine gx_get fl_Mo_26 d_Mo_step_263 mo_o rfl ?_
    refine gx_iload_n d_Mo_step_266 rfl ?_
    refine gx_iald d_Mo_step_267 mo_6 (by omega) (by omega) ?_
    rw [hT'.1]
    refine gx_icmp_geN (by omega) (by omega) (tgt := 300) d_Mo_step_268 (by decide) (fun h268 => ?_) (fun h268 => ?_)
    · rw [List.drop_eq_nil_of_le (show (sp_txt c).length ≤ i by omega), List.append_nil] at hX
      exact hX _ _ hB
    · refine gx_aload_n d_Mo_step_271 rfl ?_
      refine gx_get fl_Mo_29 d_Mo_step_272 mo_o rfl ?_
      refine gx_iload d_Mo_step_275 rfl ?_
      refine gx_iload d_Mo_step_277 rfl ?_
      refine gx_iaddN d_Mo_step_279 ?_
      refine gx_aload_n d_Mo_step_280 rfl ?_
      refine gx_get fl_Mo_29 d_Mo_step_281 mo_o rfl ?_
      refine gx_iload d_Mo_step_284 rfl ?_
      refine gx_iload d_Mo_step_286 rfl ?_
      refine gx_iaddN d_Mo_step_288 ?_
      refine gx_iald d_Mo_step_289 mo_7 (by omega) (by omega) ?_
      rw [hT'.2 i (by omega)]
      refine gx_iast d_Mo_step_290 mo_7 (by omega) (by omega) ?_
      refine gx_w mo_s7 ?_
      refine gx_iincN (n := 1) d_Mo_step_291 rfl (by decide) (Nat.le_of_ble_eq_true rfl) rfl ?_
      refine gx_iincN (n := 1) d_Mo_step_294 rfl (by decide) (Nat.le_of_ble_eq_true rfl) rfl ?_
      refine gx_goto (tgt := 260) d_Mo_step_297 (by decide) ?_
      refine gx_L (L' := [some (.ref m), some (.int (nI k)), some (.int (nI r)), some (.int (nI c.1.length)), some (.int (nI th)), some (.int (nI (12 * k))), some (.int (nI (12 * k + 12))), some (.int (nI kp)), some (.int (nI (l ++ [(sp_txt c).getD i 0]).length)), some (.int (nI (i + 1)))]) (by rw [List.length_append]; rfl) ?_
      refine ih (i + 1) _ _ (by omega) (by omega) (by rw [List.length_append, List.length_singleton]; omega) (hB.push (by omega)) ?_
      rw [List.append_assoc, List.singleton_append, ← gx_drop_1 (by omega)]
      exact hX
theorem sg_step3 {w : gx_W} {m : Nat} {I : Nat → Nat} {A A' : Nat → Nat → Nat} {k r th kp : Nat} {c c' : sp_C} {L9 : Option Value} {l : List Nat} (hk : k ≤ 12) (hB : moB A A' (12 * k + 12) l) (hl : l = sp_txt c') : gx_X (fun _ _ => True) M_Mo_step 4 (gx_nt (fun v w' => v = some (.int (nI 1)) ∧ ∃ A'', w' = gx_mo w m I A'' ∧ moT A'' (k + 1) c' ∧ moR A A'' (k + 1))) 300 [some (.ref m), some (.int (nI k)), some (.int (nI r)), some (.int (nI c.1.length)), some (.int (nI th)), some (.int (nI (12 * k))), some (.int (nI (12 * k + 12))), some (.int (nI kp)), some (.int (nI l.length)), L9] [] (gx_mo w m I A') (0, 0) := by
  refine gx_aload_n d_Mo_step_300 rfl ?_
  refine gx_get fl_Mo_26 d_Mo_step_301 mo_o rfl ?_
  refine gx_iload_n d_Mo_step_304 rfl ?_
  refine gx_iconst d_Mo_step_305 (nI 1) (by decide) ?_
  refine gx_iaddN d_Mo_step_306 ?_
  refine gx_iload d_Mo_step_307 rfl ?_
  refine gx_iast d_Mo_step_309 mo_6 (by omega) (by omega) ?_
  refine gx_w mo_s6 ?_
  refine gx_iconst d_Mo_step_310 (nI 1) (by decide) ?_
  refine gx_zreturn rfl gx_nz1 d_Mo_step_311 ?_
  refine ⟨rfl, _, rfl, ⟨by rw [uA_s, hl, sp_txt_len], fun i hi => ?_⟩, fun j i => ?_⟩
  · rw [uA_o (by decide), show 12 * (k + 1) = 12 * k + 12 by omega, hB.1 i (by rw [hl, sp_txt_len]; exact hi), hl]
  · by_cases e : j = 6 ∧ i = k + 1
    · exact Or.inl e
    · rw [show uA A' 6 (k + 1) l.length j i = A' j i from if_neg e]
      rcases hB.2 j i with g | g
      · exact Or.inr (Or.inl ⟨g.1, by omega, by omega⟩)
      · exact Or.inr (Or.inr g)
theorem cm_step_rt {w : gx_W} {m : Nat} {I : Nat → Nat} {A : Nat → Nat → Nat} {k : Nat} {c : sp_C} (hk : k ≤ 12) (hc : sp_ok c) (hl : sp_len c ≤ 10) (hT : moT A k c) (hM : sp_Mok (moM A)) {r : Nat} (hrl : sp_rl (moM A) c = some r) (hrt : sp_rt (moM A) r = 1) (hth : ¬ c.2.2.length = 0) : gx_Ct M_Mo_step 4 0 0 [.ref m, .int (nI k)] (gx_mo w m I A) (fun v w' => v = some (.int (nI 1)) ∧ ∃ A'', w' = gx_mo w m I A'' ∧ moT A'' (k + 1) (c.1 ++ [sp_wr (moM A) r], sp_nx (moM A) r, c.2.2.tail) ∧ moR A A'' (k + 1)) := by
  refine gx_ct (L := [some (.ref m), some (.int (nI k)), none, none, none, none, none, none, none, none]) (by decide) (Nat.le_of_ble_eq_true rfl) rfl ?_
  have hlen : sp_len c = c.1.length + 1 + c.2.2.length := rfl
  have hsz := sp_txt_len c
  have hsm := sp_txt_sm hc
  have hri := @sp_rl_lt (moM A) c
  obtain ⟨hr12, hre, hq3, hkn⟩ := hri hrl hc
  have hMr := hM r
  have e3 : A 3 r = 1 := hrt
  have e2 : A 2 r < 3 := hMr.2.2.1
  have e4 : A 4 r ≤ 4 := hMr.2.2.2
  have h300 : ∀ A'' L9 th, moB A A'' (12 * k + 12) (((sp_txt c).take c.1.length ++ [48 + A 2 r]) ++ [sp_let (A 4 r)] ++ (sp_txt c).drop (c.1.length + 2)) → gx_X (fun _ _ => True) M_Mo_step 4 (gx_nt (fun v w' => v = some (.int (nI 1)) ∧ ∃ A'', w' = gx_mo w m I A'' ∧ moT A'' (k + 1) (c.1 ++ [sp_wr (moM A) r], sp_nx (moM A) r, c.2.2.tail) ∧ moR A A'' (k + 1))) 300 [some (.ref m), some (.int (nI k)), some (.int (nI r)), some (.int (nI c.1.length)), some (.int (nI th)), some (.int (nI (12 * k))), some (.int (nI (12 * k + 12))), some (.int (nI c.1.length)), some (.int (nI (((sp_txt c).take c.1.length ++ [48 + A 2 r]) ++ [sp_let (A 4 r)] ++ (sp_txt c).drop (c.1.length + 2)).length)), L9] [] (gx_mo w m I A'') (0, 0) := fun A'' L9 th hB => sg_step3 (c := c) hk hB (by
    have t1 := sp_take0 (c := c); have t2 := sp_drop2 (c := c)
    rw [List.drop_zero] at t1
    rw [List.take_of_length_le (Nat.le_refl _)] at t2
    rw [t1, t2]
    unfold sp_txt sp_ds
    rw [List.map_append]
    simp [sp_wr, sp_nx, moM])
  refine gx_aload_n d_Mo_step_0 rfl ?_
  refine gx_iload_n d_Mo_step_1 rfl ?_
  refine gx_cV1 lk_Mo_101 d_Mo_step_2 (cm_ruleOf (by omega) hc (by omega) hT hM) (Or.inl ⟨_, mo_o⟩) (by omega) rfl rfl (Nat.le_of_ble_eq_true rfl) ?_
  refine gx_top (sp_ri_so hrl) ?_
  refine gx_istore_n d_Mo_step_5 (Nat.le_of_ble_eq_true rfl) rfl ?_
  refine gx_aload_n d_Mo_step_6 rfl ?_
  refine gx_iload_n d_Mo_step_7 rfl ?_
  refine gx_cV1 lk_Mo_97 d_Mo_step_8 (cm_head (by omega) hc (by omega) hT) (Or.inl ⟨_, mo_o⟩) (by omega) rfl rfl (Nat.le_of_ble_eq_true rfl) ?_
  refine gx_istore_n d_Mo_step_11 (Nat.le_of_ble_eq_true rfl) rfl ?_
  refine gx_iload_n d_Mo_step_12 rfl ?_
  refine gx_if_ltN (by omega) (tgt := 29) d_Mo_step_13 (by decide) ?_
  refine gx_aload_n d_Mo_step_16 rfl ?_
  refine gx_get fl_Mo_17 d_Mo_step_17 mo_o rfl ?_
  refine gx_iload_n d_Mo_step_20 rfl ?_
  refine gx_zald d_Mo_step_21 mo_3 (by omega) (by omega) ?_
  rw [e3]
  refine gx_if_neN (by omega) (tgt := 31) d_Mo_step_22 (by decide) (fun h22 => ?_) (fun h22 => ?_)
  · refine gx_iload_n d_Mo_step_31 rfl ?_
    refine gx_iconst d_Mo_step_32 (nI 1) (by decide) ?_
    refine gx_iaddN d_Mo_step_33 ?_
    refine gx_aload_n d_Mo_step_34 rfl ?_
    refine gx_get fl_Mo_26 d_Mo_step_35 mo_o rfl ?_
    refine gx_iload_n d_Mo_step_38 rfl ?_
    refine gx_iald d_Mo_step_39 mo_6 (by omega) (by omega) ?_
    rw [hT.1]
    refine gx_icmp_geN (by omega) (by omega) (tgt := 47) d_Mo_step_40 (by decide) (fun h40 => ?_) (fun h40 => ?_)
    · exact absurd h40 (by omega)
    · refine gx_iconst d_Mo_step_43 (nI 1) (by decide) ?_
      refine gx_goto (tgt := 48) d_Mo_step_44 (by decide) ?_
      refine gx_istore d_Mo_step_48 (Nat.le_of_ble_eq_true rfl) rfl ?_
      refine gx_bipush d_Mo_step_50 (nI 12) (by decide) ?_
      refine gx_iload_n d_Mo_step_52 rfl ?_
      refine gx_imulN d_Mo_step_53 ?_
      refine gx_istore d_Mo_step_54 (Nat.le_of_ble_eq_true rfl) rfl ?_
      refine gx_bipush d_Mo_step_56 (nI 12) (by decide) ?_
      refine gx_iload_n d_Mo_step_58 rfl ?_
      refine gx_imulN d_Mo_step_59 ?_
      refine gx_bipush d_Mo_step_60 (nI 12) (by decide) ?_
      refine gx_iaddN d_Mo_step_62 ?_
      refine gx_istore d_Mo_step_63 (Nat.le_of_ble_eq_true rfl) rfl ?_
      refine gx_aload_n d_Mo_step_65 rfl ?_
      refine gx_get fl_Mo_17 d_Mo_step_66 mo_o rfl ?_
      refine gx_iload_n d_Mo_step_69 rfl ?_
      refine gx_zald d_Mo_step_70 mo_3 (by omega) (by omega) ?_
      rw [e3]
      refine gx_if_eqN (by omega) (tgt := 78) d_Mo_step_71 (by decide) (fun h71 => ?_) (fun h71 => ?_)
      · exact absurd h71 (by decide)
      · refine gx_iload_n d_Mo_step_74 rfl ?_
        refine gx_goto (tgt := 81) d_Mo_step_75 (by decide) ?_
        refine gx_istore d_Mo_step_81 (Nat.le_of_ble_eq_true rfl) rfl ?_
        refine gx_iconst d_Mo_step_83 (nI 0) (by decide) ?_
        refine gx_istore d_Mo_step_84 (Nat.le_of_ble_eq_true rfl) rfl ?_
        refine lm_step1 (th := 1) (kp := c.1.length) (r := r) hk hc hl hT (by omega) (c.1.length + 1) 0 A (by omega) (Nat.zero_le _) (by rw [List.take_zero]; exact moB.nil) (fun A' hB => ?_)
        have htk : ((sp_txt c).take c.1.length).length = c.1.length := by rw [List.length_take]; omega
        refine gx_iload d_Mo_step_119 rfl ?_
        refine gx_istore d_Mo_step_121 (Nat.le_of_ble_eq_true rfl) rfl ?_
        refine gx_aload_n d_Mo_step_123 rfl ?_
        refine gx_get fl_Mo_17 d_Mo_step_124 mo_o rfl ?_
        refine gx_iload_n d_Mo_step_127 rfl ?_
        refine gx_zald d_Mo_step_128 mo_3 (by omega) (by omega) ?_
        rw [hB.oj (by decide), e3]
        refine gx_if_eqN (by omega) (tgt := 178) d_Mo_step_129 (by decide) (fun h129 => ?_) (fun h129 => ?_)
        · exact absurd h129 (by decide)
        · refine gx_aload_n d_Mo_step_132 rfl ?_
          refine gx_get fl_Mo_29 d_Mo_step_133 mo_o rfl ?_
          refine gx_iload d_Mo_step_136 rfl ?_
          refine gx_iload d_Mo_step_138 rfl ?_
          refine gx_iaddN d_Mo_step_140 ?_
          refine gx_bipush d_Mo_step_141 (nI 48) (by decide) ?_
          refine gx_aload_n d_Mo_step_143 rfl ?_
          refine gx_get fl_Mo_13 d_Mo_step_144 mo_o rfl ?_
          refine gx_iload_n d_Mo_step_147 rfl ?_
          refine gx_iald d_Mo_step_148 mo_2 (by omega) (by omega) ?_
          rw [hB.oj (by decide)]
          refine gx_iaddN d_Mo_step_149 ?_
          refine gx_iast d_Mo_step_150 mo_7 (by omega) (by omega) ?_
          refine gx_w mo_s7 ?_
          have hB1 := hB.push (x := 48 + A 2 r) (by omega)
          rw [htk] at hB1
          refine gx_aload_n d_Mo_step_151 rfl ?_
          refine gx_get fl_Mo_29 d_Mo_step_152 mo_o rfl ?_
          refine gx_iload d_Mo_step_155 rfl ?_
          refine gx_iload d_Mo_step_157 rfl ?_
          refine gx_iaddN d_Mo_step_159 ?_
          refine gx_iconst d_Mo_step_160 (nI 1) (by decide) ?_
          refine gx_iaddN d_Mo_step_161 ?_
          refine gx_aload_n d_Mo_step_162 rfl ?_
          refine gx_get fl_Mo_20 d_Mo_step_163 mo_o rfl ?_
          refine gx_iload_n d_Mo_step_166 rfl ?_
          refine gx_iald d_Mo_step_167 mo_4 (by omega) (by omega) ?_
          rw [hB1.oj (by decide)]
          refine gx_cS1 lk_Mo_104 d_Mo_step_168 (cm_letter e4) (by omega) rfl rfl (Nat.le_of_ble_eq_true rfl) ?_
          refine gx_iast d_Mo_step_171 mo_7 (by omega) (by omega) ?_
          refine gx_w mo_s7 ?_
          have hB2 := hB1.push (x := sp_let (A 4 r)) (by rw [List.length_append, htk]; simp; omega)
          rw [List.length_append, htk] at hB2
          refine gx_iincN (n := 2) d_Mo_step_172 rfl (by decide) (Nat.le_of_ble_eq_true rfl) rfl ?_
          refine gx_goto (tgt := 244) d_Mo_step_175 (by decide) ?_
          refine gx_iload d_Mo_step_244 rfl ?_
          refine gx_if_eqN (by omega) (tgt := 255) d_Mo_step_246 (by decide) (fun h246 => ?_) (fun h246 => ?_)
          · exact absurd h246 (by decide)
          · refine gx_iload_n d_Mo_step_249 rfl ?_
            refine gx_iconst d_Mo_step_250 (nI 2) (by decide) ?_
            refine gx_iaddN d_Mo_step_251 ?_
            refine gx_goto (tgt := 258) d_Mo_step_252 (by decide) ?_
            refine gx_istore d_Mo_step_258 (Nat.le_of_ble_eq_true rfl) rfl ?_
            have hlen2 : (((sp_txt c).take c.1.length ++ [48 + A 2 r]) ++ [sp_let (A 4 r)]).length = c.1.length + 2 := by simp [htk]
            refine gx_L (L' := [some (.ref m), some (.int (nI k)), some (.int (nI r)), some (.int (nI c.1.length)), some (.int (nI 1)), some (.int (nI (12 * k))), some (.int (nI (12 * k + 12))), some (.int (nI c.1.length)), some (.int (nI (((sp_txt c).take c.1.length ++ [48 + A 2 r]) ++ [sp_let (A 4 r)]).length)), some (.int (nI (c.1.length + 2)))]) (by rw [hlen2]; rfl) ?_
            refine lm_step2 (th := 1) (kp := c.1.length) (r := r) hk hc hl hT (sp_len c + 1) (c.1.length + 2) _ (((sp_txt c).take c.1.length ++ [48 + A 2 r]) ++ [sp_let (A 4 r)]) (by omega) (by omega) (by rw [hlen2]; omega) hB2 ?_
            exact fun A'' L9 hB9 => h300 A'' L9 1 hB9
  · exact absurd h22 (by decide)
theorem cm_step_re {w : gx_W} {m : Nat} {I : Nat → Nat} {A : Nat → Nat → Nat} {k : Nat} {c : sp_C} (hk : k ≤ 12) (hc : sp_ok c) (hl : sp_len c ≤ 10) (hT : moT A k c) (hM : sp_Mok (moM A)) {r : Nat} (hrl : sp_rl (moM A) c = some r) (hrt : sp_rt (moM A) r = 1) (hth : c.2.2.length = 0) : gx_Ct M_Mo_step 4 0 0 [.ref m, .int (nI k)] (gx_mo w m I A) (fun v w' => v = some (.int (nI 1)) ∧ ∃ A'', w' = gx_mo w m I A'' ∧ moT A'' (k + 1) (c.1 ++ [sp_wr (moM A) r], sp_nx (moM A) r, c.2.2.tail) ∧ moR A A'' (k + 1)) := by
  refine gx_ct (L := [some (.ref m), some (.int (nI k)), none, none, none, none, none, none, none, none]) (by decide) (Nat.le_of_ble_eq_true rfl) rfl ?_
  have hlen : sp_len c = c.1.length + 1 + c.2.2.length := rfl
  have hsz := sp_txt_len c
  have hsm := sp_txt_sm hc
  have hri := @sp_rl_lt (moM A) c
  obtain ⟨hr12, hre, hq3, hkn⟩ := hri hrl hc
  have hMr := hM r
  have e3 : A 3 r = 1 := hrt
  have e2 : A 2 r < 3 := hMr.2.2.1
  have e4 : A 4 r ≤ 4 := hMr.2.2.2
  have h300 : ∀ A'' L9 th, moB A A'' (12 * k + 12) (((sp_txt c).take c.1.length ++ [48 + A 2 r]) ++ [sp_let (A 4 r)] ++ (sp_txt c).drop (c.1.length + 2)) → gx_X (fun _ _ => True) M_Mo_step 4 (gx_nt (fun v w' => v = some (.int (nI 1)) ∧ ∃ A'', w' = gx_mo w m I A'' ∧ moT A'' (k + 1) (c.1 ++ [sp_wr (moM A) r], sp_nx (moM A) r, c.2.2.tail) ∧ moR A A'' (k + 1))) 300 [some (.ref m), some (.int (nI k)), some (.int (nI r)), some (.int (nI c.1.length)), some (.int (nI th)), some (.int (nI (12 * k))), some (.int (nI (12 * k + 12))), some (.int (nI c.1.length)), some (.int (nI (((sp_txt c).take c.1.length ++ [48 + A 2 r]) ++ [sp_let (A 4 r)] ++ (sp_txt c).drop (c.1.length + 2)).length)), L9] [] (gx_mo w m I A'') (0, 0) := fun A'' L9 th hB => sg_step3 (c := c) hk hB (by
    have t1 := sp_take0 (c := c); have t2 := sp_drop2 (c := c)
    rw [List.drop_zero] at t1
    rw [List.take_of_length_le (Nat.le_refl _)] at t2
    rw [t1, t2]
    unfold sp_txt sp_ds
    rw [List.map_append]
    simp [sp_wr, sp_nx, moM])
  refine gx_aload_n d_Mo_step_0 rfl ?_
  refine gx_iload_n d_Mo_step_1 rfl ?_
  refine gx_cV1 lk_Mo_101 d_Mo_step_2 (cm_ruleOf (by omega) hc (by omega) hT hM) (Or.inl ⟨_, mo_o⟩) (by omega) rfl rfl (Nat.le_of_ble_eq_true rfl) ?_
  refine gx_top (sp_ri_so hrl) ?_
  refine gx_istore_n d_Mo_step_5 (Nat.le_of_ble_eq_true rfl) rfl ?_
  refine gx_aload_n d_Mo_step_6 rfl ?_
  refine gx_iload_n d_Mo_step_7 rfl ?_
  refine gx_cV1 lk_Mo_97 d_Mo_step_8 (cm_head (by omega) hc (by omega) hT) (Or.inl ⟨_, mo_o⟩) (by omega) rfl rfl (Nat.le_of_ble_eq_true rfl) ?_
  refine gx_istore_n d_Mo_step_11 (Nat.le_of_ble_eq_true rfl) rfl ?_
  refine gx_iload_n d_Mo_step_12 rfl ?_
  refine gx_if_ltN (by omega) (tgt := 29) d_Mo_step_13 (by decide) ?_
  refine gx_aload_n d_Mo_step_16 rfl ?_
  refine gx_get fl_Mo_17 d_Mo_step_17 mo_o rfl ?_
  refine gx_iload_n d_Mo_step_20 rfl ?_
  refine gx_zald d_Mo_step_21 mo_3 (by omega) (by omega) ?_
  rw [e3]
  refine gx_if_neN (by omega) (tgt := 31) d_Mo_step_22 (by decide) (fun h22 => ?_) (fun h22 => ?_)
  · refine gx_iload_n d_Mo_step_31 rfl ?_
    refine gx_iconst d_Mo_step_32 (nI 1) (by decide) ?_
    refine gx_iaddN d_Mo_step_33 ?_
    refine gx_aload_n d_Mo_step_34 rfl ?_
    refine gx_get fl_Mo_26 d_Mo_step_35 mo_o rfl ?_
    refine gx_iload_n d_Mo_step_38 rfl ?_
    refine gx_iald d_Mo_step_39 mo_6 (by omega) (by omega) ?_
    rw [hT.1]
    refine gx_icmp_geN (by omega) (by omega) (tgt := 47) d_Mo_step_40 (by decide) (fun h40 => ?_) (fun h40 => ?_)
    · refine gx_iconst d_Mo_step_47 (nI 0) (by decide) ?_
      refine gx_istore d_Mo_step_48 (Nat.le_of_ble_eq_true rfl) rfl ?_
      refine gx_bipush d_Mo_step_50 (nI 12) (by decide) ?_
      refine gx_iload_n d_Mo_step_52 rfl ?_
      refine gx_imulN d_Mo_step_53 ?_
      refine gx_istore d_Mo_step_54 (Nat.le_of_ble_eq_true rfl) rfl ?_
      refine gx_bipush d_Mo_step_56 (nI 12) (by decide) ?_
      refine gx_iload_n d_Mo_step_58 rfl ?_
      refine gx_imulN d_Mo_step_59 ?_
      refine gx_bipush d_Mo_step_60 (nI 12) (by decide) ?_
      refine gx_iaddN d_Mo_step_62 ?_
      refine gx_istore d_Mo_step_63 (Nat.le_of_ble_eq_true rfl) rfl ?_
      refine gx_aload_n d_Mo_step_65 rfl ?_
      refine gx_get fl_Mo_17 d_Mo_step_66 mo_o rfl ?_
      refine gx_iload_n d_Mo_step_69 rfl ?_
      refine gx_zald d_Mo_step_70 mo_3 (by omega) (by omega) ?_
      rw [e3]
      refine gx_if_eqN (by omega) (tgt := 78) d_Mo_step_71 (by decide) (fun h71 => ?_) (fun h71 => ?_)
      · exact absurd h71 (by decide)
      · refine gx_iload_n d_Mo_step_74 rfl ?_
        refine gx_goto (tgt := 81) d_Mo_step_75 (by decide) ?_
        refine gx_istore d_Mo_step_81 (Nat.le_of_ble_eq_true rfl) rfl ?_
        refine gx_iconst d_Mo_step_83 (nI 0) (by decide) ?_
        refine gx_istore d_Mo_step_84 (Nat.le_of_ble_eq_true rfl) rfl ?_
        refine lm_step1 (th := 0) (kp := c.1.length) (r := r) hk hc hl hT (by omega) (c.1.length + 1) 0 A (by omega) (Nat.zero_le _) (by rw [List.take_zero]; exact moB.nil) (fun A' hB => ?_)
        have htk : ((sp_txt c).take c.1.length).length = c.1.length := by rw [List.length_take]; omega
        refine gx_iload d_Mo_step_119 rfl ?_
        refine gx_istore d_Mo_step_121 (Nat.le_of_ble_eq_true rfl) rfl ?_
        refine gx_aload_n d_Mo_step_123 rfl ?_
        refine gx_get fl_Mo_17 d_Mo_step_124 mo_o rfl ?_
        refine gx_iload_n d_Mo_step_127 rfl ?_
        refine gx_zald d_Mo_step_128 mo_3 (by omega) (by omega) ?_
        rw [hB.oj (by decide), e3]
        refine gx_if_eqN (by omega) (tgt := 178) d_Mo_step_129 (by decide) (fun h129 => ?_) (fun h129 => ?_)
        · exact absurd h129 (by decide)
        · refine gx_aload_n d_Mo_step_132 rfl ?_
          refine gx_get fl_Mo_29 d_Mo_step_133 mo_o rfl ?_
          refine gx_iload d_Mo_step_136 rfl ?_
          refine gx_iload d_Mo_step_138 rfl ?_
          refine gx_iaddN d_Mo_step_140 ?_
          refine gx_bipush d_Mo_step_141 (nI 48) (by decide) ?_
          refine gx_aload_n d_Mo_step_143 rfl ?_
          refine gx_get fl_Mo_13 d_Mo_step_144 mo_o rfl ?_
          refine gx_iload_n d_Mo_step_147 rfl ?_
          refine gx_iald d_Mo_step_148 mo_2 (by omega) (by omega) ?_
          rw [hB.oj (by decide)]
          refine gx_iaddN d_Mo_step_149 ?_
          refine gx_iast d_Mo_step_150 mo_7 (by omega) (by omega) ?_
          refine gx_w mo_s7 ?_
          have hB1 := hB.push (x := 48 + A 2 r) (by omega)
          rw [htk] at hB1
          refine gx_aload_n d_Mo_step_151 rfl ?_
          refine gx_get fl_Mo_29 d_Mo_step_152 mo_o rfl ?_
          refine gx_iload d_Mo_step_155 rfl ?_
          refine gx_iload d_Mo_step_157 rfl ?_
          refine gx_iaddN d_Mo_step_159 ?_
          refine gx_iconst d_Mo_step_160 (nI 1) (by decide) ?_
          refine gx_iaddN d_Mo_step_161 ?_
          refine gx_aload_n d_Mo_step_162 rfl ?_
          refine gx_get fl_Mo_20 d_Mo_step_163 mo_o rfl ?_
          refine gx_iload_n d_Mo_step_166 rfl ?_
          refine gx_iald d_Mo_step_167 mo_4 (by omega) (by omega) ?_
          rw [hB1.oj (by decide)]
          refine gx_cS1 lk_Mo_104 d_Mo_step_168 (cm_letter e4) (by omega) rfl rfl (Nat.le_of_ble_eq_true rfl) ?_
          refine gx_iast d_Mo_step_171 mo_7 (by omega) (by omega) ?_
          refine gx_w mo_s7 ?_
          have hB2 := hB1.push (x := sp_let (A 4 r)) (by rw [List.length_append, htk]; simp; omega)
          rw [List.length_append, htk] at hB2
          refine gx_iincN (n := 2) d_Mo_step_172 rfl (by decide) (Nat.le_of_ble_eq_true rfl) rfl ?_
          refine gx_goto (tgt := 244) d_Mo_step_175 (by decide) ?_
          refine gx_iload d_Mo_step_244 rfl ?_
          refine gx_if_eqN (by omega) (tgt := 255) d_Mo_step_246 (by decide) (fun h246 => ?_) (fun h246 => ?_)
          · refine gx_iload_n d_Mo_step_255 rfl ?_
            refine gx_iconst d_Mo_step_256 (nI 1) (by decide) ?_
            refine gx_iaddN d_Mo_step_257 ?_
            refine gx_istore d_Mo_step_258 (Nat.le_of_ble_eq_true rfl) rfl ?_
            have hlen2 : (((sp_txt c).take c.1.length ++ [48 + A 2 r]) ++ [sp_let (A 4 r)]).length = c.1.length + 2 := by simp [htk]
            refine gx_L (L' := [some (.ref m), some (.int (nI k)), some (.int (nI r)), some (.int (nI c.1.length)), some (.int (nI 0)), some (.int (nI (12 * k))), some (.int (nI (12 * k + 12))), some (.int (nI c.1.length)), some (.int (nI (((sp_txt c).take c.1.length ++ [48 + A 2 r]) ++ [sp_let (A 4 r)]).length)), some (.int (nI (c.1.length + 1)))]) (by rw [hlen2]; rfl) ?_
            refine lm_step2 (th := 0) (kp := c.1.length) (r := r) hk hc hl hT (sp_len c + 1) (c.1.length + 1) _ (((sp_txt c).take c.1.length ++ [48 + A 2 r]) ++ [sp_let (A 4 r)]) (by omega) (by omega) (by rw [hlen2]; omega) hB2 ?_
            rw [show (sp_txt c).drop (c.1.length + 1) = (sp_txt c).drop (c.1.length + 2) by rw [List.drop_eq_nil_of_le (by omega), List.drop_eq_nil_of_le (by omega)]]
            exact fun A'' L9 hB9 => h300 A'' L9 0 hB9
          · exact absurd rfl h246
    · exact absurd h40 (by omega)
  · exact absurd h22 (by decide)
theorem cm_step_lt {w : gx_W} {m : Nat} {I : Nat → Nat} {A : Nat → Nat → Nat} {k : Nat} {c : sp_C} (hk : k ≤ 12) (hc : sp_ok c) (hl : sp_len c ≤ 10) (hT : moT A k c) (hM : sp_Mok (moM A)) {r : Nat} (hrl : sp_rl (moM A) c = some r) (hrt : sp_rt (moM A) r = 0) (hne : ¬ c.1.length = 0) (hth : ¬ c.2.2.length = 0) : gx_Ct M_Mo_step 4 0 0 [.ref m, .int (nI k)] (gx_mo w m I A) (fun v w' => v = some (.int (nI 1)) ∧ ∃ A'', w' = gx_mo w m I A'' ∧ moT A'' (k + 1) (c.1.dropLast, sp_nx (moM A) r, sp_lst c.1 :: sp_wr (moM A) r :: c.2.2.tail) ∧ moR A A'' (k + 1)) := by
  refine gx_ct (L := [some (.ref m), some (.int (nI k)), none, none, none, none, none, none, none, none]) (by decide) (Nat.le_of_ble_eq_true rfl) rfl ?_
  have hlen : sp_len c = c.1.length + 1 + c.2.2.length := rfl
  have hsz := sp_txt_len c
  have hsm := sp_txt_sm hc
  have hri := @sp_rl_lt (moM A) c
  obtain ⟨hr12, hre, hq3, hkn⟩ := hri hrl hc
  have hMr := hM r
  have e3 : A 3 r = 0 := hrt
  have e2 : A 2 r < 3 := hMr.2.2.1
  have e4 : A 4 r ≤ 4 := hMr.2.2.2
  have h300 : ∀ A'' L9 th, moB A A'' (12 * k + 12) ((((sp_txt c).take (c.1.length - 1) ++ [sp_let (A 4 r)]) ++ [(sp_txt c).getD (c.1.length - 1) 0]) ++ [48 + A 2 r] ++ (sp_txt c).drop (c.1.length + 2)) → gx_X (fun _ _ => True) M_Mo_step 4 (gx_nt (fun v w' => v = some (.int (nI 1)) ∧ ∃ A'', w' = gx_mo w m I A'' ∧ moT A'' (k + 1) (c.1.dropLast, sp_nx (moM A) r, sp_lst c.1 :: sp_wr (moM A) r :: c.2.2.tail) ∧ moR A A'' (k + 1))) 300 [some (.ref m), some (.int (nI k)), some (.int (nI r)), some (.int (nI c.1.length)), some (.int (nI th)), some (.int (nI (12 * k))), some (.int (nI (12 * k + 12))), some (.int (nI (c.1.length - 1))), some (.int (nI ((((sp_txt c).take (c.1.length - 1) ++ [sp_let (A 4 r)]) ++ [(sp_txt c).getD (c.1.length - 1) 0]) ++ [48 + A 2 r] ++ (sp_txt c).drop (c.1.length + 2)).length)), L9] [] (gx_mo w m I A'') (0, 0) := fun A'' L9 th hB => sg_step3 (c := c) hk hB (by
    have t1 := sp_take1 (c := c); have t2 := sp_drop2 (c := c)
    rw [List.drop_zero] at t1
    rw [List.take_of_length_le (Nat.le_refl _)] at t2
    rw [t1, t2, sp_txt_lo (show c.1.length - 1 < c.1.length by omega)]
    unfold sp_txt sp_ds
    simp [sp_wr, sp_nx, moM, sp_lst])
  refine gx_aload_n d_Mo_step_0 rfl ?_
  refine gx_iload_n d_Mo_step_1 rfl ?_
  refine gx_cV1 lk_Mo_101 d_Mo_step_2 (cm_ruleOf (by omega) hc (by omega) hT hM) (Or.inl ⟨_, mo_o⟩) (by omega) rfl rfl (Nat.le_of_ble_eq_true rfl) ?_
  refine gx_top (sp_ri_so hrl) ?_
  refine gx_istore_n d_Mo_step_5 (Nat.le_of_ble_eq_true rfl) rfl ?_
  refine gx_aload_n d_Mo_step_6 rfl ?_
  refine gx_iload_n d_Mo_step_7 rfl ?_
  refine gx_cV1 lk_Mo_97 d_Mo_step_8 (cm_head (by omega) hc (by omega) hT) (Or.inl ⟨_, mo_o⟩) (by omega) rfl rfl (Nat.le_of_ble_eq_true rfl) ?_
  refine gx_istore_n d_Mo_step_11 (Nat.le_of_ble_eq_true rfl) rfl ?_
  refine gx_iload_n d_Mo_step_12 rfl ?_
  refine gx_if_ltN (by omega) (tgt := 29) d_Mo_step_13 (by decide) ?_
  refine gx_aload_n d_Mo_step_16 rfl ?_
  refine gx_get fl_Mo_17 d_Mo_step_17 mo_o rfl ?_
  refine gx_iload_n d_Mo_step_20 rfl ?_
  refine gx_zald d_Mo_step_21 mo_3 (by omega) (by omega) ?_
  rw [e3]
  refine gx_if_neN (by omega) (tgt := 31) d_Mo_step_22 (by decide) (fun h22 => ?_) (fun h22 => ?_)
  · exact absurd rfl h22
  · refine gx_iload_n d_Mo_step_25 rfl ?_
    refine gx_if_neN (by omega) (tgt := 31) d_Mo_step_26 (by decide) (fun h26 => ?_) (fun h26 => ?_)
    · refine gx_iload_n d_Mo_step_31 rfl ?_
      refine gx_iconst d_Mo_step_32 (nI 1) (by decide) ?_
      refine gx_iaddN d_Mo_step_33 ?_
      refine gx_aload_n d_Mo_step_34 rfl ?_
      refine gx_get fl_Mo_26 d_Mo_step_35 mo_o rfl ?_
      refine gx_iload_n d_Mo_step_38 rfl ?_
      refine gx_iald d_Mo_step_39 mo_6 (by omega) (by omega) ?_
      rw [hT.1]
      refine gx_icmp_geN (by omega) (by omega) (tgt := 47) d_Mo_step_40 (by decide) (fun h40 => ?_) (fun h40 => ?_)
      · exact absurd h40 (by omega)
      · refine gx_iconst d_Mo_step_43 (nI 1) (by decide) ?_
        refine gx_goto (tgt := 48) d_Mo_step_44 (by decide) ?_
        refine gx_istore d_Mo_step_48 (Nat.le_of_ble_eq_true rfl) rfl ?_
        refine gx_bipush d_Mo_step_50 (nI 12) (by decide) ?_
        refine gx_iload_n d_Mo_step_52 rfl ?_
        refine gx_imulN d_Mo_step_53 ?_
        refine gx_istore d_Mo_step_54 (Nat.le_of_ble_eq_true rfl) rfl ?_
        refine gx_bipush d_Mo_step_56 (nI 12) (by decide) ?_
        refine gx_iload_n d_Mo_step_58 rfl ?_
        refine gx_imulN d_Mo_step_59 ?_
        refine gx_bipush d_Mo_step_60 (nI 12) (by decide) ?_
        refine gx_iaddN d_Mo_step_62 ?_
        refine gx_istore d_Mo_step_63 (Nat.le_of_ble_eq_true rfl) rfl ?_
        refine gx_aload_n d_Mo_step_65 rfl ?_
        refine gx_get fl_Mo_17 d_Mo_step_66 mo_o rfl ?_
        refine gx_iload_n d_Mo_step_69 rfl ?_
        refine gx_zald d_Mo_step_70 mo_3 (by omega) (by omega) ?_
        rw [e3]
        refine gx_if_eqN (by omega) (tgt := 78) d_Mo_step_71 (by decide) (fun h71 => ?_) (fun h71 => ?_)
        · refine gx_iload_n d_Mo_step_78 rfl ?_
          refine gx_iconst d_Mo_step_79 (nI 1) (by decide) ?_
          refine gx_isubN (by omega) d_Mo_step_80 ?_
          refine gx_istore d_Mo_step_81 (Nat.le_of_ble_eq_true rfl) rfl ?_
          refine gx_iconst d_Mo_step_83 (nI 0) (by decide) ?_
          refine gx_istore d_Mo_step_84 (Nat.le_of_ble_eq_true rfl) rfl ?_
          refine lm_step1 (th := 1) (kp := (c.1.length - 1)) (r := r) hk hc hl hT (by omega) (c.1.length + 1) 0 A (by omega) (Nat.zero_le _) (by rw [List.take_zero]; exact moB.nil) (fun A' hB => ?_)
          have htk : ((sp_txt c).take (c.1.length - 1)).length = (c.1.length - 1) := by rw [List.length_take]; omega
          refine gx_iload d_Mo_step_119 rfl ?_
          refine gx_istore d_Mo_step_121 (Nat.le_of_ble_eq_true rfl) rfl ?_
          refine gx_aload_n d_Mo_step_123 rfl ?_
          refine gx_get fl_Mo_17 d_Mo_step_124 mo_o rfl ?_
          refine gx_iload_n d_Mo_step_127 rfl ?_
          refine gx_zald d_Mo_step_128 mo_3 (by omega) (by omega) ?_
          rw [hB.oj (by decide), e3]
          refine gx_if_eqN (by omega) (tgt := 178) d_Mo_step_129 (by decide) (fun h129 => ?_) (fun h129 => ?_)
          · refine gx_aload_n d_Mo_step_178 rfl ?_
            refine gx_get fl_Mo_29 d_Mo_step_179 mo_o rfl ?_
            refine gx_iload d_Mo_step_182 rfl ?_
            refine gx_iload d_Mo_step_184 rfl ?_
            refine gx_iaddN d_Mo_step_186 ?_
            refine gx_aload_n d_Mo_step_187 rfl ?_
            refine gx_get fl_Mo_20 d_Mo_step_188 mo_o rfl ?_
            refine gx_iload_n d_Mo_step_191 rfl ?_
            refine gx_iald d_Mo_step_192 mo_4 (by omega) (by omega) ?_
            rw [hB.oj (by decide)]
            refine gx_cS1 lk_Mo_104 d_Mo_step_193 (cm_letter e4) (by omega) rfl rfl (Nat.le_of_ble_eq_true rfl) ?_
            refine gx_iast d_Mo_step_196 mo_7 (by omega) (by omega) ?_
            refine gx_w mo_s7 ?_
            have hB1 := hB.push (x := sp_let (A 4 r)) (by omega)
            rw [htk] at hB1
            refine gx_aload_n d_Mo_step_197 rfl ?_
            refine gx_get fl_Mo_29 d_Mo_step_198 mo_o rfl ?_
            refine gx_iload d_Mo_step_201 rfl ?_
            refine gx_iload d_Mo_step_203 rfl ?_
            refine gx_iaddN d_Mo_step_205 ?_
            refine gx_iconst d_Mo_step_206 (nI 1) (by decide) ?_
            refine gx_iaddN d_Mo_step_207 ?_
            refine gx_aload_n d_Mo_step_208 rfl ?_
            refine gx_get fl_Mo_29 d_Mo_step_209 mo_o rfl ?_
            refine gx_iload d_Mo_step_212 rfl ?_
            refine gx_iload_n d_Mo_step_214 rfl ?_
            refine gx_iaddN d_Mo_step_215 ?_
            refine gx_iconst d_Mo_step_216 (nI 1) (by decide) ?_
            refine gx_isubN (by omega) d_Mo_step_217 ?_
            refine gx_iald d_Mo_step_218 mo_7 (by omega) (by omega) ?_
            rw [hB1.lo (by omega), show 12 * k + c.1.length - 1 = 12 * k + (c.1.length - 1) by omega, hT.2 _ (by omega)]
            refine gx_iast d_Mo_step_219 mo_7 (by omega) (by omega) ?_
            refine gx_w mo_s7 ?_
            have hB2 := hB1.push (x := (sp_txt c).getD (c.1.length - 1) 0) (by rw [List.length_append, htk]; simp; omega)
            rw [List.length_append, htk] at hB2
            refine gx_aload_n d_Mo_step_220 rfl ?_
            refine gx_get fl_Mo_29 d_Mo_step_221 mo_o rfl ?_
            refine gx_iload d_Mo_step_224 rfl ?_
            refine gx_iload d_Mo_step_226 rfl ?_
            refine gx_iaddN d_Mo_step_228 ?_
            refine gx_iconst d_Mo_step_229 (nI 2) (by decide) ?_
            refine gx_iaddN d_Mo_step_230 ?_
            refine gx_bipush d_Mo_step_231 (nI 48) (by decide) ?_
            refine gx_aload_n d_Mo_step_233 rfl ?_
            refine gx_get fl_Mo_13 d_Mo_step_234 mo_o rfl ?_
            refine gx_iload_n d_Mo_step_237 rfl ?_
            refine gx_iald d_Mo_step_238 mo_2 (by omega) (by omega) ?_
            refine gx_top (congrArg nI (hB2.oj (j := 2) (by decide) r)) ?_
            refine gx_iaddN d_Mo_step_239 ?_
            refine gx_iast d_Mo_step_240 mo_7 (by omega) (by omega) ?_
            refine gx_w mo_s7 ?_
            have hB3 := hB2.push (x := 48 + A 2 r) (by simp [htk]; omega)
            rw [show ((((sp_txt c).take (c.1.length - 1) ++ [sp_let (A 4 r)]) ++ [(sp_txt c).getD (c.1.length - 1) 0]).length) = c.1.length - 1 + 2 by simp [htk]] at hB3
            refine gx_iincN (n := 3) d_Mo_step_241 rfl (by decide) (Nat.le_of_ble_eq_true rfl) rfl ?_
            refine gx_iload d_Mo_step_244 rfl ?_
            refine gx_if_eqN (by omega) (tgt := 255) d_Mo_step_246 (by decide) (fun h246 => ?_) (fun h246 => ?_)
            · exact absurd h246 (by decide)
            · refine gx_iload_n d_Mo_step_249 rfl ?_
              refine gx_iconst d_Mo_step_250 (nI 2) (by decide) ?_
              refine gx_iaddN d_Mo_step_251 ?_
              refine gx_goto (tgt := 258) d_Mo_step_252 (by decide) ?_
              refine gx_istore d_Mo_step_258 (Nat.le_of_ble_eq_true rfl) rfl ?_
              have hlen2 : ((((sp_txt c).take (c.1.length - 1) ++ [sp_let (A 4 r)]) ++ [(sp_txt c).getD (c.1.length - 1) 0]) ++ [48 + A 2 r]).length = c.1.length - 1 + 3 := by simp [htk]
              refine gx_L (L' := [some (.ref m), some (.int (nI k)), some (.int (nI r)), some (.int (nI c.1.length)), some (.int (nI 1)), some (.int (nI (12 * k))), some (.int (nI (12 * k + 12))), some (.int (nI (c.1.length - 1))), some (.int (nI ((((sp_txt c).take (c.1.length - 1) ++ [sp_let (A 4 r)]) ++ [(sp_txt c).getD (c.1.length - 1) 0]) ++ [48 + A 2 r]).length)), some (.int (nI (c.1.length + 2)))]) (by rw [hlen2]; rfl) ?_
              refine lm_step2 (th := 1) (kp := (c.1.length - 1)) (r := r) hk hc hl hT (sp_len c + 1) (c.1.length + 2) _ ((((sp_txt c).take (c.1.length - 1) ++ [sp_let (A 4 r)]) ++ [(sp_txt c).getD (c.1.length - 1) 0]) ++ [48 + A 2 r]) (by omega) (by omega) (by rw [hlen2]; omega) hB3 ?_
              exact fun A'' L9 hB9 => h300 A'' L9 1 hB9
          · exact absurd rfl h129
        · exact absurd rfl h71
    · exact absurd h26 hne
theorem cm_step_le {w : gx_W} {m : Nat} {I : Nat → Nat} {A : Nat → Nat → Nat} {k : Nat} {c : sp_C} (hk : k ≤ 12) (hc : sp_ok c) (hl : sp_len c ≤ 10) (hT : moT A k c) (hM : sp_Mok (moM A)) {r : Nat} (hrl : sp_rl (moM A) c = some r) (hrt : sp_rt (moM A) r = 0) (hne : ¬ c.1.length = 0) (hth : c.2.2.length = 0) : gx_Ct M_Mo_step 4 0 0 [.ref m, .int (nI k)] (gx_mo w m I A) (fun v w' => v = some (.int (nI 1)) ∧ ∃ A'', w' = gx_mo w m I A'' ∧ moT A'' (k + 1) (c.1.dropLast, sp_nx (moM A) r, sp_lst c.1 :: sp_wr (moM A) r :: c.2.2.tail) ∧ moR A A'' (k + 1)) := by
  refine gx_ct (L := [some (.ref m), some (.int (nI k)), none, none, none, none, none, none, none, none]) (by decide) (Nat.le_of_ble_eq_true rfl) rfl ?_
  have hlen : sp_len c = c.1.length + 1 + c.2.2.length := rfl
  have hsz := sp_txt_len c
  have hsm := sp_txt_sm hc
  have hri := @sp_rl_lt (moM A) c
  obtain ⟨hr12, hre, hq3, hkn⟩ := hri hrl hc
  have hMr := hM r
  have e3 : A 3 r = 0 := hrt
  have e2 : A 2 r < 3 := hMr.2.2.1
  have e4 : A 4 r ≤ 4 := hMr.2.2.2
  have h300 : ∀ A'' L9 th, moB A A'' (12 * k + 12) ((((sp_txt c).take (c.1.length - 1) ++ [sp_let (A 4 r)]) ++ [(sp_txt c).getD (c.1.length - 1) 0]) ++ [48 + A 2 r] ++ (sp_txt c).drop (c.1.length + 2)) → gx_X (fun _ _ => True) M_Mo_step 4 (gx_nt (fun v w' => v = some (.int (nI 1)) ∧ ∃ A'', w' = gx_mo w m I A'' ∧ moT A'' (k + 1) (c.1.dropLast, sp_nx (moM A) r, sp_lst c.1 :: sp_wr (moM A) r :: c.2.2.tail) ∧ moR A A'' (k + 1))) 300 [some (.ref m), some (.int (nI k)), some (.int (nI r)), some (.int (nI c.1.length)), some (.int (nI th)), some (.int (nI (12 * k))), some (.int (nI (12 * k + 12))), some (.int (nI (c.1.length - 1))), some (.int (nI ((((sp_txt c).take (c.1.length - 1) ++ [sp_let (A 4 r)]) ++ [(sp_txt c).getD (c.1.length - 1) 0]) ++ [48 + A 2 r] ++ (sp_txt c).drop (c.1.length + 2)).length)), L9] [] (gx_mo w m I A'') (0, 0) := fun A'' L9 th hB => sg_step3 (c := c) hk hB (by
    have t1 := sp_take1 (c := c); have t2 := sp_drop2 (c := c)
    rw [List.drop_zero] at t1
    rw [List.take_of_length_le (Nat.le_refl _)] at t2
    rw [t1, t2, sp_txt_lo (show c.1.length - 1 < c.1.length by omega)]
    unfold sp_txt sp_ds
    simp [sp_wr, sp_nx, moM, sp_lst])
  refine gx_aload_n d_Mo_step_0 rfl ?_
  refine gx_iload_n d_Mo_step_1 rfl ?_
  refine gx_cV1 lk_Mo_101 d_Mo_step_2 (cm_ruleOf (by omega) hc (by omega) hT hM) (Or.inl ⟨_, mo_o⟩) (by omega) rfl rfl (Nat.le_of_ble_eq_true rfl) ?_
  refine gx_top (sp_ri_so hrl) ?_
  refine gx_istore_n d_Mo_step_5 (Nat.le_of_ble_eq_true rfl) rfl ?_
  refine gx_aload_n d_Mo_step_6 rfl ?_
  refine gx_iload_n d_Mo_step_7 rfl ?_
  refine gx_cV1 lk_Mo_97 d_Mo_step_8 (cm_head (by omega) hc (by omega) hT) (Or.inl ⟨_, mo_o⟩) (by omega) rfl rfl (Nat.le_of_ble_eq_true rfl) ?_
  refine gx_istore_n d_Mo_step_11 (Nat.le_of_ble_eq_true rfl) rfl ?_
  refine gx_iload_n d_Mo_step_12 rfl ?_
  refine gx_if_ltN (by omega) (tgt := 29) d_Mo_step_13 (by decide) ?_
  refine gx_aload_n d_Mo_step_16 rfl ?_
  refine gx_get fl_Mo_17 d_Mo_step_17 mo_o rfl ?_
  refine gx_iload_n d_Mo_step_20 rfl ?_
  refine gx_zald d_Mo_step_21 mo_3 (by omega) (by omega) ?_
  rw [e3]
  refine gx_if_neN (by omega) (tgt := 31) d_Mo_step_22 (by decide) (fun h22 => ?_) (fun h22 => ?_)
  · exact absurd rfl h22
  · refine gx_iload_n d_Mo_step_25 rfl ?_
    refine gx_if_neN (by omega) (tgt := 31) d_Mo_step_26 (by decide) (fun h26 => ?_) (fun h26 => ?_)
    · refine gx_iload_n d_Mo_step_31 rfl ?_
      refine gx_iconst d_Mo_step_32 (nI 1) (by decide) ?_
      refine gx_iaddN d_Mo_step_33 ?_
      refine gx_aload_n d_Mo_step_34 rfl ?_
      refine gx_get fl_Mo_26 d_Mo_step_35 mo_o rfl ?_
      refine gx_iload_n d_Mo_step_38 rfl ?_
      refine gx_iald d_Mo_step_39 mo_6 (by omega) (by omega) ?_
      rw [hT.1]
      refine gx_icmp_geN (by omega) (by omega) (tgt := 47) d_Mo_step_40 (by decide) (fun h40 => ?_) (fun h40 => ?_)
      · refine gx_iconst d_Mo_step_47 (nI 0) (by decide) ?_
        refine gx_istore d_Mo_step_48 (Nat.le_of_ble_eq_true rfl) rfl ?_
        refine gx_bipush d_Mo_step_50 (nI 12) (by decide) ?_
        refine gx_iload_n d_Mo_step_52 rfl ?_
        refine gx_imulN d_Mo_step_53 ?_
        refine gx_istore d_Mo_step_54 (Nat.le_of_ble_eq_true rfl) rfl ?_
        refine gx_bipush d_Mo_step_56 (nI 12) (by decide) ?_
        refine gx_iload_n d_Mo_step_58 rfl ?_
        refine gx_imulN d_Mo_step_59 ?_
        refine gx_bipush d_Mo_step_60 (nI 12) (by decide) ?_
        refine gx_iaddN d_Mo_step_62 ?_
        refine gx_istore d_Mo_step_63 (Nat.le_of_ble_eq_true rfl) rfl ?_
        refine gx_aload_n d_Mo_step_65 rfl ?_
        refine gx_get fl_Mo_17 d_Mo_step_66 mo_o rfl ?_
        refine gx_iload_n d_Mo_step_69 rfl ?_
        refine gx_zald d_Mo_step_70 mo_3 (by omega) (by omega) ?_
        rw [e3]
        refine gx_if_eqN (by omega) (tgt := 78) d_Mo_step_71 (by decide) (fun h71 => ?_) (fun h71 => ?_)
        · refine gx_iload_n d_Mo_step_78 rfl ?_
          refine gx_iconst d_Mo_step_79 (nI 1) (by decide) ?_
          refine gx_isubN (by omega) d_Mo_step_80 ?_
          refine gx_istore d_Mo_step_81 (Nat.le_of_ble_eq_true rfl) rfl ?_
          refine gx_iconst d_Mo_step_83 (nI 0) (by decide) ?_
          refine gx_istore d_Mo_step_84 (Nat.le_of_ble_eq_true rfl) rfl ?_
          refine lm_step1 (th := 0) (kp := (c.1.length - 1)) (r := r) hk hc hl hT (by omega) (c.1.length + 1) 0 A (by omega) (Nat.zero_le _) (by rw [List.take_zero]; exact moB.nil) (fun A' hB => ?_)
          have htk : ((sp_txt c).take (c.1.length - 1)).length = (c.1.length - 1) := by rw [List.length_take]; omega
          refine gx_iload d_Mo_step_119 rfl ?_
          refine gx_istore d_Mo_step_121 (Nat.le_of_ble_eq_true rfl) rfl ?_
          refine gx_aload_n d_Mo_step_123 rfl ?_
          refine gx_get fl_Mo_17 d_Mo_step_124 mo_o rfl ?_
          refine gx_iload_n d_Mo_step_127 rfl ?_
          refine gx_zald d_Mo_step_128 mo_3 (by omega) (by omega) ?_
          rw [hB.oj (by decide), e3]
          refine gx_if_eqN (by omega) (tgt := 178) d_Mo_step_129 (by decide) (fun h129 => ?_) (fun h129 => ?_)
          · refine gx_aload_n d_Mo_step_178 rfl ?_
            refine gx_get fl_Mo_29 d_Mo_step_179 mo_o rfl ?_
            refine gx_iload d_Mo_step_182 rfl ?_
            refine gx_iload d_Mo_step_184 rfl ?_
            refine gx_iaddN d_Mo_step_186 ?_
            refine gx_aload_n d_Mo_step_187 rfl ?_
            refine gx_get fl_Mo_20 d_Mo_step_188 mo_o rfl ?_
            refine gx_iload_n d_Mo_step_191 rfl ?_
            refine gx_iald d_Mo_step_192 mo_4 (by omega) (by omega) ?_
            rw [hB.oj (by decide)]
            refine gx_cS1 lk_Mo_104 d_Mo_step_193 (cm_letter e4) (by omega) rfl rfl (Nat.le_of_ble_eq_true rfl) ?_
            refine gx_iast d_Mo_step_196 mo_7 (by omega) (by omega) ?_
            refine gx_w mo_s7 ?_
            have hB1 := hB.push (x := sp_let (A 4 r)) (by omega)
            rw [htk] at hB1
            refine gx_aload_n d_Mo_step_197 rfl ?_
            refine gx_get fl_Mo_29 d_Mo_step_198 mo_o rfl ?_
            refine gx_iload d_Mo_step_201 rfl ?_
            refine gx_iload d_Mo_step_203 rfl ?_
            refine gx_iaddN d_Mo_step_205 ?_
            refine gx_iconst d_Mo_step_206 (nI 1) (by decide) ?_
            refine gx_iaddN d_Mo_step_207 ?_
            refine gx_aload_n d_Mo_step_208 rfl ?_
            refine gx_get fl_Mo_29 d_Mo_step_209 mo_o rfl ?_
            refine gx_iload d_Mo_step_212 rfl ?_
            refine gx_iload_n d_Mo_step_214 rfl ?_
            refine gx_iaddN d_Mo_step_215 ?_
            refine gx_iconst d_Mo_step_216 (nI 1) (by decide) ?_
            refine gx_isubN (by omega) d_Mo_step_217 ?_
            refine gx_iald d_Mo_step_218 mo_7 (by omega) (by omega) ?_
            rw [hB1.lo (by omega), show 12 * k + c.1.length - 1 = 12 * k + (c.1.length - 1) by omega, hT.2 _ (by omega)]
            refine gx_iast d_Mo_step_219 mo_7 (by omega) (by omega) ?_
            refine gx_w mo_s7 ?_
            have hB2 := hB1.push (x := (sp_txt c).getD (c.1.length - 1) 0) (by rw [List.length_append, htk]; simp; omega)
            rw [List.length_append, htk] at hB2
            refine gx_aload_n d_Mo_step_220 rfl ?_
            refine gx_get fl_Mo_29 d_Mo_step_221 mo_o rfl ?_
            refine gx_iload d_Mo_step_224 rfl ?_
            refine gx_iload d_Mo_step_226 rfl ?_
            refine gx_iaddN d_Mo_step_228 ?_
            refine gx_iconst d_Mo_step_229 (nI 2) (by decide) ?_
            refine gx_iaddN d_Mo_step_230 ?_
            refine gx_bipush d_Mo_step_231 (nI 48) (by decide) ?_
            refine gx_aload_n d_Mo_step_233 rfl ?_
            refine gx_get fl_Mo_13 d_Mo_step_234 mo_o rfl ?_
            refine gx_iload_n d_Mo_step_237 rfl ?_
            refine gx_iald d_Mo_step_238 mo_2 (by omega) (by omega) ?_
            refine gx_top (congrArg nI (hB2.oj (j := 2) (by decide) r)) ?_
            refine gx_iaddN d_Mo_step_239 ?_
            refine gx_iast d_Mo_step_240 mo_7 (by omega) (by omega) ?_
            refine gx_w mo_s7 ?_
            have hB3 := hB2.push (x := 48 + A 2 r) (by simp [htk]; omega)
            rw [show ((((sp_txt c).take (c.1.length - 1) ++ [sp_let (A 4 r)]) ++ [(sp_txt c).getD (c.1.length - 1) 0]).length) = c.1.length - 1 + 2 by simp [htk]] at hB3
            refine gx_iincN (n := 3) d_Mo_step_241 rfl (by decide) (Nat.le_of_ble_eq_true rfl) rfl ?_
            refine gx_iload d_Mo_step_244 rfl ?_
            refine gx_if_eqN (by omega) (tgt := 255) d_Mo_step_246 (by decide) (fun h246 => ?_) (fun h246 => ?_)
            · refine gx_iload_n d_Mo_step_255 rfl ?_
              refine gx_iconst d_Mo_step_256 (nI 1) (by decide) ?_
              refine gx_iaddN d_Mo_step_257 ?_
              refine gx_istore d_Mo_step_258 (Nat.le_of_ble_eq_true rfl) rfl ?_
              have hlen2 : ((((sp_txt c).take (c.1.length - 1) ++ [sp_let (A 4 r)]) ++ [(sp_txt c).getD (c.1.length - 1) 0]) ++ [48 + A 2 r]).length = c.1.length - 1 + 3 := by simp [htk]
              refine gx_L (L' := [some (.ref m), some (.int (nI k)), some (.int (nI r)), some (.int (nI c.1.length)), some (.int (nI 0)), some (.int (nI (12 * k))), some (.int (nI (12 * k + 12))), some (.int (nI (c.1.length - 1))), some (.int (nI ((((sp_txt c).take (c.1.length - 1) ++ [sp_let (A 4 r)]) ++ [(sp_txt c).getD (c.1.length - 1) 0]) ++ [48 + A 2 r]).length)), some (.int (nI (c.1.length + 1)))]) (by rw [hlen2]; rfl) ?_
              refine lm_step2 (th := 0) (kp := (c.1.length - 1)) (r := r) hk hc hl hT (sp_len c + 1) (c.1.length + 1) _ ((((sp_txt c).take (c.1.length - 1) ++ [sp_let (A 4 r)]) ++ [(sp_txt c).getD (c.1.length - 1) 0]) ++ [48 + A 2 r]) (by omega) (by omega) (by rw [hlen2]; omega) hB3 ?_
              rw [show (sp_txt c).drop (c.1.length + 1) = (sp_txt c).drop (c.1.length + 2) by rw [List.drop_eq_nil_of_le (by omega), List.drop_eq_nil_of_le (by omega)]]
              exact fun A'' L9 hB9 => h300 A'' L9 0 hB9
            · exact absurd rfl h246
          · exact absurd rfl h129
        · exact absurd rfl h71
      · exact absurd h40 (by omega)
    · exact absurd h26 hne
theorem cm_step_none {w : gx_W} {m : Nat} {I : Nat → Nat} {A : Nat → Nat → Nat} {k : Nat} {c : sp_C} (hk : k ≤ 12) (hc : sp_ok c) (hl : sp_len c ≤ 10) (hT : moT A k c) (hM : sp_Mok (moM A)) (hn : sp_step (moM A) c = none) : gx_Ct M_Mo_step 4 0 0 [.ref m, .int (nI k)] (gx_mo w m I A) (gx_eq (some (.int (nI 0))) (gx_mo w m I A)) := by
  refine gx_ct (L := [some (.ref m), some (.int (nI k)), none, none, none, none, none, none, none, none]) (by decide) (Nat.le_of_ble_eq_true rfl) rfl ?_
  have hlen : sp_len c = c.1.length + 1 + c.2.2.length := rfl
  have hsz := sp_txt_len c
  have hsm := sp_txt_sm hc
  have hri := @sp_rl_lt (moM A) c
  refine gx_aload_n d_Mo_step_0 rfl ?_
  refine gx_iload_n d_Mo_step_1 rfl ?_
  refine gx_cV1 lk_Mo_101 d_Mo_step_2 (cm_ruleOf (by omega) hc (by omega) hT hM) (Or.inl ⟨_, mo_o⟩) (by omega) rfl rfl (Nat.le_of_ble_eq_true rfl) ?_
  refine gx_istore_n d_Mo_step_5 (Nat.le_of_ble_eq_true rfl) rfl ?_
  refine gx_aload_n d_Mo_step_6 rfl ?_
  refine gx_iload_n d_Mo_step_7 rfl ?_
  refine gx_cV1 lk_Mo_97 d_Mo_step_8 (cm_head (by omega) hc (by omega) hT) (Or.inl ⟨_, mo_o⟩) (by omega) rfl rfl (Nat.le_of_ble_eq_true rfl) ?_
  refine gx_istore_n d_Mo_step_11 (Nat.le_of_ble_eq_true rfl) rfl ?_
  refine gx_iload_n d_Mo_step_12 rfl ?_
  rcases hrl : sp_rl (moM A) c with _ | r
  · rw [sp_ri_no hrl]
    refine gx_if_lt (tgt := 29) d_Mo_step_13 (by decide) (fun _ => ?_) (fun g => absurd (by decide) g)
    refine gx_iconst d_Mo_step_29 (nI 0) (by decide) ?_
    refine gx_zreturn rfl gx_nz0 d_Mo_step_30 ?_
    exact ⟨rfl, rfl⟩
  rw [sp_ri_so hrl]
  obtain ⟨hr12, hre, hq3, hkn⟩ := hri hrl hc
  have hMr := hM r
  have e5 : A 3 r ≤ 1 := hMr.2.1
  unfold sp_step at hn
  rw [hrl] at hn
  simp only at hn
  refine gx_if_ltN (by omega) (tgt := 29) d_Mo_step_13 (by decide) ?_
  refine gx_aload_n d_Mo_step_16 rfl ?_
  refine gx_get fl_Mo_17 d_Mo_step_17 mo_o rfl ?_
  refine gx_iload_n d_Mo_step_20 rfl ?_
  refine gx_zald d_Mo_step_21 mo_3 (by omega) (by omega) ?_
  refine gx_if_neN (by omega) (tgt := 31) d_Mo_step_22 (by decide) (fun h22 => ?_) (fun h22 => ?_)
  · rw [if_pos (show sp_rt (moM A) r = 1 from by show A 3 r = 1; omega)] at hn
    cases hn
  · refine gx_iload_n d_Mo_step_25 rfl ?_
    refine gx_if_neN (by omega) (tgt := 31) d_Mo_step_26 (by decide) (fun h26 => ?_) (fun h26 => ?_)
    · rw [if_neg (show ¬ sp_rt (moM A) r = 1 from by show ¬ A 3 r = 1; omega), if_neg h26] at hn
      cases hn
    · refine gx_iconst d_Mo_step_29 (nI 0) (by decide) ?_
      refine gx_zreturn rfl gx_nz0 d_Mo_step_30 ?_
      exact ⟨rfl, rfl⟩
