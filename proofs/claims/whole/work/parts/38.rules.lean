/-! the reference: rule, drop, input -/
abbrev moQ (w : gx_W) (m : Nat) (v : Int32) (S : sp_St) (th : Nat) : Option Value → gx_W → Prop := fun r w' => r = some (.int v) ∧ ∃ I A, w' = gx_mo w m I A ∧ mdl I A S ∧ I 0 = th
theorem mdl.of {I I' : Nat → Nat} {A A' : Nat → Nat → Nat} {S : sp_St} (h : mdl I A S) (hI : ∀ k, k ≠ 0 → k ≠ 8 → I' k = I k) (hA : ∀ j, j ≤ 14 → A' j = A j) : mdl I' A' S := by
  unfold mdl mdC moM moL moT moDs at h ⊢
  rw [hI 1 (by decide) (by decide), hI 2 (by decide) (by decide), hI 3 (by decide) (by decide), hI 4 (by decide) (by decide), hI 5 (by decide) (by decide), hI 6 (by decide) (by decide), hI 7 (by decide) (by decide), hA 1 (by decide), hA 2 (by decide), hA 3 (by decide), hA 4 (by decide), hA 5 (by decide), hA 6 (by decide), hA 7 (by decide), hA 8 (by decide), hA 9 (by decide), hA 10 (by decide), hA 11 (by decide), hA 12 (by decide), hA 13 (by decide), hA 14 (by decide)]
  exact h
theorem mdl.t {I : Nat → Nat} {A : Nat → Nat → Nat} {S : sp_St} {x : Nat} (h : mdl I A S) : mdl (sp_u I 0 x) A S := h.of (fun k hk _ => ui_o hk) (fun _ _ => rfl)
theorem sp_in_gt {x : Int32} {k j : Nat} (hk : k < 2 ^ 31) (hj : k = j + 1) (h : ¬ x < 0) (h2 : ¬ nI j < x) : sp_in x k = true := by
  refine sp_in_t h (fun g => h2 ?_)
  rw [Int32.le_iff_toInt_le, nI_toInt hk] at g
  rw [Int32.lt_iff_toInt_lt, nI_toInt (by omega)]
  omega
theorem sp_in_le {x : Int32} {k j : Nat} (hk : k < 2 ^ 31) (hj : k = j + 1) (h : ¬ x < 0) (h2 : x ≤ nI j) : sp_in x k = true := by
  refine sp_in_gt hk hj h (fun g => ?_)
  rw [Int32.lt_iff_toInt_lt] at g
  rw [Int32.le_iff_toInt_le] at h2
  omega
theorem gx_n0 {x : Int32} (h : 0 ≤ x) : ¬ x < 0 := fun g => by
  rw [Int32.lt_iff_toInt_lt] at g
  rw [Int32.le_iff_toInt_le] at h
  omega
theorem d_Mo_rule_0 : decode prog_11_method_11_code 0 = .ok (.aload_n 0, 1) := by decide +kernel
theorem d_Mo_rule_1 : decode prog_11_method_11_code 1 = .ok (.iload_n 1, 1) := by decide +kernel
theorem d_Mo_rule_2 : decode prog_11_method_11_code 2 = .ok (.iload_n 2, 1) := by decide +kernel
theorem d_Mo_rule_3 : decode prog_11_method_11_code 3 = .ok (.invokestatic 135, 3) := by decide +kernel
theorem d_Mo_rule_6 : decode prog_11_method_11_code 6 = .ok (.ifCond .eq 23, 3) := by decide +kernel
theorem d_Mo_rule_9 : decode prog_11_method_11_code 9 = .ok (.iload_n 3, 1) := by decide +kernel
theorem d_Mo_rule_10 : decode prog_11_method_11_code 10 = .ok (.ifCond .lt 19, 3) := by decide +kernel
theorem d_Mo_rule_13 : decode prog_11_method_11_code 13 = .ok (.iload_n 3, 1) := by decide +kernel
theorem d_Mo_rule_14 : decode prog_11_method_11_code 14 = .ok (.iconst 2, 1) := by decide +kernel
theorem d_Mo_rule_15 : decode prog_11_method_11_code 15 = .ok (.if_icmp .gt 14, 3) := by decide +kernel
theorem d_Mo_rule_18 : decode prog_11_method_11_code 18 = .ok (.iload 5, 2) := by decide +kernel
theorem d_Mo_rule_20 : decode prog_11_method_11_code 20 = .ok (.ifCond .lt 9, 3) := by decide +kernel
theorem d_Mo_rule_23 : decode prog_11_method_11_code 23 = .ok (.iload 5, 2) := by decide +kernel
theorem d_Mo_rule_25 : decode prog_11_method_11_code 25 = .ok (.iconst 4, 1) := by decide +kernel
theorem d_Mo_rule_26 : decode prog_11_method_11_code 26 = .ok (.if_icmp .le 7, 3) := by decide +kernel
theorem d_Mo_rule_29 : decode prog_11_method_11_code 29 = .ok (.iconst 1, 1) := by decide +kernel
theorem d_Mo_rule_30 : decode prog_11_method_11_code 30 = .ok (.goto 4, 3) := by decide +kernel
theorem d_Mo_rule_33 : decode prog_11_method_11_code 33 = .ok (.iconst 0, 1) := by decide +kernel
theorem d_Mo_rule_34 : decode prog_11_method_11_code 34 = .ok (.putfield 90, 3) := by decide +kernel
theorem d_Mo_rule_37 : decode prog_11_method_11_code 37 = .ok (.aload_n 0, 1) := by decide +kernel
theorem d_Mo_rule_38 : decode prog_11_method_11_code 38 = .ok (.getfield 90, 3) := by decide +kernel
theorem d_Mo_rule_41 : decode prog_11_method_11_code 41 = .ok (.ifCond .le 5, 3) := by decide +kernel
theorem d_Mo_rule_44 : decode prog_11_method_11_code 44 = .ok (.iconst 0, 1) := by decide +kernel
theorem d_Mo_rule_45 : decode prog_11_method_11_code 45 = .ok (.ireturn, 1) := by decide +kernel
theorem d_Mo_rule_46 : decode prog_11_method_11_code 46 = .ok (.iconst 3, 1) := by decide +kernel
theorem d_Mo_rule_47 : decode prog_11_method_11_code 47 = .ok (.iload_n 1, 1) := by decide +kernel
theorem d_Mo_rule_48 : decode prog_11_method_11_code 48 = .ok (.imul, 1) := by decide +kernel
theorem d_Mo_rule_49 : decode prog_11_method_11_code 49 = .ok (.iload_n 2, 1) := by decide +kernel
theorem d_Mo_rule_50 : decode prog_11_method_11_code 50 = .ok (.iadd, 1) := by decide +kernel
theorem d_Mo_rule_51 : decode prog_11_method_11_code 51 = .ok (.istore 6, 2) := by decide +kernel
theorem d_Mo_rule_53 : decode prog_11_method_11_code 53 = .ok (.aload_n 0, 1) := by decide +kernel
theorem d_Mo_rule_54 : decode prog_11_method_11_code 54 = .ok (.getfield 7, 3) := by decide +kernel
theorem d_Mo_rule_57 : decode prog_11_method_11_code 57 = .ok (.iload 6, 2) := by decide +kernel
theorem d_Mo_rule_59 : decode prog_11_method_11_code 59 = .ok (.baload, 1) := by decide +kernel
theorem d_Mo_rule_60 : decode prog_11_method_11_code 60 = .ok (.ifCond .eq 40, 3) := by decide +kernel
theorem d_Mo_rule_63 : decode prog_11_method_11_code 63 = .ok (.aload_n 0, 1) := by decide +kernel
theorem d_Mo_rule_64 : decode prog_11_method_11_code 64 = .ok (.getfield 13, 3) := by decide +kernel
theorem d_Mo_rule_67 : decode prog_11_method_11_code 67 = .ok (.iload 6, 2) := by decide +kernel
theorem d_Mo_rule_69 : decode prog_11_method_11_code 69 = .ok (.iaload, 1) := by decide +kernel
theorem d_Mo_rule_70 : decode prog_11_method_11_code 70 = .ok (.iload_n 3, 1) := by decide +kernel
theorem d_Mo_rule_71 : decode prog_11_method_11_code 71 = .ok (.if_icmp .ne 29, 3) := by decide +kernel
theorem d_Mo_rule_74 : decode prog_11_method_11_code 74 = .ok (.aload_n 0, 1) := by decide +kernel
theorem d_Mo_rule_75 : decode prog_11_method_11_code 75 = .ok (.getfield 17, 3) := by decide +kernel
theorem d_Mo_rule_78 : decode prog_11_method_11_code 78 = .ok (.iload 6, 2) := by decide +kernel
theorem d_Mo_rule_80 : decode prog_11_method_11_code 80 = .ok (.baload, 1) := by decide +kernel
theorem d_Mo_rule_81 : decode prog_11_method_11_code 81 = .ok (.iload 4, 2) := by decide +kernel
theorem d_Mo_rule_83 : decode prog_11_method_11_code 83 = .ok (.if_icmp .ne 17, 3) := by decide +kernel
theorem d_Mo_rule_86 : decode prog_11_method_11_code 86 = .ok (.aload_n 0, 1) := by decide +kernel
theorem d_Mo_rule_87 : decode prog_11_method_11_code 87 = .ok (.getfield 20, 3) := by decide +kernel
theorem d_Mo_rule_90 : decode prog_11_method_11_code 90 = .ok (.iload 6, 2) := by decide +kernel
theorem d_Mo_rule_92 : decode prog_11_method_11_code 92 = .ok (.iaload, 1) := by decide +kernel
theorem d_Mo_rule_93 : decode prog_11_method_11_code 93 = .ok (.iload 5, 2) := by decide +kernel
theorem d_Mo_rule_95 : decode prog_11_method_11_code 95 = .ok (.if_icmp .ne 5, 3) := by decide +kernel
theorem d_Mo_rule_98 : decode prog_11_method_11_code 98 = .ok (.iconst 0, 1) := by decide +kernel
theorem d_Mo_rule_99 : decode prog_11_method_11_code 99 = .ok (.ireturn, 1) := by decide +kernel
theorem d_Mo_rule_100 : decode prog_11_method_11_code 100 = .ok (.aload_n 0, 1) := by decide +kernel
theorem d_Mo_rule_101 : decode prog_11_method_11_code 101 = .ok (.getfield 7, 3) := by decide +kernel
theorem d_Mo_rule_104 : decode prog_11_method_11_code 104 = .ok (.iload 6, 2) := by decide +kernel
theorem d_Mo_rule_106 : decode prog_11_method_11_code 106 = .ok (.iconst 1, 1) := by decide +kernel
theorem d_Mo_rule_107 : decode prog_11_method_11_code 107 = .ok (.bastore, 1) := by decide +kernel
theorem d_Mo_rule_108 : decode prog_11_method_11_code 108 = .ok (.aload_n 0, 1) := by decide +kernel
theorem d_Mo_rule_109 : decode prog_11_method_11_code 109 = .ok (.getfield 13, 3) := by decide +kernel
theorem d_Mo_rule_112 : decode prog_11_method_11_code 112 = .ok (.iload 6, 2) := by decide +kernel
theorem d_Mo_rule_114 : decode prog_11_method_11_code 114 = .ok (.iload_n 3, 1) := by decide +kernel
theorem d_Mo_rule_115 : decode prog_11_method_11_code 115 = .ok (.iastore, 1) := by decide +kernel
theorem d_Mo_rule_116 : decode prog_11_method_11_code 116 = .ok (.aload_n 0, 1) := by decide +kernel
theorem d_Mo_rule_117 : decode prog_11_method_11_code 117 = .ok (.getfield 17, 3) := by decide +kernel
theorem d_Mo_rule_120 : decode prog_11_method_11_code 120 = .ok (.iload 6, 2) := by decide +kernel
theorem d_Mo_rule_122 : decode prog_11_method_11_code 122 = .ok (.iload 4, 2) := by decide +kernel
theorem d_Mo_rule_124 : decode prog_11_method_11_code 124 = .ok (.bastore, 1) := by decide +kernel
theorem d_Mo_rule_125 : decode prog_11_method_11_code 125 = .ok (.aload_n 0, 1) := by decide +kernel
theorem d_Mo_rule_126 : decode prog_11_method_11_code 126 = .ok (.getfield 20, 3) := by decide +kernel
theorem d_Mo_rule_129 : decode prog_11_method_11_code 129 = .ok (.iload 6, 2) := by decide +kernel
theorem d_Mo_rule_131 : decode prog_11_method_11_code 131 = .ok (.iload 5, 2) := by decide +kernel
theorem d_Mo_rule_133 : decode prog_11_method_11_code 133 = .ok (.iastore, 1) := by decide +kernel
theorem d_Mo_rule_134 : decode prog_11_method_11_code 134 = .ok (.aload_n 0, 1) := by decide +kernel
theorem d_Mo_rule_135 : decode prog_11_method_11_code 135 = .ok (.invokevirtual 87, 3) := by decide +kernel
theorem d_Mo_rule_138 : decode prog_11_method_11_code 138 = .ok (.iconst 1, 1) := by decide +kernel
theorem d_Mo_rule_139 : decode prog_11_method_11_code 139 = .ok (.ireturn, 1) := by decide +kernel
theorem bm_rule {w : gx_W} {m : Nat} {I : Nat → Nat} {A : Nat → Nat → Nat} {p0 p1 p2 p3 p4 : Int32} (hbad : ¬ (sp_in p0 4 = true ∧ sp_in p1 3 = true ∧ sp_in p2 3 = true ∧ sp_in p4 5 = true)) : gx_Ct M_Mo_rule 7 0 0 [.ref m, .int p0, .int p1, .int p2, .int p3, .int p4] (gx_mo w m I A) (gx_eq (some (.int (nI 0))) (gx_mo w m (sp_u I 0 1) A)) := by
  refine gx_ct (L := [some (.ref m), some (.int p0), some (.int p1), some (.int p2), some (.int p3), some (.int p4), none]) (by decide) (Nat.le_of_ble_eq_true rfl) rfl ?_
  have hbt := Bool.toNat_le (sp_in p0 4 && sp_in p1 3)
  refine gx_aload_n d_Mo_rule_0 rfl ?_
  refine gx_iload_n d_Mo_rule_1 rfl ?_
  refine gx_iload_n d_Mo_rule_2 rfl ?_
  refine gx_cS1 lk_Mo_135 d_Mo_rule_3 (cm_isRule) (by omega) rfl rfl (Nat.le_of_ble_eq_true rfl) ?_
  refine gx_if_eqN (by omega) (tgt := 29) d_Mo_rule_6 (by decide) (fun h6 => ?_) (fun h6 => ?_)
  · refine gx_iconst d_Mo_rule_29 (nI 1) (by decide) ?_
    refine gx_goto (tgt := 34) d_Mo_rule_30 (by decide) ?_
    refine gx_put fp_Mo_90 (fun h => by cases h) d_Mo_rule_34 mo_o rfl rfl (Nat.le_of_ble_eq_true rfl) ?_
    refine gx_w mo_p0 ?_
    refine gx_aload_n d_Mo_rule_37 rfl ?_
    refine gx_get fl_Mo_90 d_Mo_rule_38 mo_o rfl ?_
    rw [ui_s]
    refine gx_if_leN (by omega) (tgt := 46) d_Mo_rule_41 (by decide) (fun h41 => ?_) (fun h41 => ?_)
    · exact absurd h41 (by decide)
    · refine gx_iconst d_Mo_rule_44 (nI 0) (by decide) ?_
      refine gx_zreturn rfl gx_nz0 d_Mo_rule_45 ?_
      exact ⟨rfl, rfl⟩
  · refine gx_iload_n d_Mo_rule_9 rfl ?_
    refine gx_if_lt (tgt := 29) d_Mo_rule_10 (by decide) (fun h10 => ?_) (fun h10 => ?_)
    · refine gx_iconst d_Mo_rule_29 (nI 1) (by decide) ?_
      refine gx_goto (tgt := 34) d_Mo_rule_30 (by decide) ?_
      refine gx_put fp_Mo_90 (fun h => by cases h) d_Mo_rule_34 mo_o rfl rfl (Nat.le_of_ble_eq_true rfl) ?_
      refine gx_w mo_p0 ?_
      refine gx_aload_n d_Mo_rule_37 rfl ?_
      refine gx_get fl_Mo_90 d_Mo_rule_38 mo_o rfl ?_
      rw [ui_s]
      refine gx_if_leN (by omega) (tgt := 46) d_Mo_rule_41 (by decide) (fun h41 => ?_) (fun h41 => ?_)
      · exact absurd h41 (by decide)
      · refine gx_iconst d_Mo_rule_44 (nI 0) (by decide) ?_
        refine gx_zreturn rfl gx_nz0 d_Mo_rule_45 ?_
        exact ⟨rfl, rfl⟩
    · refine gx_iload_n d_Mo_rule_13 rfl ?_
      refine gx_iconst d_Mo_rule_14 (nI 2) (by decide) ?_
      refine gx_icmp_gt (tgt := 29) d_Mo_rule_15 (by decide) (fun h15 => ?_) (fun h15 => ?_)
      · refine gx_iconst d_Mo_rule_29 (nI 1) (by decide) ?_
        refine gx_goto (tgt := 34) d_Mo_rule_30 (by decide) ?_
        refine gx_put fp_Mo_90 (fun h => by cases h) d_Mo_rule_34 mo_o rfl rfl (Nat.le_of_ble_eq_true rfl) ?_
        refine gx_w mo_p0 ?_
        refine gx_aload_n d_Mo_rule_37 rfl ?_
        refine gx_get fl_Mo_90 d_Mo_rule_38 mo_o rfl ?_
        rw [ui_s]
        refine gx_if_leN (by omega) (tgt := 46) d_Mo_rule_41 (by decide) (fun h41 => ?_) (fun h41 => ?_)
        · exact absurd h41 (by decide)
        · refine gx_iconst d_Mo_rule_44 (nI 0) (by decide) ?_
          refine gx_zreturn rfl gx_nz0 d_Mo_rule_45 ?_
          exact ⟨rfl, rfl⟩
      · refine gx_iload d_Mo_rule_18 rfl ?_
        refine gx_if_lt (tgt := 29) d_Mo_rule_20 (by decide) (fun h20 => ?_) (fun h20 => ?_)
        · refine gx_iconst d_Mo_rule_29 (nI 1) (by decide) ?_
          refine gx_goto (tgt := 34) d_Mo_rule_30 (by decide) ?_
          refine gx_put fp_Mo_90 (fun h => by cases h) d_Mo_rule_34 mo_o rfl rfl (Nat.le_of_ble_eq_true rfl) ?_
          refine gx_w mo_p0 ?_
          refine gx_aload_n d_Mo_rule_37 rfl ?_
          refine gx_get fl_Mo_90 d_Mo_rule_38 mo_o rfl ?_
          rw [ui_s]
          refine gx_if_leN (by omega) (tgt := 46) d_Mo_rule_41 (by decide) (fun h41 => ?_) (fun h41 => ?_)
          · exact absurd h41 (by decide)
          · refine gx_iconst d_Mo_rule_44 (nI 0) (by decide) ?_
            refine gx_zreturn rfl gx_nz0 d_Mo_rule_45 ?_
            exact ⟨rfl, rfl⟩
        · refine gx_iload d_Mo_rule_23 rfl ?_
          refine gx_iconst d_Mo_rule_25 (nI 4) (by decide) ?_
          refine gx_icmp_le (tgt := 33) d_Mo_rule_26 (by decide) (fun h26 => ?_) (fun h26 => ?_)
          · exact absurd (by
              have h1 := tb1 h6
              rw [Bool.and_eq_true] at h1
              exact ⟨h1.1, h1.2, sp_in_gt (by decide) rfl h10 h15, sp_in_le (by decide) rfl h20 h26⟩) hbad
          · refine gx_iconst d_Mo_rule_29 (nI 1) (by decide) ?_
            refine gx_goto (tgt := 34) d_Mo_rule_30 (by decide) ?_
            refine gx_put fp_Mo_90 (fun h => by cases h) d_Mo_rule_34 mo_o rfl rfl (Nat.le_of_ble_eq_true rfl) ?_
            refine gx_w mo_p0 ?_
            refine gx_aload_n d_Mo_rule_37 rfl ?_
            refine gx_get fl_Mo_90 d_Mo_rule_38 mo_o rfl ?_
            rw [ui_s]
            refine gx_if_leN (by omega) (tgt := 46) d_Mo_rule_41 (by decide) (fun h41 => ?_) (fun h41 => ?_)
            · exact absurd h41 (by decide)
            · refine gx_iconst d_Mo_rule_44 (nI 0) (by decide) ?_
              refine gx_zreturn rfl gx_nz0 d_Mo_rule_45 ?_
              exact ⟨rfl, rfl⟩
theorem d_Mo_drop_0 : decode prog_11_method_12_code 0 = .ok (.aload_n 0, 1) := by decide +kernel
theorem d_Mo_drop_1 : decode prog_11_method_12_code 1 = .ok (.iload_n 1, 1) := by decide +kernel
theorem d_Mo_drop_2 : decode prog_11_method_12_code 2 = .ok (.iload_n 2, 1) := by decide +kernel
theorem d_Mo_drop_3 : decode prog_11_method_12_code 3 = .ok (.invokestatic 135, 3) := by decide +kernel
theorem d_Mo_drop_6 : decode prog_11_method_12_code 6 = .ok (.ifCond .eq 7, 3) := by decide +kernel
theorem d_Mo_drop_9 : decode prog_11_method_12_code 9 = .ok (.iconst 0, 1) := by decide +kernel
theorem d_Mo_drop_10 : decode prog_11_method_12_code 10 = .ok (.goto 4, 3) := by decide +kernel
theorem d_Mo_drop_13 : decode prog_11_method_12_code 13 = .ok (.iconst 1, 1) := by decide +kernel
theorem d_Mo_drop_14 : decode prog_11_method_12_code 14 = .ok (.putfield 90, 3) := by decide +kernel
theorem d_Mo_drop_17 : decode prog_11_method_12_code 17 = .ok (.aload_n 0, 1) := by decide +kernel
theorem d_Mo_drop_18 : decode prog_11_method_12_code 18 = .ok (.getfield 90, 3) := by decide +kernel
theorem d_Mo_drop_21 : decode prog_11_method_12_code 21 = .ok (.ifCond .gt 27, 3) := by decide +kernel
theorem d_Mo_drop_24 : decode prog_11_method_12_code 24 = .ok (.aload_n 0, 1) := by decide +kernel
theorem d_Mo_drop_25 : decode prog_11_method_12_code 25 = .ok (.getfield 7, 3) := by decide +kernel
theorem d_Mo_drop_28 : decode prog_11_method_12_code 28 = .ok (.aload_n 0, 1) := by decide +kernel
theorem d_Mo_drop_29 : decode prog_11_method_12_code 29 = .ok (.getfield 90, 3) := by decide +kernel
theorem d_Mo_drop_32 : decode prog_11_method_12_code 32 = .ok (.ifCond .le 7, 3) := by decide +kernel
theorem d_Mo_drop_35 : decode prog_11_method_12_code 35 = .ok (.iconst 0, 1) := by decide +kernel
theorem d_Mo_drop_36 : decode prog_11_method_12_code 36 = .ok (.goto 8, 3) := by decide +kernel
theorem d_Mo_drop_39 : decode prog_11_method_12_code 39 = .ok (.iconst 3, 1) := by decide +kernel
theorem d_Mo_drop_40 : decode prog_11_method_12_code 40 = .ok (.iload_n 1, 1) := by decide +kernel
theorem d_Mo_drop_41 : decode prog_11_method_12_code 41 = .ok (.imul, 1) := by decide +kernel
theorem d_Mo_drop_42 : decode prog_11_method_12_code 42 = .ok (.iload_n 2, 1) := by decide +kernel
theorem d_Mo_drop_43 : decode prog_11_method_12_code 43 = .ok (.iadd, 1) := by decide +kernel
theorem d_Mo_drop_44 : decode prog_11_method_12_code 44 = .ok (.baload, 1) := by decide +kernel
theorem d_Mo_drop_45 : decode prog_11_method_12_code 45 = .ok (.ifCond .ne 5, 3) := by decide +kernel
theorem d_Mo_drop_48 : decode prog_11_method_12_code 48 = .ok (.iconst 0, 1) := by decide +kernel
theorem d_Mo_drop_49 : decode prog_11_method_12_code 49 = .ok (.ireturn, 1) := by decide +kernel
theorem d_Mo_drop_50 : decode prog_11_method_12_code 50 = .ok (.aload_n 0, 1) := by decide +kernel
theorem d_Mo_drop_51 : decode prog_11_method_12_code 51 = .ok (.getfield 7, 3) := by decide +kernel
theorem d_Mo_drop_54 : decode prog_11_method_12_code 54 = .ok (.iconst 3, 1) := by decide +kernel
theorem d_Mo_drop_55 : decode prog_11_method_12_code 55 = .ok (.iload_n 1, 1) := by decide +kernel
theorem d_Mo_drop_56 : decode prog_11_method_12_code 56 = .ok (.imul, 1) := by decide +kernel
theorem d_Mo_drop_57 : decode prog_11_method_12_code 57 = .ok (.iload_n 2, 1) := by decide +kernel
theorem d_Mo_drop_58 : decode prog_11_method_12_code 58 = .ok (.iadd, 1) := by decide +kernel
theorem d_Mo_drop_59 : decode prog_11_method_12_code 59 = .ok (.iconst 0, 1) := by decide +kernel
theorem d_Mo_drop_60 : decode prog_11_method_12_code 60 = .ok (.bastore, 1) := by decide +kernel
theorem d_Mo_drop_61 : decode prog_11_method_12_code 61 = .ok (.aload_n 0, 1) := by decide +kernel
theorem d_Mo_drop_62 : decode prog_11_method_12_code 62 = .ok (.invokevirtual 87, 3) := by decide +kernel
theorem d_Mo_drop_65 : decode prog_11_method_12_code 65 = .ok (.iconst 1, 1) := by decide +kernel
theorem d_Mo_drop_66 : decode prog_11_method_12_code 66 = .ok (.ireturn, 1) := by decide +kernel
theorem bm_drop {w : gx_W} {m : Nat} {I : Nat → Nat} {A : Nat → Nat → Nat} {p0 p1 : Int32} (hbad : ¬ (sp_in p0 4 = true ∧ sp_in p1 3 = true)) : gx_Ct M_Mo_drop 7 0 0 [.ref m, .int p0, .int p1] (gx_mo w m I A) (gx_eq (some (.int (nI 0))) (gx_mo w m (sp_u I 0 1) A)) := by
  refine gx_ct (L := [some (.ref m), some (.int p0), some (.int p1)]) (by decide) (Nat.le_of_ble_eq_true rfl) rfl ?_
  have hbt := Bool.toNat_le (sp_in p0 4 && sp_in p1 3)
  refine gx_aload_n d_Mo_drop_0 rfl ?_
  refine gx_iload_n d_Mo_drop_1 rfl ?_
  refine gx_iload_n d_Mo_drop_2 rfl ?_
  refine gx_cS1 lk_Mo_135 d_Mo_drop_3 (cm_isRule) (by omega) rfl rfl (Nat.le_of_ble_eq_true rfl) ?_
  refine gx_if_eqN (by omega) (tgt := 13) d_Mo_drop_6 (by decide) (fun h6 => ?_) (fun h6 => ?_)
  · refine gx_iconst d_Mo_drop_13 (nI 1) (by decide) ?_
    refine gx_put fp_Mo_90 (fun h => by cases h) d_Mo_drop_14 mo_o rfl rfl (Nat.le_of_ble_eq_true rfl) ?_
    refine gx_w mo_p0 ?_
    refine gx_aload_n d_Mo_drop_17 rfl ?_
    refine gx_get fl_Mo_90 d_Mo_drop_18 mo_o rfl ?_
    rw [ui_s]
    refine gx_if_gtN (by omega) (tgt := 48) d_Mo_drop_21 (by decide) (fun h21 => ?_) (fun h21 => ?_)
    · refine gx_iconst d_Mo_drop_48 (nI 0) (by decide) ?_
      refine gx_zreturn rfl gx_nz0 d_Mo_drop_49 ?_
      exact ⟨rfl, rfl⟩
    · exact absurd h21 (by decide)
  · exact absurd (by
      have h1 := tb1 h6
      rw [Bool.and_eq_true] at h1
      exact h1) hbad
theorem d_Mo_input_0 : decode prog_11_method_13_code 0 = .ok (.aload_n 0, 1) := by decide +kernel
theorem d_Mo_input_1 : decode prog_11_method_13_code 1 = .ok (.iload_n 1, 1) := by decide +kernel
theorem d_Mo_input_2 : decode prog_11_method_13_code 2 = .ok (.ifCond .lt 12, 3) := by decide +kernel
theorem d_Mo_input_5 : decode prog_11_method_13_code 5 = .ok (.iload_n 1, 1) := by decide +kernel
theorem d_Mo_input_6 : decode prog_11_method_13_code 6 = .ok (.iconst 4, 1) := by decide +kernel
theorem d_Mo_input_7 : decode prog_11_method_13_code 7 = .ok (.if_icmp .gt 7, 3) := by decide +kernel
theorem d_Mo_input_10 : decode prog_11_method_13_code 10 = .ok (.iload_n 2, 1) := by decide +kernel
theorem d_Mo_input_11 : decode prog_11_method_13_code 11 = .ok (.ifCond .ge 7, 3) := by decide +kernel
theorem d_Mo_input_14 : decode prog_11_method_13_code 14 = .ok (.iconst 1, 1) := by decide +kernel
theorem d_Mo_input_15 : decode prog_11_method_13_code 15 = .ok (.goto 4, 3) := by decide +kernel
theorem d_Mo_input_18 : decode prog_11_method_13_code 18 = .ok (.iconst 0, 1) := by decide +kernel
theorem d_Mo_input_19 : decode prog_11_method_13_code 19 = .ok (.putfield 90, 3) := by decide +kernel
theorem d_Mo_input_22 : decode prog_11_method_13_code 22 = .ok (.aload_n 0, 1) := by decide +kernel
theorem d_Mo_input_23 : decode prog_11_method_13_code 23 = .ok (.getfield 90, 3) := by decide +kernel
theorem d_Mo_input_26 : decode prog_11_method_13_code 26 = .ok (.ifCond .le 5, 3) := by decide +kernel
theorem d_Mo_input_29 : decode prog_11_method_13_code 29 = .ok (.iconst 0, 1) := by decide +kernel
theorem d_Mo_input_30 : decode prog_11_method_13_code 30 = .ok (.ireturn, 1) := by decide +kernel
theorem d_Mo_input_31 : decode prog_11_method_13_code 31 = .ok (.iload_n 2, 1) := by decide +kernel
theorem d_Mo_input_32 : decode prog_11_method_13_code 32 = .ok (.istore_n 3, 1) := by decide +kernel
theorem d_Mo_input_33 : decode prog_11_method_13_code 33 = .ok (.iload_n 1, 1) := by decide +kernel
theorem d_Mo_input_34 : decode prog_11_method_13_code 34 = .ok (.iconst 1, 1) := by decide +kernel
theorem d_Mo_input_35 : decode prog_11_method_13_code 35 = .ok (.isub, 1) := by decide +kernel
theorem d_Mo_input_36 : decode prog_11_method_13_code 36 = .ok (.istore 4, 2) := by decide +kernel
theorem d_Mo_input_38 : decode prog_11_method_13_code 38 = .ok (.iload 4, 2) := by decide +kernel
theorem d_Mo_input_40 : decode prog_11_method_13_code 40 = .ok (.ifCond .lt 23, 3) := by decide +kernel
theorem d_Mo_input_43 : decode prog_11_method_13_code 43 = .ok (.aload_n 0, 1) := by decide +kernel
theorem d_Mo_input_44 : decode prog_11_method_13_code 44 = .ok (.getfield 23, 3) := by decide +kernel
theorem d_Mo_input_47 : decode prog_11_method_13_code 47 = .ok (.iload 4, 2) := by decide +kernel
theorem d_Mo_input_49 : decode prog_11_method_13_code 49 = .ok (.iload_n 3, 1) := by decide +kernel
theorem d_Mo_input_50 : decode prog_11_method_13_code 50 = .ok (.iconst 3, 1) := by decide +kernel
theorem d_Mo_input_51 : decode prog_11_method_13_code 51 = .ok (.irem, 1) := by decide +kernel
theorem d_Mo_input_52 : decode prog_11_method_13_code 52 = .ok (.iastore, 1) := by decide +kernel
theorem d_Mo_input_53 : decode prog_11_method_13_code 53 = .ok (.iload_n 3, 1) := by decide +kernel
theorem d_Mo_input_54 : decode prog_11_method_13_code 54 = .ok (.iconst 3, 1) := by decide +kernel
theorem d_Mo_input_55 : decode prog_11_method_13_code 55 = .ok (.idiv, 1) := by decide +kernel
theorem d_Mo_input_56 : decode prog_11_method_13_code 56 = .ok (.istore_n 3, 1) := by decide +kernel
theorem d_Mo_input_57 : decode prog_11_method_13_code 57 = .ok (.iinc 4 (-1), 3) := by decide +kernel
theorem d_Mo_input_60 : decode prog_11_method_13_code 60 = .ok (.goto (-22), 3) := by decide +kernel
theorem d_Mo_input_63 : decode prog_11_method_13_code 63 = .ok (.aload_n 0, 1) := by decide +kernel
theorem d_Mo_input_64 : decode prog_11_method_13_code 64 = .ok (.iload_n 1, 1) := by decide +kernel
theorem d_Mo_input_65 : decode prog_11_method_13_code 65 = .ok (.putfield 107, 3) := by decide +kernel
theorem d_Mo_input_68 : decode prog_11_method_13_code 68 = .ok (.aload_n 0, 1) := by decide +kernel
theorem d_Mo_input_69 : decode prog_11_method_13_code 69 = .ok (.invokevirtual 87, 3) := by decide +kernel
theorem d_Mo_input_72 : decode prog_11_method_13_code 72 = .ok (.iconst 1, 1) := by decide +kernel
theorem d_Mo_input_73 : decode prog_11_method_13_code 73 = .ok (.ireturn, 1) := by decide +kernel
theorem bm_input {w : gx_W} {m : Nat} {I : Nat → Nat} {A : Nat → Nat → Nat} {p0 p1 : Int32} (hbad : ¬ (sp_in p0 5 = true ∧ ¬ p1 < 0)) : gx_Ct M_Mo_input 7 0 0 [.ref m, .int p0, .int p1] (gx_mo w m I A) (gx_eq (some (.int (nI 0))) (gx_mo w m (sp_u I 0 1) A)) := by
  refine gx_ct (L := [some (.ref m), some (.int p0), some (.int p1), none, none]) (by decide) (Nat.le_of_ble_eq_true rfl) rfl ?_
  refine gx_aload_n d_Mo_input_0 rfl ?_
  refine gx_iload_n d_Mo_input_1 rfl ?_
  refine gx_if_lt (tgt := 14) d_Mo_input_2 (by decide) (fun h2 => ?_) (fun h2 => ?_)
  · refine gx_iconst d_Mo_input_14 (nI 1) (by decide) ?_
    refine gx_goto (tgt := 19) d_Mo_input_15 (by decide) ?_
    refine gx_put fp_Mo_90 (fun h => by cases h) d_Mo_input_19 mo_o rfl rfl (Nat.le_of_ble_eq_true rfl) ?_
    refine gx_w mo_p0 ?_
    refine gx_aload_n d_Mo_input_22 rfl ?_
    refine gx_get fl_Mo_90 d_Mo_input_23 mo_o rfl ?_
    rw [ui_s]
    refine gx_if_leN (by omega) (tgt := 31) d_Mo_input_26 (by decide) (fun h26 => ?_) (fun h26 => ?_)
    · exact absurd h26 (by decide)
    · refine gx_iconst d_Mo_input_29 (nI 0) (by decide) ?_
      refine gx_zreturn rfl gx_nz0 d_Mo_input_30 ?_
      exact ⟨rfl, rfl⟩
  · refine gx_iload_n d_Mo_input_5 rfl ?_
    refine gx_iconst d_Mo_input_6 (nI 4) (by decide) ?_
    refine gx_icmp_gt (tgt := 14) d_Mo_input_7 (by decide) (fun h7 => ?_) (fun h7 => ?_)
    · refine gx_iconst d_Mo_input_14 (nI 1) (by decide) ?_
      refine gx_goto (tgt := 19) d_Mo_input_15 (by decide) ?_
      refine gx_put fp_Mo_90 (fun h => by cases h) d_Mo_input_19 mo_o rfl rfl (Nat.le_of_ble_eq_true rfl) ?_
      refine gx_w mo_p0 ?_
      refine gx_aload_n d_Mo_input_22 rfl ?_
      refine gx_get fl_Mo_90 d_Mo_input_23 mo_o rfl ?_
      rw [ui_s]
      refine gx_if_leN (by omega) (tgt := 31) d_Mo_input_26 (by decide) (fun h26 => ?_) (fun h26 => ?_)
      · exact absurd h26 (by decide)
      · refine gx_iconst d_Mo_input_29 (nI 0) (by decide) ?_
        refine gx_zreturn rfl gx_nz0 d_Mo_input_30 ?_
        exact ⟨rfl, rfl⟩
    · refine gx_iload_n d_Mo_input_10 rfl ?_
      refine gx_if_ge (tgt := 18) d_Mo_input_11 (by decide) (fun h11 => ?_) (fun h11 => ?_)
      · exact absurd ⟨sp_in_gt (by decide) rfl h2 h7, gx_n0 h11⟩ hbad
      · refine gx_iconst d_Mo_input_14 (nI 1) (by decide) ?_
        refine gx_goto (tgt := 19) d_Mo_input_15 (by decide) ?_
        refine gx_put fp_Mo_90 (fun h => by cases h) d_Mo_input_19 mo_o rfl rfl (Nat.le_of_ble_eq_true rfl) ?_
        refine gx_w mo_p0 ?_
        refine gx_aload_n d_Mo_input_22 rfl ?_
        refine gx_get fl_Mo_90 d_Mo_input_23 mo_o rfl ?_
        rw [ui_s]
        refine gx_if_leN (by omega) (tgt := 31) d_Mo_input_26 (by decide) (fun h26 => ?_) (fun h26 => ?_)
        · exact absurd h26 (by decide)
        · refine gx_iconst d_Mo_input_29 (nI 0) (by decide) ?_
          refine gx_zreturn rfl gx_nz0 d_Mo_input_30 ?_
          exact ⟨rfl, rfl⟩
theorem op_rule_no {S : sp_St} {q s wr rt nx : Nat} {A : Nat → Nat → Nat} (hM : moM A = S.1) (h : ¬ (A 1 (3 * q + s) = 1 ∧ A 2 (3 * q + s) = wr ∧ A 3 (3 * q + s) = rt ∧ A 4 (3 * q + s) = nx)) : op_rule S q s wr rt nx = (1, sp_fresh (sp_lrn (moM A) (3 * q + s) wr rt nx) S.2.1) := by
  unfold op_rule
  rw [← hM, Nat.mul_comm q 3]
  exact if_neg h
theorem op_rule_so {S : sp_St} {q s wr rt nx : Nat} {A : Nat → Nat → Nat} (hM : moM A = S.1) (h : A 1 (3 * q + s) = 1 ∧ A 2 (3 * q + s) = wr ∧ A 3 (3 * q + s) = rt ∧ A 4 (3 * q + s) = nx) : op_rule S q s wr rt nx = (0, S) := by
  unfold op_rule
  rw [← hM, Nat.mul_comm q 3]
  exact if_pos h
theorem uA_u {A : Nat → Nat → Nat} {j r x : Nat} : uA A j r x j = sp_u (A j) r x := by
  funext i
  unfold uA sp_u
  by_cases e : i = r
  · rw [if_pos ⟨rfl, e⟩, if_pos e]
  · rw [if_neg (fun g => e g.2), if_neg e]
theorem moM_lrn {A : Nat → Nat → Nat} {r wr rt nx : Nat} : moM (uA (uA (uA (uA A 1 r 1) 2 r wr) 3 r rt) 4 r nx) = sp_lrn (moM A) r wr rt nx := by
  have a1 : uA (uA (uA (uA A 1 r 1) 2 r wr) 3 r rt) 4 r nx 1 = sp_u (A 1) r 1 := by rw [uA_oj (by decide), uA_oj (by decide), uA_oj (by decide), uA_u]
  have a2 : uA (uA (uA (uA A 1 r 1) 2 r wr) 3 r rt) 4 r nx 2 = sp_u (A 2) r wr := by rw [uA_oj (by decide), uA_oj (by decide), uA_u, uA_oj (by decide)]
  have a3 : uA (uA (uA (uA A 1 r 1) 2 r wr) 3 r rt) 4 r nx 3 = sp_u (A 3) r rt := by rw [uA_oj (by decide), uA_u, uA_oj (by decide), uA_oj (by decide)]
  have a4 : uA (uA (uA (uA A 1 r 1) 2 r wr) 3 r rt) 4 r nx 4 = sp_u (A 4) r nx := by rw [uA_u, uA_oj (by decide), uA_oj (by decide), uA_oj (by decide)]
  unfold moM sp_lrn
  rw [a1, a2, a3, a4]
theorem moM_fgt {A : Nat → Nat → Nat} {r : Nat} : moM (uA A 1 r 0) = sp_fgt (moM A) r := by
  unfold moM sp_fgt
  rw [uA_u, uA_oj (by decide), uA_oj (by decide), uA_oj (by decide)]
theorem sg_rule {w : gx_W} {m : Nat} {I : Nat → Nat} {A : Nat → Nat → Nat} {S : sp_St} (h : mdl I A S) (hS : sp_Sok S) {q s wr rt nx : Nat} (hq : q < 4) (hs : s < 3) (hwr : wr < 3) (hrt : rt ≤ 1) (hnx : nx ≤ 4) (hn : ¬ (A 1 (3 * q + s) = 1 ∧ A 2 (3 * q + s) = wr ∧ A 3 (3 * q + s) = rt ∧ A 4 (3 * q + s) = nx)) (hI0 : I 0 = 0) : gx_X (fun _ _ => True) M_Mo_rule 7 (gx_nt (moQ w m (nI (op_rule S q s wr rt nx).1) (op_rule S q s wr rt nx).2 0)) 100 [some (.ref m), some (.int (nI q)), some (.int (nI s)), some (.int (nI wr)), some (.int (nI rt)), some (.int (nI nx)), some (.int (nI (3 * q + s)))] [] (gx_mo w m I A) (0, 0) := by
  refine gx_aload_n d_Mo_rule_100 rfl ?_
  refine gx_get fl_Mo_7 d_Mo_rule_101 mo_o rfl ?_
  refine gx_iload d_Mo_rule_104 rfl ?_
  refine gx_iconst d_Mo_rule_106 (nI 1) (by decide) ?_
  refine gx_zast d_Mo_rule_107 mo_1 (by omega) (by omega) (gx_nzb (by omega)) ?_
  refine gx_w mo_s1 ?_
  refine gx_aload_n d_Mo_rule_108 rfl ?_
  refine gx_get fl_Mo_13 d_Mo_rule_109 mo_o rfl ?_
  refine gx_iload d_Mo_rule_112 rfl ?_
  refine gx_iload_n d_Mo_rule_114 rfl ?_
  refine gx_iast d_Mo_rule_115 mo_2 (by omega) (by omega) ?_
  refine gx_w mo_s2 ?_
  refine gx_aload_n d_Mo_rule_116 rfl ?_
  refine gx_get fl_Mo_17 d_Mo_rule_117 mo_o rfl ?_
  refine gx_iload d_Mo_rule_120 rfl ?_
  refine gx_iload d_Mo_rule_122 rfl ?_
  refine gx_zast d_Mo_rule_124 mo_3 (by omega) (by omega) (gx_nzb (by omega)) ?_
  refine gx_w mo_s3 ?_
  refine gx_aload_n d_Mo_rule_125 rfl ?_
  refine gx_get fl_Mo_20 d_Mo_rule_126 mo_o rfl ?_
  refine gx_iload d_Mo_rule_129 rfl ?_
  refine gx_iload d_Mo_rule_131 rfl ?_
  refine gx_iast d_Mo_rule_133 mo_4 (by omega) (by omega) ?_
  refine gx_w mo_s4 ?_
  refine gx_aload_n d_Mo_rule_134 rfl ?_
  refine gx_cVr lk_Mo_87 d_Mo_rule_135 (cm_change (M := sp_lrn (moM A) (3 * q + s) wr rt nx) (inp := S.2.1) (sp_lrn_ok (by rw [h.1.1]; exact hS.1) hwr hrt hnx) moM_lrn hS.2.1 (by rw [uA_oj (by decide), uA_oj (by decide), uA_oj (by decide), uA_oj (by decide)]; exact h.1.2.1)) (Or.inl ⟨_, mo_o⟩) (by omega) rfl rfl (Nat.le_of_ble_eq_true rfl) (fun r2 w2 hq => ?_)
  obtain ⟨rfl, I2, A2, rfl, hm2, ht2⟩ := hq
  refine gx_iconst d_Mo_rule_138 (nI 1) (by decide) ?_
  refine gx_zreturn rfl gx_nz1 d_Mo_rule_139 ?_
  rw [op_rule_no h.1.1 hn]
  exact ⟨rfl, _, _, rfl, hm2, ht2.trans hI0⟩
theorem cm_rule {w : gx_W} {m : Nat} {I : Nat → Nat} {A : Nat → Nat → Nat} {S : sp_St} (h : mdl I A S) (hS : sp_Sok S) {q s wr rt nx : Nat} (hq : q < 4) (hs : s < 3) (hwr : wr < 3) (hrt : rt ≤ 1) (hnx : nx ≤ 4)  : gx_Ct M_Mo_rule 7 0 0 [.ref m, .int (nI q), .int (nI s), .int (nI wr), .int (nI rt), .int (nI nx)] (gx_mo w m I A) (moQ w m (nI (op_rule S q s wr rt nx).1) (op_rule S q s wr rt nx).2 0) := by
  refine gx_ct (L := [some (.ref m), some (.int (nI q)), some (.int (nI s)), some (.int (nI wr)), some (.int (nI rt)), some (.int (nI nx)), none]) (by decide) (Nat.le_of_ble_eq_true rfl) rfl ?_
  have hMr : sp_Mok (moM A) := by rw [h.1.1]; exact hS.1
  have e1 : A 1 (3 * q + s) ≤ 1 := (hMr _).1
  have e2 : A 2 (3 * q + s) < 3 := (hMr _).2.2.1
  have e3 : A 3 (3 * q + s) ≤ 1 := (hMr _).2.1
  have e4 : A 4 (3 * q + s) ≤ 4 := (hMr _).2.2.2
  refine gx_aload_n d_Mo_rule_0 rfl ?_
  refine gx_iload_n d_Mo_rule_1 rfl ?_
  refine gx_iload_n d_Mo_rule_2 rfl ?_
  refine gx_cS1 lk_Mo_135 d_Mo_rule_3 (cm_isRule) (by omega) rfl rfl (Nat.le_of_ble_eq_true rfl) ?_
  refine gx_top (show nI (sp_in (nI q) 4 && sp_in (nI s) 3).toNat = nI 1 by rw [sp_in_nI (by omega) (by omega), sp_in_nI (by omega) (by omega), decide_eq_true hq, decide_eq_true hs]; rfl) ?_
  refine gx_if_eqN (by omega) (tgt := 29) d_Mo_rule_6 (by decide) (fun h6 => ?_) (fun h6 => ?_)
  · exact absurd h6 (by decide)
  · refine gx_iload_n d_Mo_rule_9 rfl ?_
    refine gx_if_ltN (by omega) (tgt := 29) d_Mo_rule_10 (by decide) ?_
    refine gx_iload_n d_Mo_rule_13 rfl ?_
    refine gx_iconst d_Mo_rule_14 (nI 2) (by decide) ?_
    refine gx_icmp_gtN (by omega) (by omega) (tgt := 29) d_Mo_rule_15 (by decide) (fun h15 => ?_) (fun h15 => ?_)
    · exact absurd h15 (by omega)
    · refine gx_iload d_Mo_rule_18 rfl ?_
      refine gx_if_ltN (by omega) (tgt := 29) d_Mo_rule_20 (by decide) ?_
      refine gx_iload d_Mo_rule_23 rfl ?_
      refine gx_iconst d_Mo_rule_25 (nI 4) (by decide) ?_
      refine gx_icmp_leN (by omega) (by omega) (tgt := 33) d_Mo_rule_26 (by decide) (fun h26 => ?_) (fun h26 => ?_)
      · refine gx_iconst d_Mo_rule_33 (nI 0) (by decide) ?_
        refine gx_put fp_Mo_90 (fun h => by cases h) d_Mo_rule_34 mo_o rfl rfl (Nat.le_of_ble_eq_true rfl) ?_
        refine gx_w mo_p0 ?_
        refine gx_aload_n d_Mo_rule_37 rfl ?_
        refine gx_get fl_Mo_90 d_Mo_rule_38 mo_o rfl ?_
        rw [ui_s]
        refine gx_if_leN (by omega) (tgt := 46) d_Mo_rule_41 (by decide) (fun h41 => ?_) (fun h41 => ?_)
        · refine gx_iconst d_Mo_rule_46 (nI 3) (by decide) ?_
          refine gx_iload_n d_Mo_rule_47 rfl ?_
          refine gx_imulN d_Mo_rule_48 ?_
          refine gx_iload_n d_Mo_rule_49 rfl ?_
          refine gx_iaddN d_Mo_rule_50 ?_
          refine gx_istore d_Mo_rule_51 (Nat.le_of_ble_eq_true rfl) rfl ?_
          refine gx_aload_n d_Mo_rule_53 rfl ?_
          refine gx_get fl_Mo_7 d_Mo_rule_54 mo_o rfl ?_
          refine gx_iload d_Mo_rule_57 rfl ?_
          refine gx_zald d_Mo_rule_59 mo_1 (by omega) (by omega) ?_
          refine gx_if_eqN (by omega) (tgt := 100) d_Mo_rule_60 (by decide) (fun h60 => ?_) (fun h60 => ?_)
          · exact sg_rule h.t hS hq hs hwr hrt hnx (fun g => by omega) ui_s
          · refine gx_aload_n d_Mo_rule_63 rfl ?_
            refine gx_get fl_Mo_13 d_Mo_rule_64 mo_o rfl ?_
            refine gx_iload d_Mo_rule_67 rfl ?_
            refine gx_iald d_Mo_rule_69 mo_2 (by omega) (by omega) ?_
            refine gx_iload_n d_Mo_rule_70 rfl ?_
            refine gx_icmp_neN (by omega) (by omega) (tgt := 100) d_Mo_rule_71 (by decide) (fun h71 => ?_) (fun h71 => ?_)
            · exact sg_rule h.t hS hq hs hwr hrt hnx (fun g => by omega) ui_s
            · refine gx_aload_n d_Mo_rule_74 rfl ?_
              refine gx_get fl_Mo_17 d_Mo_rule_75 mo_o rfl ?_
              refine gx_iload d_Mo_rule_78 rfl ?_
              refine gx_zald d_Mo_rule_80 mo_3 (by omega) (by omega) ?_
              refine gx_iload d_Mo_rule_81 rfl ?_
              refine gx_icmp_neN (by omega) (by omega) (tgt := 100) d_Mo_rule_83 (by decide) (fun h83 => ?_) (fun h83 => ?_)
              · exact sg_rule h.t hS hq hs hwr hrt hnx (fun g => by omega) ui_s
              · refine gx_aload_n d_Mo_rule_86 rfl ?_
                refine gx_get fl_Mo_20 d_Mo_rule_87 mo_o rfl ?_
                refine gx_iload d_Mo_rule_90 rfl ?_
                refine gx_iald d_Mo_rule_92 mo_4 (by omega) (by omega) ?_
                refine gx_iload d_Mo_rule_93 rfl ?_
                refine gx_icmp_neN (by omega) (by omega) (tgt := 100) d_Mo_rule_95 (by decide) (fun h95 => ?_) (fun h95 => ?_)
                · exact sg_rule h.t hS hq hs hwr hrt hnx (fun g => by omega) ui_s
                · refine gx_iconst d_Mo_rule_98 (nI 0) (by decide) ?_
                  refine gx_zreturn rfl gx_nz0 d_Mo_rule_99 ?_
                  rw [op_rule_so h.1.1 ⟨by omega, h71, h83, h95⟩]
                  exact ⟨rfl, _, _, rfl, h.t, ui_s⟩
        · exact absurd h41 (by decide)
      · exact absurd h26 (by omega)
theorem cm_drop {w : gx_W} {m : Nat} {I : Nat → Nat} {A : Nat → Nat → Nat} {S : sp_St} (h : mdl I A S) (hS : sp_Sok S) {q s : Nat} (hq : q < 4) (hs : s < 3) : gx_Ct M_Mo_drop 7 0 0 [.ref m, .int (nI q), .int (nI s)] (gx_mo w m I A) (moQ w m (nI (op_drop S q s).1) (op_drop S q s).2 0) := by
  refine gx_ct (L := [some (.ref m), some (.int (nI q)), some (.int (nI s))]) (by decide) (Nat.le_of_ble_eq_true rfl) rfl ?_
  have hMr : sp_Mok (moM A) := by rw [h.1.1]; exact hS.1
  have e1 : A 1 (3 * q + s) ≤ 1 := (hMr _).1
  have e5 : sp_kn S.1 (q * 3 + s) = A 1 (3 * q + s) := by rw [← h.1.1, Nat.mul_comm q 3]; rfl
  have e6 : S.1 = moM A := h.1.1.symm
  refine gx_aload_n d_Mo_drop_0 rfl ?_
  refine gx_iload_n d_Mo_drop_1 rfl ?_
  refine gx_iload_n d_Mo_drop_2 rfl ?_
  refine gx_cS1 lk_Mo_135 d_Mo_drop_3 (cm_isRule) (by omega) rfl rfl (Nat.le_of_ble_eq_true rfl) ?_
  refine gx_top (show nI (sp_in (nI q) 4 && sp_in (nI s) 3).toNat = nI 1 by rw [sp_in_nI (by omega) (by omega), sp_in_nI (by omega) (by omega), decide_eq_true hq, decide_eq_true hs]; rfl) ?_
  refine gx_if_eqN (by omega) (tgt := 13) d_Mo_drop_6 (by decide) (fun h6 => ?_) (fun h6 => ?_)
  · exact absurd h6 (by decide)
  · refine gx_iconst d_Mo_drop_9 (nI 0) (by decide) ?_
    refine gx_goto (tgt := 14) d_Mo_drop_10 (by decide) ?_
    refine gx_put fp_Mo_90 (fun h => by cases h) d_Mo_drop_14 mo_o rfl rfl (Nat.le_of_ble_eq_true rfl) ?_
    refine gx_w mo_p0 ?_
    refine gx_aload_n d_Mo_drop_17 rfl ?_
    refine gx_get fl_Mo_90 d_Mo_drop_18 mo_o rfl ?_
    rw [ui_s]
    refine gx_if_gtN (by omega) (tgt := 48) d_Mo_drop_21 (by decide) (fun h21 => ?_) (fun h21 => ?_)
    · exact absurd h21 (by decide)
    · refine gx_aload_n d_Mo_drop_24 rfl ?_
      refine gx_get fl_Mo_7 d_Mo_drop_25 mo_o rfl ?_
      refine gx_aload_n d_Mo_drop_28 rfl ?_
      refine gx_get fl_Mo_90 d_Mo_drop_29 mo_o rfl ?_
      rw [ui_s]
      refine gx_if_leN (by omega) (tgt := 39) d_Mo_drop_32 (by decide) (fun h32 => ?_) (fun h32 => ?_)
      · refine gx_iconst d_Mo_drop_39 (nI 3) (by decide) ?_
        refine gx_iload_n d_Mo_drop_40 rfl ?_
        refine gx_imulN d_Mo_drop_41 ?_
        refine gx_iload_n d_Mo_drop_42 rfl ?_
        refine gx_iaddN d_Mo_drop_43 ?_
        refine gx_zald d_Mo_drop_44 mo_1 (by omega) (by omega) ?_
        refine gx_if_neN (by omega) (tgt := 50) d_Mo_drop_45 (by decide) (fun h45 => ?_) (fun h45 => ?_)
        · refine gx_aload_n d_Mo_drop_50 rfl ?_
          refine gx_get fl_Mo_7 d_Mo_drop_51 mo_o rfl ?_
          refine gx_iconst d_Mo_drop_54 (nI 3) (by decide) ?_
          refine gx_iload_n d_Mo_drop_55 rfl ?_
          refine gx_imulN d_Mo_drop_56 ?_
          refine gx_iload_n d_Mo_drop_57 rfl ?_
          refine gx_iaddN d_Mo_drop_58 ?_
          refine gx_iconst d_Mo_drop_59 (nI 0) (by decide) ?_
          refine gx_zast d_Mo_drop_60 mo_1 (by omega) (by omega) (gx_nzb (by omega)) ?_
          refine gx_w mo_s1 ?_
          refine gx_aload_n d_Mo_drop_61 rfl ?_
          refine gx_cVr lk_Mo_87 d_Mo_drop_62 (cm_change (M := sp_fgt (moM A) (3 * q + s)) (inp := S.2.1) (sp_fgt_ok hMr) moM_fgt hS.2.1 (by rw [uA_oj (by decide)]; exact h.1.2.1)) (Or.inl ⟨_, mo_o⟩) (by omega) rfl rfl (Nat.le_of_ble_eq_true rfl) (fun r2 w2 hq => ?_)
          obtain ⟨rfl, I2, A2, rfl, hm2, ht2⟩ := hq
          refine gx_iconst d_Mo_drop_65 (nI 1) (by decide) ?_
          refine gx_zreturn rfl gx_nz1 d_Mo_drop_66 ?_
          rw [show op_drop S q s = (1, sp_fresh (sp_fgt (moM A) (3 * q + s)) S.2.1) by unfold op_drop; rw [e5, if_pos (by omega), e6, Nat.mul_comm q 3]]
          exact ⟨rfl, _, _, rfl, hm2, ht2.trans ui_s⟩
        · refine gx_iconst d_Mo_drop_48 (nI 0) (by decide) ?_
          refine gx_zreturn rfl gx_nz0 d_Mo_drop_49 ?_
          rw [show op_drop S q s = (0, S) by unfold op_drop; rw [e5, if_neg (by omega)]]
          exact ⟨rfl, _, _, rfl, h.t, ui_s⟩
      · exact absurd h32 (by decide)
theorem gx_s1 (x : Int32) : x + Int32.ofInt (-1) = x - nI 1 := by
  rw [Int32.sub_eq_add_neg]; rfl
theorem gx_neg1 : nI 0 - nI 1 < (0 : Int32) := by decide
theorem gx_s1s (j : Nat) : nI (j + 1) - nI 1 = nI j := by
  exact pk_sub (show 1 ≤ j + 1 by omega)
theorem lm_input {w : gx_W} {m : Nat} {I : Nat → Nat} {A : Nat → Nat → Nat} {S : sp_St} (h : mdl I A S) (hS : sp_Sok S) {n word : Nat} (hn : n ≤ 4) (hword : word < 2 ^ 31) (hI0 : I 0 = 0) : ∀ (fu : Nat) (j : Nat) (A' : Nat → Nat → Nat), j < fu → (j ≤ n) → (∀ k, k ≠ 5 → A' k = A k) → (∀ i, j ≤ i → i < n → A' 5 i = word / 3 ^ (n - 1 - i) % 3) → gx_X (fun _ _ => True) M_Mo_input 7 (gx_nt (moQ w m (nI (op_input S n word).1) (op_input S n word).2 0)) 38 [some (.ref m), some (.int (nI n)), some (.int (nI word)), some (.int (nI (word / 3 ^ (n - j)))), some (.int (nI j - nI 1))] [] (gx_mo w m I A') (0, 0) := by
  intro fu
  induction fu with
  | zero => intro j A' hfu; exact absurd hfu (Nat.not_lt_zero _)
  | succ fu ih =>
    intro j A' hfu hj hA hd
    have hv : word / 3 ^ (n - j) ≤ word := Nat.div_le_self ..
    refine gx_iload d_Mo_input_38 rfl ?_
    rcases j with _ | j
    · refine gx_if_lt (tgt := 63) d_Mo_input_40 (by decide) (fun _ => ?_) (fun g => absurd gx_neg1 g)
      refine gx_aload_n d_Mo_input_63 rfl ?_
      refine gx_iload_n d_Mo_input_64 rfl ?_
      refine gx_put fp_Mo_107 (fun h => by cases h) d_Mo_input_65 mo_o rfl rfl (Nat.le_of_ble_eq_true rfl) ?_
      refine gx_w mo_p1 ?_
      refine gx_aload_n d_Mo_input_68 rfl ?_
      refine gx_cVr lk_Mo_87 d_Mo_input_69 (cm_change (M := S.1) (inp := sp_dg n word) hS.1 (by rw [← h.1.1]; unfold moM; rw [hA 1 (by decide), hA 2 (by decide), hA 3 (by decide), hA 4 (by decide)]) (sp_dg_ok hn) ⟨by rw [ui_s, sp_dg_len], fun i hi => by rw [sp_dg_len] at hi; rw [sp_dg_at hi]; exact hd i (Nat.zero_le _) hi⟩) (Or.inl ⟨_, mo_o⟩) (by omega) rfl rfl (Nat.le_of_ble_eq_true rfl) (fun r2 w2 hq => ?_)
      obtain ⟨rfl, I2, A2, rfl, hm2, ht2⟩ := hq
      refine gx_iconst d_Mo_input_72 (nI 1) (by decide) ?_
      refine gx_zreturn rfl gx_nz1 d_Mo_input_73 ?_
      exact ⟨rfl, _, _, rfl, hm2, ht2.trans ((ui_o (by decide)).trans hI0)⟩
    refine gx_L (L' := [some (.ref m), some (.int (nI n)), some (.int (nI word)), some (.int (nI (word / 3 ^ (n - (j + 1))))), some (.int (nI j))]) (by rw [gx_s1s]) ?_
    refine gx_top (gx_s1s j) ?_
    refine gx_if_ltN (by omega) (tgt := 63) d_Mo_input_40 (by decide) ?_
    refine gx_aload_n d_Mo_input_43 rfl ?_
    refine gx_get fl_Mo_23 d_Mo_input_44 mo_o rfl ?_
    refine gx_iload d_Mo_input_47 rfl ?_
    refine gx_iload_n d_Mo_input_49 rfl ?_
    refine gx_iconst d_Mo_input_50 (nI 3) (by decide) ?_
    refine gx_iremN (by omega) (by omega) (by omega) d_Mo_input_51 ?_
    refine gx_iast d_Mo_input_52 mo_5 (by omega) (by omega) ?_
    refine gx_w mo_s5 ?_
    refine gx_iload_n d_Mo_input_53 rfl ?_
    refine gx_iconst d_Mo_input_54 (nI 3) (by decide) ?_
    refine gx_idivN (by omega) (by omega) (by omega) d_Mo_input_55 ?_
    refine gx_istore_n d_Mo_input_56 (Nat.le_of_ble_eq_true rfl) rfl ?_
    refine gx_iinc d_Mo_input_57 rfl (nI j - nI 1) (gx_s1 _) (Nat.le_of_ble_eq_true rfl) rfl ?_
    refine gx_goto (tgt := 38) d_Mo_input_60 (by decide) ?_
    have hp : word / 3 ^ (n - (j + 1)) / 3 = word / 3 ^ (n - j) := by
      rw [Nat.div_div_eq_div_mul, ← Nat.pow_succ, show (n - (j + 1)).succ = n - j by omega]
    refine gx_L (L' := [some (.ref m), some (.int (nI n)), some (.int (nI word)), some (.int (nI (word / 3 ^ (n - j)))), some (.int (nI j - nI 1))]) (by rw [← hp]; rfl) ?_
    refine ih j _ (by omega) (by omega) (fun k hk => by rw [uA_oj hk]; exact hA k hk) (fun i h1 h2 => ?_)
    by_cases e : i = j
    · subst e; rw [uA_s, show n - 1 - i = n - (i + 1) by omega]
    · rw [uA_i e]; exact hd i (by omega) h2
theorem cm_input {w : gx_W} {m : Nat} {I : Nat → Nat} {A : Nat → Nat → Nat} {S : sp_St} (h : mdl I A S) (hS : sp_Sok S) {n word : Nat} (hn : n ≤ 4) (hword : word < 2 ^ 31) : gx_Ct M_Mo_input 7 0 0 [.ref m, .int (nI n), .int (nI word)] (gx_mo w m I A) (moQ w m (nI (op_input S n word).1) (op_input S n word).2 0) := by
  refine gx_ct (L := [some (.ref m), some (.int (nI n)), some (.int (nI word)), none, none]) (by decide) (Nat.le_of_ble_eq_true rfl) rfl ?_
  refine gx_aload_n d_Mo_input_0 rfl ?_
  refine gx_iload_n d_Mo_input_1 rfl ?_
  refine gx_if_ltN (by omega) (tgt := 14) d_Mo_input_2 (by decide) ?_
  refine gx_iload_n d_Mo_input_5 rfl ?_
  refine gx_iconst d_Mo_input_6 (nI 4) (by decide) ?_
  refine gx_icmp_gtN (by omega) (by omega) (tgt := 14) d_Mo_input_7 (by decide) (fun h7 => ?_) (fun h7 => ?_)
  · exact absurd h7 (by omega)
  · refine gx_iload_n d_Mo_input_10 rfl ?_
    refine gx_if_geN (by omega) (tgt := 18) d_Mo_input_11 (by decide) ?_
    refine gx_iconst d_Mo_input_18 (nI 0) (by decide) ?_
    refine gx_put fp_Mo_90 (fun h => by cases h) d_Mo_input_19 mo_o rfl rfl (Nat.le_of_ble_eq_true rfl) ?_
    refine gx_w mo_p0 ?_
    refine gx_aload_n d_Mo_input_22 rfl ?_
    refine gx_get fl_Mo_90 d_Mo_input_23 mo_o rfl ?_
    rw [ui_s]
    refine gx_if_leN (by omega) (tgt := 31) d_Mo_input_26 (by decide) (fun h26 => ?_) (fun h26 => ?_)
    · refine gx_iload_n d_Mo_input_31 rfl ?_
      refine gx_istore_n d_Mo_input_32 (Nat.le_of_ble_eq_true rfl) rfl ?_
      refine gx_iload_n d_Mo_input_33 rfl ?_
      refine gx_iconst d_Mo_input_34 (nI 1) (by decide) ?_
      refine gx_isub d_Mo_input_35 ?_
      refine gx_istore d_Mo_input_36 (Nat.le_of_ble_eq_true rfl) rfl ?_
      refine gx_L (L' := [some (.ref m), some (.int (nI n)), some (.int (nI word)), some (.int (nI (word / 3 ^ (n - n)))), some (.int (nI n - nI 1))]) (by rw [Nat.sub_self, Nat.pow_zero, Nat.div_one]; rfl) ?_
      exact lm_input h.t hS hn hword ui_s (n + 1) n A (by omega) (Nat.le_refl _) (fun _ _ => rfl) (fun i h1 h2 => by omega)
    · exact absurd h26 (by decide)
