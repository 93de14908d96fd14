/-! the reference: the way -/
def sp_pd (u : List Nat) (a b c : Nat) : Prop := u.getD 0 0 = a ∧ u.getD 1 0 = b ∧ u.getD 2 0 = c
/-- number D is the first from 5 on whose upper half is a, b, c -/
def sp_fst (ds : List (List Nat × List Nat)) (a b c D : Nat) : Prop := 5 ≤ D ∧ D < ds.length ∧ sp_pd (ds.getD D ([], [])).1 a b c ∧ ∀ d, 5 ≤ d → d < D → ¬ sp_pd (ds.getD d ([], [])).1 a b c
theorem sp_fst_no {ds : List (List Nat × List Nat)} {a b c D d f : Nat} (h : sp_fst ds a b c D) (hf : d + 1 < D → f = D) (hn : ¬ sp_pd (ds.getD (d + 1) ([], [])).1 a b c) : d < D → f = D := fun g => by
  rcases Nat.lt_or_ge (d + 1) D with e | e
  · exact hf e
  · have e2 : d + 1 = D := by omega
    rw [e2] at hn
    exact absurd h.2.2.1 hn
theorem sp_fst_yes {ds : List (List Nat × List Nat)} {a b c D d : Nat} (h : sp_fst ds a b c D) (h5 : 5 ≤ d + 1) (he : sp_pd (ds.getD (d + 1) ([], [])).1 a b c) : d < D → d + 1 = D := fun g => by
  rcases Nat.lt_or_ge (d + 1) D with e | e
  · exact absurd he (h.2.2.2 _ h5 e)
  · omega
theorem d_Mo_find_0 : decode prog_11_method_25_code 0 = .ok (.iconst (-1), 1) := by decide +kernel
theorem d_Mo_find_1 : decode prog_11_method_25_code 1 = .ok (.istore 4, 2) := by decide +kernel
theorem d_Mo_find_3 : decode prog_11_method_25_code 3 = .ok (.aload_n 0, 1) := by decide +kernel
theorem d_Mo_find_4 : decode prog_11_method_25_code 4 = .ok (.getfield 139, 3) := by decide +kernel
theorem d_Mo_find_7 : decode prog_11_method_25_code 7 = .ok (.iconst 1, 1) := by decide +kernel
theorem d_Mo_find_8 : decode prog_11_method_25_code 8 = .ok (.isub, 1) := by decide +kernel
theorem d_Mo_find_9 : decode prog_11_method_25_code 9 = .ok (.istore 5, 2) := by decide +kernel
theorem d_Mo_find_11 : decode prog_11_method_25_code 11 = .ok (.iload 5, 2) := by decide +kernel
theorem d_Mo_find_13 : decode prog_11_method_25_code 13 = .ok (.iconst 4, 1) := by decide +kernel
theorem d_Mo_find_14 : decode prog_11_method_25_code 14 = .ok (.if_icmp .le 103, 3) := by decide +kernel
theorem d_Mo_find_17 : decode prog_11_method_25_code 17 = .ok (.iconst 4, 1) := by decide +kernel
theorem d_Mo_find_18 : decode prog_11_method_25_code 18 = .ok (.iload 5, 2) := by decide +kernel
theorem d_Mo_find_20 : decode prog_11_method_25_code 20 = .ok (.imul, 1) := by decide +kernel
theorem d_Mo_find_21 : decode prog_11_method_25_code 21 = .ok (.istore 6, 2) := by decide +kernel
theorem d_Mo_find_23 : decode prog_11_method_25_code 23 = .ok (.aload_n 0, 1) := by decide +kernel
theorem d_Mo_find_24 : decode prog_11_method_25_code 24 = .ok (.getfield 35, 3) := by decide +kernel
theorem d_Mo_find_27 : decode prog_11_method_25_code 27 = .ok (.iload 6, 2) := by decide +kernel
theorem d_Mo_find_29 : decode prog_11_method_25_code 29 = .ok (.iaload, 1) := by decide +kernel
theorem d_Mo_find_30 : decode prog_11_method_25_code 30 = .ok (.iload_n 1, 1) := by decide +kernel
theorem d_Mo_find_31 : decode prog_11_method_25_code 31 = .ok (.if_icmp .ne 63, 3) := by decide +kernel
theorem d_Mo_find_34 : decode prog_11_method_25_code 34 = .ok (.aload_n 0, 1) := by decide +kernel
theorem d_Mo_find_35 : decode prog_11_method_25_code 35 = .ok (.getfield 32, 3) := by decide +kernel
theorem d_Mo_find_38 : decode prog_11_method_25_code 38 = .ok (.iload 5, 2) := by decide +kernel
theorem d_Mo_find_40 : decode prog_11_method_25_code 40 = .ok (.iaload, 1) := by decide +kernel
theorem d_Mo_find_41 : decode prog_11_method_25_code 41 = .ok (.iconst 1, 1) := by decide +kernel
theorem d_Mo_find_42 : decode prog_11_method_25_code 42 = .ok (.if_icmp .le 15, 3) := by decide +kernel
theorem d_Mo_find_45 : decode prog_11_method_25_code 45 = .ok (.aload_n 0, 1) := by decide +kernel
theorem d_Mo_find_46 : decode prog_11_method_25_code 46 = .ok (.getfield 35, 3) := by decide +kernel
theorem d_Mo_find_49 : decode prog_11_method_25_code 49 = .ok (.iload 6, 2) := by decide +kernel
theorem d_Mo_find_51 : decode prog_11_method_25_code 51 = .ok (.iconst 1, 1) := by decide +kernel
theorem d_Mo_find_52 : decode prog_11_method_25_code 52 = .ok (.iadd, 1) := by decide +kernel
theorem d_Mo_find_53 : decode prog_11_method_25_code 53 = .ok (.iaload, 1) := by decide +kernel
theorem d_Mo_find_54 : decode prog_11_method_25_code 54 = .ok (.goto 4, 3) := by decide +kernel
theorem d_Mo_find_57 : decode prog_11_method_25_code 57 = .ok (.iconst 0, 1) := by decide +kernel
theorem d_Mo_find_58 : decode prog_11_method_25_code 58 = .ok (.iload_n 2, 1) := by decide +kernel
theorem d_Mo_find_59 : decode prog_11_method_25_code 59 = .ok (.if_icmp .ne 35, 3) := by decide +kernel
theorem d_Mo_find_62 : decode prog_11_method_25_code 62 = .ok (.aload_n 0, 1) := by decide +kernel
theorem d_Mo_find_63 : decode prog_11_method_25_code 63 = .ok (.getfield 32, 3) := by decide +kernel
theorem d_Mo_find_66 : decode prog_11_method_25_code 66 = .ok (.iload 5, 2) := by decide +kernel
theorem d_Mo_find_68 : decode prog_11_method_25_code 68 = .ok (.iaload, 1) := by decide +kernel
theorem d_Mo_find_69 : decode prog_11_method_25_code 69 = .ok (.iconst 2, 1) := by decide +kernel
theorem d_Mo_find_70 : decode prog_11_method_25_code 70 = .ok (.if_icmp .le 15, 3) := by decide +kernel
theorem d_Mo_find_73 : decode prog_11_method_25_code 73 = .ok (.aload_n 0, 1) := by decide +kernel
theorem d_Mo_find_74 : decode prog_11_method_25_code 74 = .ok (.getfield 35, 3) := by decide +kernel
theorem d_Mo_find_77 : decode prog_11_method_25_code 77 = .ok (.iload 6, 2) := by decide +kernel
theorem d_Mo_find_79 : decode prog_11_method_25_code 79 = .ok (.iconst 2, 1) := by decide +kernel
theorem d_Mo_find_80 : decode prog_11_method_25_code 80 = .ok (.iadd, 1) := by decide +kernel
theorem d_Mo_find_81 : decode prog_11_method_25_code 81 = .ok (.iaload, 1) := by decide +kernel
theorem d_Mo_find_82 : decode prog_11_method_25_code 82 = .ok (.goto 4, 3) := by decide +kernel
theorem d_Mo_find_85 : decode prog_11_method_25_code 85 = .ok (.iconst 0, 1) := by decide +kernel
theorem d_Mo_find_86 : decode prog_11_method_25_code 86 = .ok (.iload_n 3, 1) := by decide +kernel
theorem d_Mo_find_87 : decode prog_11_method_25_code 87 = .ok (.if_icmp .ne 7, 3) := by decide +kernel
theorem d_Mo_find_90 : decode prog_11_method_25_code 90 = .ok (.iconst 1, 1) := by decide +kernel
theorem d_Mo_find_91 : decode prog_11_method_25_code 91 = .ok (.goto 4, 3) := by decide +kernel
theorem d_Mo_find_94 : decode prog_11_method_25_code 94 = .ok (.iconst 0, 1) := by decide +kernel
theorem d_Mo_find_95 : decode prog_11_method_25_code 95 = .ok (.istore 7, 2) := by decide +kernel
theorem d_Mo_find_97 : decode prog_11_method_25_code 97 = .ok (.iload 7, 2) := by decide +kernel
theorem d_Mo_find_99 : decode prog_11_method_25_code 99 = .ok (.ifCond .eq 8, 3) := by decide +kernel
theorem d_Mo_find_102 : decode prog_11_method_25_code 102 = .ok (.iload 5, 2) := by decide +kernel
theorem d_Mo_find_104 : decode prog_11_method_25_code 104 = .ok (.goto 5, 3) := by decide +kernel
theorem d_Mo_find_107 : decode prog_11_method_25_code 107 = .ok (.iload 4, 2) := by decide +kernel
theorem d_Mo_find_109 : decode prog_11_method_25_code 109 = .ok (.istore 4, 2) := by decide +kernel
theorem d_Mo_find_111 : decode prog_11_method_25_code 111 = .ok (.iinc 5 (-1), 3) := by decide +kernel
theorem d_Mo_find_114 : decode prog_11_method_25_code 114 = .ok (.goto (-103), 3) := by decide +kernel
theorem d_Mo_find_117 : decode prog_11_method_25_code 117 = .ok (.iload 4, 2) := by decide +kernel
theorem d_Mo_find_119 : decode prog_11_method_25_code 119 = .ok (.ireturn, 1) := by decide +kernel
theorem gx_dmem {ds : List (List Nat × List Nat)} {d : Nat} (h : d < ds.length) : ds.getD d ([], []) ∈ ds := by
  rw [List.getD_eq_getElem?_getD, List.getElem?_eq_getElem h]; exact List.getElem_mem h
theorem lm_find {w : gx_W} {m : Nat} {I : Nat → Nat} {A : Nat → Nat → Nat} {ds : List (List Nat × List Nat)} {a b c D : Nat} (hI : I 3 = ds.length) (hds : moDs A ds) (hd : ds.length ≤ 60) (hk : ∀ p ∈ ds, sp_dk p) (ha : a < 65536) (hb : b < 65536) (hc : c < 65536) (hD : sp_fst ds a b c D) : ∀ (fu : Nat) (d f : Nat) (L6 L7 : Option Value), d < fu → 4 ≤ d → d < ds.length → (d < D → f = D) → gx_X (fun _ _ => True) M_Mo_find 1 (gx_nt (gx_eq (some (.int (nI D))) (gx_mo w m I A))) 11 [some (.ref m), some (.int (nI a)), some (.int (nI b)), some (.int (nI c)), some (.int (nI f)), some (.int (nI d)), L6, L7] [] (gx_mo w m I A) (0, 0) := by
  intro fu
  induction fu with
  | zero => intro d f L6 L7 hfu; exact absurd hfu (Nat.not_lt_zero _)
  | succ fu ih =>
    intro d f L6 L7 hfu h4 hdn hf
    refine gx_iload d_Mo_find_11 rfl ?_
    refine gx_iconst d_Mo_find_13 (nI 4) (by decide) ?_
    refine gx_icmp_leN (by omega) (by omega) (tgt := 117) d_Mo_find_14 (by decide) (fun h14 => ?_) (fun h14 => ?_)
    · refine gx_iload d_Mo_find_117 rfl ?_
      refine gx_ireturn rfl d_Mo_find_119 ?_
      rw [hf (by have := hD.1; omega)]
      exact ⟨rfl, rfl⟩
    · obtain ⟨d2, rfl⟩ : ∃ d2, d = d2 + 1 := ⟨d - 1, by omega⟩
      obtain ⟨⟨a1, _⟩, ⟨a2, _⟩, a3, _⟩ := hds (d2 + 1) hdn
      obtain ⟨_, ⟨a4, _⟩, _, _, a5⟩ := hk _ (gx_dmem hdn)
      have a6 := gx_sm_at a4 0
      have a7 := gx_sm_at a4 1
      have a8 := gx_sm_at a4 2
      have z1 : (ds.getD (d2 + 1) ([], [])).1.length ≤ 1 → (ds.getD (d2 + 1) ([], [])).1.getD 1 0 = 0 := gx_gd_ge
      have z2 : (ds.getD (d2 + 1) ([], [])).1.length ≤ 2 → (ds.getD (d2 + 1) ([], [])).1.getD 2 0 = 0 := gx_gd_ge
      refine gx_iconst d_Mo_find_17 (nI 4) (by decide) ?_
      refine gx_iload d_Mo_find_18 rfl ?_
      refine gx_imulN d_Mo_find_20 ?_
      refine gx_istore d_Mo_find_21 (Nat.le_of_ble_eq_true rfl) rfl ?_
      refine gx_aload_n d_Mo_find_23 rfl ?_
      refine gx_get fl_Mo_35 d_Mo_find_24 mo_o rfl ?_
      refine gx_iload d_Mo_find_27 rfl ?_
      refine gx_iald d_Mo_find_29 mo_9 (by omega) (by omega) ?_
      rw [show A 9 (4 * (d2 + 1)) = A 9 (4 * (d2 + 1) + 0) from rfl, a3 0 a5]
      refine gx_iload_n d_Mo_find_30 rfl ?_
      refine gx_icmp_neN (by omega) (by omega) (tgt := 94) d_Mo_find_31 (by decide) (fun h31 => ?_) (fun h31 => ?_)
      · have hn : ¬ sp_pd (ds.getD (d2 + 1) ([], [])).1 a b c := fun g => by unfold sp_pd at g; omega
        refine gx_iconst d_Mo_find_94 (nI 0) (by decide) ?_
        refine gx_istore d_Mo_find_95 (Nat.le_of_ble_eq_true rfl) rfl ?_
        refine gx_iload d_Mo_find_97 rfl ?_
        refine gx_if_eqN (by omega) (tgt := 107) d_Mo_find_99 (by decide) (fun h99 => ?_) (fun h99 => ?_)
        · refine gx_iload d_Mo_find_107 rfl ?_
          refine gx_istore d_Mo_find_109 (Nat.le_of_ble_eq_true rfl) rfl ?_
          refine gx_iincM d_Mo_find_111 rfl (by decide) (Nat.le_of_ble_eq_true rfl) rfl ?_
          refine gx_goto (tgt := 11) d_Mo_find_114 (by decide) ?_
          exact ih d2 f _ _ (by omega) (by omega) (by omega) (sp_fst_no hD hf hn)
        · exact absurd rfl h99
      · refine gx_aload_n d_Mo_find_34 rfl ?_
        refine gx_get fl_Mo_32 d_Mo_find_35 mo_o rfl ?_
        refine gx_iload d_Mo_find_38 rfl ?_
        refine gx_iald d_Mo_find_40 mo_8 (by omega) (by omega) ?_
        rw [a1]
        refine gx_iconst d_Mo_find_41 (nI 1) (by decide) ?_
        refine gx_icmp_leN (by omega) (by omega) (tgt := 57) d_Mo_find_42 (by decide) (fun h42 => ?_) (fun h42 => ?_)
        · refine gx_iconst d_Mo_find_57 (nI 0) (by decide) ?_
          refine gx_iload_n d_Mo_find_58 rfl ?_
          refine gx_icmp_neN (by omega) (by omega) (tgt := 94) d_Mo_find_59 (by decide) (fun h59 => ?_) (fun h59 => ?_)
          · have hn : ¬ sp_pd (ds.getD (d2 + 1) ([], [])).1 a b c := fun g => by unfold sp_pd at g; omega
            refine gx_iconst d_Mo_find_94 (nI 0) (by decide) ?_
            refine gx_istore d_Mo_find_95 (Nat.le_of_ble_eq_true rfl) rfl ?_
            refine gx_iload d_Mo_find_97 rfl ?_
            refine gx_if_eqN (by omega) (tgt := 107) d_Mo_find_99 (by decide) (fun h99 => ?_) (fun h99 => ?_)
            · refine gx_iload d_Mo_find_107 rfl ?_
              refine gx_istore d_Mo_find_109 (Nat.le_of_ble_eq_true rfl) rfl ?_
              refine gx_iincM d_Mo_find_111 rfl (by decide) (Nat.le_of_ble_eq_true rfl) rfl ?_
              refine gx_goto (tgt := 11) d_Mo_find_114 (by decide) ?_
              exact ih d2 f _ _ (by omega) (by omega) (by omega) (sp_fst_no hD hf hn)
            · exact absurd rfl h99
          · refine gx_aload_n d_Mo_find_62 rfl ?_
            refine gx_get fl_Mo_32 d_Mo_find_63 mo_o rfl ?_
            refine gx_iload d_Mo_find_66 rfl ?_
            refine gx_iald d_Mo_find_68 mo_8 (by omega) (by omega) ?_
            rw [a1]
            refine gx_iconst d_Mo_find_69 (nI 2) (by decide) ?_
            refine gx_icmp_leN (by omega) (by omega) (tgt := 85) d_Mo_find_70 (by decide) (fun h70 => ?_) (fun h70 => ?_)
            · refine gx_iconst d_Mo_find_85 (nI 0) (by decide) ?_
              refine gx_iload_n d_Mo_find_86 rfl ?_
              refine gx_icmp_neN (by omega) (by omega) (tgt := 94) d_Mo_find_87 (by decide) (fun h87 => ?_) (fun h87 => ?_)
              · have hn : ¬ sp_pd (ds.getD (d2 + 1) ([], [])).1 a b c := fun g => by unfold sp_pd at g; omega
                refine gx_iconst d_Mo_find_94 (nI 0) (by decide) ?_
                refine gx_istore d_Mo_find_95 (Nat.le_of_ble_eq_true rfl) rfl ?_
                refine gx_iload d_Mo_find_97 rfl ?_
                refine gx_if_eqN (by omega) (tgt := 107) d_Mo_find_99 (by decide) (fun h99 => ?_) (fun h99 => ?_)
                · refine gx_iload d_Mo_find_107 rfl ?_
                  refine gx_istore d_Mo_find_109 (Nat.le_of_ble_eq_true rfl) rfl ?_
                  refine gx_iincM d_Mo_find_111 rfl (by decide) (Nat.le_of_ble_eq_true rfl) rfl ?_
                  refine gx_goto (tgt := 11) d_Mo_find_114 (by decide) ?_
                  exact ih d2 f _ _ (by omega) (by omega) (by omega) (sp_fst_no hD hf hn)
                · exact absurd rfl h99
              · have hy : sp_pd (ds.getD (d2 + 1) ([], [])).1 a b c := by unfold sp_pd; omega
                refine gx_iconst d_Mo_find_90 (nI 1) (by decide) ?_
                refine gx_goto (tgt := 95) d_Mo_find_91 (by decide) ?_
                refine gx_istore d_Mo_find_95 (Nat.le_of_ble_eq_true rfl) rfl ?_
                refine gx_iload d_Mo_find_97 rfl ?_
                refine gx_if_eqN (by omega) (tgt := 107) d_Mo_find_99 (by decide) (fun h99 => ?_) (fun h99 => ?_)
                · exact absurd h99 (by decide)
                · refine gx_iload d_Mo_find_102 rfl ?_
                  refine gx_goto (tgt := 109) d_Mo_find_104 (by decide) ?_
                  refine gx_istore d_Mo_find_109 (Nat.le_of_ble_eq_true rfl) rfl ?_
                  refine gx_iincM d_Mo_find_111 rfl (by decide) (Nat.le_of_ble_eq_true rfl) rfl ?_
                  refine gx_goto (tgt := 11) d_Mo_find_114 (by decide) ?_
                  exact ih d2 (d2 + 1) _ _ (by omega) (by omega) (by omega) (sp_fst_yes hD (by omega) hy)
            · refine gx_aload_n d_Mo_find_73 rfl ?_
              refine gx_get fl_Mo_35 d_Mo_find_74 mo_o rfl ?_
              refine gx_iload d_Mo_find_77 rfl ?_
              refine gx_iconst d_Mo_find_79 (nI 2) (by decide) ?_
              refine gx_iaddN d_Mo_find_80 ?_
              refine gx_iald d_Mo_find_81 mo_9 (by omega) (by omega) ?_
              rw [a3 2 (by omega)]
              refine gx_goto (tgt := 86) d_Mo_find_82 (by decide) ?_
              refine gx_iload_n d_Mo_find_86 rfl ?_
              refine gx_icmp_neN (by omega) (by omega) (tgt := 94) d_Mo_find_87 (by decide) (fun h87 => ?_) (fun h87 => ?_)
              · have hn : ¬ sp_pd (ds.getD (d2 + 1) ([], [])).1 a b c := fun g => by unfold sp_pd at g; omega
                refine gx_iconst d_Mo_find_94 (nI 0) (by decide) ?_
                refine gx_istore d_Mo_find_95 (Nat.le_of_ble_eq_true rfl) rfl ?_
                refine gx_iload d_Mo_find_97 rfl ?_
                refine gx_if_eqN (by omega) (tgt := 107) d_Mo_find_99 (by decide) (fun h99 => ?_) (fun h99 => ?_)
                · refine gx_iload d_Mo_find_107 rfl ?_
                  refine gx_istore d_Mo_find_109 (Nat.le_of_ble_eq_true rfl) rfl ?_
                  refine gx_iincM d_Mo_find_111 rfl (by decide) (Nat.le_of_ble_eq_true rfl) rfl ?_
                  refine gx_goto (tgt := 11) d_Mo_find_114 (by decide) ?_
                  exact ih d2 f _ _ (by omega) (by omega) (by omega) (sp_fst_no hD hf hn)
                · exact absurd rfl h99
              · have hy : sp_pd (ds.getD (d2 + 1) ([], [])).1 a b c := by unfold sp_pd; omega
                refine gx_iconst d_Mo_find_90 (nI 1) (by decide) ?_
                refine gx_goto (tgt := 95) d_Mo_find_91 (by decide) ?_
                refine gx_istore d_Mo_find_95 (Nat.le_of_ble_eq_true rfl) rfl ?_
                refine gx_iload d_Mo_find_97 rfl ?_
                refine gx_if_eqN (by omega) (tgt := 107) d_Mo_find_99 (by decide) (fun h99 => ?_) (fun h99 => ?_)
                · exact absurd h99 (by decide)
                · refine gx_iload d_Mo_find_102 rfl ?_
                  refine gx_goto (tgt := 109) d_Mo_find_104 (by decide) ?_
                  refine gx_istore d_Mo_find_109 (Nat.le_of_ble_eq_true rfl) rfl ?_
                  refine gx_iincM d_Mo_find_111 rfl (by decide) (Nat.le_of_ble_eq_true rfl) rfl ?_
                  refine gx_goto (tgt := 11) d_Mo_find_114 (by decide) ?_
                  exact ih d2 (d2 + 1) _ _ (by omega) (by omega) (by omega) (sp_fst_yes hD (by omega) hy)
        · refine gx_aload_n d_Mo_find_45 rfl ?_
          refine gx_get fl_Mo_35 d_Mo_find_46 mo_o rfl ?_
          refine gx_iload d_Mo_find_49 rfl ?_
          refine gx_iconst d_Mo_find_51 (nI 1) (by decide) ?_
          refine gx_iaddN d_Mo_find_52 ?_
          refine gx_iald d_Mo_find_53 mo_9 (by omega) (by omega) ?_
          rw [a3 1 (by omega)]
          refine gx_goto (tgt := 58) d_Mo_find_54 (by decide) ?_
          refine gx_iload_n d_Mo_find_58 rfl ?_
          refine gx_icmp_neN (by omega) (by omega) (tgt := 94) d_Mo_find_59 (by decide) (fun h59 => ?_) (fun h59 => ?_)
          · have hn : ¬ sp_pd (ds.getD (d2 + 1) ([], [])).1 a b c := fun g => by unfold sp_pd at g; omega
            refine gx_iconst d_Mo_find_94 (nI 0) (by decide) ?_
            refine gx_istore d_Mo_find_95 (Nat.le_of_ble_eq_true rfl) rfl ?_
            refine gx_iload d_Mo_find_97 rfl ?_
            refine gx_if_eqN (by omega) (tgt := 107) d_Mo_find_99 (by decide) (fun h99 => ?_) (fun h99 => ?_)
            · refine gx_iload d_Mo_find_107 rfl ?_
              refine gx_istore d_Mo_find_109 (Nat.le_of_ble_eq_true rfl) rfl ?_
              refine gx_iincM d_Mo_find_111 rfl (by decide) (Nat.le_of_ble_eq_true rfl) rfl ?_
              refine gx_goto (tgt := 11) d_Mo_find_114 (by decide) ?_
              exact ih d2 f _ _ (by omega) (by omega) (by omega) (sp_fst_no hD hf hn)
            · exact absurd rfl h99
          · refine gx_aload_n d_Mo_find_62 rfl ?_
            refine gx_get fl_Mo_32 d_Mo_find_63 mo_o rfl ?_
            refine gx_iload d_Mo_find_66 rfl ?_
            refine gx_iald d_Mo_find_68 mo_8 (by omega) (by omega) ?_
            rw [a1]
            refine gx_iconst d_Mo_find_69 (nI 2) (by decide) ?_
            refine gx_icmp_leN (by omega) (by omega) (tgt := 85) d_Mo_find_70 (by decide) (fun h70 => ?_) (fun h70 => ?_)
            · refine gx_iconst d_Mo_find_85 (nI 0) (by decide) ?_
              refine gx_iload_n d_Mo_find_86 rfl ?_
              refine gx_icmp_neN (by omega) (by omega) (tgt := 94) d_Mo_find_87 (by decide) (fun h87 => ?_) (fun h87 => ?_)
              · have hn : ¬ sp_pd (ds.getD (d2 + 1) ([], [])).1 a b c := fun g => by unfold sp_pd at g; omega
                refine gx_iconst d_Mo_find_94 (nI 0) (by decide) ?_
                refine gx_istore d_Mo_find_95 (Nat.le_of_ble_eq_true rfl) rfl ?_
                refine gx_iload d_Mo_find_97 rfl ?_
                refine gx_if_eqN (by omega) (tgt := 107) d_Mo_find_99 (by decide) (fun h99 => ?_) (fun h99 => ?_)
                · refine gx_iload d_Mo_find_107 rfl ?_
                  refine gx_istore d_Mo_find_109 (Nat.le_of_ble_eq_true rfl) rfl ?_
                  refine gx_iincM d_Mo_find_111 rfl (by decide) (Nat.le_of_ble_eq_true rfl) rfl ?_
                  refine gx_goto (tgt := 11) d_Mo_find_114 (by decide) ?_
                  exact ih d2 f _ _ (by omega) (by omega) (by omega) (sp_fst_no hD hf hn)
                · exact absurd rfl h99
              · have hy : sp_pd (ds.getD (d2 + 1) ([], [])).1 a b c := by unfold sp_pd; omega
                refine gx_iconst d_Mo_find_90 (nI 1) (by decide) ?_
                refine gx_goto (tgt := 95) d_Mo_find_91 (by decide) ?_
                refine gx_istore d_Mo_find_95 (Nat.le_of_ble_eq_true rfl) rfl ?_
                refine gx_iload d_Mo_find_97 rfl ?_
                refine gx_if_eqN (by omega) (tgt := 107) d_Mo_find_99 (by decide) (fun h99 => ?_) (fun h99 => ?_)
                · exact absurd h99 (by decide)
                · refine gx_iload d_Mo_find_102 rfl ?_
                  refine gx_goto (tgt := 109) d_Mo_find_104 (by decide) ?_
                  refine gx_istore d_Mo_find_109 (Nat.le_of_ble_eq_true rfl) rfl ?_
                  refine gx_iincM d_Mo_find_111 rfl (by decide) (Nat.le_of_ble_eq_true rfl) rfl ?_
                  refine gx_goto (tgt := 11) d_Mo_find_114 (by decide) ?_
                  exact ih d2 (d2 + 1) _ _ (by omega) (by omega) (by omega) (sp_fst_yes hD (by omega) hy)
            · refine gx_aload_n d_Mo_find_73 rfl ?_
              refine gx_get fl_Mo_35 d_Mo_find_74 mo_o rfl ?_
              refine gx_iload d_Mo_find_77 rfl ?_
              refine gx_iconst d_Mo_find_79 (nI 2) (by decide) ?_
              refine gx_iaddN d_Mo_find_80 ?_
              refine gx_iald d_Mo_find_81 mo_9 (by omega) (by omega) ?_
              rw [a3 2 (by omega)]
              refine gx_goto (tgt := 86) d_Mo_find_82 (by decide) ?_
              refine gx_iload_n d_Mo_find_86 rfl ?_
              refine gx_icmp_neN (by omega) (by omega) (tgt := 94) d_Mo_find_87 (by decide) (fun h87 => ?_) (fun h87 => ?_)
              · have hn : ¬ sp_pd (ds.getD (d2 + 1) ([], [])).1 a b c := fun g => by unfold sp_pd at g; omega
                refine gx_iconst d_Mo_find_94 (nI 0) (by decide) ?_
                refine gx_istore d_Mo_find_95 (Nat.le_of_ble_eq_true rfl) rfl ?_
                refine gx_iload d_Mo_find_97 rfl ?_
                refine gx_if_eqN (by omega) (tgt := 107) d_Mo_find_99 (by decide) (fun h99 => ?_) (fun h99 => ?_)
                · refine gx_iload d_Mo_find_107 rfl ?_
                  refine gx_istore d_Mo_find_109 (Nat.le_of_ble_eq_true rfl) rfl ?_
                  refine gx_iincM d_Mo_find_111 rfl (by decide) (Nat.le_of_ble_eq_true rfl) rfl ?_
                  refine gx_goto (tgt := 11) d_Mo_find_114 (by decide) ?_
                  exact ih d2 f _ _ (by omega) (by omega) (by omega) (sp_fst_no hD hf hn)
                · exact absurd rfl h99
              · have hy : sp_pd (ds.getD (d2 + 1) ([], [])).1 a b c := by unfold sp_pd; omega
                refine gx_iconst d_Mo_find_90 (nI 1) (by decide) ?_
                refine gx_goto (tgt := 95) d_Mo_find_91 (by decide) ?_
                refine gx_istore d_Mo_find_95 (Nat.le_of_ble_eq_true rfl) rfl ?_
                refine gx_iload d_Mo_find_97 rfl ?_
                refine gx_if_eqN (by omega) (tgt := 107) d_Mo_find_99 (by decide) (fun h99 => ?_) (fun h99 => ?_)
                · exact absurd h99 (by decide)
                · refine gx_iload d_Mo_find_102 rfl ?_
                  refine gx_goto (tgt := 109) d_Mo_find_104 (by decide) ?_
                  refine gx_istore d_Mo_find_109 (Nat.le_of_ble_eq_true rfl) rfl ?_
                  refine gx_iincM d_Mo_find_111 rfl (by decide) (Nat.le_of_ble_eq_true rfl) rfl ?_
                  refine gx_goto (tgt := 11) d_Mo_find_114 (by decide) ?_
                  exact ih d2 (d2 + 1) _ _ (by omega) (by omega) (by omega) (sp_fst_yes hD (by omega) hy)
theorem cm_find {w : gx_W} {m : Nat} {I : Nat → Nat} {A : Nat → Nat → Nat} {ds : List (List Nat × List Nat)} {a b c D : Nat} (hI : I 3 = ds.length) (hds : moDs A ds) (hd : ds.length ≤ 60) (hk : ∀ p ∈ ds, sp_dk p) (ha : a < 65536) (hb : b < 65536) (hc : c < 65536) (hD : sp_fst ds a b c D)  : gx_Ct M_Mo_find 1 0 0 [.ref m, .int (nI a), .int (nI b), .int (nI c)] (gx_mo w m I A) (gx_eq (some (.int (nI D))) (gx_mo w m I A)) := by
  refine gx_ct (L := [some (.ref m), some (.int (nI a)), some (.int (nI b)), some (.int (nI c)), none, none, none, none]) (by decide) (Nat.le_of_ble_eq_true rfl) rfl ?_
  have h5 := hD.1
  have h6 := hD.2.1
  refine gx_iconst d_Mo_find_0 (nI 4294967295) (by decide) ?_
  refine gx_istore d_Mo_find_1 (Nat.le_of_ble_eq_true rfl) rfl ?_
  refine gx_aload_n d_Mo_find_3 rfl ?_
  refine gx_get fl_Mo_139 d_Mo_find_4 mo_o rfl ?_
  rw [hI]
  refine gx_iconst d_Mo_find_7 (nI 1) (by decide) ?_
  refine gx_isubN (by omega) d_Mo_find_8 ?_
  refine gx_istore d_Mo_find_9 (Nat.le_of_ble_eq_true rfl) rfl ?_
  exact lm_find hI hds hd hk ha hb hc hD ds.length (ds.length - 1) 4294967295 _ _ (by omega) (by omega) (by omega) (fun g => by omega)
def moW (I : Nat → Nat) (A : Nat → Nat → Nat) (I' : Nat → Nat) (A' : Nat → Nat → Nat) (p : List Nat) : Prop := I' 4 = p.length ∧ (∀ k, k ≠ 4 → I' k = I k) ∧ (∀ j, j ≠ 12 → A' j = A j) ∧ ∀ i, i < p.length → A' 12 i = p.getD i 0
theorem moW.at {I I' : Nat → Nat} {A A' : Nat → Nat → Nat} {p : List Nat} (h : moW I A I' A' p) {j : Nat} (hj : j ≠ 12) (i : Nat) : A' j i = A j i := congrFun (h.2.2.1 j hj) i
theorem moW.T {I I' : Nat → Nat} {A A' : Nat → Nat → Nat} {p : List Nat} (h : moW I A I' A' p) {k : Nat} {c : sp_C} (hT : moT A k c) : moT A' k c := by
  unfold moT
  rw [h.2.2.1 6 (by decide), h.2.2.1 7 (by decide)]; exact hT
theorem moW.M {I I' : Nat → Nat} {A A' : Nat → Nat → Nat} {p : List Nat} (h : moW I A I' A' p) : moM A' = moM A := by
  unfold moM
  rw [h.2.2.1 1 (by decide), h.2.2.1 2 (by decide), h.2.2.1 3 (by decide), h.2.2.1 4 (by decide)]
theorem moW.D {I I' : Nat → Nat} {A A' : Nat → Nat → Nat} {p : List Nat} (h : moW I A I' A' p) {ds : List (List Nat × List Nat)} (hd : moDs A ds) : moDs A' ds := by
  unfold moDs
  rw [h.2.2.1 8 (by decide), h.2.2.1 9 (by decide), h.2.2.1 10 (by decide), h.2.2.1 11 (by decide)]; exact hd
theorem moW.push {I I' : Nat → Nat} {A A' : Nat → Nat → Nat} {p : List Nat} {x : Nat} (h : moW I A I' A' p) : moW I A (sp_u I' 4 (p.length + 1)) (uA A' 12 p.length x) (p ++ [x]) := by
  obtain ⟨h1, h2, h3, h4⟩ := h
  refine ⟨by rw [ui_s, List.length_append]; rfl, fun k hk => by rw [ui_o hk]; exact h2 k hk, fun j hj => by rw [uA_oj hj]; exact h3 j hj, fun i hi => ?_⟩
  rw [List.length_append, List.length_singleton] at hi
  by_cases e : i = p.length
  · subst e; rw [uA_s, gx_gd_mid]
  · rw [uA_i e, h4 i (by omega), gx_gd_app (by omega)]
theorem sp_cp_app (a b : List Nat) : sp_cp (a ++ b) = sp_cp a ++ sp_cp b := List.map_append ..
theorem sp_cp_len (a : List Nat) : (sp_cp a).length = a.length := List.length_map ..
theorem d_Mo_goOn_0 : decode prog_11_method_24_code 0 = .ok (.aload_n 0, 1) := by decide +kernel
theorem d_Mo_goOn_1 : decode prog_11_method_24_code 1 = .ok (.getfield 44, 3) := by decide +kernel
theorem d_Mo_goOn_4 : decode prog_11_method_24_code 4 = .ok (.aload_n 0, 1) := by decide +kernel
theorem d_Mo_goOn_5 : decode prog_11_method_24_code 5 = .ok (.getfield 119, 3) := by decide +kernel
theorem d_Mo_goOn_8 : decode prog_11_method_24_code 8 = .ok (.iload_n 1, 1) := by decide +kernel
theorem d_Mo_goOn_9 : decode prog_11_method_24_code 9 = .ok (.iastore, 1) := by decide +kernel
theorem d_Mo_goOn_10 : decode prog_11_method_24_code 10 = .ok (.aload_n 0, 1) := by decide +kernel
theorem d_Mo_goOn_11 : decode prog_11_method_24_code 11 = .ok (.dup, 1) := by decide +kernel
theorem d_Mo_goOn_12 : decode prog_11_method_24_code 12 = .ok (.getfield 119, 3) := by decide +kernel
theorem d_Mo_goOn_15 : decode prog_11_method_24_code 15 = .ok (.iconst 1, 1) := by decide +kernel
theorem d_Mo_goOn_16 : decode prog_11_method_24_code 16 = .ok (.iadd, 1) := by decide +kernel
theorem d_Mo_goOn_17 : decode prog_11_method_24_code 17 = .ok (.putfield 119, 3) := by decide +kernel
theorem d_Mo_goOn_20 : decode prog_11_method_24_code 20 = .ok (.return_, 1) := by decide +kernel
theorem cm_goOn {w : gx_W} {m : Nat} {I I' : Nat → Nat} {A A' : Nat → Nat → Nat} {p : List Nat} {x : Nat} (h : moW I A I' A' p) (hl : p.length < 300) : gx_Ct M_Mo_goOn 1 0 0 [.ref m, .int (nI x)] (gx_mo w m I' A') (fun r w' => r = none ∧ ∃ I'' A'', w' = gx_mo w m I'' A'' ∧ moW I A I'' A'' (p ++ [x])) := by
  refine gx_ct (L := [some (.ref m), some (.int (nI x))]) (by decide) (Nat.le_of_ble_eq_true rfl) rfl ?_
  refine gx_aload_n d_Mo_goOn_0 rfl ?_
  refine gx_get fl_Mo_44 d_Mo_goOn_1 mo_o rfl ?_
  refine gx_aload_n d_Mo_goOn_4 rfl ?_
  refine gx_get fl_Mo_119 d_Mo_goOn_5 mo_o rfl ?_
  rw [h.1]
  refine gx_iload_n d_Mo_goOn_8 rfl ?_
  refine gx_iast d_Mo_goOn_9 mo_12 (by omega) (by omega) ?_
  refine gx_w mo_s12 ?_
  refine gx_aload_n d_Mo_goOn_10 rfl ?_
  refine gx_dup d_Mo_goOn_11 rfl ?_
  refine gx_get fl_Mo_119 d_Mo_goOn_12 mo_o rfl ?_
  rw [h.1]
  refine gx_iconst d_Mo_goOn_15 (nI 1) (by decide) ?_
  refine gx_iaddN d_Mo_goOn_16 ?_
  refine gx_put fp_Mo_119 (fun h => by cases h) d_Mo_goOn_17 mo_o rfl rfl (Nat.le_of_ble_eq_true rfl) ?_
  refine gx_w mo_p4 ?_
  refine gx_return rfl d_Mo_goOn_20 ?_
  exact ⟨rfl, _, _, rfl, h.push⟩
theorem d_Mo_wayStep_0 : decode prog_11_method_26_code 0 = .ok (.aload_n 0, 1) := by decide +kernel
theorem d_Mo_wayStep_1 : decode prog_11_method_26_code 1 = .ok (.iload_n 1, 1) := by decide +kernel
theorem d_Mo_wayStep_2 : decode prog_11_method_26_code 2 = .ok (.invokevirtual 101, 3) := by decide +kernel
theorem d_Mo_wayStep_5 : decode prog_11_method_26_code 5 = .ok (.istore_n 2, 1) := by decide +kernel
theorem d_Mo_wayStep_6 : decode prog_11_method_26_code 6 = .ok (.aload_n 0, 1) := by decide +kernel
theorem d_Mo_wayStep_7 : decode prog_11_method_26_code 7 = .ok (.iload_n 1, 1) := by decide +kernel
theorem d_Mo_wayStep_8 : decode prog_11_method_26_code 8 = .ok (.invokevirtual 97, 3) := by decide +kernel
theorem d_Mo_wayStep_11 : decode prog_11_method_26_code 11 = .ok (.istore_n 3, 1) := by decide +kernel
theorem d_Mo_wayStep_12 : decode prog_11_method_26_code 12 = .ok (.bipush 12, 2) := by decide +kernel
theorem d_Mo_wayStep_14 : decode prog_11_method_26_code 14 = .ok (.iload_n 1, 1) := by decide +kernel
theorem d_Mo_wayStep_15 : decode prog_11_method_26_code 15 = .ok (.imul, 1) := by decide +kernel
theorem d_Mo_wayStep_16 : decode prog_11_method_26_code 16 = .ok (.istore 4, 2) := by decide +kernel
theorem d_Mo_wayStep_18 : decode prog_11_method_26_code 18 = .ok (.iload_n 3, 1) := by decide +kernel
theorem d_Mo_wayStep_19 : decode prog_11_method_26_code 19 = .ok (.iconst 1, 1) := by decide +kernel
theorem d_Mo_wayStep_20 : decode prog_11_method_26_code 20 = .ok (.iadd, 1) := by decide +kernel
theorem d_Mo_wayStep_21 : decode prog_11_method_26_code 21 = .ok (.aload_n 0, 1) := by decide +kernel
theorem d_Mo_wayStep_22 : decode prog_11_method_26_code 22 = .ok (.getfield 26, 3) := by decide +kernel
theorem d_Mo_wayStep_25 : decode prog_11_method_26_code 25 = .ok (.iload_n 1, 1) := by decide +kernel
theorem d_Mo_wayStep_26 : decode prog_11_method_26_code 26 = .ok (.iaload, 1) := by decide +kernel
theorem d_Mo_wayStep_27 : decode prog_11_method_26_code 27 = .ok (.if_icmp .ge 7, 3) := by decide +kernel
theorem d_Mo_wayStep_30 : decode prog_11_method_26_code 30 = .ok (.iconst 1, 1) := by decide +kernel
theorem d_Mo_wayStep_31 : decode prog_11_method_26_code 31 = .ok (.goto 4, 3) := by decide +kernel
theorem d_Mo_wayStep_34 : decode prog_11_method_26_code 34 = .ok (.iconst 0, 1) := by decide +kernel
theorem d_Mo_wayStep_35 : decode prog_11_method_26_code 35 = .ok (.istore 5, 2) := by decide +kernel
theorem d_Mo_wayStep_37 : decode prog_11_method_26_code 37 = .ok (.iload 5, 2) := by decide +kernel
theorem d_Mo_wayStep_39 : decode prog_11_method_26_code 39 = .ok (.ifCond .eq 17, 3) := by decide +kernel
theorem d_Mo_wayStep_42 : decode prog_11_method_26_code 42 = .ok (.aload_n 0, 1) := by decide +kernel
theorem d_Mo_wayStep_43 : decode prog_11_method_26_code 43 = .ok (.getfield 29, 3) := by decide +kernel
theorem d_Mo_wayStep_46 : decode prog_11_method_26_code 46 = .ok (.iload 4, 2) := by decide +kernel
theorem d_Mo_wayStep_48 : decode prog_11_method_26_code 48 = .ok (.iload_n 3, 1) := by decide +kernel
theorem d_Mo_wayStep_49 : decode prog_11_method_26_code 49 = .ok (.iadd, 1) := by decide +kernel
theorem d_Mo_wayStep_50 : decode prog_11_method_26_code 50 = .ok (.iconst 1, 1) := by decide +kernel
theorem d_Mo_wayStep_51 : decode prog_11_method_26_code 51 = .ok (.iadd, 1) := by decide +kernel
theorem d_Mo_wayStep_52 : decode prog_11_method_26_code 52 = .ok (.iaload, 1) := by decide +kernel
theorem d_Mo_wayStep_53 : decode prog_11_method_26_code 53 = .ok (.goto 5, 3) := by decide +kernel
theorem d_Mo_wayStep_56 : decode prog_11_method_26_code 56 = .ok (.bipush 35, 2) := by decide +kernel
theorem d_Mo_wayStep_58 : decode prog_11_method_26_code 58 = .ok (.istore 6, 2) := by decide +kernel
theorem d_Mo_wayStep_60 : decode prog_11_method_26_code 60 = .ok (.aload_n 0, 1) := by decide +kernel
theorem d_Mo_wayStep_61 : decode prog_11_method_26_code 61 = .ok (.getfield 17, 3) := by decide +kernel
theorem d_Mo_wayStep_64 : decode prog_11_method_26_code 64 = .ok (.iload_n 2, 1) := by decide +kernel
theorem d_Mo_wayStep_65 : decode prog_11_method_26_code 65 = .ok (.baload, 1) := by decide +kernel
theorem d_Mo_wayStep_66 : decode prog_11_method_26_code 66 = .ok (.ifCond .eq 7, 3) := by decide +kernel
theorem d_Mo_wayStep_69 : decode prog_11_method_26_code 69 = .ok (.iload_n 3, 1) := by decide +kernel
theorem d_Mo_wayStep_70 : decode prog_11_method_26_code 70 = .ok (.goto 6, 3) := by decide +kernel
theorem d_Mo_wayStep_73 : decode prog_11_method_26_code 73 = .ok (.iload_n 3, 1) := by decide +kernel
theorem d_Mo_wayStep_74 : decode prog_11_method_26_code 74 = .ok (.iconst 1, 1) := by decide +kernel
theorem d_Mo_wayStep_75 : decode prog_11_method_26_code 75 = .ok (.isub, 1) := by decide +kernel
theorem d_Mo_wayStep_76 : decode prog_11_method_26_code 76 = .ok (.istore 7, 2) := by decide +kernel
theorem d_Mo_wayStep_78 : decode prog_11_method_26_code 78 = .ok (.iconst 0, 1) := by decide +kernel
theorem d_Mo_wayStep_79 : decode prog_11_method_26_code 79 = .ok (.istore 8, 2) := by decide +kernel
theorem d_Mo_wayStep_81 : decode prog_11_method_26_code 81 = .ok (.iload 8, 2) := by decide +kernel
theorem d_Mo_wayStep_83 : decode prog_11_method_26_code 83 = .ok (.iload 7, 2) := by decide +kernel
theorem d_Mo_wayStep_85 : decode prog_11_method_26_code 85 = .ok (.if_icmp .ge 28, 3) := by decide +kernel
theorem d_Mo_wayStep_88 : decode prog_11_method_26_code 88 = .ok (.aload_n 0, 1) := by decide +kernel
theorem d_Mo_wayStep_89 : decode prog_11_method_26_code 89 = .ok (.iconst 2, 1) := by decide +kernel
theorem d_Mo_wayStep_90 : decode prog_11_method_26_code 90 = .ok (.aload_n 0, 1) := by decide +kernel
theorem d_Mo_wayStep_91 : decode prog_11_method_26_code 91 = .ok (.getfield 29, 3) := by decide +kernel
theorem d_Mo_wayStep_94 : decode prog_11_method_26_code 94 = .ok (.iload 4, 2) := by decide +kernel
theorem d_Mo_wayStep_96 : decode prog_11_method_26_code 96 = .ok (.iload 8, 2) := by decide +kernel
theorem d_Mo_wayStep_98 : decode prog_11_method_26_code 98 = .ok (.iadd, 1) := by decide +kernel
theorem d_Mo_wayStep_99 : decode prog_11_method_26_code 99 = .ok (.iaload, 1) := by decide +kernel
theorem d_Mo_wayStep_100 : decode prog_11_method_26_code 100 = .ok (.iadd, 1) := by decide +kernel
theorem d_Mo_wayStep_101 : decode prog_11_method_26_code 101 = .ok (.bipush 48, 2) := by decide +kernel
theorem d_Mo_wayStep_103 : decode prog_11_method_26_code 103 = .ok (.isub, 1) := by decide +kernel
theorem d_Mo_wayStep_104 : decode prog_11_method_26_code 104 = .ok (.invokevirtual 157, 3) := by decide +kernel
theorem d_Mo_wayStep_107 : decode prog_11_method_26_code 107 = .ok (.iinc 8 1, 3) := by decide +kernel
theorem d_Mo_wayStep_110 : decode prog_11_method_26_code 110 = .ok (.goto (-29), 3) := by decide +kernel
theorem d_Mo_wayStep_113 : decode prog_11_method_26_code 113 = .ok (.aload_n 0, 1) := by decide +kernel
theorem d_Mo_wayStep_114 : decode prog_11_method_26_code 114 = .ok (.aload_n 0, 1) := by decide +kernel
theorem d_Mo_wayStep_115 : decode prog_11_method_26_code 115 = .ok (.getfield 17, 3) := by decide +kernel
theorem d_Mo_wayStep_118 : decode prog_11_method_26_code 118 = .ok (.iload_n 2, 1) := by decide +kernel
theorem d_Mo_wayStep_119 : decode prog_11_method_26_code 119 = .ok (.baload, 1) := by decide +kernel
theorem d_Mo_wayStep_120 : decode prog_11_method_26_code 120 = .ok (.ifCond .eq 22, 3) := by decide +kernel
theorem d_Mo_wayStep_123 : decode prog_11_method_26_code 123 = .ok (.aload_n 0, 1) := by decide +kernel
theorem d_Mo_wayStep_124 : decode prog_11_method_26_code 124 = .ok (.aload_n 0, 1) := by decide +kernel
theorem d_Mo_wayStep_125 : decode prog_11_method_26_code 125 = .ok (.getfield 29, 3) := by decide +kernel
theorem d_Mo_wayStep_128 : decode prog_11_method_26_code 128 = .ok (.iload 4, 2) := by decide +kernel
theorem d_Mo_wayStep_130 : decode prog_11_method_26_code 130 = .ok (.iload_n 3, 1) := by decide +kernel
theorem d_Mo_wayStep_131 : decode prog_11_method_26_code 131 = .ok (.iadd, 1) := by decide +kernel
theorem d_Mo_wayStep_132 : decode prog_11_method_26_code 132 = .ok (.iaload, 1) := by decide +kernel
theorem d_Mo_wayStep_133 : decode prog_11_method_26_code 133 = .ok (.iload 6, 2) := by decide +kernel
theorem d_Mo_wayStep_135 : decode prog_11_method_26_code 135 = .ok (.iconst 0, 1) := by decide +kernel
theorem d_Mo_wayStep_136 : decode prog_11_method_26_code 136 = .ok (.invokevirtual 160, 3) := by decide +kernel
theorem d_Mo_wayStep_139 : decode prog_11_method_26_code 139 = .ok (.goto 29, 3) := by decide +kernel
theorem d_Mo_wayStep_142 : decode prog_11_method_26_code 142 = .ok (.aload_n 0, 1) := by decide +kernel
theorem d_Mo_wayStep_143 : decode prog_11_method_26_code 143 = .ok (.aload_n 0, 1) := by decide +kernel
theorem d_Mo_wayStep_144 : decode prog_11_method_26_code 144 = .ok (.getfield 29, 3) := by decide +kernel
theorem d_Mo_wayStep_147 : decode prog_11_method_26_code 147 = .ok (.iload 4, 2) := by decide +kernel
theorem d_Mo_wayStep_149 : decode prog_11_method_26_code 149 = .ok (.iload_n 3, 1) := by decide +kernel
theorem d_Mo_wayStep_150 : decode prog_11_method_26_code 150 = .ok (.iadd, 1) := by decide +kernel
theorem d_Mo_wayStep_151 : decode prog_11_method_26_code 151 = .ok (.iconst 1, 1) := by decide +kernel
theorem d_Mo_wayStep_152 : decode prog_11_method_26_code 152 = .ok (.isub, 1) := by decide +kernel
theorem d_Mo_wayStep_153 : decode prog_11_method_26_code 153 = .ok (.iaload, 1) := by decide +kernel
theorem d_Mo_wayStep_154 : decode prog_11_method_26_code 154 = .ok (.aload_n 0, 1) := by decide +kernel
theorem d_Mo_wayStep_155 : decode prog_11_method_26_code 155 = .ok (.getfield 29, 3) := by decide +kernel
theorem d_Mo_wayStep_158 : decode prog_11_method_26_code 158 = .ok (.iload 4, 2) := by decide +kernel
theorem d_Mo_wayStep_160 : decode prog_11_method_26_code 160 = .ok (.iload_n 3, 1) := by decide +kernel
theorem d_Mo_wayStep_161 : decode prog_11_method_26_code 161 = .ok (.iadd, 1) := by decide +kernel
theorem d_Mo_wayStep_162 : decode prog_11_method_26_code 162 = .ok (.iaload, 1) := by decide +kernel
theorem d_Mo_wayStep_163 : decode prog_11_method_26_code 163 = .ok (.iload 6, 2) := by decide +kernel
theorem d_Mo_wayStep_165 : decode prog_11_method_26_code 165 = .ok (.invokevirtual 160, 3) := by decide +kernel
theorem d_Mo_wayStep_168 : decode prog_11_method_26_code 168 = .ok (.invokevirtual 157, 3) := by decide +kernel
theorem d_Mo_wayStep_171 : decode prog_11_method_26_code 171 = .ok (.iload_n 3, 1) := by decide +kernel
theorem d_Mo_wayStep_172 : decode prog_11_method_26_code 172 = .ok (.iconst 2, 1) := by decide +kernel
theorem d_Mo_wayStep_173 : decode prog_11_method_26_code 173 = .ok (.iadd, 1) := by decide +kernel
theorem d_Mo_wayStep_174 : decode prog_11_method_26_code 174 = .ok (.istore 8, 2) := by decide +kernel
theorem d_Mo_wayStep_176 : decode prog_11_method_26_code 176 = .ok (.iload 8, 2) := by decide +kernel
theorem d_Mo_wayStep_178 : decode prog_11_method_26_code 178 = .ok (.aload_n 0, 1) := by decide +kernel
theorem d_Mo_wayStep_179 : decode prog_11_method_26_code 179 = .ok (.getfield 26, 3) := by decide +kernel
theorem d_Mo_wayStep_182 : decode prog_11_method_26_code 182 = .ok (.iload_n 1, 1) := by decide +kernel
theorem d_Mo_wayStep_183 : decode prog_11_method_26_code 183 = .ok (.iaload, 1) := by decide +kernel
theorem d_Mo_wayStep_184 : decode prog_11_method_26_code 184 = .ok (.if_icmp .ge 28, 3) := by decide +kernel
theorem d_Mo_wayStep_187 : decode prog_11_method_26_code 187 = .ok (.aload_n 0, 1) := by decide +kernel
theorem d_Mo_wayStep_188 : decode prog_11_method_26_code 188 = .ok (.iconst 2, 1) := by decide +kernel
theorem d_Mo_wayStep_189 : decode prog_11_method_26_code 189 = .ok (.aload_n 0, 1) := by decide +kernel
theorem d_Mo_wayStep_190 : decode prog_11_method_26_code 190 = .ok (.getfield 29, 3) := by decide +kernel
theorem d_Mo_wayStep_193 : decode prog_11_method_26_code 193 = .ok (.iload 4, 2) := by decide +kernel
theorem d_Mo_wayStep_195 : decode prog_11_method_26_code 195 = .ok (.iload 8, 2) := by decide +kernel
theorem d_Mo_wayStep_197 : decode prog_11_method_26_code 197 = .ok (.iadd, 1) := by decide +kernel
theorem d_Mo_wayStep_198 : decode prog_11_method_26_code 198 = .ok (.iaload, 1) := by decide +kernel
theorem d_Mo_wayStep_199 : decode prog_11_method_26_code 199 = .ok (.iadd, 1) := by decide +kernel
theorem d_Mo_wayStep_200 : decode prog_11_method_26_code 200 = .ok (.bipush 48, 2) := by decide +kernel
theorem d_Mo_wayStep_202 : decode prog_11_method_26_code 202 = .ok (.isub, 1) := by decide +kernel
theorem d_Mo_wayStep_203 : decode prog_11_method_26_code 203 = .ok (.invokevirtual 157, 3) := by decide +kernel
theorem d_Mo_wayStep_206 : decode prog_11_method_26_code 206 = .ok (.iinc 8 1, 3) := by decide +kernel
theorem d_Mo_wayStep_209 : decode prog_11_method_26_code 209 = .ok (.goto (-33), 3) := by decide +kernel
theorem d_Mo_wayStep_212 : decode prog_11_method_26_code 212 = .ok (.iload 5, 2) := by decide +kernel
theorem d_Mo_wayStep_214 : decode prog_11_method_26_code 214 = .ok (.ifCond .eq 8, 3) := by decide +kernel
theorem d_Mo_wayStep_217 : decode prog_11_method_26_code 217 = .ok (.aload_n 0, 1) := by decide +kernel
theorem d_Mo_wayStep_218 : decode prog_11_method_26_code 218 = .ok (.iconst 1, 1) := by decide +kernel
theorem d_Mo_wayStep_219 : decode prog_11_method_26_code 219 = .ok (.invokevirtual 157, 3) := by decide +kernel
theorem d_Mo_wayStep_222 : decode prog_11_method_26_code 222 = .ok (.return_, 1) := by decide +kernel
theorem lm_ws1 {Q : gx_P} {w : gx_W} {m : Nat} {I : Nat → Nat} {A : Nat → Nat → Nat} {k r th beh kp : Nat} {c : sp_C} (hk : k ≤ 13) (hc : sp_ok c) (hl : sp_len c ≤ 10) (hT : moT A k c) {p0 : List Nat} (hcut : kp ≤ c.1.length)  : ∀ (fu : Nat) (i : Nat) (p : List Nat) (I' : Nat → Nat) (A' : Nat → Nat → Nat), kp - i < fu → (i ≤ kp) → (p = p0 ++ sp_cp (c.1.take i)) → (p0.length + kp < 300) → (moW I A I' A' p) → (∀ I'' A'', moW I A I'' A'' (p0 ++ sp_cp (c.1.take kp)) → gx_X (fun _ _ => True) M_Mo_wayStep 4 Q 113 [some (.ref m), some (.int (nI k)), some (.int (nI r)), some (.int (nI c.1.length)), some (.int (nI (12 * k))), some (.int (nI th)), some (.int (nI beh)), some (.int (nI kp)), some (.int (nI kp))] [] (gx_mo w m I'' A'') (0, 0)) → gx_X (fun _ _ => True) M_Mo_wayStep 4 Q 81 [some (.ref m), some (.int (nI k)), some (.int (nI r)), some (.int (nI c.1.length)), some (.int (nI (12 * k))), some (.int (nI th)), some (.int (nI beh)), some (.int (nI kp)), some (.int (nI i))] [] (gx_mo w m I' A') (0, 0) := by
  intro fu
  induction fu with
  | zero => intro i p I' A' hfu; exact absurd hfu (Nat.not_lt_zero _)
  | succ fu ih =>
    intro i p I' A' hfu hi hp hb hW hX
    have hlen : sp_len c = c.1.length + 1 + c.2.2.length := rfl
    have hsz := sp_txt_len c
    have hpl : p.length = p0.length + i := by rw [hp, List.length_append, sp_cp_len, List.length_take]; omega
    refine gx_iload d_Mo_wayStep_81 rfl ?_
    refine gx_iload d_Mo_wayStep_83 rfl ?_
    refine gx_icmp_geN (by omega) (by omega) (tgt := 113) d_Mo_wayStep_85 (by decide) (fun h85 => ?_) (fun h85 => ?_)
    · rw [hp, show i = kp by omega] at hW
      rw [show i = kp by omega]
      exact hX _ _ hW
    · refine gx_aload_n d_Mo_wayStep_88 rfl ?_
      refine gx_iconst d_Mo_wayStep_89 (nI 2) (by decide) ?_
      refine gx_aload_n d_Mo_wayStep_90 rfl ?_
      refine gx_get fl_Mo_29 d_Mo_wayStep_91 mo_o rfl ?_
      refine gx_iload d_Mo_wayStep_94 rfl ?_
      refine gx_iload d_Mo_wayStep_96 rfl ?_
      refine gx_iaddN d_Mo_wayStep_98 ?_
      refine gx_iald d_Mo_wayStep_99 mo_7 (by omega) (by omega) ?_
      rw [hW.at (j := 7) (by decide), hT.2 i (by omega), sp_txt_lo (by omega)]
      refine gx_iaddN d_Mo_wayStep_100 ?_
      refine gx_bipush d_Mo_wayStep_101 (nI 48) (by decide) ?_
      refine gx_isubN (by omega) d_Mo_wayStep_103 ?_
      refine gx_top (congrArg nI (show 2 + (48 + c.1.getD i 0) - 48 = 2 + c.1.getD i 0 by omega)) ?_
      refine gx_cVr lk_Mo_157 d_Mo_wayStep_104 (cm_goOn hW (by omega)) (Or.inl ⟨_, mo_o⟩) (by omega) rfl rfl (Nat.le_of_ble_eq_true rfl) (fun r2 w2 hq => ?_)
      obtain ⟨rfl, I1, A1, rfl, hW1⟩ := hq
      refine gx_iincN (n := 1) d_Mo_wayStep_107 rfl (by decide) (Nat.le_of_ble_eq_true rfl) rfl ?_
      refine gx_goto (tgt := 81) d_Mo_wayStep_110 (by decide) ?_
      refine ih (i + 1) _ _ _ (by omega) (by omega) ?_ hb hW1 hX
      rw [hp, gx_take_succ (by omega), sp_cp_app, List.append_assoc]; rfl
theorem lm_ws2 {Q : gx_P} {w : gx_W} {m : Nat} {I : Nat → Nat} {A : Nat → Nat → Nat} {k r th beh kp : Nat} {c : sp_C} (hk : k ≤ 13) (hc : sp_ok c) (hl : sp_len c ≤ 10) (hT : moT A k c)  : ∀ (fu : Nat) (t : Nat) (p : List Nat) (I' : Nat → Nat) (A' : Nat → Nat → Nat), c.2.2.length + 1 - t < fu → (p.length + c.2.2.length < 300 + t) → (t ≤ c.2.2.length + 1) → (moW I A I' A' p) → (∀ I'' A'' L9, moW I A I'' A'' (p ++ sp_cp (c.2.2.drop t)) → gx_X (fun _ _ => True) M_Mo_wayStep 4 Q 212 [some (.ref m), some (.int (nI k)), some (.int (nI r)), some (.int (nI c.1.length)), some (.int (nI (12 * k))), some (.int (nI th)), some (.int (nI beh)), some (.int (nI kp)), L9] [] (gx_mo w m I'' A'') (0, 0)) → gx_X (fun _ _ => True) M_Mo_wayStep 4 Q 176 [some (.ref m), some (.int (nI k)), some (.int (nI r)), some (.int (nI c.1.length)), some (.int (nI (12 * k))), some (.int (nI th)), some (.int (nI beh)), some (.int (nI kp)), some (.int (nI (c.1.length + 1 + t)))] [] (gx_mo w m I' A') (0, 0) := by
  intro fu
  induction fu with
  | zero => intro t p I' A' hfu; exact absurd hfu (Nat.not_lt_zero _)
  | succ fu ih =>
    intro t p I' A' hfu hb ht hW hX
    have hlen : sp_len c = c.1.length + 1 + c.2.2.length := rfl
    have hsz := sp_txt_len c
    refine gx_iload d_Mo_wayStep_176 rfl ?_
    refine gx_aload_n d_Mo_wayStep_178 rfl ?_
    refine gx_get fl_Mo_26 d_Mo_wayStep_179 mo_o rfl ?_
    refine gx_iload_n d_Mo_wayStep_182 rfl ?_
    refine gx_iald d_Mo_wayStep_183 mo_6 (by omega) (by omega) ?_
    rw [hW.at (j := 6) (by decide), hT.1]
    refine gx_icmp_geN (by omega) (by omega) (tgt := 212) d_Mo_wayStep_184 (by decide) (fun h184 => ?_) (fun h184 => ?_)
    · rw [List.drop_eq_nil_of_le (by omega), show sp_cp [] = [] from rfl, List.append_nil] at hX
      exact hX _ _ _ hW
    · refine gx_aload_n d_Mo_wayStep_187 rfl ?_
      refine gx_iconst d_Mo_wayStep_188 (nI 2) (by decide) ?_
      refine gx_aload_n d_Mo_wayStep_189 rfl ?_
      refine gx_get fl_Mo_29 d_Mo_wayStep_190 mo_o rfl ?_
      refine gx_iload d_Mo_wayStep_193 rfl ?_
      refine gx_iload d_Mo_wayStep_195 rfl ?_
      refine gx_iaddN d_Mo_wayStep_197 ?_
      refine gx_iald d_Mo_wayStep_198 mo_7 (by omega) (by omega) ?_
      rw [hW.at (j := 7) (by decide), hT.2 _ (by omega), sp_txt_hi (by omega)]
      refine gx_iaddN d_Mo_wayStep_199 ?_
      refine gx_bipush d_Mo_wayStep_200 (nI 48) (by decide) ?_
      refine gx_isubN (by omega) d_Mo_wayStep_202 ?_
      refine gx_top (congrArg nI (show 2 + (48 + c.2.2.getD t 0) - 48 = 2 + c.2.2.getD t 0 by omega)) ?_
      refine gx_cVr lk_Mo_157 d_Mo_wayStep_203 (cm_goOn hW (by omega)) (Or.inl ⟨_, mo_o⟩) (by omega) rfl rfl (Nat.le_of_ble_eq_true rfl) (fun r2 w2 hq => ?_)
      obtain ⟨rfl, I1, A1, rfl, hW1⟩ := hq
      refine gx_iincN (n := 1) d_Mo_wayStep_206 rfl (by decide) (Nat.le_of_ble_eq_true rfl) rfl ?_
      refine gx_goto (tgt := 176) d_Mo_wayStep_209 (by decide) ?_
      refine ih (t + 1) _ _ _ (by omega) (by rw [List.length_append, List.length_singleton]; omega) (by omega) hW1 ?_
      rw [gx_drop_cons (show t < c.2.2.length by omega)] at hX
      rw [List.append_assoc]
      exact hX
theorem cm_ws_rt {w : gx_W} {m : Nat} {I I' : Nat → Nat} {A A' : Nat → Nat → Nat} {p : List Nat} {ds : List (List Nat × List Nat)} {k r D : Nat} {c : sp_C} (hk : k ≤ 13) (hc : sp_ok c) (hl : sp_len c ≤ 10) (hT : moT A k c) (hM : sp_Mok (moM A)) (hI : I 3 = ds.length) (hds : moDs A ds) (hd : ds.length ≤ 60) (hdk : ∀ p ∈ ds, sp_dk p) (hW : moW I A I' A' p) (hp : p.length + 12 ≤ 300) (hrl : sp_rl (moM A) c = some r) (hrt : sp_rt (moM A) r = 1) (hth : ¬ c.2.2.length = 0) (hD : sp_fst ds (sp_let c.2.1) (48 + c.2.2.getD 0 0) 0 D) : gx_Ct M_Mo_wayStep 4 0 0 [.ref m, .int (nI k)] (gx_mo w m I' A') (fun r w' => r = none ∧ ∃ I'' A'', w' = gx_mo w m I'' A'' ∧ moW I A I'' A'' (p ++ sp_cp (c.1.take c.1.length) ++ [D] ++ sp_cp (c.2.2.drop 1) ++ [1])) := by
  refine gx_ct (L := [some (.ref m), some (.int (nI k)), none, none, none, none, none, none, none]) (by decide) (Nat.le_of_ble_eq_true rfl) rfl ?_
  have hlen : sp_len c = c.1.length + 1 + c.2.2.length := rfl
  have hsz := sp_txt_len c
  have hT' := hW.T hT
  have hM' : sp_Mok (moM A') := by rw [hW.M]; exact hM
  obtain ⟨hr12, hre, hq3, hkn⟩ := sp_rl_lt hrl hc
  have e3 : A 3 r = 1 := hrt
  have hg0 := sp_gd_lt hc.2.2 0
  have hg1 := sp_gd_lt hc.1 (c.1.length - 1)
  have hl1 := sp_let_lt (show c.2.1 ≤ 4 by omega)
  refine gx_aload_n d_Mo_wayStep_0 rfl ?_
  refine gx_iload_n d_Mo_wayStep_1 rfl ?_
  refine gx_cV1 lk_Mo_101 d_Mo_wayStep_2 (cm_ruleOf hk hc (by omega) hT' hM') (Or.inl ⟨_, mo_o⟩) (by omega) rfl rfl (Nat.le_of_ble_eq_true rfl) ?_
  refine gx_top (show sp_ri (moM A') c = nI r by rw [hW.M]; exact sp_ri_so hrl) ?_
  refine gx_istore_n d_Mo_wayStep_5 (Nat.le_of_ble_eq_true rfl) rfl ?_
  refine gx_aload_n d_Mo_wayStep_6 rfl ?_
  refine gx_iload_n d_Mo_wayStep_7 rfl ?_
  refine gx_cV1 lk_Mo_97 d_Mo_wayStep_8 (cm_head hk hc (by omega) hT') (Or.inl ⟨_, mo_o⟩) (by omega) rfl rfl (Nat.le_of_ble_eq_true rfl) ?_
  refine gx_istore_n d_Mo_wayStep_11 (Nat.le_of_ble_eq_true rfl) rfl ?_
  refine gx_bipush d_Mo_wayStep_12 (nI 12) (by decide) ?_
  refine gx_iload_n d_Mo_wayStep_14 rfl ?_
  refine gx_imulN d_Mo_wayStep_15 ?_
  refine gx_istore d_Mo_wayStep_16 (Nat.le_of_ble_eq_true rfl) rfl ?_
  refine gx_iload_n d_Mo_wayStep_18 rfl ?_
  refine gx_iconst d_Mo_wayStep_19 (nI 1) (by decide) ?_
  refine gx_iaddN d_Mo_wayStep_20 ?_
  refine gx_aload_n d_Mo_wayStep_21 rfl ?_
  refine gx_get fl_Mo_26 d_Mo_wayStep_22 mo_o rfl ?_
  refine gx_iload_n d_Mo_wayStep_25 rfl ?_
  refine gx_iald d_Mo_wayStep_26 mo_6 (by omega) (by omega) ?_
  rw [hT'.1]
  refine gx_icmp_geN (by omega) (by omega) (tgt := 34) d_Mo_wayStep_27 (by decide) (fun h27 => ?_) (fun h27 => ?_)
  · exact absurd h27 (by omega)
  · refine gx_iconst d_Mo_wayStep_30 (nI 1) (by decide) ?_
    refine gx_goto (tgt := 35) d_Mo_wayStep_31 (by decide) ?_
    refine gx_istore d_Mo_wayStep_35 (Nat.le_of_ble_eq_true rfl) rfl ?_
    refine gx_iload d_Mo_wayStep_37 rfl ?_
    refine gx_if_eqN (by omega) (tgt := 56) d_Mo_wayStep_39 (by decide) (fun h39 => ?_) (fun h39 => ?_)
    · exact absurd h39 (by decide)
    · refine gx_aload_n d_Mo_wayStep_42 rfl ?_
      refine gx_get fl_Mo_29 d_Mo_wayStep_43 mo_o rfl ?_
      refine gx_iload d_Mo_wayStep_46 rfl ?_
      refine gx_iload_n d_Mo_wayStep_48 rfl ?_
      refine gx_iaddN d_Mo_wayStep_49 ?_
      refine gx_iconst d_Mo_wayStep_50 (nI 1) (by decide) ?_
      refine gx_iaddN d_Mo_wayStep_51 ?_
      refine gx_iald d_Mo_wayStep_52 mo_7 (by omega) (by omega) ?_
      rw [show 12 * k + c.1.length + 1 = 12 * k + (c.1.length + 1 + 0) by omega, hT'.2 _ (by omega), sp_txt_hi (i := 0) (by omega)]
      refine gx_goto (tgt := 58) d_Mo_wayStep_53 (by decide) ?_
      refine gx_istore d_Mo_wayStep_58 (Nat.le_of_ble_eq_true rfl) rfl ?_
      refine gx_aload_n d_Mo_wayStep_60 rfl ?_
      refine gx_get fl_Mo_17 d_Mo_wayStep_61 mo_o rfl ?_
      refine gx_iload_n d_Mo_wayStep_64 rfl ?_
      refine gx_zald d_Mo_wayStep_65 mo_3 (by omega) (by omega) ?_
      rw [hW.at (j := 3) (by decide), e3]
      refine gx_if_eqN (by omega) (tgt := 73) d_Mo_wayStep_66 (by decide) (fun h66 => ?_) (fun h66 => ?_)
      · exact absurd h66 (by decide)
      · refine gx_iload_n d_Mo_wayStep_69 rfl ?_
        refine gx_goto (tgt := 76) d_Mo_wayStep_70 (by decide) ?_
        refine gx_istore d_Mo_wayStep_76 (Nat.le_of_ble_eq_true rfl) rfl ?_
        refine gx_iconst d_Mo_wayStep_78 (nI 0) (by decide) ?_
        refine gx_istore d_Mo_wayStep_79 (Nat.le_of_ble_eq_true rfl) rfl ?_
        refine lm_ws1 (th := 1) (beh := (48 + c.2.2.getD 0 0)) (r := r) (kp := c.1.length) (p0 := p) hk hc hl hT (by omega) 12 0 _ _ _ (by omega) (Nat.zero_le _) (by rw [List.take_zero]; exact (List.append_nil p).symm) (by omega) hW (fun I1 A1 hW1 => ?_)
        have hT1 := hW1.T hT
        refine gx_aload_n d_Mo_wayStep_113 rfl ?_
        refine gx_aload_n d_Mo_wayStep_114 rfl ?_
        refine gx_get fl_Mo_17 d_Mo_wayStep_115 mo_o rfl ?_
        refine gx_iload_n d_Mo_wayStep_118 rfl ?_
        refine gx_zald d_Mo_wayStep_119 mo_3 (by omega) (by omega) ?_
        rw [hW1.at (j := 3) (by decide), e3]
        refine gx_if_eqN (by omega) (tgt := 142) d_Mo_wayStep_120 (by decide) (fun h120 => ?_) (fun h120 => ?_)
        · exact absurd h120 (by decide)
        · refine gx_aload_n d_Mo_wayStep_123 rfl ?_
          refine gx_aload_n d_Mo_wayStep_124 rfl ?_
          refine gx_get fl_Mo_29 d_Mo_wayStep_125 mo_o rfl ?_
          refine gx_iload d_Mo_wayStep_128 rfl ?_
          refine gx_iload_n d_Mo_wayStep_130 rfl ?_
          refine gx_iaddN d_Mo_wayStep_131 ?_
          refine gx_iald d_Mo_wayStep_132 mo_7 (by omega) (by omega) ?_
          rw [hT1.2 _ (by omega), sp_txt_mid]
          refine gx_iload d_Mo_wayStep_133 rfl ?_
          refine gx_iconst d_Mo_wayStep_135 (nI 0) (by decide) ?_
          refine gx_cV1 lk_Mo_160 d_Mo_wayStep_136 (cm_find ((hW1.2.1 3 (by decide)).trans hI) (hW1.D hds) hd hdk (by omega) (by omega) (by omega) hD) (Or.inl ⟨_, mo_o⟩) (by omega) rfl rfl (Nat.le_of_ble_eq_true rfl) ?_
          refine gx_goto (tgt := 168) d_Mo_wayStep_139 (by decide) ?_
          refine gx_cVr lk_Mo_157 d_Mo_wayStep_168 (cm_goOn hW1 (by simp only [List.length_append, List.length_singleton, sp_cp_len, List.length_take]; omega)) (Or.inl ⟨_, mo_o⟩) (by omega) rfl rfl (Nat.le_of_ble_eq_true rfl) (fun r2 w2 hq => ?_)
          obtain ⟨rfl, I2, A2, rfl, hW2⟩ := hq
          refine gx_iload_n d_Mo_wayStep_171 rfl ?_
          refine gx_iconst d_Mo_wayStep_172 (nI 2) (by decide) ?_
          refine gx_iaddN d_Mo_wayStep_173 ?_
          refine gx_istore d_Mo_wayStep_174 (Nat.le_of_ble_eq_true rfl) rfl ?_
          refine lm_ws2 (th := 1) (beh := (48 + c.2.2.getD 0 0)) (kp := c.1.length) (r := r) hk hc hl hT 12 1 _ _ _ (by omega) (by simp only [List.length_append, List.length_singleton, sp_cp_len, List.length_take]; omega) (by omega) hW2 (fun I3 A3 L9 hW3 => ?_)
          refine gx_iload d_Mo_wayStep_212 rfl ?_
          refine gx_if_eqN (by omega) (tgt := 222) d_Mo_wayStep_214 (by decide) (fun h214 => ?_) (fun h214 => ?_)
          · exact absurd h214 (by decide)
          · refine gx_aload_n d_Mo_wayStep_217 rfl ?_
            refine gx_iconst d_Mo_wayStep_218 (nI 1) (by decide) ?_
            refine gx_cVr lk_Mo_157 d_Mo_wayStep_219 (cm_goOn hW3 (by simp only [List.length_append, List.length_singleton, sp_cp_len, List.length_take, List.length_drop]; omega)) (Or.inl ⟨_, mo_o⟩) (by omega) rfl rfl (Nat.le_of_ble_eq_true rfl) (fun r2 w2 hq => ?_)
            obtain ⟨rfl, I4, A4, rfl, hW4⟩ := hq
            refine gx_return rfl d_Mo_wayStep_222 ?_
            exact ⟨rfl, _, _, rfl, hW4⟩
theorem cm_ws_re {w : gx_W} {m : Nat} {I I' : Nat → Nat} {A A' : Nat → Nat → Nat} {p : List Nat} {ds : List (List Nat × List Nat)} {k r D : Nat} {c : sp_C} (hk : k ≤ 13) (hc : sp_ok c) (hl : sp_len c ≤ 10) (hT : moT A k c) (hM : sp_Mok (moM A)) (hI : I 3 = ds.length) (hds : moDs A ds) (hd : ds.length ≤ 60) (hdk : ∀ p ∈ ds, sp_dk p) (hW : moW I A I' A' p) (hp : p.length + 12 ≤ 300) (hrl : sp_rl (moM A) c = some r) (hrt : sp_rt (moM A) r = 1) (hth : c.2.2.length = 0) (hD : sp_fst ds (sp_let c.2.1) 35 0 D) : gx_Ct M_Mo_wayStep 4 0 0 [.ref m, .int (nI k)] (gx_mo w m I' A') (fun r w' => r = none ∧ ∃ I'' A'', w' = gx_mo w m I'' A'' ∧ moW I A I'' A'' (p ++ sp_cp (c.1.take c.1.length) ++ [D] ++ sp_cp (c.2.2.drop 1))) := by
  refine gx_ct (L := [some (.ref m), some (.int (nI k)), none, none, none, none, none, none, none]) (by decide) (Nat.le_of_ble_eq_true rfl) rfl ?_
  have hlen : sp_len c = c.1.length + 1 + c.2.2.length := rfl
  have hsz := sp_txt_len c
  have hT' := hW.T hT
  have hM' : sp_Mok (moM A') := by rw [hW.M]; exact hM
  obtain ⟨hr12, hre, hq3, hkn⟩ := sp_rl_lt hrl hc
  have e3 : A 3 r = 1 := hrt
  have hg0 := sp_gd_lt hc.2.2 0
  have hg1 := sp_gd_lt hc.1 (c.1.length - 1)
  have hl1 := sp_let_lt (show c.2.1 ≤ 4 by omega)
  refine gx_aload_n d_Mo_wayStep_0 rfl ?_
  refine gx_iload_n d_Mo_wayStep_1 rfl ?_
  refine gx_cV1 lk_Mo_101 d_Mo_wayStep_2 (cm_ruleOf hk hc (by omega) hT' hM') (Or.inl ⟨_, mo_o⟩) (by omega) rfl rfl (Nat.le_of_ble_eq_true rfl) ?_
  refine gx_top (show sp_ri (moM A') c = nI r by rw [hW.M]; exact sp_ri_so hrl) ?_
  refine gx_istore_n d_Mo_wayStep_5 (Nat.le_of_ble_eq_true rfl) rfl ?_
  refine gx_aload_n d_Mo_wayStep_6 rfl ?_
  refine gx_iload_n d_Mo_wayStep_7 rfl ?_
  refine gx_cV1 lk_Mo_97 d_Mo_wayStep_8 (cm_head hk hc (by omega) hT') (Or.inl ⟨_, mo_o⟩) (by omega) rfl rfl (Nat.le_of_ble_eq_true rfl) ?_
  refine gx_istore_n d_Mo_wayStep_11 (Nat.le_of_ble_eq_true rfl) rfl ?_
  refine gx_bipush d_Mo_wayStep_12 (nI 12) (by decide) ?_
  refine gx_iload_n d_Mo_wayStep_14 rfl ?_
  refine gx_imulN d_Mo_wayStep_15 ?_
  refine gx_istore d_Mo_wayStep_16 (Nat.le_of_ble_eq_true rfl) rfl ?_
  refine gx_iload_n d_Mo_wayStep_18 rfl ?_
  refine gx_iconst d_Mo_wayStep_19 (nI 1) (by decide) ?_
  refine gx_iaddN d_Mo_wayStep_20 ?_
  refine gx_aload_n d_Mo_wayStep_21 rfl ?_
  refine gx_get fl_Mo_26 d_Mo_wayStep_22 mo_o rfl ?_
  refine gx_iload_n d_Mo_wayStep_25 rfl ?_
  refine gx_iald d_Mo_wayStep_26 mo_6 (by omega) (by omega) ?_
  rw [hT'.1]
  refine gx_icmp_geN (by omega) (by omega) (tgt := 34) d_Mo_wayStep_27 (by decide) (fun h27 => ?_) (fun h27 => ?_)
  · refine gx_iconst d_Mo_wayStep_34 (nI 0) (by decide) ?_
    refine gx_istore d_Mo_wayStep_35 (Nat.le_of_ble_eq_true rfl) rfl ?_
    refine gx_iload d_Mo_wayStep_37 rfl ?_
    refine gx_if_eqN (by omega) (tgt := 56) d_Mo_wayStep_39 (by decide) (fun h39 => ?_) (fun h39 => ?_)
    · refine gx_bipush d_Mo_wayStep_56 (nI 35) (by decide) ?_
      refine gx_istore d_Mo_wayStep_58 (Nat.le_of_ble_eq_true rfl) rfl ?_
      refine gx_aload_n d_Mo_wayStep_60 rfl ?_
      refine gx_get fl_Mo_17 d_Mo_wayStep_61 mo_o rfl ?_
      refine gx_iload_n d_Mo_wayStep_64 rfl ?_
      refine gx_zald d_Mo_wayStep_65 mo_3 (by omega) (by omega) ?_
      rw [hW.at (j := 3) (by decide), e3]
      refine gx_if_eqN (by omega) (tgt := 73) d_Mo_wayStep_66 (by decide) (fun h66 => ?_) (fun h66 => ?_)
      · exact absurd h66 (by decide)
      · refine gx_iload_n d_Mo_wayStep_69 rfl ?_
        refine gx_goto (tgt := 76) d_Mo_wayStep_70 (by decide) ?_
        refine gx_istore d_Mo_wayStep_76 (Nat.le_of_ble_eq_true rfl) rfl ?_
        refine gx_iconst d_Mo_wayStep_78 (nI 0) (by decide) ?_
        refine gx_istore d_Mo_wayStep_79 (Nat.le_of_ble_eq_true rfl) rfl ?_
        refine lm_ws1 (th := 0) (beh := 35) (r := r) (kp := c.1.length) (p0 := p) hk hc hl hT (by omega) 12 0 _ _ _ (by omega) (Nat.zero_le _) (by rw [List.take_zero]; exact (List.append_nil p).symm) (by omega) hW (fun I1 A1 hW1 => ?_)
        have hT1 := hW1.T hT
        refine gx_aload_n d_Mo_wayStep_113 rfl ?_
        refine gx_aload_n d_Mo_wayStep_114 rfl ?_
        refine gx_get fl_Mo_17 d_Mo_wayStep_115 mo_o rfl ?_
        refine gx_iload_n d_Mo_wayStep_118 rfl ?_
        refine gx_zald d_Mo_wayStep_119 mo_3 (by omega) (by omega) ?_
        rw [hW1.at (j := 3) (by decide), e3]
        refine gx_if_eqN (by omega) (tgt := 142) d_Mo_wayStep_120 (by decide) (fun h120 => ?_) (fun h120 => ?_)
        · exact absurd h120 (by decide)
        · refine gx_aload_n d_Mo_wayStep_123 rfl ?_
          refine gx_aload_n d_Mo_wayStep_124 rfl ?_
          refine gx_get fl_Mo_29 d_Mo_wayStep_125 mo_o rfl ?_
          refine gx_iload d_Mo_wayStep_128 rfl ?_
          refine gx_iload_n d_Mo_wayStep_130 rfl ?_
          refine gx_iaddN d_Mo_wayStep_131 ?_
          refine gx_iald d_Mo_wayStep_132 mo_7 (by omega) (by omega) ?_
          rw [hT1.2 _ (by omega), sp_txt_mid]
          refine gx_iload d_Mo_wayStep_133 rfl ?_
          refine gx_iconst d_Mo_wayStep_135 (nI 0) (by decide) ?_
          refine gx_cV1 lk_Mo_160 d_Mo_wayStep_136 (cm_find ((hW1.2.1 3 (by decide)).trans hI) (hW1.D hds) hd hdk (by omega) (by omega) (by omega) hD) (Or.inl ⟨_, mo_o⟩) (by omega) rfl rfl (Nat.le_of_ble_eq_true rfl) ?_
          refine gx_goto (tgt := 168) d_Mo_wayStep_139 (by decide) ?_
          refine gx_cVr lk_Mo_157 d_Mo_wayStep_168 (cm_goOn hW1 (by simp only [List.length_append, List.length_singleton, sp_cp_len, List.length_take]; omega)) (Or.inl ⟨_, mo_o⟩) (by omega) rfl rfl (Nat.le_of_ble_eq_true rfl) (fun r2 w2 hq => ?_)
          obtain ⟨rfl, I2, A2, rfl, hW2⟩ := hq
          refine gx_iload_n d_Mo_wayStep_171 rfl ?_
          refine gx_iconst d_Mo_wayStep_172 (nI 2) (by decide) ?_
          refine gx_iaddN d_Mo_wayStep_173 ?_
          refine gx_istore d_Mo_wayStep_174 (Nat.le_of_ble_eq_true rfl) rfl ?_
          refine lm_ws2 (th := 0) (beh := 35) (kp := c.1.length) (r := r) hk hc hl hT 12 1 _ _ _ (by omega) (by simp only [List.length_append, List.length_singleton, sp_cp_len, List.length_take]; omega) (by omega) hW2 (fun I3 A3 L9 hW3 => ?_)
          refine gx_iload d_Mo_wayStep_212 rfl ?_
          refine gx_if_eqN (by omega) (tgt := 222) d_Mo_wayStep_214 (by decide) (fun h214 => ?_) (fun h214 => ?_)
          · refine gx_return rfl d_Mo_wayStep_222 ?_
            exact ⟨rfl, _, _, rfl, hW3⟩
          · exact absurd rfl h214
    · exact absurd rfl h39
  · exact absurd h27 (by omega)
theorem cm_ws_lt {w : gx_W} {m : Nat} {I I' : Nat → Nat} {A A' : Nat → Nat → Nat} {p : List Nat} {ds : List (List Nat × List Nat)} {k r D : Nat} {c : sp_C} (hk : k ≤ 13) (hc : sp_ok c) (hl : sp_len c ≤ 10) (hT : moT A k c) (hM : sp_Mok (moM A)) (hI : I 3 = ds.length) (hds : moDs A ds) (hd : ds.length ≤ 60) (hdk : ∀ p ∈ ds, sp_dk p) (hW : moW I A I' A' p) (hp : p.length + 12 ≤ 300) (hrl : sp_rl (moM A) c = some r) (hrt : sp_rt (moM A) r = 0) (hne : ¬ c.1.length = 0) (hth : ¬ c.2.2.length = 0) (hD : sp_fst ds (48 + c.1.getD (c.1.length - 1) 0) (sp_let c.2.1) (48 + c.2.2.getD 0 0) D) : gx_Ct M_Mo_wayStep 4 0 0 [.ref m, .int (nI k)] (gx_mo w m I' A') (fun r w' => r = none ∧ ∃ I'' A'', w' = gx_mo w m I'' A'' ∧ moW I A I'' A'' (p ++ sp_cp (c.1.take (c.1.length - 1)) ++ [D] ++ sp_cp (c.2.2.drop 1) ++ [1])) := by
  refine gx_ct (L := [some (.ref m), some (.int (nI k)), none, none, none, none, none, none, none]) (by decide) (Nat.le_of_ble_eq_true rfl) rfl ?_
  have hlen : sp_len c = c.1.length + 1 + c.2.2.length := rfl
  have hsz := sp_txt_len c
  have hT' := hW.T hT
  have hM' : sp_Mok (moM A') := by rw [hW.M]; exact hM
  obtain ⟨hr12, hre, hq3, hkn⟩ := sp_rl_lt hrl hc
  have e3 : A 3 r = 0 := hrt
  have hg0 := sp_gd_lt hc.2.2 0
  have hg1 := sp_gd_lt hc.1 (c.1.length - 1)
  have hl1 := sp_let_lt (show c.2.1 ≤ 4 by omega)
  refine gx_aload_n d_Mo_wayStep_0 rfl ?_
  refine gx_iload_n d_Mo_wayStep_1 rfl ?_
  refine gx_cV1 lk_Mo_101 d_Mo_wayStep_2 (cm_ruleOf hk hc (by omega) hT' hM') (Or.inl ⟨_, mo_o⟩) (by omega) rfl rfl (Nat.le_of_ble_eq_true rfl) ?_
  refine gx_top (show sp_ri (moM A') c = nI r by rw [hW.M]; exact sp_ri_so hrl) ?_
  refine gx_istore_n d_Mo_wayStep_5 (Nat.le_of_ble_eq_true rfl) rfl ?_
  refine gx_aload_n d_Mo_wayStep_6 rfl ?_
  refine gx_iload_n d_Mo_wayStep_7 rfl ?_
  refine gx_cV1 lk_Mo_97 d_Mo_wayStep_8 (cm_head hk hc (by omega) hT') (Or.inl ⟨_, mo_o⟩) (by omega) rfl rfl (Nat.le_of_ble_eq_true rfl) ?_
  refine gx_istore_n d_Mo_wayStep_11 (Nat.le_of_ble_eq_true rfl) rfl ?_
  refine gx_bipush d_Mo_wayStep_12 (nI 12) (by decide) ?_
  refine gx_iload_n d_Mo_wayStep_14 rfl ?_
  refine gx_imulN d_Mo_wayStep_15 ?_
  refine gx_istore d_Mo_wayStep_16 (Nat.le_of_ble_eq_true rfl) rfl ?_
  refine gx_iload_n d_Mo_wayStep_18 rfl ?_
  refine gx_iconst d_Mo_wayStep_19 (nI 1) (by decide) ?_
  refine gx_iaddN d_Mo_wayStep_20 ?_
  refine gx_aload_n d_Mo_wayStep_21 rfl ?_
  refine gx_get fl_Mo_26 d_Mo_wayStep_22 mo_o rfl ?_
  refine gx_iload_n d_Mo_wayStep_25 rfl ?_
  refine gx_iald d_Mo_wayStep_26 mo_6 (by omega) (by omega) ?_
  rw [hT'.1]
  refine gx_icmp_geN (by omega) (by omega) (tgt := 34) d_Mo_wayStep_27 (by decide) (fun h27 => ?_) (fun h27 => ?_)
  · exact absurd h27 (by omega)
  · refine gx_iconst d_Mo_wayStep_30 (nI 1) (by decide) ?_
    refine gx_goto (tgt := 35) d_Mo_wayStep_31 (by decide) ?_
    refine gx_istore d_Mo_wayStep_35 (Nat.le_of_ble_eq_true rfl) rfl ?_
    refine gx_iload d_Mo_wayStep_37 rfl ?_
    refine gx_if_eqN (by omega) (tgt := 56) d_Mo_wayStep_39 (by decide) (fun h39 => ?_) (fun h39 => ?_)
    · exact absurd h39 (by decide)
    · refine gx_aload_n d_Mo_wayStep_42 rfl ?_
      refine gx_get fl_Mo_29 d_Mo_wayStep_43 mo_o rfl ?_
      refine gx_iload d_Mo_wayStep_46 rfl ?_
      refine gx_iload_n d_Mo_wayStep_48 rfl ?_
      refine gx_iaddN d_Mo_wayStep_49 ?_
      refine gx_iconst d_Mo_wayStep_50 (nI 1) (by decide) ?_
      refine gx_iaddN d_Mo_wayStep_51 ?_
      refine gx_iald d_Mo_wayStep_52 mo_7 (by omega) (by omega) ?_
      rw [show 12 * k + c.1.length + 1 = 12 * k + (c.1.length + 1 + 0) by omega, hT'.2 _ (by omega), sp_txt_hi (i := 0) (by omega)]
      refine gx_goto (tgt := 58) d_Mo_wayStep_53 (by decide) ?_
      refine gx_istore d_Mo_wayStep_58 (Nat.le_of_ble_eq_true rfl) rfl ?_
      refine gx_aload_n d_Mo_wayStep_60 rfl ?_
      refine gx_get fl_Mo_17 d_Mo_wayStep_61 mo_o rfl ?_
      refine gx_iload_n d_Mo_wayStep_64 rfl ?_
      refine gx_zald d_Mo_wayStep_65 mo_3 (by omega) (by omega) ?_
      rw [hW.at (j := 3) (by decide), e3]
      refine gx_if_eqN (by omega) (tgt := 73) d_Mo_wayStep_66 (by decide) (fun h66 => ?_) (fun h66 => ?_)
      · refine gx_iload_n d_Mo_wayStep_73 rfl ?_
        refine gx_iconst d_Mo_wayStep_74 (nI 1) (by decide) ?_
        refine gx_isubN (by omega) d_Mo_wayStep_75 ?_
        refine gx_istore d_Mo_wayStep_76 (Nat.le_of_ble_eq_true rfl) rfl ?_
        refine gx_iconst d_Mo_wayStep_78 (nI 0) (by decide) ?_
        refine gx_istore d_Mo_wayStep_79 (Nat.le_of_ble_eq_true rfl) rfl ?_
        refine lm_ws1 (th := 1) (beh := (48 + c.2.2.getD 0 0)) (r := r) (kp := (c.1.length - 1)) (p0 := p) hk hc hl hT (by omega) 12 0 _ _ _ (by omega) (Nat.zero_le _) (by rw [List.take_zero]; exact (List.append_nil p).symm) (by omega) hW (fun I1 A1 hW1 => ?_)
        have hT1 := hW1.T hT
        refine gx_aload_n d_Mo_wayStep_113 rfl ?_
        refine gx_aload_n d_Mo_wayStep_114 rfl ?_
        refine gx_get fl_Mo_17 d_Mo_wayStep_115 mo_o rfl ?_
        refine gx_iload_n d_Mo_wayStep_118 rfl ?_
        refine gx_zald d_Mo_wayStep_119 mo_3 (by omega) (by omega) ?_
        rw [hW1.at (j := 3) (by decide), e3]
        refine gx_if_eqN (by omega) (tgt := 142) d_Mo_wayStep_120 (by decide) (fun h120 => ?_) (fun h120 => ?_)
        · refine gx_aload_n d_Mo_wayStep_142 rfl ?_
          refine gx_aload_n d_Mo_wayStep_143 rfl ?_
          refine gx_get fl_Mo_29 d_Mo_wayStep_144 mo_o rfl ?_
          refine gx_iload d_Mo_wayStep_147 rfl ?_
          refine gx_iload_n d_Mo_wayStep_149 rfl ?_
          refine gx_iaddN d_Mo_wayStep_150 ?_
          refine gx_iconst d_Mo_wayStep_151 (nI 1) (by decide) ?_
          refine gx_isubN (by omega) d_Mo_wayStep_152 ?_
          refine gx_iald d_Mo_wayStep_153 mo_7 (by omega) (by omega) ?_
          rw [show 12 * k + c.1.length - 1 = 12 * k + (c.1.length - 1) by omega, hT1.2 _ (by omega), sp_txt_lo (by omega)]
          refine gx_aload_n d_Mo_wayStep_154 rfl ?_
          refine gx_get fl_Mo_29 d_Mo_wayStep_155 mo_o rfl ?_
          refine gx_iload d_Mo_wayStep_158 rfl ?_
          refine gx_iload_n d_Mo_wayStep_160 rfl ?_
          refine gx_iaddN d_Mo_wayStep_161 ?_
          refine gx_iald d_Mo_wayStep_162 mo_7 (by omega) (by omega) ?_
          rw [hT1.2 _ (by omega), sp_txt_mid]
          refine gx_iload d_Mo_wayStep_163 rfl ?_
          refine gx_cV1 lk_Mo_160 d_Mo_wayStep_165 (cm_find ((hW1.2.1 3 (by decide)).trans hI) (hW1.D hds) hd hdk (by omega) (by omega) (by omega) hD) (Or.inl ⟨_, mo_o⟩) (by omega) rfl rfl (Nat.le_of_ble_eq_true rfl) ?_
          refine gx_cVr lk_Mo_157 d_Mo_wayStep_168 (cm_goOn hW1 (by simp only [List.length_append, List.length_singleton, sp_cp_len, List.length_take]; omega)) (Or.inl ⟨_, mo_o⟩) (by omega) rfl rfl (Nat.le_of_ble_eq_true rfl) (fun r2 w2 hq => ?_)
          obtain ⟨rfl, I2, A2, rfl, hW2⟩ := hq
          refine gx_iload_n d_Mo_wayStep_171 rfl ?_
          refine gx_iconst d_Mo_wayStep_172 (nI 2) (by decide) ?_
          refine gx_iaddN d_Mo_wayStep_173 ?_
          refine gx_istore d_Mo_wayStep_174 (Nat.le_of_ble_eq_true rfl) rfl ?_
          refine lm_ws2 (th := 1) (beh := (48 + c.2.2.getD 0 0)) (kp := (c.1.length - 1)) (r := r) hk hc hl hT 12 1 _ _ _ (by omega) (by simp only [List.length_append, List.length_singleton, sp_cp_len, List.length_take]; omega) (by omega) hW2 (fun I3 A3 L9 hW3 => ?_)
          refine gx_iload d_Mo_wayStep_212 rfl ?_
          refine gx_if_eqN (by omega) (tgt := 222) d_Mo_wayStep_214 (by decide) (fun h214 => ?_) (fun h214 => ?_)
          · exact absurd h214 (by decide)
          · refine gx_aload_n d_Mo_wayStep_217 rfl ?_
            refine gx_iconst d_Mo_wayStep_218 (nI 1) (by decide) ?_
            refine gx_cVr lk_Mo_157 d_Mo_wayStep_219 (cm_goOn hW3 (by simp only [List.length_append, List.length_singleton, sp_cp_len, List.length_take, List.length_drop]; omega)) (Or.inl ⟨_, mo_o⟩) (by omega) rfl rfl (Nat.le_of_ble_eq_true rfl) (fun r2 w2 hq => ?_)
            obtain ⟨rfl, I4, A4, rfl, hW4⟩ := hq
            refine gx_return rfl d_Mo_wayStep_222 ?_
            exact ⟨rfl, _, _, rfl, hW4⟩
        · exact absurd rfl h120
      · exact absurd rfl h66
theorem cm_ws_le {w : gx_W} {m : Nat} {I I' : Nat → Nat} {A A' : Nat → Nat → Nat} {p : List Nat} {ds : List (List Nat × List Nat)} {k r D : Nat} {c : sp_C} (hk : k ≤ 13) (hc : sp_ok c) (hl : sp_len c ≤ 10) (hT : moT A k c) (hM : sp_Mok (moM A)) (hI : I 3 = ds.length) (hds : moDs A ds) (hd : ds.length ≤ 60) (hdk : ∀ p ∈ ds, sp_dk p) (hW : moW I A I' A' p) (hp : p.length + 12 ≤ 300) (hrl : sp_rl (moM A) c = some r) (hrt : sp_rt (moM A) r = 0) (hne : ¬ c.1.length = 0) (hth : c.2.2.length = 0) (hD : sp_fst ds (48 + c.1.getD (c.1.length - 1) 0) (sp_let c.2.1) 35 D) : gx_Ct M_Mo_wayStep 4 0 0 [.ref m, .int (nI k)] (gx_mo w m I' A') (fun r w' => r = none ∧ ∃ I'' A'', w' = gx_mo w m I'' A'' ∧ moW I A I'' A'' (p ++ sp_cp (c.1.take (c.1.length - 1)) ++ [D] ++ sp_cp (c.2.2.drop 1))) := by
  refine gx_ct (L := [some (.ref m), some (.int (nI k)), none, none, none, none, none, none, none]) (by decide) (Nat.le_of_ble_eq_true rfl) rfl ?_
  have hlen : sp_len c = c.1.length + 1 + c.2.2.length := rfl
  have hsz := sp_txt_len c
  have hT' := hW.T hT
  have hM' : sp_Mok (moM A') := by rw [hW.M]; exact hM
  obtain ⟨hr12, hre, hq3, hkn⟩ := sp_rl_lt hrl hc
  have e3 : A 3 r = 0 := hrt
  have hg0 := sp_gd_lt hc.2.2 0
  have hg1 := sp_gd_lt hc.1 (c.1.length - 1)
  have hl1 := sp_let_lt (show c.2.1 ≤ 4 by omega)
  refine gx_aload_n d_Mo_wayStep_0 rfl ?_
  refine gx_iload_n d_Mo_wayStep_1 rfl ?_
  refine gx_cV1 lk_Mo_101 d_Mo_wayStep_2 (cm_ruleOf hk hc (by omega) hT' hM') (Or.inl ⟨_, mo_o⟩) (by omega) rfl rfl (Nat.le_of_ble_eq_true rfl) ?_
  refine gx_top (show sp_ri (moM A') c = nI r by rw [hW.M]; exact sp_ri_so hrl) ?_
  refine gx_istore_n d_Mo_wayStep_5 (Nat.le_of_ble_eq_true rfl) rfl ?_
  refine gx_aload_n d_Mo_wayStep_6 rfl ?_
  refine gx_iload_n d_Mo_wayStep_7 rfl ?_
  refine gx_cV1 lk_Mo_97 d_Mo_wayStep_8 (cm_head hk hc (by omega) hT') (Or.inl ⟨_, mo_o⟩) (by omega) rfl rfl (Nat.le_of_ble_eq_true rfl) ?_
  refine gx_istore_n d_Mo_wayStep_11 (Nat.le_of_ble_eq_true rfl) rfl ?_
  refine gx_bipush d_Mo_wayStep_12 (nI 12) (by decide) ?_
  refine gx_iload_n d_Mo_wayStep_14 rfl ?_
  refine gx_imulN d_Mo_wayStep_15 ?_
  refine gx_istore d_Mo_wayStep_16 (Nat.le_of_ble_eq_true rfl) rfl ?_
  refine gx_iload_n d_Mo_wayStep_18 rfl ?_
  refine gx_iconst d_Mo_wayStep_19 (nI 1) (by decide) ?_
  refine gx_iaddN d_Mo_wayStep_20 ?_
  refine gx_aload_n d_Mo_wayStep_21 rfl ?_
  refine gx_get fl_Mo_26 d_Mo_wayStep_22 mo_o rfl ?_
  refine gx_iload_n d_Mo_wayStep_25 rfl ?_
  refine gx_iald d_Mo_wayStep_26 mo_6 (by omega) (by omega) ?_
  rw [hT'.1]
  refine gx_icmp_geN (by omega) (by omega) (tgt := 34) d_Mo_wayStep_27 (by decide) (fun h27 => ?_) (fun h27 => ?_)
  · refine gx_iconst d_Mo_wayStep_34 (nI 0) (by decide) ?_
    refine gx_istore d_Mo_wayStep_35 (Nat.le_of_ble_eq_true rfl) rfl ?_
    refine gx_iload d_Mo_wayStep_37 rfl ?_
    refine gx_if_eqN (by omega) (tgt := 56) d_Mo_wayStep_39 (by decide) (fun h39 => ?_) (fun h39 => ?_)
    · refine gx_bipush d_Mo_wayStep_56 (nI 35) (by decide) ?_
      refine gx_istore d_Mo_wayStep_58 (Nat.le_of_ble_eq_true rfl) rfl ?_
      refine gx_aload_n d_Mo_wayStep_60 rfl ?_
      refine gx_get fl_Mo_17 d_Mo_wayStep_61 mo_o rfl ?_
      refine gx_iload_n d_Mo_wayStep_64 rfl ?_
      refine gx_zald d_Mo_wayStep_65 mo_3 (by omega) (by omega) ?_
      rw [hW.at (j := 3) (by decide), e3]
      refine gx_if_eqN (by omega) (tgt := 73) d_Mo_wayStep_66 (by decide) (fun h66 => ?_) (fun h66 => ?_)
      · refine gx_iload_n d_Mo_wayStep_73 rfl ?_
        refine gx_iconst d_Mo_wayStep_74 (nI 1) (by decide) ?_
        refine gx_isubN (by omega) d_Mo_wayStep_75 ?_
        refine gx_istore d_Mo_wayStep_76 (Nat.le_of_ble_eq_true rfl) rfl ?_
        refine gx_iconst d_Mo_wayStep_78 (nI 0) (by decide) ?_
        refine gx_istore d_Mo_wayStep_79 (Nat.le_of_ble_eq_true rfl) rfl ?_
        refine lm_ws1 (th := 0) (beh := 35) (r := r) (kp := (c.1.length - 1)) (p0 := p) hk hc hl hT (by omega) 12 0 _ _ _ (by omega) (Nat.zero_le _) (by rw [List.take_zero]; exact (List.append_nil p).symm) (by omega) hW (fun I1 A1 hW1 => ?_)
        have hT1 := hW1.T hT
        refine gx_aload_n d_Mo_wayStep_113 rfl ?_
        refine gx_aload_n d_Mo_wayStep_114 rfl ?_
        refine gx_get fl_Mo_17 d_Mo_wayStep_115 mo_o rfl ?_
        refine gx_iload_n d_Mo_wayStep_118 rfl ?_
        refine gx_zald d_Mo_wayStep_119 mo_3 (by omega) (by omega) ?_
        rw [hW1.at (j := 3) (by decide), e3]
        refine gx_if_eqN (by omega) (tgt := 142) d_Mo_wayStep_120 (by decide) (fun h120 => ?_) (fun h120 => ?_)
        · refine gx_aload_n d_Mo_wayStep_142 rfl ?_
          refine gx_aload_n d_Mo_wayStep_143 rfl ?_
          refine gx_get fl_Mo_29 d_Mo_wayStep_144 mo_o rfl ?_
          refine gx_iload d_Mo_wayStep_147 rfl ?_
          refine gx_iload_n d_Mo_wayStep_149 rfl ?_
          refine gx_iaddN d_Mo_wayStep_150 ?_
          refine gx_iconst d_Mo_wayStep_151 (nI 1) (by decide) ?_
          refine gx_isubN (by omega) d_Mo_wayStep_152 ?_
          refine gx_iald d_Mo_wayStep_153 mo_7 (by omega) (by omega) ?_
          rw [show 12 * k + c.1.length - 1 = 12 * k + (c.1.length - 1) by omega, hT1.2 _ (by omega), sp_txt_lo (by omega)]
          refine gx_aload_n d_Mo_wayStep_154 rfl ?_
          refine gx_get fl_Mo_29 d_Mo_wayStep_155 mo_o rfl ?_
          refine gx_iload d_Mo_wayStep_158 rfl ?_
          refine gx_iload_n d_Mo_wayStep_160 rfl ?_
          refine gx_iaddN d_Mo_wayStep_161 ?_
          refine gx_iald d_Mo_wayStep_162 mo_7 (by omega) (by omega) ?_
          rw [hT1.2 _ (by omega), sp_txt_mid]
          refine gx_iload d_Mo_wayStep_163 rfl ?_
          refine gx_cV1 lk_Mo_160 d_Mo_wayStep_165 (cm_find ((hW1.2.1 3 (by decide)).trans hI) (hW1.D hds) hd hdk (by omega) (by omega) (by omega) hD) (Or.inl ⟨_, mo_o⟩) (by omega) rfl rfl (Nat.le_of_ble_eq_true rfl) ?_
          refine gx_cVr lk_Mo_157 d_Mo_wayStep_168 (cm_goOn hW1 (by simp only [List.length_append, List.length_singleton, sp_cp_len, List.length_take]; omega)) (Or.inl ⟨_, mo_o⟩) (by omega) rfl rfl (Nat.le_of_ble_eq_true rfl) (fun r2 w2 hq => ?_)
          obtain ⟨rfl, I2, A2, rfl, hW2⟩ := hq
          refine gx_iload_n d_Mo_wayStep_171 rfl ?_
          refine gx_iconst d_Mo_wayStep_172 (nI 2) (by decide) ?_
          refine gx_iaddN d_Mo_wayStep_173 ?_
          refine gx_istore d_Mo_wayStep_174 (Nat.le_of_ble_eq_true rfl) rfl ?_
          refine lm_ws2 (th := 0) (beh := 35) (kp := (c.1.length - 1)) (r := r) hk hc hl hT 12 1 _ _ _ (by omega) (by simp only [List.length_append, List.length_singleton, sp_cp_len, List.length_take]; omega) (by omega) hW2 (fun I3 A3 L9 hW3 => ?_)
          refine gx_iload d_Mo_wayStep_212 rfl ?_
          refine gx_if_eqN (by omega) (tgt := 222) d_Mo_wayStep_214 (by decide) (fun h214 => ?_) (fun h214 => ?_)
          · refine gx_return rfl d_Mo_wayStep_222 ?_
            exact ⟨rfl, _, _, rfl, hW3⟩
          · exact absurd rfl h214
        · exact absurd rfl h120
      · exact absurd rfl h66
    · exact absurd rfl h39
  · exact absurd h27 (by omega)
