/-! the reference: change -/
/-- a list in an array, its length in a field -/
def moL (n : Nat) (f : Nat → Nat) (l : List Nat) : Prop := n = l.length ∧ ∀ i, i < l.length → f i = l.getD i 0
def mdC (I : Nat → Nat) (A : Nat → Nat → Nat) (M : sp_M) (inp : List Nat) : Prop := moM A = M ∧ moL (I 1) (A 5) inp ∧ (I 2 = (sp_rsx M inp).length - 1 ∧ ∀ i, i < (sp_rsx M inp).length → moT A i ((sp_rsx M inp).getD i ([], 0, []))) ∧ (I 3 = (sp_dsx M inp).length ∧ moDs A (sp_dsx M inp)) ∧ moL (I 4) (A 12) (sp_wyx M inp)
/-- the reference stands for the state S -/
def mdl (I : Nat → Nat) (A : Nat → Nat → Nat) (S : sp_St) : Prop := mdC I A S.1 S.2.1 ∧ moL (I 5) (A 13) S.2.2.1 ∧ moL (I 6) (A 14) S.2.2.2.1 ∧ nI (I 7) = S.2.2.2.2
def moX (A A' : Nat → Nat → Nat) : Prop := ∀ j, j ≠ 6 → j ≠ 7 → A' j = A j
theorem moX.M {A A' : Nat → Nat → Nat} (h : moX A A') : moM A' = moM A := by
  unfold moM
  rw [h 1 (by decide) (by decide), h 2 (by decide) (by decide), h 3 (by decide) (by decide), h 4 (by decide) (by decide)]
theorem moX.R {A A' A'' : Nat → Nat → Nat} {k : Nat} (h : moX A A') (hR : moR A' A'' k) : moX A A'' := by
  intro j h6 h7
  rw [← h j h6 h7]
  funext i
  rcases hR j i with g | g | g
  · exact absurd g.1 h6
  · exact absurd g.1 h7
  · exact g
theorem moR.T {A A' : Nat → Nat → Nat} {k i : Nat} {c : sp_C} (hR : moR A A' k) (hi : i < k) (hl : sp_len c ≤ 12) (hT : moT A i c) : moT A' i c := by
  refine ⟨?_, fun x hx => ?_⟩
  · rcases hR 6 i with g | g | g
    · omega
    · exact absurd g.1 (by decide)
    · rw [g]; exact hT.1
  · rcases hR 7 (12 * i + x) with g | g | g
    · exact absurd g.1 (by decide)
    · omega
    · rw [g]; exact hT.2 x hx
theorem moFd.T {A A' : Nat → Nat → Nat} {k : Nat} {c : sp_C} (h : moFd A A') (hT : moT A k c) : moT A' k c := by
  unfold moT
  rw [h 6 (by decide) (by decide) (by decide) (by decide), h 7 (by decide) (by decide) (by decide) (by decide)]; exact hT
theorem moFd.M {A A' : Nat → Nat → Nat} (h : moFd A A') : moM A' = moM A := by
  unfold moM
  rw [h 1 (by decide) (by decide) (by decide) (by decide), h 2 (by decide) (by decide) (by decide) (by decide), h 3 (by decide) (by decide) (by decide) (by decide), h 4 (by decide) (by decide) (by decide) (by decide)]
theorem moT.nil {A : Nat → Nat → Nat} : ∀ i, i < ([] : List sp_C).length → moT A i (([] : List sp_C).getD i ([], 0, [])) := fun _ h => absurd h (Nat.not_lt_zero _)
theorem gx_rows {A : Nat → Nat → Nat} {P : List sp_C} {c : sp_C} (h : ∀ i, i < P.length → moT A i (P.getD i ([], 0, []))) (hc : moT A P.length c) : ∀ i, i < (P ++ [c]).length → moT A i ((P ++ [c]).getD i ([], 0, [])) := by
  intro i hi
  rw [List.length_append, List.length_singleton] at hi
  by_cases e : i = P.length
  · subst e
    rw [List.getD_eq_getElem?_getD, List.getElem?_append_right (Nat.le_refl _), Nat.sub_self]; exact hc
  · rw [List.getD_eq_getElem?_getD, List.getElem?_append_left (by omega), ← List.getD_eq_getElem?_getD]; exact h i (by omega)
theorem sp_run_no {M : sp_M} {n : Nat} {c : sp_C} (h : sp_step M c = none) : sp_run M n c = [c] := by
  cases n with
  | zero => rfl
  | succ n => unfold sp_run; rw [h]
theorem sp_run_big {M : sp_M} {n : Nat} {c c' : sp_C} (h : sp_step M c = some c') (hl : ¬ sp_len c' ≤ 10) : sp_run M n c = [c] := by
  cases n with
  | zero => rfl
  | succ n => unfold sp_run; rw [h]; simp only; rw [if_neg hl]
theorem sp_run_so {M : sp_M} {n : Nat} {c c' : sp_C} (h : sp_step M c = some c') (hl : sp_len c' ≤ 10) : sp_run M (n + 1) c = c :: sp_run M n c' := by
  conv => lhs; unfold sp_run
  rw [h]; simp only; rw [if_pos hl]
theorem d_Mo_change_0 : decode prog_11_method_8_code 0 = .ok (.aload_n 0, 1) := by decide +kernel
theorem d_Mo_change_1 : decode prog_11_method_8_code 1 = .ok (.getfield 29, 3) := by decide +kernel
theorem d_Mo_change_4 : decode prog_11_method_8_code 4 = .ok (.iconst 0, 1) := by decide +kernel
theorem d_Mo_change_5 : decode prog_11_method_8_code 5 = .ok (.bipush 97, 2) := by decide +kernel
theorem d_Mo_change_7 : decode prog_11_method_8_code 7 = .ok (.iastore, 1) := by decide +kernel
theorem d_Mo_change_8 : decode prog_11_method_8_code 8 = .ok (.iconst 0, 1) := by decide +kernel
theorem d_Mo_change_9 : decode prog_11_method_8_code 9 = .ok (.istore_n 1, 1) := by decide +kernel
theorem d_Mo_change_10 : decode prog_11_method_8_code 10 = .ok (.iload_n 1, 1) := by decide +kernel
theorem d_Mo_change_11 : decode prog_11_method_8_code 11 = .ok (.aload_n 0, 1) := by decide +kernel
theorem d_Mo_change_12 : decode prog_11_method_8_code 12 = .ok (.getfield 107, 3) := by decide +kernel
theorem d_Mo_change_15 : decode prog_11_method_8_code 15 = .ok (.if_icmp .ge 26, 3) := by decide +kernel
theorem d_Mo_change_18 : decode prog_11_method_8_code 18 = .ok (.aload_n 0, 1) := by decide +kernel
theorem d_Mo_change_19 : decode prog_11_method_8_code 19 = .ok (.getfield 29, 3) := by decide +kernel
theorem d_Mo_change_22 : decode prog_11_method_8_code 22 = .ok (.iconst 1, 1) := by decide +kernel
theorem d_Mo_change_23 : decode prog_11_method_8_code 23 = .ok (.iload_n 1, 1) := by decide +kernel
theorem d_Mo_change_24 : decode prog_11_method_8_code 24 = .ok (.iadd, 1) := by decide +kernel
theorem d_Mo_change_25 : decode prog_11_method_8_code 25 = .ok (.bipush 48, 2) := by decide +kernel
theorem d_Mo_change_27 : decode prog_11_method_8_code 27 = .ok (.aload_n 0, 1) := by decide +kernel
theorem d_Mo_change_28 : decode prog_11_method_8_code 28 = .ok (.getfield 23, 3) := by decide +kernel
theorem d_Mo_change_31 : decode prog_11_method_8_code 31 = .ok (.iload_n 1, 1) := by decide +kernel
theorem d_Mo_change_32 : decode prog_11_method_8_code 32 = .ok (.iaload, 1) := by decide +kernel
theorem d_Mo_change_33 : decode prog_11_method_8_code 33 = .ok (.iadd, 1) := by decide +kernel
theorem d_Mo_change_34 : decode prog_11_method_8_code 34 = .ok (.iastore, 1) := by decide +kernel
theorem d_Mo_change_35 : decode prog_11_method_8_code 35 = .ok (.iinc 1 1, 3) := by decide +kernel
theorem d_Mo_change_38 : decode prog_11_method_8_code 38 = .ok (.goto (-28), 3) := by decide +kernel
theorem d_Mo_change_41 : decode prog_11_method_8_code 41 = .ok (.aload_n 0, 1) := by decide +kernel
theorem d_Mo_change_42 : decode prog_11_method_8_code 42 = .ok (.getfield 26, 3) := by decide +kernel
theorem d_Mo_change_45 : decode prog_11_method_8_code 45 = .ok (.iconst 0, 1) := by decide +kernel
theorem d_Mo_change_46 : decode prog_11_method_8_code 46 = .ok (.aload_n 0, 1) := by decide +kernel
theorem d_Mo_change_47 : decode prog_11_method_8_code 47 = .ok (.getfield 107, 3) := by decide +kernel
theorem d_Mo_change_50 : decode prog_11_method_8_code 50 = .ok (.iconst 1, 1) := by decide +kernel
theorem d_Mo_change_51 : decode prog_11_method_8_code 51 = .ok (.iadd, 1) := by decide +kernel
theorem d_Mo_change_52 : decode prog_11_method_8_code 52 = .ok (.iastore, 1) := by decide +kernel
theorem d_Mo_change_53 : decode prog_11_method_8_code 53 = .ok (.aload_n 0, 1) := by decide +kernel
theorem d_Mo_change_54 : decode prog_11_method_8_code 54 = .ok (.iconst 0, 1) := by decide +kernel
theorem d_Mo_change_55 : decode prog_11_method_8_code 55 = .ok (.putfield 110, 3) := by decide +kernel
theorem d_Mo_change_58 : decode prog_11_method_8_code 58 = .ok (.iconst 1, 1) := by decide +kernel
theorem d_Mo_change_59 : decode prog_11_method_8_code 59 = .ok (.istore_n 1, 1) := by decide +kernel
theorem d_Mo_change_60 : decode prog_11_method_8_code 60 = .ok (.iconst 0, 1) := by decide +kernel
theorem d_Mo_change_61 : decode prog_11_method_8_code 61 = .ok (.istore_n 2, 1) := by decide +kernel
theorem d_Mo_change_62 : decode prog_11_method_8_code 62 = .ok (.iload_n 2, 1) := by decide +kernel
theorem d_Mo_change_63 : decode prog_11_method_8_code 63 = .ok (.bipush 12, 2) := by decide +kernel
theorem d_Mo_change_65 : decode prog_11_method_8_code 65 = .ok (.if_icmp .ge 58, 3) := by decide +kernel
theorem d_Mo_change_68 : decode prog_11_method_8_code 68 = .ok (.iload_n 1, 1) := by decide +kernel
theorem d_Mo_change_69 : decode prog_11_method_8_code 69 = .ok (.ifCond .eq 54, 3) := by decide +kernel
theorem d_Mo_change_72 : decode prog_11_method_8_code 72 = .ok (.aload_n 0, 1) := by decide +kernel
theorem d_Mo_change_73 : decode prog_11_method_8_code 73 = .ok (.iload_n 2, 1) := by decide +kernel
theorem d_Mo_change_74 : decode prog_11_method_8_code 74 = .ok (.invokevirtual 113, 3) := by decide +kernel
theorem d_Mo_change_77 : decode prog_11_method_8_code 77 = .ok (.ifCond .eq 20, 3) := by decide +kernel
theorem d_Mo_change_80 : decode prog_11_method_8_code 80 = .ok (.aload_n 0, 1) := by decide +kernel
theorem d_Mo_change_81 : decode prog_11_method_8_code 81 = .ok (.getfield 26, 3) := by decide +kernel
theorem d_Mo_change_84 : decode prog_11_method_8_code 84 = .ok (.iload_n 2, 1) := by decide +kernel
theorem d_Mo_change_85 : decode prog_11_method_8_code 85 = .ok (.iconst 1, 1) := by decide +kernel
theorem d_Mo_change_86 : decode prog_11_method_8_code 86 = .ok (.iadd, 1) := by decide +kernel
theorem d_Mo_change_87 : decode prog_11_method_8_code 87 = .ok (.iaload, 1) := by decide +kernel
theorem d_Mo_change_88 : decode prog_11_method_8_code 88 = .ok (.bipush 10, 2) := by decide +kernel
theorem d_Mo_change_90 : decode prog_11_method_8_code 90 = .ok (.if_icmp .gt 7, 3) := by decide +kernel
theorem d_Mo_change_93 : decode prog_11_method_8_code 93 = .ok (.iconst 1, 1) := by decide +kernel
theorem d_Mo_change_94 : decode prog_11_method_8_code 94 = .ok (.goto 4, 3) := by decide +kernel
theorem d_Mo_change_97 : decode prog_11_method_8_code 97 = .ok (.iconst 0, 1) := by decide +kernel
theorem d_Mo_change_98 : decode prog_11_method_8_code 98 = .ok (.istore_n 1, 1) := by decide +kernel
theorem d_Mo_change_99 : decode prog_11_method_8_code 99 = .ok (.aload_n 0, 1) := by decide +kernel
theorem d_Mo_change_100 : decode prog_11_method_8_code 100 = .ok (.iload_n 1, 1) := by decide +kernel
theorem d_Mo_change_101 : decode prog_11_method_8_code 101 = .ok (.ifCond .eq 9, 3) := by decide +kernel
theorem d_Mo_change_104 : decode prog_11_method_8_code 104 = .ok (.iload_n 2, 1) := by decide +kernel
theorem d_Mo_change_105 : decode prog_11_method_8_code 105 = .ok (.iconst 1, 1) := by decide +kernel
theorem d_Mo_change_106 : decode prog_11_method_8_code 106 = .ok (.iadd, 1) := by decide +kernel
theorem d_Mo_change_107 : decode prog_11_method_8_code 107 = .ok (.goto 7, 3) := by decide +kernel
theorem d_Mo_change_110 : decode prog_11_method_8_code 110 = .ok (.aload_n 0, 1) := by decide +kernel
theorem d_Mo_change_111 : decode prog_11_method_8_code 111 = .ok (.getfield 110, 3) := by decide +kernel
theorem d_Mo_change_114 : decode prog_11_method_8_code 114 = .ok (.putfield 110, 3) := by decide +kernel
theorem d_Mo_change_117 : decode prog_11_method_8_code 117 = .ok (.iinc 2 1, 3) := by decide +kernel
theorem d_Mo_change_120 : decode prog_11_method_8_code 120 = .ok (.goto (-58), 3) := by decide +kernel
theorem d_Mo_change_123 : decode prog_11_method_8_code 123 = .ok (.aload_n 0, 1) := by decide +kernel
theorem d_Mo_change_124 : decode prog_11_method_8_code 124 = .ok (.invokevirtual 116, 3) := by decide +kernel
theorem d_Mo_change_127 : decode prog_11_method_8_code 127 = .ok (.aload_n 0, 1) := by decide +kernel
theorem d_Mo_change_128 : decode prog_11_method_8_code 128 = .ok (.iconst 0, 1) := by decide +kernel
theorem d_Mo_change_129 : decode prog_11_method_8_code 129 = .ok (.putfield 119, 3) := by decide +kernel
theorem d_Mo_change_132 : decode prog_11_method_8_code 132 = .ok (.aload_n 0, 1) := by decide +kernel
theorem d_Mo_change_133 : decode prog_11_method_8_code 133 = .ok (.invokevirtual 122, 3) := by decide +kernel
theorem d_Mo_change_136 : decode prog_11_method_8_code 136 = .ok (.ifCond .eq 7, 3) := by decide +kernel
theorem d_Mo_change_139 : decode prog_11_method_8_code 139 = .ok (.aload_n 0, 1) := by decide +kernel
theorem d_Mo_change_140 : decode prog_11_method_8_code 140 = .ok (.invokevirtual 126, 3) := by decide +kernel
theorem d_Mo_change_143 : decode prog_11_method_8_code 143 = .ok (.aload_n 0, 1) := by decide +kernel
theorem d_Mo_change_144 : decode prog_11_method_8_code 144 = .ok (.iconst 0, 1) := by decide +kernel
theorem d_Mo_change_145 : decode prog_11_method_8_code 145 = .ok (.putfield 129, 3) := by decide +kernel
theorem d_Mo_change_148 : decode prog_11_method_8_code 148 = .ok (.aload_n 0, 1) := by decide +kernel
theorem d_Mo_change_149 : decode prog_11_method_8_code 149 = .ok (.iconst 0, 1) := by decide +kernel
theorem d_Mo_change_150 : decode prog_11_method_8_code 150 = .ok (.putfield 132, 3) := by decide +kernel
theorem d_Mo_change_153 : decode prog_11_method_8_code 153 = .ok (.aload_n 0, 1) := by decide +kernel
theorem d_Mo_change_154 : decode prog_11_method_8_code 154 = .ok (.iconst (-1), 1) := by decide +kernel
theorem d_Mo_change_155 : decode prog_11_method_8_code 155 = .ok (.putfield 59, 3) := by decide +kernel
theorem d_Mo_change_158 : decode prog_11_method_8_code 158 = .ok (.return_, 1) := by decide +kernel
theorem lm_ch1 {Q : gx_P} {w : gx_W} {m : Nat} {I : Nat → Nat} {A : Nat → Nat → Nat} {inp : List Nat} {L2 : Option Value} (hin : moL (I 1) (A 5) inp) (hi4 : sp_iok inp) : ∀ (fu : Nat) (i : Nat) (A' : Nat → Nat → Nat), inp.length - i < fu → (i ≤ inp.length) → (moB A A' 0 (97 :: sp_ds (inp.take i))) → (∀ A'' L1, moB A A'' 0 (97 :: sp_ds inp) → gx_X (fun _ _ => True) M_Mo_change 6 Q 41 [some (.ref m), L1, L2] [] (gx_mo w m I A'') (0, 0)) → gx_X (fun _ _ => True) M_Mo_change 6 Q 10 [some (.ref m), some (.int (nI i)), L2] [] (gx_mo w m I A') (0, 0) := by
  intro fu
  induction fu with
  | zero => intro i A' hfu; exact absurd hfu (Nat.not_lt_zero _)
  | succ fu ih =>
    intro i A' hfu hi hB hX
    have hl4 := hi4.1
    have hg := sp_gd_lt hi4.2 i
    have htk : (97 :: sp_ds (inp.take i)).length = 1 + i := by rw [List.length_cons, sp_ds_len, List.length_take]; omega
    refine gx_iload_n d_Mo_change_10 rfl ?_
    refine gx_aload_n d_Mo_change_11 rfl ?_
    refine gx_get fl_Mo_107 d_Mo_change_12 mo_o rfl ?_
    rw [hin.1]
    refine gx_icmp_geN (by omega) (by omega) (tgt := 41) d_Mo_change_15 (by decide) (fun h15 => ?_) (fun h15 => ?_)
    · rw [List.take_of_length_le (by omega)] at hB
      exact hX _ _ hB
    · refine gx_aload_n d_Mo_change_18 rfl ?_
      refine gx_get fl_Mo_29 d_Mo_change_19 mo_o rfl ?_
      refine gx_iconst d_Mo_change_22 (nI 1) (by decide) ?_
      refine gx_iload_n d_Mo_change_23 rfl ?_
      refine gx_iaddN d_Mo_change_24 ?_
      refine gx_bipush d_Mo_change_25 (nI 48) (by decide) ?_
      refine gx_aload_n d_Mo_change_27 rfl ?_
      refine gx_get fl_Mo_23 d_Mo_change_28 mo_o rfl ?_
      refine gx_iload_n d_Mo_change_31 rfl ?_
      refine gx_iald d_Mo_change_32 mo_5 (by omega) (by omega) ?_
      rw [hB.oj (by decide), hin.2 i (by omega)]
      refine gx_iaddN d_Mo_change_33 ?_
      refine gx_iast d_Mo_change_34 mo_7 (by omega) (by omega) ?_
      refine gx_w mo_s7 ?_
      refine gx_iincN (n := 1) d_Mo_change_35 rfl (by decide) (Nat.le_of_ble_eq_true rfl) rfl ?_
      refine gx_goto (tgt := 10) d_Mo_change_38 (by decide) ?_
      refine ih (i + 1) _ (by omega) (by omega) ?_ hX
      have h5 := hB.push (x := 48 + inp.getD i 0) (by omega)
      rw [htk, Nat.zero_add] at h5
      rw [gx_take_succ (by omega)]
      unfold sp_ds at h5 ⊢
      rw [List.map_append]
      exact h5
theorem sg_ch0 {Q : gx_P} {w : gx_W} {m : Nat} {I : Nat → Nat} {A : Nat → Nat → Nat} {k : Nat} (hk : k ≤ 13) (hX : ∀ L1 L2, gx_X (fun _ _ => True) M_Mo_change 6 Q 123 [some (.ref m), L1, L2] [] (gx_mo w m I A) (0, 0)) : gx_X (fun _ _ => True) M_Mo_change 6 Q 62 [some (.ref m), some (.int (nI 0)), some (.int (nI k))] [] (gx_mo w m I A) (0, 0) := by
  refine gx_iload_n d_Mo_change_62 rfl ?_
  refine gx_bipush d_Mo_change_63 (nI 12) (by decide) ?_
  refine gx_icmp_geN (by omega) (by omega) (tgt := 123) d_Mo_change_65 (by decide) (fun h65 => ?_) (fun h65 => ?_)
  · exact hX _ _
  · refine gx_iload_n d_Mo_change_68 rfl ?_
    refine gx_if_eqN (by omega) (tgt := 123) d_Mo_change_69 (by decide) (fun h69 => ?_) (fun h69 => ?_)
    · exact hX _ _
    · exact absurd rfl h69
theorem lm_ch2 {Q : gx_P} {w : gx_W} {m : Nat} {I : Nat → Nat} {A : Nat → Nat → Nat} (hM : sp_Mok (moM A))  : ∀ (fu : Nat) (k : Nat) (P : List sp_C) (c : sp_C) (I' : Nat → Nat) (A' : Nat → Nat → Nat), 12 - k < fu → (k ≤ 12) → (P.length = k) → (moX A A') → (∀ i, i < P.length → moT A' i (P.getD i ([], 0, []))) → (∀ i, i < P.length → sp_len (P.getD i ([], 0, [])) ≤ 10) → (moT A' k c) → (sp_ok c) → (sp_len c ≤ 10) → (I' 2 = k ∧ ∀ q, q ≠ 2 → I' q = I q) → (∀ I'' A'' L1 L2 rs, rs = P ++ sp_run (moM A) (12 - k) c → (I'' 2 = rs.length - 1 ∧ ∀ q, q ≠ 2 → I'' q = I q) → moX A A'' → (∀ i, i < rs.length → moT A'' i (rs.getD i ([], 0, []))) → gx_X (fun _ _ => True) M_Mo_change 6 Q 123 [some (.ref m), L1, L2] [] (gx_mo w m I'' A'') (0, 0)) → gx_X (fun _ _ => True) M_Mo_change 6 Q 62 [some (.ref m), some (.int (nI 1)), some (.int (nI k))] [] (gx_mo w m I' A') (0, 0) := by
  intro fu
  induction fu with
  | zero => intro k P c I' A' hfu; exact absurd hfu (Nat.not_lt_zero _)
  | succ fu ih =>
    intro k P c I' A' hfu hk hP hXA hrow hPl hT hc hl hI2 hX
    have hM2 : sp_Mok (moM A') := by rw [hXA.M]; exact hM
    refine gx_iload_n d_Mo_change_62 rfl ?_
    refine gx_bipush d_Mo_change_63 (nI 12) (by decide) ?_
    refine gx_icmp_geN (by omega) (by omega) (tgt := 123) d_Mo_change_65 (by decide) (fun h65 => ?_) (fun h65 => ?_)
    · obtain rfl : k = 12 := by omega
      exact hX _ _ _ _ (P ++ [c]) rfl ⟨by rw [hI2.1, List.length_append, hP]; rfl, hI2.2⟩ hXA (gx_rows hrow (by rw [hP]; exact hT))
    · refine gx_iload_n d_Mo_change_68 rfl ?_
      refine gx_if_eqN (by omega) (tgt := 123) d_Mo_change_69 (by decide) (fun h69 => ?_) (fun h69 => ?_)
      · exact absurd h69 (by decide)
      · refine gx_aload_n d_Mo_change_72 rfl ?_
        refine gx_iload_n d_Mo_change_73 rfl ?_
        rcases hs : sp_step (moM A) c with _ | c'
        · refine gx_cV1 lk_Mo_113 d_Mo_change_74 (cm_step_none (by omega) hc hl hT hM2 (by rw [hXA.M]; exact hs)) (Or.inl ⟨_, mo_o⟩) (by omega) rfl rfl (Nat.le_of_ble_eq_true rfl) ?_
          refine gx_if_eqN (by omega) (tgt := 97) d_Mo_change_77 (by decide) (fun h77 => ?_) (fun h77 => ?_)
          · refine gx_iconst d_Mo_change_97 (nI 0) (by decide) ?_
            refine gx_istore_n d_Mo_change_98 (Nat.le_of_ble_eq_true rfl) rfl ?_
            refine gx_aload_n d_Mo_change_99 rfl ?_
            refine gx_iload_n d_Mo_change_100 rfl ?_
            refine gx_if_eqN (by omega) (tgt := 110) d_Mo_change_101 (by decide) (fun h101 => ?_) (fun h101 => ?_)
            · refine gx_aload_n d_Mo_change_110 rfl ?_
              refine gx_get fl_Mo_110 d_Mo_change_111 mo_o rfl ?_
              rw [hI2.1]
              refine gx_put fp_Mo_110 (fun h => by cases h) d_Mo_change_114 mo_o rfl rfl (Nat.le_of_ble_eq_true rfl) ?_
              refine gx_w mo_p2 ?_
              refine gx_iincN (n := 1) d_Mo_change_117 rfl (by decide) (Nat.le_of_ble_eq_true rfl) rfl ?_
              refine gx_goto (tgt := 62) d_Mo_change_120 (by decide) ?_
              refine sg_ch0 (by omega) (fun L1 L2 => ?_)
              exact hX _ _ _ _ (P ++ [c]) (by rw [sp_run_no hs]) ⟨by rw [ui_s, List.length_append, hP]; rfl, fun q hq => by rw [ui_o hq]; exact hI2.2 q hq⟩ hXA (gx_rows hrow (by rw [hP]; exact hT))
            · exact absurd rfl h101
          · exact absurd rfl h77
        · have hsl := sp_step_len hs
          refine gx_cVr lk_Mo_113 d_Mo_change_74 (cm_step_some (by omega) hc hl hT hM2 (by rw [hXA.M]; exact hs)) (Or.inl ⟨_, mo_o⟩) (by omega) rfl rfl (Nat.le_of_ble_eq_true rfl) (fun r2 w2 hq => ?_)
          obtain ⟨rfl, A2, rfl, hT2, hR2⟩ := hq
          refine gx_if_eqN (by omega) (tgt := 97) d_Mo_change_77 (by decide) (fun h77 => ?_) (fun h77 => ?_)
          · exact absurd h77 (by decide)
          · refine gx_aload_n d_Mo_change_80 rfl ?_
            refine gx_get fl_Mo_26 d_Mo_change_81 mo_o rfl ?_
            refine gx_iload_n d_Mo_change_84 rfl ?_
            refine gx_iconst d_Mo_change_85 (nI 1) (by decide) ?_
            refine gx_iaddN d_Mo_change_86 ?_
            refine gx_iald d_Mo_change_87 mo_6 (by omega) (by omega) ?_
            rw [hT2.1]
            refine gx_bipush d_Mo_change_88 (nI 10) (by decide) ?_
            refine gx_icmp_gtN (by omega) (by omega) (tgt := 97) d_Mo_change_90 (by decide) (fun h90 => ?_) (fun h90 => ?_)
            · refine gx_iconst d_Mo_change_97 (nI 0) (by decide) ?_
              refine gx_istore_n d_Mo_change_98 (Nat.le_of_ble_eq_true rfl) rfl ?_
              refine gx_aload_n d_Mo_change_99 rfl ?_
              refine gx_iload_n d_Mo_change_100 rfl ?_
              refine gx_if_eqN (by omega) (tgt := 110) d_Mo_change_101 (by decide) (fun h101 => ?_) (fun h101 => ?_)
              · refine gx_aload_n d_Mo_change_110 rfl ?_
                refine gx_get fl_Mo_110 d_Mo_change_111 mo_o rfl ?_
                rw [hI2.1]
                refine gx_put fp_Mo_110 (fun h => by cases h) d_Mo_change_114 mo_o rfl rfl (Nat.le_of_ble_eq_true rfl) ?_
                refine gx_w mo_p2 ?_
                refine gx_iincN (n := 1) d_Mo_change_117 rfl (by decide) (Nat.le_of_ble_eq_true rfl) rfl ?_
                refine gx_goto (tgt := 62) d_Mo_change_120 (by decide) ?_
                refine sg_ch0 (by omega) (fun L1 L2 => ?_)
                exact hX _ _ _ _ (P ++ [c]) (by rw [sp_run_big hs (by omega)]) ⟨by rw [ui_s, List.length_append, hP]; rfl, fun q hq => by rw [ui_o hq]; exact hI2.2 q hq⟩ (hXA.R hR2) (gx_rows (fun i hi => hR2.T (by omega) (by have := hPl i hi; omega) (hrow i hi)) (hR2.T (by omega) (by omega) (by rw [hP]; exact hT)))
              · exact absurd rfl h101
            · refine gx_iconst d_Mo_change_93 (nI 1) (by decide) ?_
              refine gx_goto (tgt := 98) d_Mo_change_94 (by decide) ?_
              refine gx_istore_n d_Mo_change_98 (Nat.le_of_ble_eq_true rfl) rfl ?_
              refine gx_aload_n d_Mo_change_99 rfl ?_
              refine gx_iload_n d_Mo_change_100 rfl ?_
              refine gx_if_eqN (by omega) (tgt := 110) d_Mo_change_101 (by decide) (fun h101 => ?_) (fun h101 => ?_)
              · exact absurd h101 (by decide)
              · refine gx_iload_n d_Mo_change_104 rfl ?_
                refine gx_iconst d_Mo_change_105 (nI 1) (by decide) ?_
                refine gx_iaddN d_Mo_change_106 ?_
                refine gx_goto (tgt := 114) d_Mo_change_107 (by decide) ?_
                refine gx_put fp_Mo_110 (fun h => by cases h) d_Mo_change_114 mo_o rfl rfl (Nat.le_of_ble_eq_true rfl) ?_
                refine gx_w mo_p2 ?_
                refine gx_iincN (n := 1) d_Mo_change_117 rfl (by decide) (Nat.le_of_ble_eq_true rfl) rfl ?_
                refine gx_goto (tgt := 62) d_Mo_change_120 (by decide) ?_
                refine ih (k + 1) (P ++ [c]) c' _ _ (by omega) (by omega) (by rw [List.length_append, hP]; rfl) (hXA.R hR2) (gx_rows (fun i hi => hR2.T (by omega) (by have := hPl i hi; omega) (hrow i hi)) (hR2.T (by omega) (by omega) (by rw [hP]; exact hT))) ?_ hT2 (sp_step_ok hM hc hs) (by omega) ⟨ui_s, fun q hq => by rw [ui_o hq]; exact hI2.2 q hq⟩ ?_
                · intro i hi
                  rw [List.length_append, List.length_singleton] at hi
                  by_cases e : i = P.length
                  · subst e
                    rw [List.getD_eq_getElem?_getD, List.getElem?_append_right (Nat.le_refl _), Nat.sub_self]; exact hl
                  · rw [List.getD_eq_getElem?_getD, List.getElem?_append_left (by omega), ← List.getD_eq_getElem?_getD]; exact hPl i (by omega)
                · intro I9 A9 L1 L2 rs hrs h2 h3 h4
                  exact hX I9 A9 L1 L2 rs (by rw [hrs, show 12 - k = 12 - (k + 1) + 1 by omega, sp_run_so hs (by omega), List.append_assoc]; rfl) h2 h3 h4
theorem md_fin {I I2 I3 I5 : Nat → Nat} {A A2 A3 A5 : Nat → Nat → Nat} {M : sp_M} {inp : List Nat} (hM : moM A = M) (hin : moL (I 1) (A 5) inp) (hI2 : I2 2 = (sp_rsx M inp).length - 1 ∧ ∀ q, q ≠ 2 → I2 q = I q) (hX : moX A A2) (hrs : ∀ i, i < (sp_rsx M inp).length → moT A2 i ((sp_rsx M inp).getD i ([], 0, []))) (hK : moK I2 A2 I3 A3 (sp_dsx M inp)) (hW : moW (sp_u I3 4 0) A3 I5 A5 (sp_wyx M inp)) : mdl (sp_u (sp_u (sp_u I5 5 0) 6 0) 7 4294967295) A5 (sp_fresh M inp) ∧ sp_u (sp_u (sp_u I5 5 0) 6 0) 7 4294967295 0 = I 0 := by
  have hq : ∀ q, q ≠ 3 → q ≠ 4 → I5 q = I2 q := fun q h3 h4 => by rw [hW.2.1 q h4, ui_o h4, hK.2.1 q h3]
  refine ⟨⟨⟨?_, ⟨?_, ?_⟩, ⟨?_, fun i hi => hW.T (hK.2.2.1.T (hrs i hi))⟩, ⟨?_, hW.D hK.2.2.2⟩, ?_, ?_⟩, ⟨?_, fun i hi => absurd hi (Nat.not_lt_zero _)⟩, ⟨?_, fun i hi => absurd hi (Nat.not_lt_zero _)⟩, ?_⟩, ?_⟩
  · show moM A5 = M
    rw [hW.M, hK.2.2.1.M, hX.M]; exact hM
  · rw [ui_o (by decide), ui_o (by decide), ui_o (by decide), hq 1 (by decide) (by decide), hI2.2 1 (by decide)]; exact hin.1
  · intro i hi
    rw [hW.at (by decide), hK.2.2.1.at (by decide), hX 5 (by decide) (by decide)]; exact hin.2 i hi
  · rw [ui_o (by decide), ui_o (by decide), ui_o (by decide), hq 2 (by decide) (by decide)]; exact hI2.1
  · rw [ui_o (by decide), ui_o (by decide), ui_o (by decide), hW.2.1 3 (by decide), ui_o (by decide)]; exact hK.1
  · rw [ui_o (by decide), ui_o (by decide), ui_o (by decide)]; exact hW.1
  · exact hW.2.2.2
  · rw [ui_o (by decide), ui_o (by decide), ui_s]; rfl
  · rw [ui_o (by decide), ui_s]; rfl
  · rw [ui_s]; exact gx_m1.symm
  · rw [ui_o (by decide), ui_o (by decide), ui_o (by decide), hq 0 (by decide) (by decide), hI2.2 0 (by decide)]
theorem sp_c0_k {inp : List Nat} (h : sp_iok inp) : sp_ok (sp_c0 inp) := ⟨fun _ hs => absurd hs (List.not_mem_nil), Nat.zero_le _, h.2⟩
theorem sp_c0_len (inp : List Nat) : sp_len (sp_c0 inp) = inp.length + 1 := by show 0 + 1 + inp.length = _; omega
theorem sp_wyx_no {M : sp_M} {inp : List Nat} (h : ¬ (sp_lc M inp).2.1 = 4) : sp_wyx M inp = [] := by unfold sp_wyx; rw [if_neg h]
theorem sp_wyx_so {M : sp_M} {inp : List Nat} (h : (sp_lc M inp).2.1 = 4) : sp_wyx M inp = sp_wy M (sp_rsx M inp) (sp_dsx M inp).length := by unfold sp_wyx; rw [if_pos h]
theorem moW.nil {I : Nat → Nat} {A : Nat → Nat → Nat} (h : I 4 = 0) : moW I A I A [] := ⟨h, fun _ _ => rfl, fun _ _ => rfl, fun i hi => absurd hi (Nat.not_lt_zero _)⟩
theorem gx_cmem {rs : List sp_C} {d : Nat} (h : d < rs.length) : rs.getD d ([], 0, []) ∈ rs := by
  rw [List.getD_eq_getElem?_getD, List.getElem?_eq_getElem h]; exact List.getElem_mem h
theorem cm_change {w : gx_W} {m : Nat} {I : Nat → Nat} {A : Nat → Nat → Nat} {M : sp_M} {inp : List Nat} (hM : sp_Mok M) (hMe : moM A = M) (hi4 : sp_iok inp) (hin : moL (I 1) (A 5) inp) : gx_Ct M_Mo_change 6 0 0 [.ref m] (gx_mo w m I A) (fun r w' => r = none ∧ ∃ I'' A'', w' = gx_mo w m I'' A'' ∧ mdl I'' A'' (sp_fresh M inp) ∧ I'' 0 = I 0) := by
  refine gx_ct (L := [some (.ref m), none, none]) (by decide) (Nat.le_of_ble_eq_true rfl) rfl ?_
  have hl4 := hi4.1
  have hB0 : moB A (uA A 7 0 97) 0 (97 :: sp_ds (inp.take 0)) := by
    have h := (moB.nil (A := A) (y := 0)).push (x := 97) (by decide)
    rw [List.take_zero]; exact h
  refine gx_aload_n d_Mo_change_0 rfl ?_
  refine gx_get fl_Mo_29 d_Mo_change_1 mo_o rfl ?_
  refine gx_iconst d_Mo_change_4 (nI 0) (by decide) ?_
  refine gx_bipush d_Mo_change_5 (nI 97) (by decide) ?_
  refine gx_iast d_Mo_change_7 mo_7 (by omega) (by omega) ?_
  refine gx_w mo_s7 ?_
  refine gx_iconst d_Mo_change_8 (nI 0) (by decide) ?_
  refine gx_istore_n d_Mo_change_9 (Nat.le_of_ble_eq_true rfl) rfl ?_
  refine lm_ch1 hin hi4 (inp.length + 1) 0 _ (by omega) (Nat.zero_le _) hB0 (fun A1 L1 hB1 => ?_)
  refine gx_aload_n d_Mo_change_41 rfl ?_
  refine gx_get fl_Mo_26 d_Mo_change_42 mo_o rfl ?_
  refine gx_iconst d_Mo_change_45 (nI 0) (by decide) ?_
  refine gx_aload_n d_Mo_change_46 rfl ?_
  refine gx_get fl_Mo_107 d_Mo_change_47 mo_o rfl ?_
  rw [hin.1]
  refine gx_iconst d_Mo_change_50 (nI 1) (by decide) ?_
  refine gx_iaddN d_Mo_change_51 ?_
  refine gx_iast d_Mo_change_52 mo_6 (by omega) (by omega) ?_
  refine gx_w mo_s6 ?_
  refine gx_aload_n d_Mo_change_53 rfl ?_
  refine gx_iconst d_Mo_change_54 (nI 0) (by decide) ?_
  refine gx_put fp_Mo_110 (fun h => by cases h) d_Mo_change_55 mo_o rfl rfl (Nat.le_of_ble_eq_true rfl) ?_
  refine gx_w mo_p2 ?_
  refine gx_iconst d_Mo_change_58 (nI 1) (by decide) ?_
  refine gx_istore_n d_Mo_change_59 (Nat.le_of_ble_eq_true rfl) rfl ?_
  refine gx_iconst d_Mo_change_60 (nI 0) (by decide) ?_
  refine gx_istore_n d_Mo_change_61 (Nat.le_of_ble_eq_true rfl) rfl ?_
  have hT0 : moT (uA A1 6 0 (inp.length + 1)) 0 (sp_c0 inp) := ⟨by rw [uA_s, sp_c0_len], fun i hi => by rw [uA_o (by decide), Nat.mul_zero, hB1.1 i (by rw [List.length_cons, sp_ds_len]; rw [sp_c0_len] at hi; exact hi)]; rfl⟩
  have hX0 : moX A (uA A1 6 0 (inp.length + 1)) := fun j h6 h7 => by rw [uA_oj h6]; funext i; exact hB1.oj h7 i
  refine lm_ch2 (by rw [hMe]; exact hM) 13 0 [] (sp_c0 inp) _ _ (by omega) (by omega) rfl hX0 moT.nil (fun i hi => absurd hi (Nat.not_lt_zero _)) hT0 (sp_c0_k hi4) (by rw [sp_c0_len]; omega) ⟨ui_s, fun q hq => ui_o hq⟩ (fun I2 A2 L1 L2 rs hrs hI2 hX2 hrs2 => ?_)
  rw [hMe, List.nil_append] at hrs
  have hrs3 : rs = sp_rsx M inp := hrs
  subst hrs3
  clear hrs
  have hrn : ¬ (sp_rsx M inp).length = 0 := fun g => sp_run_ne M 12 (sp_c0 inp) (List.length_eq_zero_iff.mp g)
  have hrl : (sp_rsx M inp).length ≤ 13 := sp_run_len M 12 (sp_c0 inp)
  have hrk : ∀ i, i < (sp_rsx M inp).length → sp_ok ((sp_rsx M inp).getD i ([], 0, [])) ∧ sp_len ((sp_rsx M inp).getD i ([], 0, [])) ≤ 10 := fun i hi => sp_run_ok hM 12 (sp_c0 inp) (sp_c0_k hi4) (by rw [sp_c0_len]; omega) _ (gx_cmem hi)
  refine gx_aload_n d_Mo_change_123 rfl ?_
  refine gx_cVr lk_Mo_116 d_Mo_change_124 (cm_makeDominoes (c := sp_c0 inp) (by rw [hX2.M, hMe]; exact hM) (sp_c0_k hi4) (by rw [sp_c0_len]; omega) (by have h0 := hrs2 0 (Nat.pos_of_ne_zero hrn); rw [show (sp_rsx M inp).getD 0 ([], 0, []) = sp_c0 inp from sp_run_hd _ _ _ _] at h0; exact h0)) (Or.inl ⟨_, mo_o⟩) (by omega) rfl rfl (Nat.le_of_ble_eq_true rfl) (fun r2 w2 hq => ?_)
  obtain ⟨rfl, I3, A3, rfl, hK⟩ := hq
  rw [hX2.M, hMe] at hK
  have hM3 : moM A3 = M := by rw [hK.2.2.1.M, hX2.M]; exact hMe
  refine gx_aload_n d_Mo_change_127 rfl ?_
  refine gx_iconst d_Mo_change_128 (nI 0) (by decide) ?_
  refine gx_put fp_Mo_119 (fun h => by cases h) d_Mo_change_129 mo_o rfl rfl (Nat.le_of_ble_eq_true rfl) ?_
  refine gx_w mo_p4 ?_
  refine gx_aload_n d_Mo_change_132 rfl ?_
  refine gx_cV1 lk_Mo_122 d_Mo_change_133 (cm_halted (k := (sp_rsx M inp).length - 1) (c := sp_lc M inp) (by omega) (hrk _ (by omega)).1 (by have := (hrk ((sp_rsx M inp).length - 1) (by omega)).2; exact Nat.le_trans this (by decide)) (hK.2.2.1.T (hrs2 _ (by omega))) ((ui_o (by decide)).trans ((hK.2.1 2 (by decide)).trans hI2.1))) (Or.inl ⟨_, mo_o⟩) (by omega) rfl rfl (Nat.le_of_ble_eq_true rfl) ?_
  by_cases hlc : (sp_lc M inp).2.1 = 4
  · rw [decide_eq_true hlc]
    refine gx_if_eqN (by decide) (tgt := 143) d_Mo_change_136 (by decide) (fun h136 => absurd h136 (by decide)) (fun h136 => ?_)
    refine gx_aload_n d_Mo_change_139 rfl ?_
    refine gx_cVr lk_Mo_126 d_Mo_change_140 (cm_makeWay (tx := sp_txt (sp_c0 inp)) (rs := sp_rsx M inp) (sp_run_ne _ _ _) hrl (fun i hi => ⟨hK.2.2.1.T (hrs2 i hi), hrk i hi⟩) (fun i hi => by rw [hM3, show sp_step M ((sp_rsx M inp).getD i ([], 0, [])) = _ from sp_run_step _ _ _ _ hi]; exact fun g => nomatch g) ((ui_o (by decide)).trans ((hK.2.1 2 (by decide)).trans hI2.1)) (by rw [hM3]; exact hM) (by rw [hM3, ui_o (by decide)]; exact hK.1) (by rw [hM3]; exact hK.2.2.2) (by rw [hM3]; exact (sp_dsx_len M inp).2) (by rw [hM3]; exact sp_dsx_ok hM hi4) ui_s) (Or.inl ⟨_, mo_o⟩) (by omega) rfl rfl (Nat.le_of_ble_eq_true rfl) (fun r2 w2 hq => ?_)
    obtain ⟨rfl, I5, A5, rfl, hW5⟩ := hq
    rw [hM3] at hW5
    have hwy : sp_wyx M inp = sp_wy M (sp_rsx M inp) (sp_dom M (sp_txt (sp_c0 inp))).length := sp_wyx_so hlc
    rw [← hwy] at hW5
    refine gx_aload_n d_Mo_change_143 rfl ?_
    refine gx_iconst d_Mo_change_144 (nI 0) (by decide) ?_
    refine gx_put fp_Mo_129 (fun h => by cases h) d_Mo_change_145 mo_o rfl rfl (Nat.le_of_ble_eq_true rfl) ?_
    refine gx_w mo_p5 ?_
    refine gx_aload_n d_Mo_change_148 rfl ?_
    refine gx_iconst d_Mo_change_149 (nI 0) (by decide) ?_
    refine gx_put fp_Mo_132 (fun h => by cases h) d_Mo_change_150 mo_o rfl rfl (Nat.le_of_ble_eq_true rfl) ?_
    refine gx_w mo_p6 ?_
    refine gx_aload_n d_Mo_change_153 rfl ?_
    refine gx_iconst d_Mo_change_154 (nI 4294967295) (by decide) ?_
    refine gx_put fp_Mo_59 (fun h => by cases h) d_Mo_change_155 mo_o rfl rfl (Nat.le_of_ble_eq_true rfl) ?_
    refine gx_w mo_p7 ?_
    refine gx_return rfl d_Mo_change_158 ?_
    exact ⟨rfl, _, _, rfl, (md_fin hMe hin hI2 hX2 hrs2 hK hW5).1, (md_fin hMe hin hI2 hX2 hrs2 hK hW5).2⟩
  · rw [decide_eq_false hlc]
    refine gx_if_eqN (by decide) (tgt := 143) d_Mo_change_136 (by decide) (fun h136 => ?_) (fun h136 => absurd rfl h136)
    have hW5 : moW (sp_u I3 4 0) A3 (sp_u I3 4 0) A3 (sp_wyx M inp) := by rw [sp_wyx_no hlc]; exact moW.nil ui_s
    refine gx_aload_n d_Mo_change_143 rfl ?_
    refine gx_iconst d_Mo_change_144 (nI 0) (by decide) ?_
    refine gx_put fp_Mo_129 (fun h => by cases h) d_Mo_change_145 mo_o rfl rfl (Nat.le_of_ble_eq_true rfl) ?_
    refine gx_w mo_p5 ?_
    refine gx_aload_n d_Mo_change_148 rfl ?_
    refine gx_iconst d_Mo_change_149 (nI 0) (by decide) ?_
    refine gx_put fp_Mo_132 (fun h => by cases h) d_Mo_change_150 mo_o rfl rfl (Nat.le_of_ble_eq_true rfl) ?_
    refine gx_w mo_p6 ?_
    refine gx_aload_n d_Mo_change_153 rfl ?_
    refine gx_iconst d_Mo_change_154 (nI 4294967295) (by decide) ?_
    refine gx_put fp_Mo_59 (fun h => by cases h) d_Mo_change_155 mo_o rfl rfl (Nat.le_of_ble_eq_true rfl) ?_
    refine gx_w mo_p7 ?_
    refine gx_return rfl d_Mo_change_158 ?_
    exact ⟨rfl, _, _, rfl, (md_fin hMe hin hI2 hX2 hrs2 hK hW5).1, (md_fin hMe hin hI2 hX2 hrs2 hK hW5).2⟩
