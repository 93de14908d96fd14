/-! the reference: which domino is found; the whole way -/
theorem sp_rs_mem {M : sp_M} {n : Nat} {p : List Nat × List Nat} (h : p ∈ sp_rs M n) : ∃ r, r < n ∧ p ∈ sp_rd M r := by
  obtain ⟨r, h1, h2⟩ := List.mem_flatMap.mp h
  exact ⟨r, List.mem_range.mp h1, h2⟩
theorem sp_re_mem {M : sp_M} {r beh : Nat} {t : List Nat} {p : List Nat × List Nat} (h : p ∈ sp_re M r beh t) : p.1 = [sp_let (r / 3), beh] ∨ ∃ s, s < 3 ∧ p.1 = [48 + s, sp_let (r / 3), beh] := by
  unfold sp_re at h
  split at h
  · rw [List.mem_singleton] at h; subst h; exact Or.inl rfl
  · rw [List.mem_map] at h
    obtain ⟨s, hs, rfl⟩ := h
    refine Or.inr ⟨s, ?_, rfl⟩
    simp at hs; omega
theorem sp_rd_mem {M : sp_M} {r : Nat} {p : List Nat × List Nat} (h : p ∈ sp_rd M r) : ∃ beh, (beh = 48 + r % 3 ∨ (beh = 35 ∧ r % 3 = 0)) ∧ (p.1 = [sp_let (r / 3), beh] ∨ ∃ s, s < 3 ∧ p.1 = [48 + s, sp_let (r / 3), beh]) := by
  unfold sp_rd at h
  split at h
  · rw [List.mem_append] at h
    rcases h with h | h
    · exact ⟨_, Or.inl rfl, sp_re_mem h⟩
    · split at h
      · rename_i h0; exact ⟨_, Or.inr ⟨rfl, h0⟩, sp_re_mem h⟩
      · exact absurd h (List.not_mem_nil)
  · exact absurd h (List.not_mem_nil)
theorem sp_rs_cut (M : sp_M) (r : Nat) : ∀ k, ∃ z, sp_rs M (r + 1 + k) = sp_rs M r ++ sp_rd M r ++ z
  | 0 => ⟨[], by rw [Nat.add_zero, sp_rs_succ, List.append_nil]⟩
  | k + 1 => by
    obtain ⟨z, hz⟩ := sp_rs_cut M r k
    exact ⟨z ++ sp_rd M (r + 1 + k), by rw [← Nat.add_assoc, sp_rs_succ, hz, List.append_assoc]⟩
theorem gx_dg1 {X Y : List (List Nat × List Nat)} {d : Nat} (h : d < X.length) : (X ++ Y).getD d ([], []) = X.getD d ([], []) := by
  simp [List.getD_eq_getElem?_getD, List.getElem?_append_left h]
theorem gx_dg2 {X Y : List (List Nat × List Nat)} {d : Nat} : (X ++ Y).getD (X.length + d) ([], []) = Y.getD d ([], []) := by
  simp [List.getD_eq_getElem?_getD, List.getElem?_append_right]
theorem sp_fst_of {H R Y Z : List (List Nat × List Nat)} {a b c i : Nat} (hH : H.length = 5) (hR : ∀ p ∈ R, ¬ sp_pd p.1 a b c) (hi : i < Y.length) (hy : sp_pd (Y.getD i ([], [])).1 a b c) (hn : ∀ j, j < i → ¬ sp_pd (Y.getD j ([], [])).1 a b c) : sp_fst (H ++ (R ++ (Y ++ Z))) a b c (5 + R.length + i) := by
  refine ⟨by omega, by simp only [List.length_append]; omega, ?_, fun d h5 hd => ?_⟩
  · rw [← hH, Nat.add_assoc, gx_dg2, gx_dg2, gx_dg1 hi]; exact hy
  · obtain ⟨e, rfl⟩ : ∃ e, d = H.length + e := ⟨d - 5, by omega⟩
    rw [gx_dg2]
    by_cases h : e < R.length
    · rw [gx_dg1 h]; exact hR _ (gx_dmem h)
    · obtain ⟨g, rfl⟩ : ∃ g, e = R.length + g := ⟨e - R.length, by omega⟩
      rw [gx_dg2, gx_dg1 (by omega)]
      exact hn g (by omega)
theorem sp_dom_cut (M : sp_M) (t : List Nat) {r : Nat} (h : r < 12) : ∃ z, sp_dom M t = sp_hd t ++ (sp_rs M r ++ (sp_rd M r ++ z)) := by
  obtain ⟨z, hz⟩ := sp_rs_cut M r (11 - r)
  rw [show r + 1 + (11 - r) = 12 by omega] at hz
  exact ⟨z ++ sp_en, by unfold sp_dom; rw [hz]; simp only [List.append_assoc]⟩
/-- earlier rules have other upper halves -/
theorem sp_rs_R {M : sp_M} {q s beh : Nat} (hq : q < 4) (hs : s < 3) (hb : beh = 48 + s ∨ (beh = 35 ∧ s = 0)) : ∀ p ∈ sp_rs M (3 * q + s), ¬ sp_pd p.1 (sp_let q) beh 0 := by
  intro p hp hpd
  obtain ⟨r, hr, hp⟩ := sp_rs_mem hp
  obtain ⟨b2, hb2, h⟩ := sp_rd_mem hp
  have e1 := sp_let_lo hq
  have e2 := sp_let_lo (show r / 3 < 4 by omega)
  unfold sp_pd at hpd
  rcases h with h | ⟨s2, hs2, h⟩
  · rw [h] at hpd; simp only [List.getD_cons_zero, List.getD_cons_succ, List.getD_nil] at hpd; omega
  · rw [h] at hpd; simp only [List.getD_cons_zero, List.getD_cons_succ, List.getD_nil] at hpd; omega
theorem sp_rs_L {M : sp_M} {q s u beh : Nat} (hq : q < 4) (hs : s < 3) (hu : u < 3) (hb : beh = 48 + s ∨ (beh = 35 ∧ s = 0)) : ∀ p ∈ sp_rs M (3 * q + s), ¬ sp_pd p.1 (48 + u) (sp_let q) beh := by
  intro p hp hpd
  obtain ⟨r, hr, hp⟩ := sp_rs_mem hp
  obtain ⟨b2, hb2, h⟩ := sp_rd_mem hp
  have e1 := sp_let_lo hq
  have e2 := sp_let_lo (show r / 3 < 4 by omega)
  unfold sp_pd at hpd
  rcases h with h | ⟨s2, hs2, h⟩
  · rw [h] at hpd; simp only [List.getD_cons_zero, List.getD_cons_succ, List.getD_nil] at hpd; omega
  · rw [h] at hpd; simp only [List.getD_cons_zero, List.getD_cons_succ, List.getD_nil] at hpd; omega
theorem sp_rs_E {M : sp_M} {a b c : Nat} (h : (48 ≤ a ∧ a < 51 ∧ b = 104) ∨ a = 104) : ∀ p ∈ sp_rs M 12, ¬ sp_pd p.1 a b c := by
  intro p hp hpd
  obtain ⟨r, hr, hp⟩ := sp_rs_mem hp
  obtain ⟨b2, hb2, h2⟩ := sp_rd_mem hp
  have e2 := sp_let_lo (show r / 3 < 4 by omega)
  unfold sp_pd at hpd
  rcases h2 with h2 | ⟨s2, hs2, h2⟩
  · rw [h2] at hpd; simp only [List.getD_cons_zero, List.getD_cons_succ, List.getD_nil] at hpd; omega
  · rw [h2] at hpd; simp only [List.getD_cons_zero, List.getD_cons_succ, List.getD_nil] at hpd; omega
theorem fs_rt {M : sp_M} {t : List Nat} {q s : Nat} (hq : q < 4) (hs : s < 3) (hk : sp_kn M (3 * q + s) = 1) (hrt : sp_rt M (3 * q + s) = 1) : sp_fst (sp_dom M t) (sp_let q) (48 + s) 0 (sp_fo M (3 * q + s) + (0)) := by
  obtain ⟨z, hz⟩ := sp_dom_cut M t (show 3 * q + s < 12 by omega)
  have e1 := sp_let_lo hq
  rw [hz]
  unfold sp_fo
  by_cases h0 : s = 0
  · rw [sp_rd_0 h0 hk, sp_re_R hs hrt, sp_re_R hs hrt]
    refine sp_fst_of rfl (sp_rs_R hq hs (Or.inl rfl)) (by simp) ?_ (fun j hj => ?_)
    · exact ⟨rfl, rfl, rfl⟩
    · exact absurd hj (Nat.not_lt_zero _)
  · rw [sp_rd_a hs h0 hk, sp_re_R hs hrt]
    refine sp_fst_of rfl (sp_rs_R hq hs (Or.inl rfl)) (by simp) ?_ (fun j hj => ?_)
    · exact ⟨rfl, rfl, rfl⟩
    · exact absurd hj (Nat.not_lt_zero _)
theorem fs_re {M : sp_M} {t : List Nat} {q s : Nat} (hq : q < 4) (hs : s < 3) (hk : sp_kn M (3 * q + s) = 1) (hrt : sp_rt M (3 * q + s) = 1) (h0 : s = 0) : sp_fst (sp_dom M t) (sp_let q) 35 0 (sp_fo M (3 * q + s) + (1)) := by
  obtain ⟨z, hz⟩ := sp_dom_cut M t (show 3 * q + s < 12 by omega)
  have e1 := sp_let_lo hq
  rw [hz]
  unfold sp_fo
  rw [sp_rd_0 h0 hk, sp_re_R hs hrt, sp_re_R hs hrt]
  refine sp_fst_of rfl (sp_rs_R hq hs (Or.inr ⟨rfl, h0⟩)) (by simp) ?_ (fun j hj => ?_)
  · exact ⟨rfl, rfl, rfl⟩
  · obtain rfl : j = 0 := by omega
    intro g
    have g2 := g.2.1
    simp at g2
    omega
theorem fs_lt {M : sp_M} {t : List Nat} {q s u : Nat} (hq : q < 4) (hs : s < 3) (hu : u < 3) (hk : sp_kn M (3 * q + s) = 1) (hrt : sp_rt M (3 * q + s) = 0) : sp_fst (sp_dom M t) (48 + u) (sp_let q) (48 + s) (sp_fo M (3 * q + s) + (u)) := by
  obtain ⟨z, hz⟩ := sp_dom_cut M t (show 3 * q + s < 12 by omega)
  have e1 := sp_let_lo hq
  rw [hz]
  unfold sp_fo
  by_cases h0 : s = 0
  · rw [sp_rd_0 h0 hk, sp_re_L hs hrt, sp_re_L hs hrt]
    rcases (show u = 0 ∨ u = 1 ∨ u = 2 by omega) with rfl | rfl | rfl
    · refine sp_fst_of rfl (sp_rs_L hq hs hu (Or.inl rfl)) (by simp) ?_ (fun j hj => ?_)
      · exact ⟨rfl, rfl, rfl⟩
      · exact absurd hj (Nat.not_lt_zero _)
    · refine sp_fst_of rfl (sp_rs_L hq hs hu (Or.inl rfl)) (by simp) ?_ (fun j hj => ?_)
      · exact ⟨rfl, rfl, rfl⟩
      · rcases (show j = 0 by omega) with rfl
        all_goals (intro g; obtain ⟨g1, g2, g3⟩ := g; simp at g1 g3; try omega)
    · refine sp_fst_of rfl (sp_rs_L hq hs hu (Or.inl rfl)) (by simp) ?_ (fun j hj => ?_)
      · exact ⟨rfl, rfl, rfl⟩
      · rcases (show j = 0 ∨ j = 1 by omega) with rfl | rfl
        all_goals (intro g; obtain ⟨g1, g2, g3⟩ := g; simp at g1 g3; try omega)
  · rw [sp_rd_a hs h0 hk, sp_re_L hs hrt]
    rcases (show u = 0 ∨ u = 1 ∨ u = 2 by omega) with rfl | rfl | rfl
    · refine sp_fst_of rfl (sp_rs_L hq hs hu (Or.inl rfl)) (by simp) ?_ (fun j hj => ?_)
      · exact ⟨rfl, rfl, rfl⟩
      · exact absurd hj (Nat.not_lt_zero _)
    · refine sp_fst_of rfl (sp_rs_L hq hs hu (Or.inl rfl)) (by simp) ?_ (fun j hj => ?_)
      · exact ⟨rfl, rfl, rfl⟩
      · rcases (show j = 0 by omega) with rfl
        all_goals (intro g; obtain ⟨g1, g2, g3⟩ := g; simp at g1 g3; try omega)
    · refine sp_fst_of rfl (sp_rs_L hq hs hu (Or.inl rfl)) (by simp) ?_ (fun j hj => ?_)
      · exact ⟨rfl, rfl, rfl⟩
      · rcases (show j = 0 ∨ j = 1 by omega) with rfl | rfl
        all_goals (intro g; obtain ⟨g1, g2, g3⟩ := g; simp at g1 g3; try omega)
theorem fs_le {M : sp_M} {t : List Nat} {q s u : Nat} (hq : q < 4) (hs : s < 3) (hu : u < 3) (hk : sp_kn M (3 * q + s) = 1) (hrt : sp_rt M (3 * q + s) = 0) (h0 : s = 0) : sp_fst (sp_dom M t) (48 + u) (sp_let q) 35 (sp_fo M (3 * q + s) + (3 + u)) := by
  obtain ⟨z, hz⟩ := sp_dom_cut M t (show 3 * q + s < 12 by omega)
  have e1 := sp_let_lo hq
  rw [hz]
  unfold sp_fo
  rw [sp_rd_0 h0 hk, sp_re_L hs hrt, sp_re_L hs hrt]
  rcases (show u = 0 ∨ u = 1 ∨ u = 2 by omega) with rfl | rfl | rfl
  · refine sp_fst_of rfl (sp_rs_L hq hs hu (Or.inr ⟨rfl, h0⟩)) (by simp) ?_ (fun j hj => ?_)
    · exact ⟨rfl, rfl, rfl⟩
    · rcases (show j = 0 ∨ j = 1 ∨ j = 2 by omega) with rfl | rfl | rfl
      all_goals (intro g; obtain ⟨g1, g2, g3⟩ := g; simp at g1 g3; try omega)
  · refine sp_fst_of rfl (sp_rs_L hq hs hu (Or.inr ⟨rfl, h0⟩)) (by simp) ?_ (fun j hj => ?_)
    · exact ⟨rfl, rfl, rfl⟩
    · rcases (show j = 0 ∨ j = 1 ∨ j = 2 ∨ j = 3 by omega) with rfl | rfl | rfl | rfl
      all_goals (intro g; obtain ⟨g1, g2, g3⟩ := g; simp at g1 g3; try omega)
  · refine sp_fst_of rfl (sp_rs_L hq hs hu (Or.inr ⟨rfl, h0⟩)) (by simp) ?_ (fun j hj => ?_)
    · exact ⟨rfl, rfl, rfl⟩
    · rcases (show j = 0 ∨ j = 1 ∨ j = 2 ∨ j = 3 ∨ j = 4 by omega) with rfl | rfl | rfl | rfl | rfl
      all_goals (intro g; obtain ⟨g1, g2, g3⟩ := g; simp at g1 g3; try omega)
theorem sp_dom_e (M : sp_M) (t : List Nat) : sp_dom M t = sp_hd t ++ (sp_rs M 12 ++ (sp_en ++ [])) := by unfold sp_dom; rw [List.append_nil, List.append_assoc]
theorem sp_dom_n (M : sp_M) (t : List Nat) : (sp_dom M t).length = 5 + (sp_rs M 12).length + 7 := by
  rw [sp_dom_e]; simp only [List.length_append, List.length_nil]; show 5 + ((sp_rs M 12).length + 7) = _; omega
theorem fs_h1 {M : sp_M} {t : List Nat} {u : Nat} (hu : u < 3) : sp_fst (sp_dom M t) (48 + u) 104 0 ((sp_dom M t).length - 7 + u) := by
  rw [sp_dom_n, Nat.add_sub_cancel, sp_dom_e]
  rcases (show u = 0 ∨ u = 1 ∨ u = 2 by omega) with rfl | rfl | rfl
  · exact sp_fst_of rfl (sp_rs_E (Or.inl ⟨by omega, by omega, rfl⟩)) (by decide) ⟨rfl, rfl, rfl⟩ (fun j hj => absurd hj (Nat.not_lt_zero _))
  · refine sp_fst_of rfl (sp_rs_E (Or.inl ⟨by omega, by omega, rfl⟩)) (by decide) ⟨rfl, rfl, rfl⟩ (fun j hj => ?_)
    obtain rfl : j = 0 := by omega
    exact fun g => absurd g.1 (by decide)
  · refine sp_fst_of rfl (sp_rs_E (Or.inl ⟨by omega, by omega, rfl⟩)) (by decide) ⟨rfl, rfl, rfl⟩ (fun j hj => ?_)
    rcases (show j = 0 ∨ j = 1 by omega) with rfl | rfl <;> exact fun g => absurd g.1 (by decide)
theorem fs_h2 {M : sp_M} {t : List Nat} {u : Nat} (hu : u < 3) : sp_fst (sp_dom M t) 104 (48 + u) 0 ((sp_dom M t).length - 7 + 3 + u) := by
  rw [sp_dom_n, Nat.add_sub_cancel, sp_dom_e]
  rcases (show u = 0 ∨ u = 1 ∨ u = 2 by omega) with rfl | rfl | rfl
  · refine sp_fst_of (i := 3) rfl (sp_rs_E (Or.inr rfl)) (by decide) ⟨rfl, rfl, rfl⟩ (fun j hj => ?_)
    rcases (show j = 0 ∨ j = 1 ∨ j = 2 by omega) with rfl | rfl | rfl <;> exact fun g => absurd g.1 (by decide)
  · refine sp_fst_of (i := 4) rfl (sp_rs_E (Or.inr rfl)) (by decide) ⟨rfl, rfl, rfl⟩ (fun j hj => ?_)
    rcases (show j = 0 ∨ j = 1 ∨ j = 2 ∨ j = 3 by omega) with rfl | rfl | rfl | rfl
    · exact fun g => absurd g.1 (by decide)
    · exact fun g => absurd g.1 (by decide)
    · exact fun g => absurd g.1 (by decide)
    · exact fun g => absurd g.2.1 (by decide)
  · refine sp_fst_of (i := 5) rfl (sp_rs_E (Or.inr rfl)) (by decide) ⟨rfl, rfl, rfl⟩ (fun j hj => ?_)
    rcases (show j = 0 ∨ j = 1 ∨ j = 2 ∨ j = 3 ∨ j = 4 by omega) with rfl | rfl | rfl | rfl | rfl
    · exact fun g => absurd g.1 (by decide)
    · exact fun g => absurd g.1 (by decide)
    · exact fun g => absurd g.1 (by decide)
    · exact fun g => absurd g.2.1 (by decide)
    · exact fun g => absurd g.2.1 (by decide)
theorem fs_h3 {M : sp_M} {t : List Nat} : sp_fst (sp_dom M t) 104 35 35 ((sp_dom M t).length - 1) := by
  rw [sp_dom_n, show 5 + (sp_rs M 12).length + 7 - 1 = 5 + (sp_rs M 12).length + 6 by omega, sp_dom_e]
  refine sp_fst_of rfl (sp_rs_E (Or.inr rfl)) (by decide) ⟨rfl, rfl, rfl⟩ (fun j hj => ?_)
  rcases (show j = 0 ∨ j = 1 ∨ j = 2 ∨ j = 3 ∨ j = 4 ∨ j = 5 by omega) with rfl | rfl | rfl | rfl | rfl | rfl
  · exact fun g => absurd g.1 (by decide)
  · exact fun g => absurd g.1 (by decide)
  · exact fun g => absurd g.1 (by decide)
  · exact fun g => absurd g.2.1 (by decide)
  · exact fun g => absurd g.2.1 (by decide)
  · exact fun g => absurd g.2.1 (by decide)
theorem cm_wayStep {w : gx_W} {m : Nat} {I I' : Nat → Nat} {A A' : Nat → Nat → Nat} {p t : List Nat} {k : Nat} {c : sp_C} (hk : k ≤ 13) (hc : sp_ok c) (hl : sp_len c ≤ 10) (hT : moT A k c) (hM : sp_Mok (moM A)) (hI : I 3 = (sp_dom (moM A) t).length) (hds : moDs A (sp_dom (moM A) t)) (hd : (sp_dom (moM A) t).length ≤ 60) (hdk : ∀ p ∈ sp_dom (moM A) t, sp_dk p) (hW : moW I A I' A' p) (hp : p.length + 12 ≤ 300) (hs : sp_step (moM A) c ≠ none) : gx_Ct M_Mo_wayStep 4 0 0 [.ref m, .int (nI k)] (gx_mo w m I' A') (fun r w' => r = none ∧ ∃ I'' A'', w' = gx_mo w m I'' A'' ∧ moW I A I'' A'' (p ++ sp_ws (moM A) c)) := by
  have hg0 := sp_gd_lt hc.2.2 0
  have hg1 := sp_gd_lt hc.1 (c.1.length - 1)
  unfold sp_step at hs
  rcases hrl : sp_rl (moM A) c with _ | r
  · rw [hrl] at hs; exact absurd rfl hs
  · rw [hrl] at hs
    simp only at hs
    obtain ⟨hr12, hre, hq3, hkn⟩ := sp_rl_lt hrl hc
    have hr3 : r = 3 * c.2.1 + c.2.2.getD 0 0 := by omega
    have hM2 := (hM r).2.1
    unfold sp_ws
    rw [hrl]
    simp only
    by_cases hrt : sp_rt (moM A) r = 1
    · rw [if_pos hrt]
      by_cases hth : c.2.2.length = 0
      · have h0 : c.2.2.getD 0 0 = 0 := gx_gd_ge (by omega)
        have h := cm_ws_re hk hc hl hT hM hI hds hd hdk hW hp hrl hrt hth (D := sp_fo (moM A) r + 1) (w := w) (m := m) (by rw [hr3] at hkn hrt ⊢; exact fs_re hq3 hg0 hkn hrt h0)
        rw [if_pos hth, if_pos hth]
        rw [List.take_of_length_le (Nat.le_refl _), List.drop_one] at h
        simpa using h
      · have h := cm_ws_rt hk hc hl hT hM hI hds hd hdk hW hp hrl hrt hth (D := sp_fo (moM A) r + 0) (w := w) (m := m) (by rw [hr3] at hkn hrt ⊢; exact fs_rt hq3 hg0 hkn hrt)
        rw [if_neg hth, if_neg hth]
        rw [List.take_of_length_le (Nat.le_refl _), List.drop_one] at h
        simpa using h
    · rw [if_neg hrt] at hs ⊢
      have hrt0 : sp_rt (moM A) r = 0 := by omega
      have hne : ¬ c.1.length = 0 := fun e => by rw [if_pos e] at hs; exact absurd rfl hs
      by_cases hth : c.2.2.length = 0
      · have h0 : c.2.2.getD 0 0 = 0 := gx_gd_ge (by omega)
        have h := cm_ws_le hk hc hl hT hM hI hds hd hdk hW hp hrl hrt0 hne hth (D := sp_fo (moM A) r + (3 + c.1.getD (c.1.length - 1) 0)) (w := w) (m := m) (by rw [hr3] at hkn hrt0 ⊢; exact fs_le hq3 hg0 hg1 hkn hrt0 h0)
        rw [if_pos hth, if_pos hth, List.dropLast_eq_take, Nat.add_assoc]
        rw [List.drop_one] at h
        simpa [sp_lst] using h
      · have h := cm_ws_lt hk hc hl hT hM hI hds hd hdk hW hp hrl hrt0 hne hth (D := sp_fo (moM A) r + c.1.getD (c.1.length - 1) 0) (w := w) (m := m) (by rw [hr3] at hkn hrt0 ⊢; exact fs_lt hq3 hg0 hg1 hkn hrt0)
        rw [if_neg hth, if_neg hth, List.dropLast_eq_take, Nat.add_zero]
        rw [List.drop_one] at h
        simpa [sp_lst] using h
