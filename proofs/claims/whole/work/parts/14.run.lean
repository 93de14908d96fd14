/-! Run: its methods -/
def rnF (r i : Nat) : Option Nat := if i < 13 then some (r + 2 + 2 * i) else none
/-- the run's object at r, its array at r + 1, its texts from r + 2 on -/
def rnAt (w : gx_W) (r n : Nat) (T : Nat → List Nat) : Prop := w.1 r = some (gx_ob 3 [.ref (r + 1), .int (nI n)]) ∧ w.1 (r + 1) = some (gx_ar 3 13 (rnF r)) ∧ ∀ i, i < 13 → w.1 (r + 2 + 2 * i) = some (gx_bx 0 11 (T i))
def rnOk (w : gx_W) (r : Nat) (rs : List sp_C) : Prop := rs ≠ [] ∧ rs.length ≤ 13 ∧ ∃ T, rnAt w r (rs.length - 1) T ∧ ∀ i, i < rs.length → T i = sp_txt (rs.getD i ([], 0, []))
theorem rnF_in {r i : Nat} (h : i < 13) : rnF r i = some (r + 2 + 2 * i) := if_pos h
theorem rnAt.kept {w w' : gx_W} {r n lo hi : Nat} {T : Nat → List Nat} (h : rnAt w r n T) (hk : gx_kp w w' lo hi) (hd : r + 28 ≤ lo ∨ hi ≤ r) : rnAt w' r n T := by
  obtain ⟨h0, h1, h2⟩ := h
  exact ⟨by rw [hk.2 _ (by omega)]; exact h0, by rw [hk.2 _ (by omega)]; exact h1, fun i hi => by rw [hk.2 _ (by omega)]; exact h2 i hi⟩
theorem rnOk.kept {w w' : gx_W} {r lo hi : Nat} {rs : List sp_C} (h : rnOk w r rs) (hk : gx_kp w w' lo hi) (hd : r + 28 ≤ lo ∨ hi ≤ r) : rnOk w' r rs := by
  obtain ⟨h0, h1, T, h2, h3⟩ := h
  exact ⟨h0, h1, T, h2.kept hk hd, h3⟩
theorem sp_step_len {M : sp_M} {c c' : sp_C} (h : sp_step M c = some c') : sp_len c' ≤ sp_len c + 1 := by
  unfold sp_step at h
  cases hr : sp_rl M c with
  | none => rw [hr] at h; cases h
  | some r =>
    rw [hr] at h
    have htl : c.2.2.tail.length = c.2.2.length - 1 := List.length_tail
    by_cases e : sp_rt M r = 1
    · simp only [if_pos e] at h
      cases h
      simp [sp_len]; omega
    · by_cases e2 : c.1.length = 0
      · simp only [if_neg e, if_pos e2] at h; cases h
      · simp only [if_neg e, if_neg e2] at h
        cases h
        simp [sp_len]; omega
theorem sp_step_ok {M : sp_M} {c c' : sp_C} (hM : sp_Mok M) (hc : sp_ok c) (h : sp_step M c = some c') : sp_ok c' := by
  unfold sp_step at h
  cases hr : sp_rl M c with
  | none => rw [hr] at h; cases h
  | some r =>
    rw [hr] at h
    obtain ⟨-, -, h3, h4⟩ := hM r
    have ht : ∀ s ∈ c.2.2.tail, s < 3 := fun s hs => hc.2.2 s (List.mem_of_mem_tail hs)
    by_cases e : sp_rt M r = 1
    · simp only [if_pos e] at h
      cases h
      refine ⟨fun s hs => ?_, h4, ht⟩
      rcases List.mem_append.mp hs with h5 | h5
      · exact hc.1 s h5
      · rw [List.mem_singleton.mp h5]; exact h3
    · by_cases e2 : c.1.length = 0
      · simp only [if_neg e, if_pos e2] at h; cases h
      · simp only [if_neg e, if_neg e2] at h
        cases h
        refine ⟨fun s hs => hc.1 s ((List.dropLast_sublist c.1).subset hs), h4, fun s hs => ?_⟩
        rcases List.mem_cons.mp hs with h5 | h5
        · rw [h5]; exact sp_gd_lt hc.1 _
        · rcases List.mem_cons.mp h5 with h6 | h6
          · rw [h6]; exact h3
          · exact ht s h6
theorem gx_gdc_lo {P K : List sp_C} {i : Nat} {d : sp_C} (h : i < P.length) : (P ++ K).getD i d = P.getD i d := by
  simp [List.getD_eq_getElem?_getD, List.getElem?_append_left h]
theorem gx_gdc_mid {P : List sp_C} {c d : sp_C} : (P ++ [c]).getD P.length d = c := by
  simp [List.getD_eq_getElem?_getD]
theorem rnOk.one {w : gx_W} {r k : Nat} {T : Nat → List Nat} {P : List sp_C} {c : sp_C} (h : rnAt w r k T) (hk : P.length = k) (hk2 : k < 13) (h1 : ∀ i, i < P.length → T i = sp_txt (P.getD i ([], 0, []))) (h2 : T k = sp_txt c) : rnOk w r (P ++ [c]) := by
  refine ⟨by simp, by simp; omega, T, by simpa [hk] using h, fun i hi => ?_⟩
  rw [List.length_append, List.length_singleton] at hi
  by_cases e : i < P.length
  · rw [gx_gdc_lo e]; exact h1 i e
  · have e2 : i = P.length := by omega
    rw [e2, gx_gdc_mid, hk]; exact h2
theorem d_Run_stepCount_0 : decode prog_7_method_2_code 0 = .ok (.aload_n 0, 1) := by decide +kernel
theorem d_Run_stepCount_1 : decode prog_7_method_2_code 1 = .ok (.getfield 20, 3) := by decide +kernel
theorem d_Run_stepCount_4 : decode prog_7_method_2_code 4 = .ok (.ireturn, 1) := by decide +kernel
theorem ct_stepCount {w : gx_W} {r m : Nat} {T : Nat → List Nat} (h : rnAt w r m T) : gx_Ct M_Run_stepCount 1 0 0 [.ref r] w (gx_eq (some (.int (nI m))) w) := by
  refine gx_ct (L := [some (.ref r)]) (by decide) (Nat.le_of_ble_eq_true rfl) rfl ?_
  refine gx_aload_n d_Run_stepCount_0 rfl ?_
  refine gx_get fl_Run_20 d_Run_stepCount_1 h.1 rfl ?_
  refine gx_ireturn rfl d_Run_stepCount_4 ?_
  exact ⟨rfl, rfl⟩
theorem d_Run_text_0 : decode prog_7_method_3_code 0 = .ok (.aload_n 0, 1) := by decide +kernel
theorem d_Run_text_1 : decode prog_7_method_3_code 1 = .ok (.getfield 11, 3) := by decide +kernel
theorem d_Run_text_4 : decode prog_7_method_3_code 4 = .ok (.iconst 0, 1) := by decide +kernel
theorem d_Run_text_5 : decode prog_7_method_3_code 5 = .ok (.iload_n 1, 1) := by decide +kernel
theorem d_Run_text_6 : decode prog_7_method_3_code 6 = .ok (.aload_n 0, 1) := by decide +kernel
theorem d_Run_text_7 : decode prog_7_method_3_code 7 = .ok (.getfield 20, 3) := by decide +kernel
theorem d_Run_text_10 : decode prog_7_method_3_code 10 = .ok (.invokestatic 24, 3) := by decide +kernel
theorem d_Run_text_13 : decode prog_7_method_3_code 13 = .ok (.invokestatic 30, 3) := by decide +kernel
theorem d_Run_text_16 : decode prog_7_method_3_code 16 = .ok (.aaload, 1) := by decide +kernel
theorem d_Run_text_17 : decode prog_7_method_3_code 17 = .ok (.areturn, 1) := by decide +kernel
theorem ct_text {w : gx_W} {r m j : Nat} {T : Nat → List Nat} (h : rnAt w r m T) (hj : j ≤ m) (hm : m < 13) : gx_Ct M_Run_text 1 0 0 [.ref r, .int (nI j)] w (gx_eq (some (.ref (r + 2 + 2 * j))) w) := by
  refine gx_ct (L := [some (.ref r), some (.int (nI j))]) (by decide) (Nat.le_of_ble_eq_true rfl) rfl ?_
  refine gx_aload_n d_Run_text_0 rfl ?_
  refine gx_get fl_Run_11 d_Run_text_1 h.1 rfl ?_
  refine gx_iconst d_Run_text_4 (nI 0) (by decide) ?_
  refine gx_iload_n d_Run_text_5 rfl ?_
  refine gx_aload_n d_Run_text_6 rfl ?_
  refine gx_get fl_Run_20 d_Run_text_7 h.1 rfl ?_
  refine gx_min lk_Run_24 (by omega) (Nat.le_of_ble_eq_true rfl) d_Run_text_10 ?_
  refine gx_top ((gx_mnI (by omega) (by omega)).trans (congrArg nI (Nat.min_eq_left hj))) ?_
  refine gx_max lk_Run_30 (by omega) (Nat.le_of_ble_eq_true rfl) d_Run_text_13 ?_
  refine gx_top ((gx_mxI (by omega) (by omega)).trans (congrArg nI (Nat.max_eq_right (Nat.zero_le _)))) ?_
  refine gx_aald3 d_Run_text_16 h.2.1 (by omega) (by omega) (rnF_in (by omega)) ?_
  refine gx_areturn rfl (Or.inl ⟨_, rfl⟩) (Or.inr ⟨_, rfl⟩) d_Run_text_17 ?_
  exact ⟨rfl, rfl⟩
theorem sp_let_h {q : Nat} (h : q ≤ 4) : sp_let q = 104 ↔ q = 4 := by
  unfold sp_let
  by_cases e : q = 4
  · rw [if_pos e]; exact ⟨fun _ => e, fun _ => rfl⟩
  · rw [if_neg e]; omega
theorem d_Run_isHalted_0 : decode prog_7_method_4_code 0 = .ok (.aload_n 0, 1) := by decide +kernel
theorem d_Run_isHalted_1 : decode prog_7_method_4_code 1 = .ok (.aload_n 0, 1) := by decide +kernel
theorem d_Run_isHalted_2 : decode prog_7_method_4_code 2 = .ok (.getfield 20, 3) := by decide +kernel
theorem d_Run_isHalted_5 : decode prog_7_method_4_code 5 = .ok (.invokevirtual 33, 3) := by decide +kernel
theorem d_Run_isHalted_8 : decode prog_7_method_4_code 8 = .ok (.astore_n 1, 1) := by decide +kernel
theorem d_Run_isHalted_9 : decode prog_7_method_4_code 9 = .ok (.aload_n 1, 1) := by decide +kernel
theorem d_Run_isHalted_10 : decode prog_7_method_4_code 10 = .ok (.aload_n 1, 1) := by decide +kernel
theorem d_Run_isHalted_11 : decode prog_7_method_4_code 11 = .ok (.invokevirtual 37, 3) := by decide +kernel
theorem d_Run_isHalted_14 : decode prog_7_method_4_code 14 = .ok (.invokevirtual 41, 3) := by decide +kernel
theorem d_Run_isHalted_17 : decode prog_7_method_4_code 17 = .ok (.iconst 4, 1) := by decide +kernel
theorem d_Run_isHalted_18 : decode prog_7_method_4_code 18 = .ok (.invokestatic 45, 3) := by decide +kernel
theorem d_Run_isHalted_21 : decode prog_7_method_4_code 21 = .ok (.if_icmp .ne 7, 3) := by decide +kernel
theorem d_Run_isHalted_24 : decode prog_7_method_4_code 24 = .ok (.iconst 1, 1) := by decide +kernel
theorem d_Run_isHalted_25 : decode prog_7_method_4_code 25 = .ok (.goto 4, 3) := by decide +kernel
theorem d_Run_isHalted_28 : decode prog_7_method_4_code 28 = .ok (.iconst 0, 1) := by decide +kernel
theorem d_Run_isHalted_29 : decode prog_7_method_4_code 29 = .ok (.ireturn, 1) := by decide +kernel
theorem ct_isHalted {w : gx_W} {r : Nat} {rs : List sp_C} {c : sp_C} (h : rnOk w r rs) (hc : sp_ok c) (hl : rs.getD (rs.length - 1) ([], 0, []) = c) : gx_Ct M_Run_isHalted 2 0 0 [.ref r] w (gx_eq (some (.int (nI (decide (c.2.1 = 4)).toNat))) w) := by
  refine gx_ct (L := [some (.ref r), none]) (by decide) (Nat.le_of_ble_eq_true rfl) rfl ?_
  obtain ⟨hne, h13, T, h, hT⟩ := h
  have hpos : 0 < rs.length := List.length_pos_iff.mpr hne
  have hw : w.1 (r + 2 + 2 * (rs.length - 1)) = some (gx_bx 0 11 (sp_txt c)) := by rw [h.2.2 _ (by omega), hT _ (by omega), hl]
  have hge := sp_let_lt hc.2.1
  refine gx_aload_n d_Run_isHalted_0 rfl ?_
  refine gx_aload_n d_Run_isHalted_1 rfl ?_
  refine gx_get fl_Run_20 d_Run_isHalted_2 h.1 rfl ?_
  refine gx_cV1 lk_Run_33 d_Run_isHalted_5 (ct_text h (Nat.le_refl _) (by omega)) (Or.inl ⟨_, h.1⟩) (by omega) rfl rfl (Nat.le_of_ble_eq_true rfl) ?_
  refine gx_astore_n d_Run_isHalted_8 (Nat.le_of_ble_eq_true rfl) rfl ?_
  refine gx_aload_n d_Run_isHalted_9 rfl ?_
  refine gx_aload_n d_Run_isHalted_10 rfl ?_
  refine gx_bsz hw (fun hlen hcap hsm => ?_)
  rw [sp_txt_len] at hlen
  have hsl : sp_len c = c.1.length + 1 + c.2.2.length := rfl
  refine gx_cV1 lk_Run_37 d_Run_isHalted_11 (ct_Word_head hw sp_hd3 (sp_hd1 hc) sp_hd2) (Or.inr ⟨_, _, hw⟩) (by omega) rfl rfl (Nat.le_of_ble_eq_true rfl) ?_
  refine gx_cV1 lk_Run_41 d_Run_isHalted_14 (ct_Word_at (j := c.1.length) hw (by omega)) (Or.inr ⟨_, _, hw⟩) (by omega) rfl rfl (Nat.le_of_ble_eq_true rfl) ?_
  refine gx_top (congrArg nI sp_txt_mid) ?_
  refine gx_iconst d_Run_isHalted_17 (nI 4) (by decide) ?_
  refine gx_cS1 lk_Run_45 d_Run_isHalted_18 (ct_letter (q := 4) (by omega)) (by omega) rfl rfl (Nat.le_of_ble_eq_true rfl) ?_
  refine gx_top (show _ = nI 104 from rfl) ?_
  refine gx_icmp_neN (by omega) (by omega) (tgt := 28) d_Run_isHalted_21 (by decide) (fun h21 => ?_) (fun h21 => ?_)
  · rw [decide_eq_false (fun g => h21 ((sp_let_h hc.2.1).mpr g))]
    refine gx_iconst d_Run_isHalted_28 (nI 0) (by decide) ?_
    refine gx_zreturn rfl (by decide) d_Run_isHalted_29 ?_
    exact ⟨rfl, rfl⟩
  · rw [decide_eq_true ((sp_let_h hc.2.1).mp h21)]
    refine gx_iconst d_Run_isHalted_24 (nI 1) (by decide) ?_
    refine gx_goto (tgt := 29) d_Run_isHalted_25 (by decide) ?_
    refine gx_zreturn rfl (by decide) d_Run_isHalted_29 ?_
    exact ⟨rfl, rfl⟩
theorem d_Run_follow_0 : decode prog_7_method_5_code 0 = .ok (.aload_n 0, 1) := by decide +kernel
theorem d_Run_follow_1 : decode prog_7_method_5_code 1 = .ok (.iconst 0, 1) := by decide +kernel
theorem d_Run_follow_2 : decode prog_7_method_5_code 2 = .ok (.putfield 20, 3) := by decide +kernel
theorem d_Run_follow_5 : decode prog_7_method_5_code 5 = .ok (.aload_n 0, 1) := by decide +kernel
theorem d_Run_follow_6 : decode prog_7_method_5_code 6 = .ok (.getfield 11, 3) := by decide +kernel
theorem d_Run_follow_9 : decode prog_7_method_5_code 9 = .ok (.iconst 0, 1) := by decide +kernel
theorem d_Run_follow_10 : decode prog_7_method_5_code 10 = .ok (.aaload, 1) := by decide +kernel
theorem d_Run_follow_11 : decode prog_7_method_5_code 11 = .ok (.aload_n 1, 1) := by decide +kernel
theorem d_Run_follow_12 : decode prog_7_method_5_code 12 = .ok (.getfield 48, 3) := by decide +kernel
theorem d_Run_follow_15 : decode prog_7_method_5_code 15 = .ok (.invokevirtual 54, 3) := by decide +kernel
theorem d_Run_follow_18 : decode prog_7_method_5_code 18 = .ok (.iconst 1, 1) := by decide +kernel
theorem d_Run_follow_19 : decode prog_7_method_5_code 19 = .ok (.istore_n 2, 1) := by decide +kernel
theorem d_Run_follow_20 : decode prog_7_method_5_code 20 = .ok (.iload_n 2, 1) := by decide +kernel
theorem d_Run_follow_21 : decode prog_7_method_5_code 21 = .ok (.aload_n 0, 1) := by decide +kernel
theorem d_Run_follow_22 : decode prog_7_method_5_code 22 = .ok (.getfield 11, 3) := by decide +kernel
theorem d_Run_follow_25 : decode prog_7_method_5_code 25 = .ok (.arraylength, 1) := by decide +kernel
theorem d_Run_follow_26 : decode prog_7_method_5_code 26 = .ok (.if_icmp .ge 50, 3) := by decide +kernel
theorem d_Run_follow_29 : decode prog_7_method_5_code 29 = .ok (.aload_n 1, 1) := by decide +kernel
theorem d_Run_follow_30 : decode prog_7_method_5_code 30 = .ok (.aload_n 0, 1) := by decide +kernel
theorem d_Run_follow_31 : decode prog_7_method_5_code 31 = .ok (.getfield 11, 3) := by decide +kernel
theorem d_Run_follow_34 : decode prog_7_method_5_code 34 = .ok (.iload_n 2, 1) := by decide +kernel
theorem d_Run_follow_35 : decode prog_7_method_5_code 35 = .ok (.iconst 1, 1) := by decide +kernel
theorem d_Run_follow_36 : decode prog_7_method_5_code 36 = .ok (.isub, 1) := by decide +kernel
theorem d_Run_follow_37 : decode prog_7_method_5_code 37 = .ok (.aaload, 1) := by decide +kernel
theorem d_Run_follow_38 : decode prog_7_method_5_code 38 = .ok (.aload_n 0, 1) := by decide +kernel
theorem d_Run_follow_39 : decode prog_7_method_5_code 39 = .ok (.getfield 11, 3) := by decide +kernel
theorem d_Run_follow_42 : decode prog_7_method_5_code 42 = .ok (.iload_n 2, 1) := by decide +kernel
theorem d_Run_follow_43 : decode prog_7_method_5_code 43 = .ok (.aaload, 1) := by decide +kernel
theorem d_Run_follow_44 : decode prog_7_method_5_code 44 = .ok (.invokevirtual 58, 3) := by decide +kernel
theorem d_Run_follow_47 : decode prog_7_method_5_code 47 = .ok (.ifCond .eq 17, 3) := by decide +kernel
theorem d_Run_follow_50 : decode prog_7_method_5_code 50 = .ok (.aload_n 0, 1) := by decide +kernel
theorem d_Run_follow_51 : decode prog_7_method_5_code 51 = .ok (.getfield 11, 3) := by decide +kernel
theorem d_Run_follow_54 : decode prog_7_method_5_code 54 = .ok (.iload_n 2, 1) := by decide +kernel
theorem d_Run_follow_55 : decode prog_7_method_5_code 55 = .ok (.aaload, 1) := by decide +kernel
theorem d_Run_follow_56 : decode prog_7_method_5_code 56 = .ok (.invokevirtual 62, 3) := by decide +kernel
theorem d_Run_follow_59 : decode prog_7_method_5_code 59 = .ok (.bipush 10, 2) := by decide +kernel
theorem d_Run_follow_61 : decode prog_7_method_5_code 61 = .ok (.if_icmp .le 4, 3) := by decide +kernel
theorem d_Run_follow_64 : decode prog_7_method_5_code 64 = .ok (.return_, 1) := by decide +kernel
theorem d_Run_follow_65 : decode prog_7_method_5_code 65 = .ok (.aload_n 0, 1) := by decide +kernel
theorem d_Run_follow_66 : decode prog_7_method_5_code 66 = .ok (.iload_n 2, 1) := by decide +kernel
theorem d_Run_follow_67 : decode prog_7_method_5_code 67 = .ok (.putfield 20, 3) := by decide +kernel
theorem d_Run_follow_70 : decode prog_7_method_5_code 70 = .ok (.iinc 2 1, 3) := by decide +kernel
theorem d_Run_follow_73 : decode prog_7_method_5_code 73 = .ok (.goto (-53), 3) := by decide +kernel
theorem d_Run_follow_76 : decode prog_7_method_5_code 76 = .ok (.return_, 1) := by decide +kernel
theorem fo_none {Q : gx_P} {w : gx_W} {a r k : Nat} {M : sp_M} {t : List Nat} {c : sp_C} {P : List sp_C} {T : Nat → List Nat} (hm : mcAt w a M t) (hM : sp_Mok M) (hra : a + 7 ≤ r) (hk1 : 1 ≤ k) (hk : k < 13) (hP : P.length = k - 1) (h : rnAt w r (k - 1) T) (h1 : ∀ i, i < P.length → T i = sp_txt (P.getD i ([], 0, []))) (h2 : T (k - 1) = sp_txt c) (hc : sp_ok c) (hs : sp_step M c = none) (hQ : Q.1 none w) : gx_X (fun _ _ => True) M_Run_follow 4 Q 44 [some (.ref r), some (.ref a), some (.int (nI k))] [.ref (r + 2 + 2 * k), .ref (r + 2 + 2 * (k - 1)), .ref a] w (0, 0) := by
  have hw := h.2.2 (k - 1) (by omega)
  rw [h2] at hw
  have hw2 := h.2.2 k (by omega)
  refine gx_cV1 lk_Run_58 d_Run_follow_44 (ct_step_none (h2 := r + 2 + 2 * k) hm hM hw hc hs) (Or.inl ⟨_, hm.1⟩) (by omega) rfl rfl (Nat.le_of_ble_eq_true rfl) ?_
  refine gx_if_eqN (by omega) (tgt := 64) d_Run_follow_47 (by decide) (fun h47 => ?_) (fun h47 => ?_)
  · refine gx_return rfl d_Run_follow_64 ?_
    exact hQ
  · exact absurd rfl h47
theorem rnAt.set {w : gx_W} {r n k : Nat} {T : Nat → List Nat} {l : List Nat} (h : rnAt w r n T) (hk : k < 13) : rnAt (gx_st w (r + 2 + 2 * k) (gx_bx 0 11 l)) r n (fun i => if i = k then l else T i) := by
  obtain ⟨h0, h1, h2⟩ := h
  refine ⟨by rw [gx_st_ne (by omega)]; exact h0, by rw [gx_st_ne (by omega)]; exact h1, fun i hi => ?_⟩
  by_cases e : i = k
  · subst e; rw [gx_st_eq]; simp
  · rw [gx_st_ne (by omega), h2 i hi]; simp [e]
theorem rnAt.num {w : gx_W} {r n k : Nat} {T : Nat → List Nat} (h : rnAt w r n T) : rnAt (gx_st w r (gx_ob 3 [.ref (r + 1), .int (nI k)])) r k T := by
  obtain ⟨h0, h1, h2⟩ := h
  exact ⟨gx_st_eq, by rw [gx_st_ne (by omega)]; exact h1, fun i hi => by rw [gx_st_ne (by omega)]; exact h2 i hi⟩
theorem fo_some {Q : gx_P} {w : gx_W} {a r k : Nat} {M : sp_M} {t : List Nat} {c : sp_C} {P : List sp_C} {T : Nat → List Nat} (hm : mcAt w a M t) (hM : sp_Mok M) (hra : a + 7 ≤ r) (hk1 : 1 ≤ k) (hk : k < 13) (hP : P.length = k - 1) (h : rnAt w r (k - 1) T) (h1 : ∀ i, i < P.length → T i = sp_txt (P.getD i ([], 0, []))) (h2 : T (k - 1) = sp_txt c) (hc : sp_ok c) {c' : sp_C} (hl : sp_len c ≤ 10) (hs : sp_step M c = some c') (hQ : ¬ sp_len c' ≤ 10 → ∀ w', rnAt w' r (k - 1) (fun i => if i = k then sp_txt c' else T i) → gx_kp w w' r (r + 28) → Q.1 none w') (hX : sp_len c' ≤ 10 → ∀ w', rnAt w' r k (fun i => if i = k then sp_txt c' else T i) → gx_kp w w' r (r + 28) → gx_X (fun _ _ => True) M_Run_follow 4 Q 20 [some (.ref r), some (.ref a), some (.int (nI (k + 1)))] [] w' (0, 0)) : gx_X (fun _ _ => True) M_Run_follow 4 Q 44 [some (.ref r), some (.ref a), some (.int (nI k))] [.ref (r + 2 + 2 * k), .ref (r + 2 + 2 * (k - 1)), .ref a] w (0, 0) := by
  have hw := h.2.2 (k - 1) (by omega)
  rw [h2] at hw
  have hw2 := h.2.2 k (by omega)
  have hsl := sp_step_len hs
  have hA := rnAt.set (l := sp_txt c') h hk
  have hK : gx_kp w (gx_st w (r + 2 + 2 * k) (gx_bx 0 11 (sp_txt c'))) r (r + 28) := gx_kp.st (by omega) (by omega)
  refine gx_cV1 lk_Run_58 d_Run_follow_44 (ct_step_some hm hM hw hc hw2 (by omega) (by omega) hs (by omega)) (Or.inl ⟨_, hm.1⟩) (by omega) rfl rfl (Nat.le_of_ble_eq_true rfl) ?_
  refine gx_if_eqN (by omega) (tgt := 64) d_Run_follow_47 (by decide) (fun h47 => ?_) (fun h47 => ?_)
  · exact absurd h47 (by decide)
  · refine gx_aload_n d_Run_follow_50 rfl ?_
    refine gx_get fl_Run_11 d_Run_follow_51 hA.1 rfl ?_
    refine gx_iload_n d_Run_follow_54 rfl ?_
    refine gx_aald3 d_Run_follow_55 hA.2.1 (by omega) (by omega) (rnF_in (by omega)) ?_
    refine gx_cV1 lk_Run_62 d_Run_follow_56 (ct_Word_size gx_st_eq) (Or.inr ⟨_, _, gx_st_eq⟩) (by omega) rfl rfl (Nat.le_of_ble_eq_true rfl) ?_
    refine gx_top (congrArg nI (sp_txt_len c')) ?_
    refine gx_bipush d_Run_follow_59 (nI 10) (by decide) ?_
    refine gx_icmp_leN (by omega) (by omega) (tgt := 65) d_Run_follow_61 (by decide) (fun h61 => ?_) (fun h61 => ?_)
    · refine gx_aload_n d_Run_follow_65 rfl ?_
      refine gx_iload_n d_Run_follow_66 rfl ?_
      refine gx_put fp_Run_20 (fun h => by cases h) d_Run_follow_67 hA.1 rfl rfl (Nat.le_of_ble_eq_true rfl) ?_
      refine gx_iincN (n := 1) d_Run_follow_70 rfl (by decide) (Nat.le_of_ble_eq_true rfl) rfl ?_
      refine gx_goto (tgt := 20) d_Run_follow_73 (by decide) ?_
      exact hX h61 _ hA.num (hK.trans (gx_kp.st (by omega) (by omega)))
    · refine gx_return rfl d_Run_follow_64 ?_
      exact hQ h61 _ hA hK
theorem lp_follow {Q : gx_P} {a r : Nat} {M : sp_M} {t : List Nat} (hM : sp_Mok M) (hra : a + 7 ≤ r) : ∀ (fu : Nat) (k : Nat) (P : List sp_C) (c : sp_C) (w : gx_W) (T : Nat → List Nat), 13 - k < fu → (mcAt w a M t) → (1 ≤ k) → (k ≤ 13) → (P.length = k - 1) → (rnAt w r (k - 1) T) → (∀ i, i < P.length → T i = sp_txt (P.getD i ([], 0, []))) → (T (k - 1) = sp_txt c) → (sp_ok c) → (sp_len c ≤ 10) → (∀ w', rnOk w' r (P ++ sp_run M (13 - k) c) → gx_kp w w' r (r + 28) → Q.1 none w') → gx_X (fun _ _ => True) M_Run_follow 4 Q 20 [some (.ref r), some (.ref a), some (.int (nI k))] [] w (0, 0) := by
  intro fu
  induction fu with
  | zero => intro k P c w T hfu; exact absurd hfu (Nat.not_lt_zero _)
  | succ fu ih =>
    intro k P c w T hfu hm hk1 hk hP h h1 h2 hc hl hQ
    refine gx_iload_n d_Run_follow_20 rfl ?_
    refine gx_aload_n d_Run_follow_21 rfl ?_
    refine gx_get fl_Run_11 d_Run_follow_22 h.1 rfl ?_
    refine gx_alen (by decide) d_Run_follow_25 h.2.1 ?_
    refine gx_icmp_geN (by omega) (by omega) (tgt := 76) d_Run_follow_26 (by decide) (fun h26 => ?_) (fun h26 => ?_)
    · refine gx_return rfl d_Run_follow_76 ?_
      have e : k = 13 := by omega
      subst e
      exact hQ w (rnOk.one h (by omega) (by omega) h1 h2) gx_kp.rf
    · refine gx_aload_n d_Run_follow_29 rfl ?_
      refine gx_aload_n d_Run_follow_30 rfl ?_
      refine gx_get fl_Run_11 d_Run_follow_31 h.1 rfl ?_
      refine gx_iload_n d_Run_follow_34 rfl ?_
      refine gx_iconst d_Run_follow_35 (nI 1) (by decide) ?_
      refine gx_isubN (by omega) d_Run_follow_36 ?_
      refine gx_aald3 d_Run_follow_37 h.2.1 (by omega) (by omega) (rnF_in (by omega)) ?_
      refine gx_aload_n d_Run_follow_38 rfl ?_
      refine gx_get fl_Run_11 d_Run_follow_39 h.1 rfl ?_
      refine gx_iload_n d_Run_follow_42 rfl ?_
      refine gx_aald3 d_Run_follow_43 h.2.1 (by omega) (by omega) (rnF_in (by omega)) ?_
      have e13 : 13 - k = (12 - k) + 1 := by omega
      rw [e13] at hQ
      cases hs : sp_step M c with
      | none =>
        refine fo_none hm hM hra hk1 (by omega) hP h h1 h2 hc hs (hQ w ?_ gx_kp.rf)
        simp only [sp_run, hs]
        exact rnOk.one h (by omega) (by omega) h1 h2
      | some c' =>
        simp only [sp_run, hs] at hQ
        refine fo_some hm hM hra hk1 (by omega) hP h h1 h2 hc hl hs (fun g w' hA hK => ?_) (fun g w' hA hK => ?_)
        · rw [if_neg g] at hQ
          refine hQ w' (rnOk.one hA (by omega) (by omega) (fun i hi => ?_) ?_) hK
          · show (if i = k then _ else _) = _
            rw [if_neg (by omega)]; exact h1 i hi
          · show (if k - 1 = k then _ else _) = _
            rw [if_neg (by omega)]; exact h2
        · rw [if_pos g] at hQ
          refine ih (k + 1) (P ++ [c]) c' w' _ (by omega) (hm.kept hK (by omega)) (by omega) (by omega) (by simp; omega) (by simpa using hA) (fun i hi => ?_) ?_ (sp_step_ok hM hc hs) g (fun w2 h3 hK2 => hQ w2 ?_ (hK.trans hK2))
          · rw [List.length_append, List.length_singleton] at hi
            show (if i = k then _ else _) = _
            rw [if_neg (by omega)]
            by_cases e : i < P.length
            · rw [gx_gdc_lo e]; exact h1 i e
            · have e2 : i = P.length := by omega
              rw [e2, gx_gdc_mid, hP]; exact h2
          · show (if k + 1 - 1 = k then _ else _) = _
            rw [if_pos (by omega)]
          · rw [List.append_assoc, show 13 - (k + 1) = 12 - k by omega] at h3
            exact h3
theorem ct_follow {w : gx_W} {a r m : Nat} {M : sp_M} {c : sp_C} {T : Nat → List Nat} (hm : mcAt w a M (sp_txt c)) (hM : sp_Mok M) (hra : a + 7 ≤ r) (h : rnAt w r m T) (hc : sp_ok c) (hl : sp_len c ≤ 5) : gx_Ct M_Run_follow 4 0 0 [.ref r, .ref a] w (fun v w' => v = none ∧ rnOk w' r (sp_run M 12 c) ∧ gx_kp w w' r (r + 28)) := by
  refine gx_ct (L := [some (.ref r), some (.ref a), none]) (by decide) (Nat.le_of_ble_eq_true rfl) rfl ?_
  refine gx_aload_n d_Run_follow_0 rfl ?_
  refine gx_iconst d_Run_follow_1 (nI 0) (by decide) ?_
  refine gx_put fp_Run_20 (fun h => by cases h) d_Run_follow_2 h.1 rfl rfl (Nat.le_of_ble_eq_true rfl) ?_
  have h3 := rnAt.num (k := 0) h
  refine gx_aload_n d_Run_follow_5 rfl ?_
  refine gx_get fl_Run_11 d_Run_follow_6 h3.1 rfl ?_
  refine gx_iconst d_Run_follow_9 (nI 0) (by decide) ?_
  refine gx_aald3 d_Run_follow_10 h3.2.1 (by omega) (by omega) (rnF_in (by omega)) ?_
  refine gx_aload_n d_Run_follow_11 rfl ?_
  have hm3 := hm.kept (gx_kp.st (x := gx_ob 3 [.ref (r + 1), .int (nI 0)]) (Nat.le_refl r) (show r < r + 28 by omega)) (by omega)
  refine gx_get fl_Run_48 d_Run_follow_12 hm3.1 rfl ?_
  refine gx_cV0 lk_Run_54 d_Run_follow_15 (ct_Word_copy (h := r + 2 + 2 * 0) (h3.2.2 0 (by omega)) hm3.2.2.2.2.2 (by omega) (by rw [sp_txt_len]; omega)) (Or.inr ⟨_, _, h3.2.2 0 (by omega)⟩) (by omega) rfl rfl (Nat.le_of_ble_eq_true rfl) ?_
  refine gx_iconst d_Run_follow_18 (nI 1) (by decide) ?_
  refine gx_istore_n d_Run_follow_19 (Nat.le_of_ble_eq_true rfl) rfl ?_
  have h4 := rnAt.set (l := sp_txt c) h3 (show 0 < 13 by omega)
  have hK : gx_kp w (gx_st (gx_st w r (gx_ob 3 [.ref (r + 1), .int (nI 0)])) (r + 2 + 2 * 0) (gx_bx 0 11 (sp_txt c))) r (r + 28) := (gx_kp.st (by omega) (by omega)).trans (gx_kp.st (by omega) (by omega))
  exact lp_follow hM hra 13 1 [] c _ _ (by omega) (hm.kept hK (by omega)) (by omega) (by omega) rfl h4 (fun i hi => absurd hi (Nat.not_lt_zero i)) rfl hc (by omega) (fun w' h5 hK2 => ⟨rfl, h5, hK.trans hK2⟩)
