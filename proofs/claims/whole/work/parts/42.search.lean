/-! the reference: take, search -/
/-- each row knows its depth -/
def sp_qd (q : List sp_E) : Prop := ∀ i, i < q.length → ((q.getD i sp_e0).1 = -1 ∧ (q.getD i sp_e0).2.2.1 = 1) ∨ ∃ j, j < i ∧ (q.getD i sp_e0).1 = nI j ∧ (q.getD i sp_e0).2.2.1 = (q.getD j sp_e0).2.2.1 + 1
theorem gx_qa {q k : List sp_E} {i : Nat} (h : i < q.length) : (q ++ k).getD i sp_e0 = q.getD i sp_e0 := by
  simp [List.getD_eq_getElem?_getD, List.getElem?_append_left h]
theorem gx_qt {q : List sp_E} {i n : Nat} (h : i < n) : (q.take n).getD i sp_e0 = q.getD i sp_e0 := by
  rw [List.getD_eq_getElem?_getD, List.getD_eq_getElem?_getD, List.getElem?_take_of_lt h]
theorem sp_qd.take {q : List sp_E} (h : sp_qd q) (n : Nat) : sp_qd (q.take n) := by
  intro i hi
  rw [List.length_take] at hi
  rw [gx_qt (by omega)]
  rcases h i (by omega) with g | ⟨j, h1, h2, h3⟩
  · exact Or.inl g
  · exact Or.inr ⟨j, h1, h2, by rw [gx_qt (by omega)]; exact h3⟩
theorem sp_qd.push {q : List sp_E} {a d : Nat} {r : List Nat} (h : sp_qd q) (ha : a < q.length) : sp_qd (q ++ [(nI a, d, (q.getD a sp_e0).2.2.1 + 1, r)]) := by
  intro i hi
  rw [List.length_append, List.length_singleton] at hi
  by_cases e : i = q.length
  · subst e
    rw [gx_qmid]
    exact Or.inr ⟨a, ha, rfl, by rw [gx_qd ha]⟩
  · rw [gx_qd (by omega)]
    rcases h i (by omega) with g | ⟨j, h1, h2, h3⟩
    · exact Or.inl g
    · exact Or.inr ⟨j, h1, h2, by rw [gx_qd (by omega)]; exact h3⟩
theorem sp_qd.pos {q : List sp_E} (h : sp_qd q) {i : Nat} (hi : i < q.length) : 1 ≤ (q.getD i sp_e0).2.2.1 := by
  rcases h i hi with g | ⟨j, h1, h2, h3⟩
  · omega
  · omega
theorem sp_qd.le {q : List sp_E} (h : sp_qd q) : ∀ i, i < q.length → (q.getD i sp_e0).2.2.1 ≤ i + 1 := by
  intro i
  induction i using Nat.strongRecOn with
  | _ i ih =>
    intro hi
    rcases h i hi with g | ⟨j, h1, h2, h3⟩
    · omega
    · have := ih j h1 (by omega)
      omega
theorem sp_ph_s {q : List sp_E} {n j : Nat} (h : j < 2 ^ 31) : sp_ph q (n + 1) (nI j) = (q.getD j sp_e0).2.1 :: sp_ph q n (q.getD j sp_e0).1 := by
  conv => lhs; unfold sp_ph
  rw [if_neg (nI_pos h), gx_clz h]
theorem sp_qd.ph {q : List sp_E} (h : sp_qd q) (hq : q.length ≤ 402) : ∀ i, i < q.length → (sp_ph q (q.getD i sp_e0).2.2.1 (nI i)).length = (q.getD i sp_e0).2.2.1 := by
  intro i
  induction i using Nat.strongRecOn with
  | _ i ih =>
    intro hi
    rcases h i hi with ⟨g1, g2⟩ | ⟨j, h1, h2, h3⟩
    · rw [g2, sp_ph_s (by omega)]; rfl
    · rw [h3, sp_ph_s (by omega), h2, List.length_cons, ih j h1 (by omega)]
theorem d_Mo_take_0 : decode prog_11_method_40_code 0 = .ok (.aload_n 0, 1) := by decide +kernel
theorem d_Mo_take_1 : decode prog_11_method_40_code 1 = .ok (.getfield 69, 3) := by decide +kernel
theorem d_Mo_take_4 : decode prog_11_method_40_code 4 = .ok (.iload_n 1, 1) := by decide +kernel
theorem d_Mo_take_5 : decode prog_11_method_40_code 5 = .ok (.iaload, 1) := by decide +kernel
theorem d_Mo_take_6 : decode prog_11_method_40_code 6 = .ok (.bipush 60, 2) := by decide +kernel
theorem d_Mo_take_8 : decode prog_11_method_40_code 8 = .ok (.if_icmp .le 4, 3) := by decide +kernel
theorem d_Mo_take_11 : decode prog_11_method_40_code 11 = .ok (.return_, 1) := by decide +kernel
theorem d_Mo_take_12 : decode prog_11_method_40_code 12 = .ok (.aload_n 0, 1) := by decide +kernel
theorem d_Mo_take_13 : decode prog_11_method_40_code 13 = .ok (.aload_n 0, 1) := by decide +kernel
theorem d_Mo_take_14 : decode prog_11_method_40_code 14 = .ok (.getfield 69, 3) := by decide +kernel
theorem d_Mo_take_17 : decode prog_11_method_40_code 17 = .ok (.iload_n 1, 1) := by decide +kernel
theorem d_Mo_take_18 : decode prog_11_method_40_code 18 = .ok (.iaload, 1) := by decide +kernel
theorem d_Mo_take_19 : decode prog_11_method_40_code 19 = .ok (.putfield 129, 3) := by decide +kernel
theorem d_Mo_take_22 : decode prog_11_method_40_code 22 = .ok (.iload_n 1, 1) := by decide +kernel
theorem d_Mo_take_23 : decode prog_11_method_40_code 23 = .ok (.istore_n 2, 1) := by decide +kernel
theorem d_Mo_take_24 : decode prog_11_method_40_code 24 = .ok (.aload_n 0, 1) := by decide +kernel
theorem d_Mo_take_25 : decode prog_11_method_40_code 25 = .ok (.getfield 129, 3) := by decide +kernel
theorem d_Mo_take_28 : decode prog_11_method_40_code 28 = .ok (.iconst 1, 1) := by decide +kernel
theorem d_Mo_take_29 : decode prog_11_method_40_code 29 = .ok (.isub, 1) := by decide +kernel
theorem d_Mo_take_30 : decode prog_11_method_40_code 30 = .ok (.istore_n 3, 1) := by decide +kernel
theorem d_Mo_take_31 : decode prog_11_method_40_code 31 = .ok (.iload_n 3, 1) := by decide +kernel
theorem d_Mo_take_32 : decode prog_11_method_40_code 32 = .ok (.ifCond .lt 28, 3) := by decide +kernel
theorem d_Mo_take_35 : decode prog_11_method_40_code 35 = .ok (.aload_n 0, 1) := by decide +kernel
theorem d_Mo_take_36 : decode prog_11_method_40_code 36 = .ok (.getfield 47, 3) := by decide +kernel
theorem d_Mo_take_39 : decode prog_11_method_40_code 39 = .ok (.iload_n 3, 1) := by decide +kernel
theorem d_Mo_take_40 : decode prog_11_method_40_code 40 = .ok (.aload_n 0, 1) := by decide +kernel
theorem d_Mo_take_41 : decode prog_11_method_40_code 41 = .ok (.getfield 66, 3) := by decide +kernel
theorem d_Mo_take_44 : decode prog_11_method_40_code 44 = .ok (.iload_n 2, 1) := by decide +kernel
theorem d_Mo_take_45 : decode prog_11_method_40_code 45 = .ok (.iaload, 1) := by decide +kernel
theorem d_Mo_take_46 : decode prog_11_method_40_code 46 = .ok (.iastore, 1) := by decide +kernel
theorem d_Mo_take_47 : decode prog_11_method_40_code 47 = .ok (.aload_n 0, 1) := by decide +kernel
theorem d_Mo_take_48 : decode prog_11_method_40_code 48 = .ok (.getfield 63, 3) := by decide +kernel
theorem d_Mo_take_51 : decode prog_11_method_40_code 51 = .ok (.iload_n 2, 1) := by decide +kernel
theorem d_Mo_take_52 : decode prog_11_method_40_code 52 = .ok (.iaload, 1) := by decide +kernel
theorem d_Mo_take_53 : decode prog_11_method_40_code 53 = .ok (.istore_n 2, 1) := by decide +kernel
theorem d_Mo_take_54 : decode prog_11_method_40_code 54 = .ok (.iinc 3 (-1), 3) := by decide +kernel
theorem d_Mo_take_57 : decode prog_11_method_40_code 57 = .ok (.goto (-26), 3) := by decide +kernel
theorem d_Mo_take_60 : decode prog_11_method_40_code 60 = .ok (.return_, 1) := by decide +kernel
theorem lm_take {Q : gx_P} {w : gx_W} {m : Nat} {I : Nat → Nat} {A : Nat → Nat → Nat} {q : List sp_E} {x n : Nat} (hq : mQ I A q) (hqd : sp_qd q) (hqk : ∀ i, i < q.length → (q.getD i sp_e0).2.1 < 65536) (hn : n ≤ 60) (hP : (sp_ph q n (nI x)).length = n) : ∀ (fu : Nat) (j : Nat) (a : Int32) (A' : Nat → Nat → Nat), j < fu → (j ≤ n) → (∀ k, k ≠ 13 → A' k = A k) → (∀ k, j ≤ k → k < n → A' 13 k = (sp_ph q n (nI x)).getD (n - 1 - k) 0) → (j = 0 ∨ ∃ y, y < q.length ∧ a = nI y ∧ (q.getD y sp_e0).2.2.1 = j ∧ sp_ph q j (nI y) = (sp_ph q n (nI x)).drop (n - j)) → (∀ A'', (∀ k, k ≠ 13 → A'' k = A k) → (∀ k, k < n → A'' 13 k = (sp_ph q n (nI x)).getD (n - 1 - k) 0) → Q.1 none (gx_mo w m I A'')) → gx_X (fun _ _ => True) M_Mo_take 2 Q 31 [some (.ref m), some (.int (nI x)), some (.int a), some (.int (nI j - nI 1))] [] (gx_mo w m I A') (0, 0) := by
  intro fu
  induction fu with
  | zero => intro j a A' hfu; exact absurd hfu (Nat.not_lt_zero _)
  | succ fu ih =>
    intro j a A' hfu hj hA hB ha hX
    refine gx_iload_n d_Mo_take_31 rfl ?_
    rcases j with _ | j
    · refine gx_if_lt (tgt := 60) d_Mo_take_32 (by decide) (fun _ => ?_) (fun g => absurd gx_neg1 g)
      refine gx_return rfl d_Mo_take_60 ?_
      exact hX _ hA (fun k hk => hB k (Nat.zero_le _) hk)
    rcases ha with h0 | ⟨y, hy, rfl, hyd, hph⟩
    · omega
    have h402 := hq.2.1
    obtain ⟨a1, a2, a3, a4, a5, a6, a7⟩ := hq.2.2 y hy
    have hk1 := hqk y hy
    refine gx_L (L' := [some (.ref m), some (.int (nI x)), some (.int (nI y)), some (.int (nI j))]) (by rw [gx_s1s]) ?_
    refine gx_top (gx_s1s j) ?_
    refine gx_if_ltN (by omega) (tgt := 60) d_Mo_take_32 (by decide) ?_
    refine gx_aload_n d_Mo_take_35 rfl ?_
    refine gx_get fl_Mo_47 d_Mo_take_36 mo_o rfl ?_
    refine gx_iload_n d_Mo_take_39 rfl ?_
    refine gx_aload_n d_Mo_take_40 rfl ?_
    refine gx_get fl_Mo_66 d_Mo_take_41 mo_o rfl ?_
    refine gx_iload_n d_Mo_take_44 rfl ?_
    refine gx_iald d_Mo_take_45 mo_18 (by omega) (by omega) ?_
    rw [hA 18 (by decide), a2]
    refine gx_iast d_Mo_take_46 mo_13 (by omega) (by omega) ?_
    refine gx_w mo_s13 ?_
    refine gx_aload_n d_Mo_take_47 rfl ?_
    refine gx_get fl_Mo_63 d_Mo_take_48 mo_o rfl ?_
    refine gx_iload_n d_Mo_take_51 rfl ?_
    refine gx_iald d_Mo_take_52 mo_17 (by omega) (by omega) ?_
    rw [uA_o (by decide), hA 17 (by decide), a1]
    refine gx_istore_n d_Mo_take_53 (Nat.le_of_ble_eq_true rfl) rfl ?_
    refine gx_iinc d_Mo_take_54 rfl (nI j - nI 1) (gx_s1 _) (Nat.le_of_ble_eq_true rfl) rfl ?_
    refine gx_goto (tgt := 31) d_Mo_take_57 (by decide) ?_
    have hph2 : sp_ph q (j + 1) (nI y) = (q.getD y sp_e0).2.1 :: sp_ph q j (q.getD y sp_e0).1 := sp_ph_s (by omega)
    have hd1 : (sp_ph q n (nI x)).drop (n - (j + 1)) = (sp_ph q n (nI x)).getD (n - (j + 1)) 0 :: (sp_ph q n (nI x)).drop (n - (j + 1) + 1) := gx_drop_cons (by omega)
    rw [hph2, hd1, show n - (j + 1) + 1 = n - j by omega] at hph
    obtain ⟨e1, e2⟩ := List.cons.inj hph
    refine ih j _ _ (by omega) (by omega) (fun k hk => by rw [uA_oj hk]; exact hA k hk) (fun k h1 h2 => ?_) ?_ hX
    · by_cases e : k = j
      · subst e; rw [uA_s, e1, show n - 1 - k = n - (k + 1) by omega]
      · rw [uA_i e]; exact hB k (by omega) h2
    · rcases hqd y hy with ⟨g1, g2⟩ | ⟨z, h1, h2, h3⟩
      · exact Or.inl (by omega)
      · exact Or.inr ⟨z, by omega, h2, by omega, by rw [← e2, h2]⟩
theorem cm_take {w : gx_W} {m : Nat} {I : Nat → Nat} {A : Nat → Nat → Nat} {q : List sp_E} {x : Nat} {laid : List Nat} (hq : mQ I A q) (hqd : sp_qd q) (hqk : ∀ i, i < q.length → (q.getD i sp_e0).2.1 < 65536) (hx : x < q.length) (hla : moL (I 5) (A 13) laid) : gx_Ct M_Mo_take 2 0 0 [.ref m, .int (nI x)] (gx_mo w m I A) (fun r w' => r = none ∧ ∃ I' A', w' = gx_mo w m I' A' ∧ moL (I' 5) (A' 13) (if (q.getD x sp_e0).2.2.1 ≤ 60 then (sp_ph q (q.getD x sp_e0).2.2.1 (nI x)).reverse else laid) ∧ (∀ k, k ≠ 5 → I' k = I k) ∧ ∀ j, j ≠ 13 → A' j = A j) := by
  refine gx_ct (L := [some (.ref m), some (.int (nI x)), none, none]) (by decide) (Nat.le_of_ble_eq_true rfl) rfl ?_
  have h402 := hq.2.1
  obtain ⟨a1, a2, a3, a4, a5, a6, a7⟩ := hq.2.2 x hx
  have hle := hqd.le x hx
  have hpos := hqd.pos hx
  have hP := hqd.ph hq.2.1 x hx
  refine gx_aload_n d_Mo_take_0 rfl ?_
  refine gx_get fl_Mo_69 d_Mo_take_1 mo_o rfl ?_
  refine gx_iload_n d_Mo_take_4 rfl ?_
  refine gx_iald d_Mo_take_5 mo_19 (by omega) (by omega) ?_
  rw [a3]
  refine gx_bipush d_Mo_take_6 (nI 60) (by decide) ?_
  refine gx_icmp_leN (by omega) (by omega) (tgt := 12) d_Mo_take_8 (by decide) (fun h8 => ?_) (fun h8 => ?_)
  · refine gx_aload_n d_Mo_take_12 rfl ?_
    refine gx_aload_n d_Mo_take_13 rfl ?_
    refine gx_get fl_Mo_69 d_Mo_take_14 mo_o rfl ?_
    refine gx_iload_n d_Mo_take_17 rfl ?_
    refine gx_iald d_Mo_take_18 mo_19 (by omega) (by omega) ?_
    rw [a3]
    refine gx_put fp_Mo_129 (fun h => by cases h) d_Mo_take_19 mo_o rfl rfl (Nat.le_of_ble_eq_true rfl) ?_
    refine gx_w mo_p5 ?_
    refine gx_iload_n d_Mo_take_22 rfl ?_
    refine gx_istore_n d_Mo_take_23 (Nat.le_of_ble_eq_true rfl) rfl ?_
    refine gx_aload_n d_Mo_take_24 rfl ?_
    refine gx_get fl_Mo_129 d_Mo_take_25 mo_o rfl ?_
    rw [ui_s]
    refine gx_iconst d_Mo_take_28 (nI 1) (by decide) ?_
    refine gx_isub d_Mo_take_29 ?_
    refine gx_istore_n d_Mo_take_30 (Nat.le_of_ble_eq_true rfl) rfl ?_
    refine lm_take (I := sp_u I 5 (q.getD x sp_e0).2.2.1) (A := A) (x := x) ⟨(ui_o (by decide)).trans hq.1, hq.2⟩ hqd hqk (by omega) hP ((q.getD x sp_e0).2.2.1 + 1) (q.getD x sp_e0).2.2.1 (nI x) A (by omega) (Nat.le_refl _) (fun _ _ => rfl) (fun k h1 h2 => by omega) (Or.inr ⟨x, hx, rfl, rfl, by rw [Nat.sub_self, List.drop_zero]⟩) (fun A2 hA2 hB2 => ?_)
    refine ⟨rfl, _, _, rfl, ?_, fun k hk => ui_o hk, hA2⟩
    rw [if_pos (by omega), ui_s]
    refine ⟨by rw [List.length_reverse, hP], fun i hi => ?_⟩
    rw [List.length_reverse] at hi
    rw [gx_gd_rev hi, hP]
    exact hB2 i (by omega)
  · refine gx_return rfl d_Mo_take_11 ?_
    rw [if_neg (by omega)]
    exact ⟨rfl, _, _, rfl, hla, fun _ _ => rfl, fun _ _ => rfl⟩
theorem gx_tt {q x y : List sp_E} : ((q ++ x).take 402 ++ y).take 402 = (q ++ (x ++ y)).take 402 := by
  by_cases h : (q ++ x).length ≤ 402
  · rw [List.take_of_length_le h, List.append_assoc]
  · have h1 : ((q ++ x).take 402 ++ y).take 402 = (q ++ x).take 402 := by rw [List.take_append_of_le_length (by rw [List.length_take]; omega), List.take_take, Nat.min_self]
    have h2 : (q ++ (x ++ y)).take 402 = (q ++ x).take 402 := by rw [← List.append_assoc]; exact List.take_append_of_le_length (by omega)
    rw [h1, h2]
theorem sp_ch_1 {a0 sz d : Nat} {Rr : List Nat} {p : List Nat × List Nat} {t : List (List Nat × List Nat)} : sp_ch a0 sz Rr d (p :: t) = (if sp_agb p.1 (Rr ++ p.2) = true then [(nI a0, d, sz + 1, (Rr ++ p.2).drop p.1.length)] else []) ++ sp_ch a0 sz Rr (d + 1) t := by
  conv => lhs; unfold sp_ch
  split <;> rfl
theorem gx_dcons {ds : List (List Nat × List Nat)} {d : Nat} (h : d < ds.length) : ds.drop d = ds.getD d ([], []) :: ds.drop (d + 1) := by
  rw [List.getD_eq_getElem?_getD, List.getElem?_eq_getElem h]
  exact List.drop_eq_getElem_cons h
/-- what the queue keeps to -/
def sp_qs (n : Nat) (q : List sp_E) : Prop := sp_qd q ∧ sp_qok q ∧ (∀ i, i < q.length → (q.getD i sp_e0).2.1 < n) ∧ ∀ i, i < q.length → (q.getD i sp_e0).2.2.2.length ≤ 24
theorem gx_qmem {q : List sp_E} {i : Nat} (h : i < q.length) : q.getD i sp_e0 ∈ q := by
  rw [List.getD_eq_getElem?_getD, List.getElem?_eq_getElem h]; exact List.getElem_mem h
theorem sp_qs.push {n : Nat} {q : List sp_E} {a d : Nat} {r : List Nat} (h : sp_qs n q) (ha : a < q.length) (hd : d < n) (hr : r = [] ∨ 0 < r.count 35) (hs : gx_sm r) (hl : r.length ≤ 24) : sp_qs n (q ++ [(nI a, d, (q.getD a sp_e0).2.2.1 + 1, r)]) := by
  obtain ⟨h1, h2, h3, h4⟩ := h
  refine ⟨h1.push ha, fun e he => ?_, fun i hi => ?_, fun i hi => ?_⟩
  · rcases List.mem_append.mp he with g | g
    · exact h2 e g
    · rw [List.mem_singleton] at g; subst g; exact ⟨hr, hs, by show r.length < 65536; omega⟩
  · rw [List.length_append, List.length_singleton] at hi
    by_cases e : i = q.length
    · subst e; rw [gx_qmid]; exact hd
    · rw [gx_qd (by omega)]; exact h3 i (by omega)
  · rw [List.length_append, List.length_singleton] at hi
    by_cases e : i = q.length
    · subst e; rw [gx_qmid]; exact hl
    · rw [gx_qd (by omega)]; exact h4 i (by omega)
theorem sp_qs.take {n : Nat} {q : List sp_E} (h : sp_qs n q) (k : Nat) : sp_qs n (q.take k) := by
  obtain ⟨h1, h2, h3, h4⟩ := h
  refine ⟨h1.take k, fun e he => h2 e (List.mem_of_mem_take he), fun i hi => ?_, fun i hi => ?_⟩
  · rw [List.length_take] at hi
    rw [gx_qt (by omega)]; exact h3 i (by omega)
  · rw [List.length_take] at hi
    rw [gx_qt (by omega)]; exact h4 i (by omega)
theorem d_Mo_search_0 : decode prog_11_method_39_code 0 = .ok (.aload_n 0, 1) := by decide +kernel
theorem d_Mo_search_1 : decode prog_11_method_39_code 1 = .ok (.iconst 0, 1) := by decide +kernel
theorem d_Mo_search_2 : decode prog_11_method_39_code 2 = .ok (.putfield 90, 3) := by decide +kernel
theorem d_Mo_search_5 : decode prog_11_method_39_code 5 = .ok (.iload_n 1, 1) := by decide +kernel
theorem d_Mo_search_6 : decode prog_11_method_39_code 6 = .ok (.iconst 1, 1) := by decide +kernel
theorem d_Mo_search_7 : decode prog_11_method_39_code 7 = .ok (.if_icmp .lt 10, 3) := by decide +kernel
theorem d_Mo_search_10 : decode prog_11_method_39_code 10 = .ok (.iload_n 1, 1) := by decide +kernel
theorem d_Mo_search_11 : decode prog_11_method_39_code 11 = .ok (.sipush 400, 3) := by decide +kernel
theorem d_Mo_search_14 : decode prog_11_method_39_code 14 = .ok (.if_icmp .le 5, 3) := by decide +kernel
theorem d_Mo_search_17 : decode prog_11_method_39_code 17 = .ok (.iconst (-1), 1) := by decide +kernel
theorem d_Mo_search_18 : decode prog_11_method_39_code 18 = .ok (.ireturn, 1) := by decide +kernel
theorem d_Mo_search_19 : decode prog_11_method_39_code 19 = .ok (.aload_n 0, 1) := by decide +kernel
theorem d_Mo_search_20 : decode prog_11_method_39_code 20 = .ok (.iconst 0, 1) := by decide +kernel
theorem d_Mo_search_21 : decode prog_11_method_39_code 21 = .ok (.putfield 175, 3) := by decide +kernel
theorem d_Mo_search_24 : decode prog_11_method_39_code 24 = .ok (.aload_n 0, 1) := by decide +kernel
theorem d_Mo_search_25 : decode prog_11_method_39_code 25 = .ok (.iconst (-1), 1) := by decide +kernel
theorem d_Mo_search_26 : decode prog_11_method_39_code 26 = .ok (.iconst 0, 1) := by decide +kernel
theorem d_Mo_search_27 : decode prog_11_method_39_code 27 = .ok (.invokevirtual 178, 3) := by decide +kernel
theorem d_Mo_search_30 : decode prog_11_method_39_code 30 = .ok (.aload_n 0, 1) := by decide +kernel
theorem d_Mo_search_31 : decode prog_11_method_39_code 31 = .ok (.iconst 0, 1) := by decide +kernel
theorem d_Mo_search_32 : decode prog_11_method_39_code 32 = .ok (.putfield 59, 3) := by decide +kernel
theorem d_Mo_search_35 : decode prog_11_method_39_code 35 = .ok (.aload_n 0, 1) := by decide +kernel
theorem d_Mo_search_36 : decode prog_11_method_39_code 36 = .ok (.getfield 59, 3) := by decide +kernel
theorem d_Mo_search_39 : decode prog_11_method_39_code 39 = .ok (.aload_n 0, 1) := by decide +kernel
theorem d_Mo_search_40 : decode prog_11_method_39_code 40 = .ok (.getfield 175, 3) := by decide +kernel
theorem d_Mo_search_43 : decode prog_11_method_39_code 43 = .ok (.if_icmp .ge 78, 3) := by decide +kernel
theorem d_Mo_search_46 : decode prog_11_method_39_code 46 = .ok (.aload_n 0, 1) := by decide +kernel
theorem d_Mo_search_47 : decode prog_11_method_39_code 47 = .ok (.getfield 59, 3) := by decide +kernel
theorem d_Mo_search_50 : decode prog_11_method_39_code 50 = .ok (.iload_n 1, 1) := by decide +kernel
theorem d_Mo_search_51 : decode prog_11_method_39_code 51 = .ok (.if_icmp .ge 70, 3) := by decide +kernel
theorem d_Mo_search_54 : decode prog_11_method_39_code 54 = .ok (.aload_n 0, 1) := by decide +kernel
theorem d_Mo_search_55 : decode prog_11_method_39_code 55 = .ok (.getfield 59, 3) := by decide +kernel
theorem d_Mo_search_58 : decode prog_11_method_39_code 58 = .ok (.istore_n 2, 1) := by decide +kernel
theorem d_Mo_search_59 : decode prog_11_method_39_code 59 = .ok (.aload_n 0, 1) := by decide +kernel
theorem d_Mo_search_60 : decode prog_11_method_39_code 60 = .ok (.dup, 1) := by decide +kernel
theorem d_Mo_search_61 : decode prog_11_method_39_code 61 = .ok (.getfield 59, 3) := by decide +kernel
theorem d_Mo_search_64 : decode prog_11_method_39_code 64 = .ok (.iconst 1, 1) := by decide +kernel
theorem d_Mo_search_65 : decode prog_11_method_39_code 65 = .ok (.iadd, 1) := by decide +kernel
theorem d_Mo_search_66 : decode prog_11_method_39_code 66 = .ok (.putfield 59, 3) := by decide +kernel
theorem d_Mo_search_69 : decode prog_11_method_39_code 69 = .ok (.aload_n 0, 1) := by decide +kernel
theorem d_Mo_search_70 : decode prog_11_method_39_code 70 = .ok (.getfield 75, 3) := by decide +kernel
theorem d_Mo_search_73 : decode prog_11_method_39_code 73 = .ok (.iload_n 2, 1) := by decide +kernel
theorem d_Mo_search_74 : decode prog_11_method_39_code 74 = .ok (.iaload, 1) := by decide +kernel
theorem d_Mo_search_75 : decode prog_11_method_39_code 75 = .ok (.ifCond .ne 10, 3) := by decide +kernel
theorem d_Mo_search_78 : decode prog_11_method_39_code 78 = .ok (.aload_n 0, 1) := by decide +kernel
theorem d_Mo_search_79 : decode prog_11_method_39_code 79 = .ok (.iload_n 2, 1) := by decide +kernel
theorem d_Mo_search_80 : decode prog_11_method_39_code 80 = .ok (.invokevirtual 181, 3) := by decide +kernel
theorem d_Mo_search_83 : decode prog_11_method_39_code 83 = .ok (.iconst 1, 1) := by decide +kernel
theorem d_Mo_search_84 : decode prog_11_method_39_code 84 = .ok (.ireturn, 1) := by decide +kernel
theorem d_Mo_search_85 : decode prog_11_method_39_code 85 = .ok (.iconst 0, 1) := by decide +kernel
theorem d_Mo_search_86 : decode prog_11_method_39_code 86 = .ok (.istore_n 3, 1) := by decide +kernel
theorem d_Mo_search_87 : decode prog_11_method_39_code 87 = .ok (.iload_n 3, 1) := by decide +kernel
theorem d_Mo_search_88 : decode prog_11_method_39_code 88 = .ok (.aload_n 0, 1) := by decide +kernel
theorem d_Mo_search_89 : decode prog_11_method_39_code 89 = .ok (.getfield 139, 3) := by decide +kernel
theorem d_Mo_search_92 : decode prog_11_method_39_code 92 = .ok (.if_icmp .ge 26, 3) := by decide +kernel
theorem d_Mo_search_95 : decode prog_11_method_39_code 95 = .ok (.aload_n 0, 1) := by decide +kernel
theorem d_Mo_search_96 : decode prog_11_method_39_code 96 = .ok (.getfield 75, 3) := by decide +kernel
theorem d_Mo_search_99 : decode prog_11_method_39_code 99 = .ok (.iload_n 2, 1) := by decide +kernel
theorem d_Mo_search_100 : decode prog_11_method_39_code 100 = .ok (.iaload, 1) := by decide +kernel
theorem d_Mo_search_101 : decode prog_11_method_39_code 101 = .ok (.bipush 12, 2) := by decide +kernel
theorem d_Mo_search_103 : decode prog_11_method_39_code 103 = .ok (.if_icmp .gt 15, 3) := by decide +kernel
theorem d_Mo_search_106 : decode prog_11_method_39_code 106 = .ok (.aload_n 0, 1) := by decide +kernel
theorem d_Mo_search_107 : decode prog_11_method_39_code 107 = .ok (.iload_n 2, 1) := by decide +kernel
theorem d_Mo_search_108 : decode prog_11_method_39_code 108 = .ok (.iload_n 3, 1) := by decide +kernel
theorem d_Mo_search_109 : decode prog_11_method_39_code 109 = .ok (.invokevirtual 178, 3) := by decide +kernel
theorem d_Mo_search_112 : decode prog_11_method_39_code 112 = .ok (.iinc 3 1, 3) := by decide +kernel
theorem d_Mo_search_115 : decode prog_11_method_39_code 115 = .ok (.goto (-28), 3) := by decide +kernel
theorem d_Mo_search_118 : decode prog_11_method_39_code 118 = .ok (.goto (-83), 3) := by decide +kernel
theorem d_Mo_search_121 : decode prog_11_method_39_code 121 = .ok (.aload_n 0, 1) := by decide +kernel
theorem d_Mo_search_122 : decode prog_11_method_39_code 122 = .ok (.getfield 59, 3) := by decide +kernel
theorem d_Mo_search_125 : decode prog_11_method_39_code 125 = .ok (.aload_n 0, 1) := by decide +kernel
theorem d_Mo_search_126 : decode prog_11_method_39_code 126 = .ok (.getfield 175, 3) := by decide +kernel
theorem d_Mo_search_129 : decode prog_11_method_39_code 129 = .ok (.if_icmp .ge 7, 3) := by decide +kernel
theorem d_Mo_search_132 : decode prog_11_method_39_code 132 = .ok (.iconst 2, 1) := by decide +kernel
theorem d_Mo_search_133 : decode prog_11_method_39_code 133 = .ok (.goto 4, 3) := by decide +kernel
theorem d_Mo_search_136 : decode prog_11_method_39_code 136 = .ok (.iconst 0, 1) := by decide +kernel
theorem d_Mo_search_137 : decode prog_11_method_39_code 137 = .ok (.ireturn, 1) := by decide +kernel
theorem lm_se1 {Q : gx_P} {w : gx_W} {m : Nat} {I : Nat → Nat} {A : Nat → Nat → Nat} {ds : List (List Nat × List Nat)} (hds : moDs A ds) (hI3 : I 3 = ds.length) (h60 : ds.length ≤ 60) (hdk : ∀ p ∈ ds, sp_dk p) {q0 : List sp_E} {a0 fe : Nat} (h12 : (q0.getD a0 sp_e0).2.2.2.length ≤ 12) (h0 : 0 < (q0.getD a0 sp_e0).2.2.2.length) : ∀ (fu : Nat) (d : Nat) (q : List sp_E) (I' : Nat → Nat) (A' : Nat → Nat → Nat), ds.length - d < fu → (d ≤ ds.length) → (mQ I' A' q) → (sp_qs ds.length q) → (a0 < q.length) → (q.getD a0 sp_e0 = (q0.getD a0 sp_e0)) → ((q ++ sp_ch a0 (q0.getD a0 sp_e0).2.2.1 (q0.getD a0 sp_e0).2.2.2 d (ds.drop d)).take 402 = (q0 ++ sp_ch a0 (q0.getD a0 sp_e0).2.2.1 (q0.getD a0 sp_e0).2.2.2 0 ds).take 402) → ((∀ k, k ≠ 8 → I' k = I k) ∧ ∀ j, j < 17 → A' j = A j) → (∀ I'' A'' L3, mQ I'' A'' ((q0 ++ sp_ch a0 (q0.getD a0 sp_e0).2.2.1 (q0.getD a0 sp_e0).2.2.2 0 ds).take 402) → sp_qs ds.length ((q0 ++ sp_ch a0 (q0.getD a0 sp_e0).2.2.1 (q0.getD a0 sp_e0).2.2.2 0 ds).take 402) → (∀ k, k ≠ 8 → I'' k = I k) → (∀ j, j < 17 → A'' j = A j) → gx_X (fun _ _ => True) M_Mo_search 7 Q 118 [some (.ref m), some (.int (nI fe)), some (.int (nI a0)), L3] [] (gx_mo w m I'' A'') (0, 0)) → gx_X (fun _ _ => True) M_Mo_search 7 Q 87 [some (.ref m), some (.int (nI fe)), some (.int (nI a0)), some (.int (nI d))] [] (gx_mo w m I' A') (0, 0) := by
  intro fu
  induction fu with
  | zero => intro d q I' A' hfu; exact absurd hfu (Nat.not_lt_zero _)
  | succ fu ih =>
    intro d q I' A' hfu hd hq hs ha he hr hF hX
    have h402 := hq.2.1
    obtain ⟨a1, a2, a3, a4, a5, a6, a7⟩ := hq.2.2 a0 ha
    rw [he] at a5
    have hdz := hs.1.le a0 ha
    obtain ⟨k1, k2, k3⟩ := hs.2.1 _ (gx_qmem ha)
    have kc : 0 < (q.getD a0 sp_e0).2.2.2.count 35 := by
      rcases k1 with g | g
      · rw [he] at g; rw [g] at h0; exact absurd h0 (Nat.lt_irrefl _)
      · exact g
    have hds2 : moDs A' ds := by unfold moDs; rw [hF.2 8 (by decide), hF.2 9 (by decide), hF.2 10 (by decide), hF.2 11 (by decide)]; exact hds
    refine gx_iload_n d_Mo_search_87 rfl ?_
    refine gx_aload_n d_Mo_search_88 rfl ?_
    refine gx_get fl_Mo_139 d_Mo_search_89 mo_o rfl ?_
    rw [hF.1 3 (by decide), hI3]
    refine gx_icmp_geN (by omega) (by omega) (tgt := 118) d_Mo_search_92 (by decide) (fun h92 => ?_) (fun h92 => ?_)
    · rw [List.drop_eq_nil_of_le (by omega), show sp_ch a0 (q0.getD a0 sp_e0).2.2.1 (q0.getD a0 sp_e0).2.2.2 d [] = [] from rfl, List.append_nil, List.take_of_length_le (by omega)] at hr
      subst hr
      exact hX _ _ _ hq hs hF.1 hF.2
    · refine gx_aload_n d_Mo_search_95 rfl ?_
      refine gx_get fl_Mo_75 d_Mo_search_96 mo_o rfl ?_
      refine gx_iload_n d_Mo_search_99 rfl ?_
      refine gx_iald d_Mo_search_100 mo_21 (by omega) (by omega) ?_
      rw [a5]
      refine gx_bipush d_Mo_search_101 (nI 12) (by decide) ?_
      refine gx_icmp_gtN (by omega) (by omega) (tgt := 118) d_Mo_search_103 (by decide) (fun h103 => ?_) (fun h103 => ?_)
      · exact absurd h103 (by omega)
      · refine gx_aload_n d_Mo_search_106 rfl ?_
        refine gx_iload_n d_Mo_search_107 rfl ?_
        refine gx_iload_n d_Mo_search_108 rfl ?_
        refine gx_cVr lk_Mo_178 d_Mo_search_109 (cm_join hds2 (by omega) h60 hdk hq ha (by rw [he]; exact h12) (by rw [he]; exact h0) k2 kc (by omega)) (Or.inl ⟨_, mo_o⟩) (by omega) rfl rfl (Nat.le_of_ble_eq_true rfl) (fun r2 w2 hq => ?_)
        obtain ⟨rfl, I2, A2, rfl, hq2, hI2, hA2⟩ := hq
        refine gx_iincN (n := 1) d_Mo_search_112 rfl (by decide) (Nat.le_of_ble_eq_true rfl) rfl ?_
        refine gx_goto (tgt := 87) d_Mo_search_115 (by decide) ?_
        have hdd : d < ds.length := by omega
        obtain ⟨hdm, ⟨b4, b5⟩, b6, b7, _⟩ := hdk _ (gx_dmem hdd)
        rw [gx_dcons hdd, sp_ch_1] at hr
        rw [he] at hq2 kc k2
        by_cases hag : sp_agb (ds.getD d ([], [])).1 ((q0.getD a0 sp_e0).2.2.2 ++ (ds.getD d ([], [])).2) = true
        · rw [if_pos hag] at hq2 hr
          have hft := dm_fit kc hdm hag
          refine ih (d + 1) _ _ _ (by omega) (by omega) hq2 ?_ ?_ ?_ (by rw [gx_tt, hr]) ⟨fun k hk => (hI2 k hk).trans (hF.1 k hk), fun j hj => (hA2 j hj).trans (hF.2 j hj)⟩ hX
          · rw [← he]
            exact sp_qs.take (hs.push ha hdd (by rw [he]; exact hft.2) (fun c hc => gx_sm_app (by rw [he]; exact k2) b5 c (List.mem_of_mem_drop hc)) (by rw [List.length_drop, List.length_append, he]; omega)) 402
          · rw [List.length_take, List.length_append]; omega
          · rw [gx_qt (by omega), gx_qa ha]; exact he
        · rw [if_neg hag] at hq2 hr
          rw [List.nil_append] at hr
          exact ih (d + 1) _ _ _ (by omega) (by omega) hq2 hs ha he hr ⟨fun k hk => (hI2 k hk).trans (hF.1 k hk), fun j hj => (hA2 j hj).trans (hF.2 j hj)⟩ hX
theorem lk_out {cap n a0 : Nat} {ds : List (List Nat × List Nat)} {q : List sp_E} (h : ¬ a0 < q.length) : sp_lk cap ds n a0 q = (0, a0, q) := by
  cases n with
  | zero => unfold sp_lk; rw [if_neg h]
  | succ n => unfold sp_lk; rw [if_neg h]
theorem lk_2 {cap a0 : Nat} {ds : List (List Nat × List Nat)} {q : List sp_E} (h : a0 < q.length) : sp_lk cap ds 0 a0 q = (2, a0, q) := by
  unfold sp_lk; rw [if_pos h]
theorem lk_1 {cap n a0 : Nat} {ds : List (List Nat × List Nat)} {q : List sp_E} (h : a0 < q.length) (h0 : (q.getD a0 sp_e0).2.2.2.length = 0) : sp_lk cap ds (n + 1) a0 q = (1, a0 + 1, q) := by
  conv => lhs; unfold sp_lk
  rw [if_pos h, if_pos h0]
theorem lk_s {cap n a0 : Nat} {ds : List (List Nat × List Nat)} {q : List sp_E} (h : a0 < q.length) (h0 : ¬ (q.getD a0 sp_e0).2.2.2.length = 0) : sp_lk cap ds (n + 1) a0 q = sp_lk cap ds n (a0 + 1) (sp_nq cap ds a0 q) := by
  conv => lhs; unfold sp_lk
  rw [if_pos h, if_neg h0]
theorem lm_se2 {w : gx_W} {m : Nat} {I : Nat → Nat} {A : Nat → Nat → Nat} {ds : List (List Nat × List Nat)} (hds : moDs A ds) (hI3 : I 3 = ds.length) (h60 : ds.length ≤ 60) (hdk : ∀ p ∈ ds, sp_dk p) {laid : List Nat} {fe : Nat} (hfe : fe ≤ 400) (h0ds : 0 < ds.length) (hla : moL (I 5) (A 13) laid) : ∀ (fu : Nat) (n : Nat) (a0 : Nat) (q : List sp_E) (I' : Nat → Nat) (A' : Nat → Nat → Nat) (L2 : Option Value) (L3 : Option Value), n < fu → (fe = a0 + n) → (mQ I' A' q) → (sp_qs ds.length q) → (I' 7 = a0) → ((∀ k, k ≠ 7 → k ≠ 8 → I' k = I k) ∧ ∀ j, j < 17 → A' j = A j) → gx_X (fun _ _ => True) M_Mo_search 7 (gx_nt (fun r w' => r = some (.int (nI (sp_lk 402 ds n a0 q).1)) ∧ ∃ I'' A'', w' = gx_mo w m I'' A'' ∧ I'' 7 = (sp_lk 402 ds n a0 q).2.1 ∧ moL (I'' 5) (A'' 13) (sp_fl (sp_lk 402 ds n a0 q) laid) ∧ (∀ k, k ≠ 5 → k ≠ 7 → k ≠ 8 → I'' k = I k) ∧ ∀ j, j < 17 → j ≠ 13 → A'' j = A j)) 35 [some (.ref m), some (.int (nI fe)), L2, L3] [] (gx_mo w m I' A') (0, 0) := by
  intro fu
  induction fu with
  | zero => intro n a0 q I' A' L2 L3 hfu; exact absurd hfu (Nat.not_lt_zero _)
  | succ fu ih =>
    intro n a0 q I' A' L2 L3 hfu hn hq hs hI7 hF
    have h402 := hq.2.1
    have hds2 : moDs A' ds := by unfold moDs; rw [hF.2 8 (by decide), hF.2 9 (by decide), hF.2 10 (by decide), hF.2 11 (by decide)]; exact hds
    refine gx_aload_n d_Mo_search_35 rfl ?_
    refine gx_get fl_Mo_59 d_Mo_search_36 mo_o rfl ?_
    rw [hI7]
    refine gx_aload_n d_Mo_search_39 rfl ?_
    refine gx_get fl_Mo_175 d_Mo_search_40 mo_o rfl ?_
    rw [hq.1]
    refine gx_icmp_geN (by omega) (by omega) (tgt := 121) d_Mo_search_43 (by decide) (fun h43 => ?_) (fun h43 => ?_)
    · refine gx_aload_n d_Mo_search_121 rfl ?_
      refine gx_get fl_Mo_59 d_Mo_search_122 mo_o rfl ?_
      rw [hI7]
      refine gx_aload_n d_Mo_search_125 rfl ?_
      refine gx_get fl_Mo_175 d_Mo_search_126 mo_o rfl ?_
      rw [hq.1]
      refine gx_icmp_geN (by omega) (by omega) (tgt := 136) d_Mo_search_129 (by decide) (fun h129 => ?_) (fun h129 => ?_)
      · refine gx_iconst d_Mo_search_136 (nI 0) (by decide) ?_
        refine gx_ireturn rfl d_Mo_search_137 ?_
        rw [lk_out (by omega)]
        exact ⟨rfl, _, _, rfl, hI7, by rw [show sp_fl (0, a0, q) laid = laid from if_neg (fun g => absurd (show (0 : Nat) = 1 from g.1) (by decide))]; rw [hF.1 5 (by decide) (by decide), hF.2 13 (by decide)]; exact hla, fun k _ h7 h8 => hF.1 k h7 h8, fun j hj _ => hF.2 j hj⟩
      · exact absurd (by omega) h129
    · refine gx_aload_n d_Mo_search_46 rfl ?_
      refine gx_get fl_Mo_59 d_Mo_search_47 mo_o rfl ?_
      rw [hI7]
      refine gx_iload_n d_Mo_search_50 rfl ?_
      refine gx_icmp_geN (by omega) (by omega) (tgt := 121) d_Mo_search_51 (by decide) (fun h51 => ?_) (fun h51 => ?_)
      · refine gx_aload_n d_Mo_search_121 rfl ?_
        refine gx_get fl_Mo_59 d_Mo_search_122 mo_o rfl ?_
        rw [hI7]
        refine gx_aload_n d_Mo_search_125 rfl ?_
        refine gx_get fl_Mo_175 d_Mo_search_126 mo_o rfl ?_
        rw [hq.1]
        refine gx_icmp_geN (by omega) (by omega) (tgt := 136) d_Mo_search_129 (by decide) (fun h129 => ?_) (fun h129 => ?_)
        · exact absurd h129 (by omega)
        · refine gx_iconst d_Mo_search_132 (nI 2) (by decide) ?_
          refine gx_goto (tgt := 137) d_Mo_search_133 (by decide) ?_
          refine gx_ireturn rfl d_Mo_search_137 ?_
          obtain rfl : n = 0 := by omega
          rw [lk_2 (by omega)]
          exact ⟨rfl, _, _, rfl, hI7, by rw [show sp_fl (2, a0, q) laid = laid from if_neg (fun g => absurd (show (2 : Nat) = 1 from g.1) (by decide))]; rw [hF.1 5 (by decide) (by decide), hF.2 13 (by decide)]; exact hla, fun k _ h7 h8 => hF.1 k h7 h8, fun j hj _ => hF.2 j hj⟩
      · have ha : a0 < q.length := by omega
        obtain ⟨n, rfl⟩ : ∃ n2, n = n2 + 1 := ⟨n - 1, by omega⟩
        obtain ⟨a1, a2, a3, a4, a5, a6, a7⟩ := hq.2.2 a0 ha
        refine gx_aload_n d_Mo_search_54 rfl ?_
        refine gx_get fl_Mo_59 d_Mo_search_55 mo_o rfl ?_
        rw [hI7]
        refine gx_istore_n d_Mo_search_58 (Nat.le_of_ble_eq_true rfl) rfl ?_
        refine gx_aload_n d_Mo_search_59 rfl ?_
        refine gx_dup d_Mo_search_60 rfl ?_
        refine gx_get fl_Mo_59 d_Mo_search_61 mo_o rfl ?_
        rw [hI7]
        refine gx_iconst d_Mo_search_64 (nI 1) (by decide) ?_
        refine gx_iaddN d_Mo_search_65 ?_
        refine gx_put fp_Mo_59 (fun h => by cases h) d_Mo_search_66 mo_o rfl rfl (Nat.le_of_ble_eq_true rfl) ?_
        refine gx_w mo_p7 ?_
        refine gx_aload_n d_Mo_search_69 rfl ?_
        refine gx_get fl_Mo_75 d_Mo_search_70 mo_o rfl ?_
        refine gx_iload_n d_Mo_search_73 rfl ?_
        refine gx_iald d_Mo_search_74 mo_21 (by omega) (by omega) ?_
        rw [a5]
        refine gx_if_neN (by omega) (tgt := 85) d_Mo_search_75 (by decide) (fun h75 => ?_) (fun h75 => ?_)
        · refine gx_iconst d_Mo_search_85 (nI 0) (by decide) ?_
          refine gx_istore_n d_Mo_search_86 (Nat.le_of_ble_eq_true rfl) rfl ?_
          by_cases h12 : (q.getD a0 sp_e0).2.2.2.length ≤ 12
          · refine lm_se1 (I := sp_u I' 7 (a0 + 1)) (A := A') (ds := ds) (q0 := q) (a0 := a0) (fe := fe) hds2 ((ui_o (by decide)).trans ((hF.1 3 (by decide) (by decide)).trans hI3)) h60 hdk h12 (by omega) (ds.length + 1) 0 q _ _ (by omega) (Nat.zero_le _) ⟨(ui_o (by decide)).trans hq.1, hq.2⟩ hs ha rfl (by rw [List.drop_zero]) ⟨fun _ _ => rfl, fun _ _ => rfl⟩ (fun I3 A3 L3 hq3 hs3 hI3b hA3 => ?_)
            refine gx_goto (tgt := 35) d_Mo_search_118 (by decide) ?_
            refine gx_wk ?_ (ih n (a0 + 1) ((q ++ sp_ch a0 (q.getD a0 sp_e0).2.2.1 (q.getD a0 sp_e0).2.2.2 0 ds).take 402) _ _ _ _ (by omega) (by omega) hq3 hs3 ((hI3b 7 (by decide)).trans ui_s) ⟨fun k h7 h8 => (hI3b k h8).trans ((ui_o h7).trans (hF.1 k h7 h8)), fun j hj => (hA3 j hj).trans (hF.2 j hj)⟩)
            intro r w2 hq9 _
            rw [lk_s ha h75, show sp_nq 402 ds a0 q = (q ++ sp_ch a0 (q.getD a0 sp_e0).2.2.1 (q.getD a0 sp_e0).2.2.2 0 ds).take 402 from if_pos h12]
            exact hq9
          refine gx_iload_n d_Mo_search_87 rfl ?_
          refine gx_aload_n d_Mo_search_88 rfl ?_
          refine gx_get fl_Mo_139 d_Mo_search_89 mo_o rfl ?_
          rw [ui_o (by decide), hF.1 3 (by decide) (by decide), hI3]
          refine gx_icmp_geN (by omega) (by omega) (tgt := 118) d_Mo_search_92 (by decide) (fun h92 => ?_) (fun h92 => ?_)
          · exact absurd h92 (by omega)
          · refine gx_aload_n d_Mo_search_95 rfl ?_
            refine gx_get fl_Mo_75 d_Mo_search_96 mo_o rfl ?_
            refine gx_iload_n d_Mo_search_99 rfl ?_
            refine gx_iald d_Mo_search_100 mo_21 (by omega) (by omega) ?_
            rw [a5]
            refine gx_bipush d_Mo_search_101 (nI 12) (by decide) ?_
            refine gx_icmp_gtN (by omega) (by omega) (tgt := 118) d_Mo_search_103 (by decide) (fun h103 => ?_) (fun h103 => ?_)
            · refine gx_goto (tgt := 35) d_Mo_search_118 (by decide) ?_
              refine gx_wk ?_ (ih n (a0 + 1) q _ _ _ _ (by omega) (by omega) ⟨(ui_o (by decide)).trans hq.1, hq.2⟩ hs ui_s ⟨fun k h7 h8 => (ui_o h7).trans (hF.1 k h7 h8), fun j hj => hF.2 j hj⟩)
              intro r w2 hq9 _
              rw [lk_s ha h75, show sp_nq 402 ds a0 q = q from if_neg h12]
              exact hq9
            · exact absurd (by omega) h103
        · refine gx_aload_n d_Mo_search_78 rfl ?_
          refine gx_iload_n d_Mo_search_79 rfl ?_
          refine gx_cVr lk_Mo_181 d_Mo_search_80 (cm_take (I := sp_u I' 7 (a0 + 1)) (laid := laid) ⟨(ui_o (by decide)).trans hq.1, hq.2⟩ hs.1 (fun i hi => by have := hs.2.2.1 i hi; omega) ha (by rw [ui_o (by decide), hF.1 5 (by decide) (by decide), hF.2 13 (by decide)]; exact hla)) (Or.inl ⟨_, mo_o⟩) (by omega) rfl rfl (Nat.le_of_ble_eq_true rfl) (fun r2 w2 hq => ?_)
          obtain ⟨rfl, I2, A2, rfl, hL2, hI2, hA2⟩ := hq
          refine gx_iconst d_Mo_search_83 (nI 1) (by decide) ?_
          refine gx_ireturn rfl d_Mo_search_84 ?_
          rw [lk_1 ha h75]
          refine ⟨rfl, _, _, rfl, (hI2 7 (by decide)).trans ui_s, ?_, fun k h5 h7 h8 => (hI2 k h5).trans ((ui_o h7).trans (hF.1 k h7 h8)), fun j hj h13 => (hA2 j h13).trans (hF.2 j hj)⟩
          by_cases h60 : (q.getD a0 sp_e0).2.2.1 ≤ 60
          · rw [if_pos h60] at hL2
            rw [show sp_fl (1, a0 + 1, q) laid = (sp_ph q (q.getD a0 sp_e0).2.2.1 (nI a0)).reverse from if_pos ⟨rfl, h60⟩]
            exact hL2
          · rw [if_neg h60] at hL2
            rw [show sp_fl (1, a0 + 1, q) laid = laid from if_neg (fun g => h60 g.2)]
            exact hL2
theorem bm_search {w : gx_W} {m : Nat} {I : Nat → Nat} {A : Nat → Nat → Nat} {S : sp_St} (h : mdl I A S) (hS : sp_Sok S) {k : Int32} (hbad : ¬ (1 ≤ k.toInt ∧ k.toInt ≤ 400)) : gx_Ct M_Mo_search 7 0 0 [.ref m, .int k] (gx_mo w m I A) (moQ w m (nI 4294967295) S 0) := by
  refine gx_ct (L := [some (.ref m), some (.int k), none, none]) (by decide) (Nat.le_of_ble_eq_true rfl) rfl ?_
  refine gx_aload_n d_Mo_search_0 rfl ?_
  refine gx_iconst d_Mo_search_1 (nI 0) (by decide) ?_
  refine gx_put fp_Mo_90 (fun h => by cases h) d_Mo_search_2 mo_o rfl rfl (Nat.le_of_ble_eq_true rfl) ?_
  refine gx_w mo_p0 ?_
  refine gx_iload_n d_Mo_search_5 rfl ?_
  refine gx_iconst d_Mo_search_6 (nI 1) (by decide) ?_
  refine gx_icmp_lt (tgt := 17) d_Mo_search_7 (by decide) (fun h7 => ?_) (fun h7 => ?_)
  · refine gx_iconst d_Mo_search_17 (nI 4294967295) (by decide) ?_
    refine gx_ireturn rfl d_Mo_search_18 ?_
    exact ⟨rfl, _, _, rfl, h.t, ui_s⟩
  · refine gx_iload_n d_Mo_search_10 rfl ?_
    refine gx_sipush d_Mo_search_11 (nI 400) (by decide) ?_
    refine gx_icmp_le (tgt := 19) d_Mo_search_14 (by decide) (fun h14 => ?_) (fun h14 => ?_)
    · have e1 : (nI 1).toInt = 1 := by decide
      have e4 : (nI 400).toInt = 400 := by decide
      rw [Int32.lt_iff_toInt_lt, e1] at h7
      rw [Int32.le_iff_toInt_le, e4] at h14
      exact absurd (And.intro (by omega) h14) hbad
    · refine gx_iconst d_Mo_search_17 (nI 4294967295) (by decide) ?_
      refine gx_ireturn rfl d_Mo_search_18 ?_
      exact ⟨rfl, _, _, rfl, h.t, ui_s⟩
theorem mdl.sv {I I' : Nat → Nat} {A A' : Nat → Nat → Nat} {S : sp_St} {l : List Nat} {lk : Nat} (h : mdl I A S) (hI : ∀ k, k ≠ 5 → k ≠ 7 → k ≠ 8 → I' k = I k) (hA : ∀ j, j < 17 → j ≠ 13 → A' j = A j) (hl : moL (I' 5) (A' 13) l) (h7 : I' 7 = lk) : mdl I' A' (S.1, S.2.1, l, S.2.2.2.1, nI lk) := by
  refine ⟨?_, hl, ?_, ?_⟩
  · have h1 := h.1
    unfold mdC moM moL moT moDs at h1 ⊢
    rw [hI 1 (by decide) (by decide) (by decide), hI 2 (by decide) (by decide) (by decide), hI 3 (by decide) (by decide) (by decide), hI 4 (by decide) (by decide) (by decide), hA 1 (by decide) (by decide), hA 2 (by decide) (by decide), hA 3 (by decide) (by decide), hA 4 (by decide) (by decide), hA 5 (by decide) (by decide), hA 6 (by decide) (by decide), hA 7 (by decide) (by decide), hA 8 (by decide) (by decide), hA 9 (by decide) (by decide), hA 10 (by decide) (by decide), hA 11 (by decide) (by decide), hA 12 (by decide) (by decide)]
    exact h1
  · show moL (I' 6) (A' 14) S.2.2.2.1
    rw [hI 6 (by decide) (by decide) (by decide), hA 14 (by decide) (by decide)]; exact h.2.2.1
  · show nI (I' 7) = _
    rw [h7]
theorem sp_q0_qs {M : sp_M} {inp : List Nat} (hM : sp_Mok M) (hi : sp_iok inp) : sp_qs (sp_dsx M inp).length (sp_q0 (sp_dsx M inp)) := by
  have hdl := sp_dsx_len M inp
  have h4 := hi.1
  have hk := sp_dsx_ok hM hi _ (gx_dmem (show 0 < (sp_dsx M inp).length by omega))
  refine ⟨fun i h => ?_, fun e he => ?_, fun i h => ?_, fun i h => ?_⟩
  · obtain rfl : i = 0 := by simp [sp_q0] at h; omega
    exact Or.inl ⟨rfl, rfl⟩
  · rw [show sp_q0 (sp_dsx M inp) = [(-1, 0, 1, ((sp_dsx M inp).getD 0 ([], [])).2.drop 1)] from rfl, List.mem_singleton] at he
    subst he
    refine ⟨Or.inr ?_, fun c hc => hk.2.1.2 c (List.mem_of_mem_drop hc), ?_⟩
    · rw [sp_dsx_0]
      show 0 < (sp_txt (sp_c0 inp) ++ [35]).count 35
      rw [List.count_append]
      have : List.count 35 [35] = 1 := rfl
      omega
    · show (((sp_dsx M inp).getD 0 ([], [])).2.drop 1).length < 65536
      rw [List.length_drop]; have := hk.2.2.2.1; omega
  · obtain rfl : i = 0 := by simp [sp_q0] at h; omega
    show 0 < _; omega
  · obtain rfl : i = 0 := by simp [sp_q0] at h; omega
    show (((sp_dsx M inp).getD 0 ([], [])).2.drop 1).length ≤ 24
    rw [List.length_drop]; have := hk.2.2.2.1; omega
theorem cm_search1 {w : gx_W} {m : Nat} {I : Nat → Nat} {A : Nat → Nat → Nat} {S : sp_St} (h : mdl I A S) (hS : sp_Sok S) {fe : Nat} (h1 : 1 ≤ fe) (h400 : fe ≤ 400) : gx_Ct M_Mo_search 7 0 0 [.ref m, .int (nI fe)] (gx_mo w m I A) (moQ w m (sp_sv 402 (sp_dS S) S.2.2.1 S.2.2.2.2 (nI fe)).1 (S.1, S.2.1, (sp_sv 402 (sp_dS S) S.2.2.1 S.2.2.2.2 (nI fe)).2.2, S.2.2.2.1, (sp_sv 402 (sp_dS S) S.2.2.1 S.2.2.2.2 (nI fe)).2.1) 0) := by
  refine gx_ct (L := [some (.ref m), some (.int (nI fe)), none, none]) (by decide) (Nat.le_of_ble_eq_true rfl) rfl ?_
  have hdl : 12 ≤ (sp_dS S).length ∧ (sp_dS S).length ≤ 60 := sp_dsx_len S.1 S.2.1
  refine gx_aload_n d_Mo_search_0 rfl ?_
  refine gx_iconst d_Mo_search_1 (nI 0) (by decide) ?_
  refine gx_put fp_Mo_90 (fun h => by cases h) d_Mo_search_2 mo_o rfl rfl (Nat.le_of_ble_eq_true rfl) ?_
  refine gx_w mo_p0 ?_
  refine gx_iload_n d_Mo_search_5 rfl ?_
  refine gx_iconst d_Mo_search_6 (nI 1) (by decide) ?_
  refine gx_icmp_ltN (by omega) (by omega) (tgt := 17) d_Mo_search_7 (by decide) (fun h7 => ?_) (fun h7 => ?_)
  · exact absurd h7 (by omega)
  · refine gx_iload_n d_Mo_search_10 rfl ?_
    refine gx_sipush d_Mo_search_11 (nI 400) (by decide) ?_
    refine gx_icmp_leN (by omega) (by omega) (tgt := 19) d_Mo_search_14 (by decide) (fun h14 => ?_) (fun h14 => ?_)
    · refine gx_aload_n d_Mo_search_19 rfl ?_
      refine gx_iconst d_Mo_search_20 (nI 0) (by decide) ?_
      refine gx_put fp_Mo_175 (fun h => by cases h) d_Mo_search_21 mo_o rfl rfl (Nat.le_of_ble_eq_true rfl) ?_
      refine gx_w mo_p8 ?_
      refine gx_aload_n d_Mo_search_24 rfl ?_
      refine gx_iconst d_Mo_search_25 (nI 4294967295) (by decide) ?_
      refine gx_iconst d_Mo_search_26 (nI 0) (by decide) ?_
      refine gx_cVr lk_Mo_178 d_Mo_search_27 (cm_joinR (ds := sp_dS S) (q := []) (d := 0) h.1.2.2.2.1.2 (by omega) hdl.2 (sp_dsx_ok hS.1 hS.2.1) ⟨ui_s, Nat.zero_le _, fun i hi => absurd hi (Nat.not_lt_zero _)⟩ (fun _ => by show 1 ≤ (35 :: sp_txt (sp_c0 S.2.1) ++ [35]).length; simp)) (Or.inl ⟨_, mo_o⟩) (by omega) rfl rfl (Nat.le_of_ble_eq_true rfl) (fun r2 w2 hq => ?_)
      obtain ⟨rfl, I2, A2, rfl, hq2, hI2, hA2⟩ := hq
      have hag : sp_agb ((sp_dS S).getD 0 ([], [])).1 ([] ++ ((sp_dS S).getD 0 ([], [])).2) = true := by
        rw [show (sp_dS S).getD 0 ([], []) = ([35], 35 :: sp_txt (sp_c0 S.2.1) ++ [35]) from sp_dsx_0 S.1 S.2.1]
        show ((35 == 35) && sp_agb [] (sp_txt (sp_c0 S.2.1) ++ [35])) = true
        rw [sp_agb_nil]; rfl
      rw [if_pos hag] at hq2
      have hq3 : mQ I2 A2 (sp_q0 (sp_dS S)) := by
        rw [show sp_q0 (sp_dS S) = ([] ++ [(nI 4294967295, 0, 0 + 1, ([] ++ ((sp_dS S).getD 0 ([], [])).2).drop ((sp_dS S).getD 0 ([], [])).1.length)]).take 402 by rw [show (sp_dS S).getD 0 ([], []) = ([35], 35 :: sp_txt (sp_c0 S.2.1) ++ [35]) from sp_dsx_0 S.1 S.2.1]; rw [← gx_m1]; unfold sp_q0; rw [show (sp_dS S).getD 0 ([], []) = ([35], 35 :: sp_txt (sp_c0 S.2.1) ++ [35]) from sp_dsx_0 S.1 S.2.1]; rfl]
        exact hq2
      refine gx_aload_n d_Mo_search_30 rfl ?_
      refine gx_iconst d_Mo_search_31 (nI 0) (by decide) ?_
      refine gx_put fp_Mo_59 (fun h => by cases h) d_Mo_search_32 mo_o rfl rfl (Nat.le_of_ble_eq_true rfl) ?_
      refine gx_w mo_p7 ?_
      refine gx_wk ?_ (lm_se2 (I := sp_u (sp_u I 0 0) 8 0) (A := A) (ds := sp_dS S) (laid := S.2.2.1) (fe := fe) h.1.2.2.2.1.2 ((ui_o (by decide)).trans h.t.1.2.2.2.1.1) hdl.2 (sp_dsx_ok hS.1 hS.2.1) h400 (by omega) (by rw [ui_o (by decide)]; exact h.t.2.1) (fe + 1) fe 0 (sp_q0 (sp_dS S)) _ _ _ _ (by omega) (by omega) ⟨(ui_o (by decide)).trans hq3.1, hq3.2⟩ (sp_q0_qs hS.1 hS.2.1) ui_s ⟨fun k h7 h8 => (ui_o h7).trans (hI2 k h8), hA2⟩)
      intro r w2 hq9 _
      obtain ⟨rfl, I9, A9, rfl, h7, hL, hI9, hA9⟩ := hq9
      have e : sp_sv 402 (sp_dS S) S.2.2.1 S.2.2.2.2 (nI fe) = (nI (sp_lkf 402 (sp_dS S) fe).1, nI (sp_lkf 402 (sp_dS S) fe).2.1, sp_fl (sp_lkf 402 (sp_dS S) fe) S.2.2.1) := by
        unfold sp_sv
        rw [if_pos (by rw [nI_toInt (by omega)]; omega), gx_clz (by omega)]
      rw [e]
      exact ⟨rfl, _, _, rfl, h.t.sv (fun k h5 h7 h8 => (hI9 k h5 h7 h8).trans (ui_o h8)) hA9 hL h7, (hI9 0 (by decide) (by decide) (by decide)).trans ((ui_o (by decide)).trans ui_s)⟩
    · exact absurd h14 (by omega)
theorem cm_search {w : gx_W} {m : Nat} {I : Nat → Nat} {A : Nat → Nat → Nat} {S : sp_St} (h : mdl I A S) (hS : sp_Sok S) {k : Int32} : gx_Ct M_Mo_search 7 0 0 [.ref m, .int k] (gx_mo w m I A) (moQ w m (sp_sv 402 (sp_dS S) S.2.2.1 S.2.2.2.2 k).1 (S.1, S.2.1, (sp_sv 402 (sp_dS S) S.2.2.1 S.2.2.2.2 k).2.2, S.2.2.2.1, (sp_sv 402 (sp_dS S) S.2.2.1 S.2.2.2.2 k).2.1) 0) := by
  by_cases hk : 1 ≤ k.toInt ∧ k.toInt ≤ 400
  · obtain ⟨fe, hfe, rfl⟩ : ∃ fe, fe ≤ 400 ∧ k = nI fe := ⟨k.toInt.toNat, by omega, by apply Int32.toInt_inj.mp; rw [nI_toInt (by omega)]; omega⟩
    rw [nI_toInt (by omega)] at hk
    exact cm_search1 h hS (by omega) hfe
  · have e : sp_sv 402 (sp_dS S) S.2.2.1 S.2.2.2.2 k = (nI 4294967295, S.2.2.2.2, S.2.2.1) := by
      unfold sp_sv; rw [if_neg hk, gx_m1]
    rw [e]
    exact bm_search h hS hk
