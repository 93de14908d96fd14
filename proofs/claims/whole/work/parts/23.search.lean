/-! PostChain: the search; what the calls that change the machine stand on -/
def sp_dk (p : List Nat × List Nat) : Prop := dmP p ∧ (gx_sm p.1 ∧ gx_sm p.2) ∧ p.1.length ≤ 3 ∧ p.2.length ≤ 7 ∧ 0 < p.1.length
theorem sp_let_35 (q : Nat) : ¬ sp_let q = 35 := by have := sp_let_ge q; omega
theorem sp_re_ok {M : sp_M} (hM : sp_Mok M) {r beh : Nat} {tail : List Nat} (hr : r < 12) (hb : (48 ≤ beh ∧ beh < 51 ∧ tail = []) ∨ (beh = 35 ∧ tail = [35])) : ∀ p ∈ sp_re M r beh tail, sp_dk p := by
  obtain ⟨-, -, hw, hn⟩ := hM r
  have hl1 := sp_let_lt (q := r / 3) (by omega)
  have hl2 := sp_let_lt hn
  have hl3 := sp_let_ge (r / 3)
  have hl4 := sp_let_ge (sp_nx M r)
  intro p hp
  unfold sp_re at hp
  split at hp
  · rw [List.mem_singleton] at hp
    subst hp
    rcases hb with ⟨h1, h2, rfl⟩ | ⟨rfl, rfl⟩
    · refine ⟨Or.inl ?_, ⟨?_, ?_⟩, Nat.le_of_ble_eq_true rfl, Nat.le_of_ble_eq_true rfl, Nat.lt_of_lt_of_le Nat.zero_lt_one (Nat.le_of_ble_eq_true rfl)⟩
      · rw [List.count_eq_zero_of_not_mem (by simp; omega)]; exact Nat.zero_le _
      · intro c hc; simp at hc; omega
      · intro c hc; simp at hc; omega
    · refine ⟨Or.inl ?_, ⟨?_, ?_⟩, Nat.le_of_ble_eq_true rfl, Nat.le_of_ble_eq_true rfl, Nat.lt_of_lt_of_le Nat.zero_lt_one (Nat.le_of_ble_eq_true rfl)⟩
      · simp [List.count_cons, sp_let_35]
      · intro c hc; simp at hc; omega
      · intro c hc; simp at hc; omega
  · rw [List.mem_map] at hp
    obtain ⟨s, hs, rfl⟩ := hp
    have hs3 : s < 3 := by simp at hs; omega
    rcases hb with ⟨h1, h2, rfl⟩ | ⟨rfl, rfl⟩
    · refine ⟨Or.inl ?_, ⟨?_, ?_⟩, Nat.le_of_ble_eq_true rfl, Nat.le_of_ble_eq_true rfl, Nat.lt_of_lt_of_le Nat.zero_lt_one (Nat.le_of_ble_eq_true rfl)⟩
      · rw [List.count_eq_zero_of_not_mem (by simp; omega)]; exact Nat.zero_le _
      · intro c hc; simp at hc; omega
      · intro c hc; simp at hc; omega
    · refine ⟨Or.inl ?_, ⟨?_, ?_⟩, Nat.le_of_ble_eq_true rfl, Nat.le_of_ble_eq_true rfl, Nat.lt_of_lt_of_le Nat.zero_lt_one (Nat.le_of_ble_eq_true rfl)⟩
      · have e1 : ¬ 48 + s = 35 := by omega
        simp [List.count_cons, sp_let_35, e1]
      · intro c hc; simp at hc; omega
      · intro c hc; simp at hc; omega
theorem sp_txt_sm {c : sp_C} (h : sp_ok c) : gx_sm (sp_txt c) := by
  intro x hx
  unfold sp_txt sp_ds at hx
  have h2 := sp_let_lt h.2.1
  rcases List.mem_append.mp hx with g | g
  · obtain ⟨s, hs, rfl⟩ := List.mem_map.mp g
    have := h.1 s hs
    omega
  · rcases List.mem_cons.mp g with g | g
    · omega
    · obtain ⟨s, hs, rfl⟩ := List.mem_map.mp g
      have := h.2.2 s hs
      omega
theorem sp_dsx_ok {M : sp_M} {inp : List Nat} (hM : sp_Mok M) (hi : sp_iok inp) : ∀ p ∈ sp_dsx M inp, sp_dk p := by
  obtain ⟨hc0, hl0⟩ := sp_c0_ok hi
  have htl : (sp_txt (sp_c0 inp)).length ≤ 5 := by rw [sp_txt_len]; exact hl0
  have hts := sp_txt_sm hc0
  intro p hp
  unfold sp_dsx sp_dom at hp
  rcases List.mem_append.mp hp with hp | hp
  · rcases List.mem_append.mp hp with hp | hp
    · unfold sp_hd at hp
      rcases List.mem_cons.mp hp with hp | hp
      · subst hp
        refine ⟨Or.inl (by simp [List.count_cons]), ⟨by intro c hc; simp at hc; omega, ?_⟩, Nat.le_of_ble_eq_true rfl, by simp; omega, Nat.lt_of_lt_of_le Nat.zero_lt_one (Nat.le_of_ble_eq_true rfl)⟩
        intro c hc
        simp at hc
        rcases hc with hc | hc | hc
        · omega
        · exact hts c hc
        · omega
      · refine (?_ : ∀ p ∈ [(([35] : List Nat), ([35] : List Nat)), ([48], [48]), ([49], [49]), ([50], [50])], sp_dk p) p hp
        unfold sp_dk dmP gx_sm
        decide
    · unfold sp_rs at hp
      rw [List.mem_flatMap] at hp
      obtain ⟨r, hr, hp⟩ := hp
      have hr12 := List.mem_range.mp hr
      unfold sp_rd at hp
      split at hp
      · rcases List.mem_append.mp hp with hp | hp
        · exact sp_re_ok hM hr12 (Or.inl ⟨by omega, by omega, rfl⟩) p hp
        · split at hp
          · exact sp_re_ok hM hr12 (Or.inr ⟨rfl, rfl⟩) p hp
          · cases hp
      · cases hp
  · refine (?_ : ∀ p ∈ sp_en, sp_dk p) p hp
    unfold sp_en sp_dk dmP gx_sm
    decide
theorem sp_dsx_0 (M : sp_M) (inp : List Nat) : (sp_dsx M inp).getD 0 ([], []) = ([35], 35 :: sp_txt (sp_c0 inp) ++ [35]) := rfl
/-- the rows that a queue holds come from earlier ones -/
def sp_qi (n : Nat) (q : List sp_E) : Prop := ∀ i, i < q.length → ((q.getD i sp_e0).1 = -1 ∨ ∃ j, j < i ∧ (q.getD i sp_e0).1 = nI j) ∧ (q.getD i sp_e0).2.1 < n ∧ (q.getD i sp_e0).2.2.1 ≤ i + 1
theorem sp_qi.qf {n : Nat} {q : List sp_E} (h : sp_qi n q) (hn : n < 65536) : sp_qf q := fun i hi => ⟨(h i hi).1, by have := (h i hi).2.1; omega⟩
theorem sp_ch_el {a0 sz : Nat} {Rr : List Nat} : ∀ (ds : List (List Nat × List Nat)) (d : Nat) (e : sp_E), e ∈ sp_ch a0 sz Rr d ds → e.1 = nI a0 ∧ e.2.1 < d + ds.length ∧ e.2.2.1 = sz + 1
  | [], d, e, he => by simp [sp_ch] at he
  | (u, l) :: t, d, e, he => by
    unfold sp_ch at he
    have ih := sp_ch_el (a0 := a0) (sz := sz) (Rr := Rr) t (d + 1) e
    rw [List.length_cons]
    by_cases ha : sp_agb u (Rr ++ l) = true
    · rw [if_pos ha] at he
      rcases List.mem_cons.mp he with h1 | h1
      · rw [h1]; exact ⟨rfl, by show d < _; omega, rfl⟩
      · obtain ⟨i1, i2, i3⟩ := ih h1
        exact ⟨i1, by omega, i3⟩
    · rw [if_neg ha] at he
      obtain ⟨i1, i2, i3⟩ := ih he
      exact ⟨i1, by omega, i3⟩
theorem gx_tk {q k : List sp_E} {cap i : Nat} (hi : i < ((q ++ k).take cap).length) : (i < q.length ∧ ((q ++ k).take cap).getD i sp_e0 = q.getD i sp_e0) ∨ (q.length ≤ i ∧ ((q ++ k).take cap).getD i sp_e0 ∈ k) := by
  rw [List.length_take, List.length_append] at hi
  have hc : i < cap := by omega
  by_cases h : i < q.length
  · refine Or.inl ⟨h, ?_⟩
    rw [List.getD_eq_getElem?_getD, List.getElem?_take_of_lt hc, List.getElem?_append_left h, List.getD_eq_getElem?_getD]
  · refine Or.inr ⟨by omega, ?_⟩
    rw [List.getD_eq_getElem?_getD, List.getElem?_take_of_lt hc, List.getElem?_append_right (by omega), List.getElem?_eq_getElem (by omega)]
    exact List.getElem_mem _
theorem sp_nq_qi {n cap a0 : Nat} {ds : List (List Nat × List Nat)} {q : List sp_E} (hq : sp_qi n q) (ha : a0 < q.length) (hn : ds.length ≤ n) : sp_qi n (sp_nq cap ds a0 q) := by
  unfold sp_nq
  split
  · intro i hi
    rcases gx_tk hi with ⟨h1, h2⟩ | ⟨h1, h2⟩
    · rw [h2]; exact hq i h1
    · obtain ⟨e1, e2, e3⟩ := sp_ch_el ds 0 _ h2
      have := (hq a0 ha).2.2
      exact ⟨Or.inr ⟨a0, by omega, e1⟩, by omega, by omega⟩
  · exact hq
theorem sp_nq_len {cap a0 : Nat} {ds : List (List Nat × List Nat)} {q : List sp_E} (ha : a0 < q.length) (hq : q.length ≤ cap) : q.length ≤ (sp_nq cap ds a0 q).length ∧ (sp_nq cap ds a0 q).length ≤ cap := by
  unfold sp_nq
  split
  · rw [List.length_take, List.length_append]; omega
  · omega
theorem sp_lk_ok {n cap : Nat} {ds : List (List Nat × List Nat)} (hn : ds.length ≤ n) : ∀ (m a0 : Nat) (q : List sp_E), sp_qi n q → sp_qi n (sp_lk cap ds m a0 q).2.2 ∧ (sp_lk cap ds m a0 q).1 ≤ 2 ∧ ((sp_lk cap ds m a0 q).1 = 1 → ∃ k, (sp_lk cap ds m a0 q).2.1 = k + 1 ∧ k < (sp_lk cap ds m a0 q).2.2.length)
  | 0, a0, q, h => by
    unfold sp_lk
    refine ⟨h, ?_, ?_⟩
    · split <;> omega
    · intro g; split at g <;> omega
  | m + 1, a0, q, h => by
    unfold sp_lk
    by_cases h1 : a0 < q.length
    · rw [if_pos h1]
      by_cases h2 : (q.getD a0 sp_e0).2.2.2.length = 0
      · rw [if_pos h2]
        exact ⟨h, by omega, fun _ => ⟨a0, rfl, h1⟩⟩
      · rw [if_neg h2]
        exact sp_lk_ok hn m (a0 + 1) _ (sp_nq_qi h h1 hn)
    · rw [if_neg h1]
      exact ⟨h, Nat.zero_le _, fun g => absurd (show (0 : Nat) = 1 from g) (by decide)⟩
theorem sp_ph_lt {n : Nat} {q : List sp_E} (hq : sp_qi n q) : ∀ (m : Nat) (a : Int32), (a = -1 ∨ ∃ j, j < q.length ∧ j < 2 ^ 31 ∧ a = nI j) → ∀ d ∈ sp_ph q m a, d < n
  | 0, a, _, d, hd => by simp [sp_ph] at hd
  | m + 1, a, ha, d, hd => by
    unfold sp_ph at hd
    by_cases hn : a < 0
    · rw [if_pos hn] at hd; cases hd
    · rw [if_neg hn] at hd
      obtain ⟨j, hj, hj2, rfl⟩ : ∃ j, j < q.length ∧ j < 2 ^ 31 ∧ a = nI j := by
        rcases ha with g | g
        · rw [g] at hn; exact absurd (by decide) hn
        · exact g
      rw [nI_clamp hj2] at hd
      rcases List.mem_cons.mp hd with g | g
      · rw [g]; exact (hq j hj).2.1
      · refine sp_ph_lt hq m _ ?_ d g
        rcases (hq j hj).1 with g1 | ⟨i, hi, g1⟩
        · exact Or.inl g1
        · exact Or.inr ⟨i, by omega, by omega, g1⟩
theorem sp_ph_len (q : List sp_E) : ∀ (m : Nat) (a : Int32), (sp_ph q m a).length ≤ m
  | 0, a => by simp [sp_ph]
  | m + 1, a => by
    unfold sp_ph
    split
    · simp
    · rw [List.length_cons]
      have := sp_ph_len q m (q.getD a.toNatClampNeg sp_e0).1
      omega
def sp_q0 (ds : List (List Nat × List Nat)) : List sp_E := [(-1, 0, 1, (ds.getD 0 ([], [])).2.drop 1)]
def sp_lkf (cap : Nat) (ds : List (List Nat × List Nat)) (fuel : Nat) : Nat × Nat × List sp_E := sp_lk cap ds fuel 0 (sp_q0 ds)
/-- what a found row lays -/
def sp_fl (x : Nat × Nat × List sp_E) (laid : List Nat) : List Nat := if x.1 = 1 ∧ (x.2.2.getD (x.2.1 - 1) sp_e0).2.2.1 ≤ 60 then (sp_ph x.2.2 (x.2.2.getD (x.2.1 - 1) sp_e0).2.2.1 (nI (x.2.1 - 1))).reverse else laid
def sp_sv (cap : Nat) (ds : List (List Nat × List Nat)) (laid : List Nat) (lk fuel : Int32) : Int32 × Int32 × List Nat :=
  if 1 ≤ fuel.toInt ∧ fuel.toInt ≤ 400 then (nI (sp_lkf cap ds fuel.toNatClampNeg).1, nI (sp_lkf cap ds fuel.toNatClampNeg).2.1, sp_fl (sp_lkf cap ds fuel.toNatClampNeg) laid) else (-1, lk, laid)
theorem sp_q0_qi {ds : List (List Nat × List Nat)} (h : 0 < ds.length) : sp_qi ds.length (sp_q0 ds) := by
  intro i hi
  have : i = 0 := by simp [sp_q0] at hi; omega
  subst this
  exact ⟨Or.inl rfl, h, Nat.le_refl _⟩
theorem sp_fl_lt {ds : List (List Nat × List Nat)} {laid : List Nat} {x : Nat × Nat × List sp_E} (hx : sp_qi ds.length x.2.2) (hx1 : x.1 = 1 → ∃ k, x.2.1 = k + 1 ∧ k < x.2.2.length) (hx2 : x.2.2.length < 2 ^ 31) (hl : ∀ d ∈ laid, d < ds.length) : ∀ d ∈ sp_fl x laid, d < ds.length := by
  unfold sp_fl
  split
  · rename_i g
    obtain ⟨k, hk1, hk2⟩ := hx1 g.1
    intro d hd
    rw [hk1, Nat.add_sub_cancel] at hd
    exact sp_ph_lt hx _ _ (Or.inr ⟨k, hk2, by omega, rfl⟩) d (List.mem_reverse.mp hd)
  · exact hl
theorem nI1i : (nI 1).toInt = 1 := by decide
theorem nI400i : (nI 400).toInt = 400 := by decide
theorem d_PC_search_0 : decode prog_1_method_18_code 0 = .ok (.iload_n 1, 1) := by decide +kernel
theorem d_PC_search_1 : decode prog_1_method_18_code 1 = .ok (.iconst 1, 1) := by decide +kernel
theorem d_PC_search_2 : decode prog_1_method_18_code 2 = .ok (.if_icmp .lt 10, 3) := by decide +kernel
theorem d_PC_search_5 : decode prog_1_method_18_code 5 = .ok (.iload_n 1, 1) := by decide +kernel
theorem d_PC_search_6 : decode prog_1_method_18_code 6 = .ok (.sipush 400, 3) := by decide +kernel
theorem d_PC_search_9 : decode prog_1_method_18_code 9 = .ok (.if_icmp .le 5, 3) := by decide +kernel
theorem d_PC_search_12 : decode prog_1_method_18_code 12 = .ok (.iconst (-1), 1) := by decide +kernel
theorem d_PC_search_13 : decode prog_1_method_18_code 13 = .ok (.ireturn, 1) := by decide +kernel
theorem d_PC_search_14 : decode prog_1_method_18_code 14 = .ok (.aload_n 0, 1) := by decide +kernel
theorem d_PC_search_15 : decode prog_1_method_18_code 15 = .ok (.getfield 40, 3) := by decide +kernel
theorem d_PC_search_18 : decode prog_1_method_18_code 18 = .ok (.aload_n 0, 1) := by decide +kernel
theorem d_PC_search_19 : decode prog_1_method_18_code 19 = .ok (.getfield 26, 3) := by decide +kernel
theorem d_PC_search_22 : decode prog_1_method_18_code 22 = .ok (.iload_n 1, 1) := by decide +kernel
theorem d_PC_search_23 : decode prog_1_method_18_code 23 = .ok (.invokevirtual 190, 3) := by decide +kernel
theorem d_PC_search_26 : decode prog_1_method_18_code 26 = .ok (.istore_n 2, 1) := by decide +kernel
theorem d_PC_search_27 : decode prog_1_method_18_code 27 = .ok (.iload_n 2, 1) := by decide +kernel
theorem d_PC_search_28 : decode prog_1_method_18_code 28 = .ok (.iconst 1, 1) := by decide +kernel
theorem d_PC_search_29 : decode prog_1_method_18_code 29 = .ok (.if_icmp .ne 26, 3) := by decide +kernel
theorem d_PC_search_32 : decode prog_1_method_18_code 32 = .ok (.aload_n 0, 1) := by decide +kernel
theorem d_PC_search_33 : decode prog_1_method_18_code 33 = .ok (.getfield 40, 3) := by decide +kernel
theorem d_PC_search_36 : decode prog_1_method_18_code 36 = .ok (.invokevirtual 194, 3) := by decide +kernel
theorem d_PC_search_39 : decode prog_1_method_18_code 39 = .ok (.bipush 60, 2) := by decide +kernel
theorem d_PC_search_41 : decode prog_1_method_18_code 41 = .ok (.if_icmp .gt 14, 3) := by decide +kernel
theorem d_PC_search_44 : decode prog_1_method_18_code 44 = .ok (.aload_n 0, 1) := by decide +kernel
theorem d_PC_search_45 : decode prog_1_method_18_code 45 = .ok (.getfield 40, 3) := by decide +kernel
theorem d_PC_search_48 : decode prog_1_method_18_code 48 = .ok (.aload_n 0, 1) := by decide +kernel
theorem d_PC_search_49 : decode prog_1_method_18_code 49 = .ok (.getfield 49, 3) := by decide +kernel
theorem d_PC_search_52 : decode prog_1_method_18_code 52 = .ok (.invokevirtual 197, 3) := by decide +kernel
theorem d_PC_search_55 : decode prog_1_method_18_code 55 = .ok (.iload_n 2, 1) := by decide +kernel
theorem d_PC_search_56 : decode prog_1_method_18_code 56 = .ok (.ireturn, 1) := by decide +kernel
theorem ct_search {w : gx_W} {B : Nat} {M : sp_M} {inp laid typed : List Nat} {lk : Int32} (h : pcAt w B M inp laid typed lk) {fuel : Int32} (hM : sp_Mok M) (hi : sp_iok inp) (hlaid : ∀ d ∈ laid, d < (sp_dsx M inp).length) : gx_Ct M_PC_search 6 0 0 [.ref B, .int fuel] w (fun v w' => v = some (.int (sp_sv 401 (sp_dsx M inp) laid lk fuel).1) ∧ pcAt w' B M inp (sp_sv 401 (sp_dsx M inp) laid lk fuel).2.2 typed (sp_sv 401 (sp_dsx M inp) laid lk fuel).2.1 ∧ (∀ d ∈ (sp_sv 401 (sp_dsx M inp) laid lk fuel).2.2, d < (sp_dsx M inp).length) ∧ gx_kp w w' B (B + 360)) := by
  refine gx_ct (L := [some (.ref B), some (.int fuel), none]) (by decide) (Nat.le_of_ble_eq_true rfl) rfl ?_
  have hP := h
  obtain ⟨⟨h0, h1, h2, ⟨fo, h3, hfo⟩, ⟨t4, h4⟩, ⟨q5, op5, h5⟩, h6, h7⟩, ⟨l8, h8⟩, ⟨l9, h9⟩⟩ := h
  have hdk := sp_dsx_ok hM hi
  have hdl := sp_dsx_len M inp
  unfold sp_sv
  refine gx_iload_n d_PC_search_0 rfl ?_
  refine gx_iconst d_PC_search_1 (nI 1) (by decide) ?_
  refine gx_icmp_lt (tgt := 12) d_PC_search_2 (by decide) (fun h2 => ?_) (fun h2 => ?_)
  · rw [Int32.lt_iff_toInt_lt, nI1i] at h2
    rw [if_neg (by omega)]
    refine gx_iconst d_PC_search_12 (-1) (by decide) ?_
    refine gx_ireturn rfl d_PC_search_13 ?_
    exact ⟨rfl, hP, hlaid, gx_kp.rf⟩
  · refine gx_iload_n d_PC_search_5 rfl ?_
    refine gx_sipush d_PC_search_6 (nI 400) (by decide) ?_
    refine gx_icmp_le (tgt := 14) d_PC_search_9 (by decide) (fun h9 => ?_) (fun h9 => ?_)
    · rw [Int32.lt_iff_toInt_lt, nI1i] at h2
      rw [Int32.le_iff_toInt_le, nI400i] at h9
      obtain ⟨fu, hfu, rfl⟩ := nI_of (x := fuel) (by rw [Int32.lt_iff_toInt_lt]; have : (0 : Int32).toInt = 0 := rfl; omega)
      rw [nI_toInt hfu] at h2 h9
      rw [nI_toInt hfu, if_pos (by omega), nI_clamp hfu]
      refine gx_aload_n d_PC_search_14 rfl ?_
      refine gx_get fl_PC_40 d_PC_search_15 h0 rfl ?_
      refine gx_aload_n d_PC_search_18 rfl ?_
      refine gx_get fl_PC_26 d_PC_search_19 h0 rfl ?_
      refine gx_iload_n d_PC_search_22 rfl ?_
      refine gx_cVr lk_PC_190 d_PC_search_23 (ct_look h5 h3 (by omega) (by omega) (fun p hp => (hdk p hp).1) (fun p hp => ⟨(hdk p hp).2.1.2, (hdk p hp).2.2.2.1⟩) (by omega) (sp_dsx_0 M inp) (by simp) (by simp)) (Or.inl ⟨_, h5.2.choose_spec.choose_spec.choose_spec.choose_spec.choose_spec.1.1⟩) (by omega) rfl rfl (Nat.le_of_ble_eq_true rfl) (fun r2 w2 hq => ?_)
      obtain ⟨rfl, ⟨op2, hz2⟩, k2⟩ := hq
      have hXe : sp_lkf 401 (sp_dsx M inp) fu = sp_lk 401 (sp_dsx M inp) fu 0 [(-1, 0, 1, (35 :: sp_txt (sp_c0 inp) ++ [35]).drop [35].length)] := rfl
      rw [← hXe] at hz2 ⊢
      obtain ⟨hX1, hX2, hX3⟩ := sp_lk_ok (cap := 401) (Nat.le_refl _) fu 0 _ (sp_q0_qi (ds := sp_dsx M inp) (by omega))
      have hX4 := hz2.1
      generalize hXg : sp_lkf 401 (sp_dsx M inp) fu = X at hz2 hX4 ⊢
      rw [show sp_lk 401 (sp_dsx M inp) fu 0 (sp_q0 (sp_dsx M inp)) = X from hXg] at hX1 hX2 hX3
      have hfl := sp_fl_lt (laid := laid) hX1 hX3 (by omega) hlaid
      have hP2 := hP.hunt k2 hz2
      have k3 : gx_kp w w2 B (B + 360) := k2.mono (by omega) (by omega)
      refine gx_istore_n d_PC_search_26 (Nat.le_of_ble_eq_true rfl) rfl ?_
      refine gx_iload_n d_PC_search_27 rfl ?_
      refine gx_iconst d_PC_search_28 (nI 1) (by decide) ?_
      refine gx_icmp_neN (by omega) (by omega) (tgt := 55) d_PC_search_29 (by decide) (fun h29 => ?_) (fun h29 => ?_)
      · rw [show sp_fl X laid = laid from if_neg (fun g => h29 g.1)]
        refine gx_iload_n d_PC_search_55 rfl ?_
        refine gx_ireturn rfl d_PC_search_56 ?_
        exact ⟨rfl, hP2, hlaid, k3⟩
      · obtain ⟨k, hk1, hk2⟩ := hX3 h29
        rw [hk1] at hz2
        have hX5 := (hX1 k hk2).2.2
        refine gx_aload_n d_PC_search_32 rfl ?_
        refine gx_get fl_PC_40 d_PC_search_33 hP2.1.1 rfl ?_
        refine gx_cV1 lk_PC_194 d_PC_search_36 (ct_foundSize hz2 hk2) (Or.inl ⟨_, hz2.2.choose_spec.choose_spec.choose_spec.choose_spec.choose_spec.1.1⟩) (by omega) rfl rfl (Nat.le_of_ble_eq_true rfl) ?_
        refine gx_bipush d_PC_search_39 (nI 60) (by decide) ?_
        refine gx_icmp_gtN (by omega) (by omega) (tgt := 55) d_PC_search_41 (by decide) (fun h41 => ?_) (fun h41 => ?_)
        · rw [show sp_fl X laid = laid from if_neg (fun g => by rw [hk1, Nat.add_sub_cancel] at g; omega)]
          refine gx_iload_n d_PC_search_55 rfl ?_
          refine gx_ireturn rfl d_PC_search_56 ?_
          exact ⟨rfl, hP2, hlaid, k3⟩
        · have efl : sp_fl X laid = (sp_ph X.2.2 (X.2.2.getD k sp_e0).2.2.1 (nI k)).reverse := by
            unfold sp_fl
            rw [hk1, Nat.add_sub_cancel, if_pos ⟨h29, by omega⟩]
          refine gx_aload_n d_PC_search_44 rfl ?_
          refine gx_get fl_PC_40 d_PC_search_45 hP2.1.1 rfl ?_
          refine gx_aload_n d_PC_search_48 rfl ?_
          refine gx_get fl_PC_49 d_PC_search_49 hP2.1.1 rfl ?_
          refine gx_cV0 lk_PC_197 d_PC_search_52 (ct_layFound hz2 hk2 (hX1.qf (by omega)) (by omega) hP2.1.2.2.2.2.2.2.1 (by omega) (by omega)) (Or.inl ⟨_, hz2.2.choose_spec.choose_spec.choose_spec.choose_spec.choose_spec.1.1⟩) (by omega) rfl rfl (Nat.le_of_ble_eq_true rfl) ?_
          refine gx_iload_n d_PC_search_55 rfl ?_
          refine gx_ireturn rfl d_PC_search_56 ?_
          refine ⟨rfl, ?_, hfl, k3.trans (gx_kp.st (by omega) (by omega))⟩
          rw [efl]
          exact hP2.laid _
    · rw [Int32.le_iff_toInt_le, nI400i] at h9
      rw [if_neg (by omega)]
      refine gx_iconst d_PC_search_12 (-1) (by decide) ?_
      refine gx_ireturn rfl d_PC_search_13 ?_
      exact ⟨rfl, hP, hlaid, gx_kp.rf⟩
