/-! the reference: type; the queue that is one row shorter answers alike -/
theorem gx_255 (i : Nat) : (nI 255).toBitVec.getLsbD i = decide (i < 8) := by
  show (BitVec.ofNat 32 255).getLsbD i = _
  rw [BitVec.getLsbD_ofNat]
  by_cases h8 : i < 8
  · rcases (show i = 0 ∨ i = 1 ∨ i = 2 ∨ i = 3 ∨ i = 4 ∨ i = 5 ∨ i = 6 ∨ i = 7 by omega) with rfl | rfl | rfl | rfl | rfl | rfl | rfl | rfl <;> decide
  · rw [Nat.testBit_lt_two_pow (show 255 < 2 ^ i from Nat.lt_of_lt_of_le (by decide) (Nat.pow_le_pow_right (by decide) (show 8 ≤ i by omega))), Bool.and_false, decide_eq_false h8]
theorem gx_bv {x b : Int64} {n : Nat} (hb : b.toBitVec.smod 64 = BitVec.ofNat 64 n) (hn : n ≤ 56) : (x >>> b).toInt32 &&& nI 255 = nI (x.toBitVec.toNat / 2 ^ n % 256) := by
  apply Int32.toBitVec_inj.mp
  rw [Int32.toBitVec_and, Int64.toBitVec_toInt32, BitVec.signExtend_eq_setWidth_of_le _ (by decide), Int64.toBitVec_shiftRight, hb]
  have hs : x.toBitVec.sshiftRight' (BitVec.ofNat 64 n) = x.toBitVec.sshiftRight n := by
    show x.toBitVec.sshiftRight (BitVec.ofNat 64 n).toNat = _
    rw [BitVec.toNat_ofNat, Nat.mod_eq_of_lt (show n < 2 ^ 64 from Nat.lt_of_le_of_lt hn (by decide))]
  rw [hs]
  show _ = BitVec.ofNat 32 _
  apply BitVec.eq_of_getLsbD_eq
  intro i hi
  rw [BitVec.getLsbD_and, gx_255, BitVec.getLsbD_setWidth, BitVec.getLsbD_sshiftRight, BitVec.getLsbD_ofNat, show (256 : Nat) = 2 ^ 8 from rfl, Nat.testBit_mod_two_pow, Nat.testBit_div_two_pow]
  by_cases h8 : i < 8
  · rw [if_pos (show n + i < 64 by omega), decide_eq_true hi, decide_eq_false (show ¬ 64 ≤ i by omega), decide_eq_true h8, Nat.add_comm i n]
    simp [BitVec.getLsbD]
  · rw [decide_eq_false h8, Bool.and_false, Bool.false_and, Bool.and_false]
theorem tk_cap {q c : List sp_E} {n : Nat} : (q.take n ++ c).take n = (q ++ c).take n := by
  by_cases h : q.length ≤ n
  · rw [List.take_of_length_le h]
  · rw [List.take_append_of_le_length (by rw [List.length_take]; omega), List.take_append_of_le_length (by omega), List.take_take, Nat.min_self]
theorem nq_cap {ds : List (List Nat × List Nat)} {a0 : Nat} {q : List sp_E} (ha : a0 < 401) : sp_nq 401 ds a0 (q.take 401) = (sp_nq 402 ds a0 q).take 401 := by
  unfold sp_nq
  rw [gx_qt ha]
  split
  · rw [tk_cap, List.take_take]; rfl
  · rfl
theorem lk_cap {ds : List (List Nat × List Nat)} : ∀ (n a0 : Nat) (q : List sp_E), a0 + n ≤ 400 → sp_lk 401 ds n a0 (q.take 401) = ((sp_lk 402 ds n a0 q).1, (sp_lk 402 ds n a0 q).2.1, (sp_lk 402 ds n a0 q).2.2.take 401)
  | 0, a0, q, h => by
    have e : (a0 < (q.take 401).length) = (a0 < q.length) := by rw [List.length_take]; exact propext ⟨fun g => by omega, fun g => by omega⟩
    unfold sp_lk
    simp only [e]
  | n + 1, a0, q, h => by
    have e : (a0 < (q.take 401).length) ↔ (a0 < q.length) := by rw [List.length_take]; exact ⟨fun g => by omega, fun g => by omega⟩
    by_cases h1 : a0 < q.length
    · by_cases h2 : (q.getD a0 sp_e0).2.2.2.length = 0
      · rw [lk_1 h1 h2, lk_1 (e.mpr h1) (by rw [gx_qt (by omega)]; exact h2)]
      · rw [lk_s h1 h2, lk_s (e.mpr h1) (by rw [gx_qt (by omega)]; exact h2), nq_cap (by omega)]
        exact lk_cap n (a0 + 1) _ (by omega)
    · rw [lk_out h1, lk_out (fun g => h1 (e.mp g))]
theorem lk_le {cap : Nat} {ds : List (List Nat × List Nat)} : ∀ (n a0 : Nat) (q : List sp_E), (sp_lk cap ds n a0 q).2.1 ≤ a0 + n
  | 0, a0, q => by unfold sp_lk; exact Nat.le_refl _
  | n + 1, a0, q => by
    by_cases h1 : a0 < q.length
    · by_cases h2 : (q.getD a0 sp_e0).2.2.2.length = 0
      · rw [lk_1 h1 h2]; show a0 + 1 ≤ _; omega
      · rw [lk_s h1 h2]; have := lk_le (cap := cap) (ds := ds) n (a0 + 1) (sp_nq cap ds a0 q); omega
    · rw [lk_out h1]; show a0 ≤ _; omega
theorem ph_m1 (q : List sp_E) : ∀ n, sp_ph q n (-1) = []
  | 0 => rfl
  | n + 1 => by unfold sp_ph; rw [if_pos (by decide)]
theorem ph_cap {N : Nat} {q : List sp_E} (h : sp_qi N q) : ∀ (n j : Nat), j < 401 → j < q.length → sp_ph (q.take 401) n (nI j) = sp_ph q n (nI j)
  | 0, j, _, _ => rfl
  | n + 1, j, h1, h2 => by
    rw [sp_ph_s (by omega), sp_ph_s (by omega), gx_qt h1]
    rcases (h j h2).1 with g | ⟨i, hi, g⟩
    · rw [g, ph_m1, ph_m1]
    · rw [g, ph_cap h n i (by omega) (by omega)]
theorem sv_cap {M : sp_M} {inp laid : List Nat} {lk fuel : Int32} : sp_sv 401 (sp_dsx M inp) laid lk fuel = sp_sv 402 (sp_dsx M inp) laid lk fuel := by
  have hdl := sp_dsx_len M inp
  unfold sp_sv
  by_cases hf : 1 ≤ fuel.toInt ∧ fuel.toInt ≤ 400
  · rw [if_pos hf, if_pos hf]
    obtain ⟨fe, hfe, rfl⟩ : ∃ fe, fe ≤ 400 ∧ fuel = nI fe := ⟨fuel.toInt.toNat, by omega, by apply Int32.toInt_inj.mp; rw [nI_toInt (by omega)]; omega⟩
    rw [gx_clz (by omega)]
    have h1 : sp_lkf 401 (sp_dsx M inp) fe = ((sp_lkf 402 (sp_dsx M inp) fe).1, (sp_lkf 402 (sp_dsx M inp) fe).2.1, (sp_lkf 402 (sp_dsx M inp) fe).2.2.take 401) := lk_cap fe 0 (sp_q0 (sp_dsx M inp)) (by omega)
    obtain ⟨k1, k2, k3⟩ := sp_lk_ok (cap := 402) (Nat.le_refl _) fe 0 _ (sp_q0_qi (ds := sp_dsx M inp) (by omega))
    have k4 := lk_le (cap := 402) (ds := sp_dsx M inp) fe 0 (sp_q0 (sp_dsx M inp))
    rw [h1]
    have hfl : sp_fl ((sp_lkf 402 (sp_dsx M inp) fe).1, (sp_lkf 402 (sp_dsx M inp) fe).2.1, (sp_lkf 402 (sp_dsx M inp) fe).2.2.take 401) laid = sp_fl (sp_lkf 402 (sp_dsx M inp) fe) laid := by
      unfold sp_fl
      change sp_qi _ (sp_lkf 402 (sp_dsx M inp) fe).2.2 at k1
      change (sp_lkf 402 (sp_dsx M inp) fe).1 = 1 → _ at k3
      change (sp_lkf 402 (sp_dsx M inp) fe).2.1 ≤ _ at k4
      by_cases h2 : (sp_lkf 402 (sp_dsx M inp) fe).1 = 1
      · obtain ⟨k, hk1, hk2⟩ := k3 h2
        change (sp_lkf 402 (sp_dsx M inp) fe).2.1 = k + 1 at hk1
        change k < (sp_lkf 402 (sp_dsx M inp) fe).2.2.length at hk2
        simp only [hk1, Nat.add_sub_cancel]
        rw [gx_qt (by omega), ph_cap k1 _ k (by omega) hk2]
      · rw [if_neg (fun g => h2 g.1), if_neg (fun g => h2 g.1)]
    rw [hfl]
  · rw [if_neg hf, if_neg hf]
theorem ab_in {c : Nat} : c ∈ gx_abN ↔ c = 35 ∨ (48 ≤ c ∧ c ≤ 50) ∨ (97 ≤ c ∧ c ≤ 100) ∨ c = 104 := by
  unfold gx_abN
  simp only [List.mem_cons, List.not_mem_nil, or_false]
  omega
theorem op_type_so {S : sp_St} {x : Int64} (h : ∀ c ∈ sp_cs x, c ∈ gx_abN) (h2 : S.2.2.2.1.length + (sp_cs x).length ≤ 60) : op_type S x = (1, (S.1, S.2.1, S.2.2.1, S.2.2.2.1 ++ sp_cs x, S.2.2.2.2)) := if_pos ⟨h, h2⟩
theorem op_type_no {S : sp_St} {x : Int64} {i : Nat} (hi : i ≤ 8) (h : (∃ c ∈ sp_ct x i, ¬ c ∈ gx_abN) ∨ 60 < S.2.2.2.1.length + (sp_ct x i).length) : op_type S x = (0, S) := by
  refine if_neg (fun g => ?_)
  rcases h with ⟨c, hc, hn⟩ | h
  · exact hn (g.1 c (sp_ct_sub hi c hc))
  · have := sp_ct_len (x := x) hi
    omega
theorem mdl.ty {I I' : Nat → Nat} {A A' : Nat → Nat → Nat} {S : sp_St} {l : List Nat} (h : mdl I A S) (hI : ∀ k, k ≠ 0 → k ≠ 6 → I' k = I k) (hA : ∀ j, j ≠ 14 → A' j = A j) (hl : moL (I' 6) (A' 14) l) : mdl I' A' (S.1, S.2.1, S.2.2.1, l, S.2.2.2.2) := by
  refine ⟨?_, ?_, hl, ?_⟩
  · have h1 := h.1
    unfold mdC moM moL moT moDs at h1 ⊢
    rw [hI 1 (by decide) (by decide), hI 2 (by decide) (by decide), hI 3 (by decide) (by decide), hI 4 (by decide) (by decide), hA 1 (by decide), hA 2 (by decide), hA 3 (by decide), hA 4 (by decide), hA 5 (by decide), hA 6 (by decide), hA 7 (by decide), hA 8 (by decide), hA 9 (by decide), hA 10 (by decide), hA 11 (by decide), hA 12 (by decide)]
    exact h1
  · show moL (I' 5) (A' 13) S.2.2.1
    rw [hI 5 (by decide) (by decide), hA 13 (by decide)]; exact h.2.1
  · show nI (I' 7) = _
    rw [hI 7 (by decide) (by decide)]; exact h.2.2.2
theorem mdl.tyfix {I : Nat → Nat} {A A' : Nat → Nat → Nat} {S : sp_St} (h : mdl I A S) (hA : ∀ j, j ≠ 14 → A' j = A j) (hT : ∀ i, i < S.2.2.2.1.length → A' 14 i = S.2.2.2.1.getD i 0) : mdl I A' S := h.ty (I' := I) (fun _ _ _ => rfl) hA ⟨h.2.2.1.1, hT⟩
theorem sp_by_sh {x : Int64} {k : Nat} (hk : k < 8) : (x >>> ((nI (8 * k)).toInt64 &&& 63)).toInt32 &&& nI 255 = nI (sp_by x k) := by
  refine gx_bv ?_ (by omega)
  rcases (show k = 0 ∨ k = 1 ∨ k = 2 ∨ k = 3 ∨ k = 4 ∨ k = 5 ∨ k = 6 ∨ k = 7 by omega) with rfl | rfl | rfl | rfl | rfl | rfl | rfl | rfl <;> decide
theorem d_Mo_type_0 : decode prog_11_method_36_code 0 = .ok (.aload_n 0, 1) := by decide +kernel
theorem d_Mo_type_1 : decode prog_11_method_36_code 1 = .ok (.iconst 0, 1) := by decide +kernel
theorem d_Mo_type_2 : decode prog_11_method_36_code 2 = .ok (.putfield 90, 3) := by decide +kernel
theorem d_Mo_type_5 : decode prog_11_method_36_code 5 = .ok (.aload_n 0, 1) := by decide +kernel
theorem d_Mo_type_6 : decode prog_11_method_36_code 6 = .ok (.getfield 132, 3) := by decide +kernel
theorem d_Mo_type_9 : decode prog_11_method_36_code 9 = .ok (.istore_n 3, 1) := by decide +kernel
theorem d_Mo_type_10 : decode prog_11_method_36_code 10 = .ok (.bipush 7, 2) := by decide +kernel
theorem d_Mo_type_12 : decode prog_11_method_36_code 12 = .ok (.istore 4, 2) := by decide +kernel
theorem d_Mo_type_14 : decode prog_11_method_36_code 14 = .ok (.iload 4, 2) := by decide +kernel
theorem d_Mo_type_16 : decode prog_11_method_36_code 16 = .ok (.ifCond .lt 100, 3) := by decide +kernel
theorem d_Mo_type_19 : decode prog_11_method_36_code 19 = .ok (.lload_n 1, 1) := by decide +kernel
theorem d_Mo_type_20 : decode prog_11_method_36_code 20 = .ok (.bipush 8, 2) := by decide +kernel
theorem d_Mo_type_22 : decode prog_11_method_36_code 22 = .ok (.iload 4, 2) := by decide +kernel
theorem d_Mo_type_24 : decode prog_11_method_36_code 24 = .ok (.imul, 1) := by decide +kernel
theorem d_Mo_type_25 : decode prog_11_method_36_code 25 = .ok (.lshr, 1) := by decide +kernel
theorem d_Mo_type_26 : decode prog_11_method_36_code 26 = .ok (.l2i, 1) := by decide +kernel
theorem d_Mo_type_27 : decode prog_11_method_36_code 27 = .ok (.sipush 255, 3) := by decide +kernel
theorem d_Mo_type_30 : decode prog_11_method_36_code 30 = .ok (.iand, 1) := by decide +kernel
theorem d_Mo_type_31 : decode prog_11_method_36_code 31 = .ok (.istore 5, 2) := by decide +kernel
theorem d_Mo_type_33 : decode prog_11_method_36_code 33 = .ok (.iload 5, 2) := by decide +kernel
theorem d_Mo_type_35 : decode prog_11_method_36_code 35 = .ok (.bipush 35, 2) := by decide +kernel
theorem d_Mo_type_37 : decode prog_11_method_36_code 37 = .ok (.if_icmp .eq 32, 3) := by decide +kernel
theorem d_Mo_type_40 : decode prog_11_method_36_code 40 = .ok (.iload 5, 2) := by decide +kernel
theorem d_Mo_type_42 : decode prog_11_method_36_code 42 = .ok (.invokestatic 93, 3) := by decide +kernel
theorem d_Mo_type_45 : decode prog_11_method_36_code 45 = .ok (.ifCond .ne 24, 3) := by decide +kernel
theorem d_Mo_type_48 : decode prog_11_method_36_code 48 = .ok (.iload 5, 2) := by decide +kernel
theorem d_Mo_type_50 : decode prog_11_method_36_code 50 = .ok (.bipush 97, 2) := by decide +kernel
theorem d_Mo_type_52 : decode prog_11_method_36_code 52 = .ok (.if_icmp .lt 10, 3) := by decide +kernel
theorem d_Mo_type_55 : decode prog_11_method_36_code 55 = .ok (.iload 5, 2) := by decide +kernel
theorem d_Mo_type_57 : decode prog_11_method_36_code 57 = .ok (.bipush 100, 2) := by decide +kernel
theorem d_Mo_type_59 : decode prog_11_method_36_code 59 = .ok (.if_icmp .le 10, 3) := by decide +kernel
theorem d_Mo_type_62 : decode prog_11_method_36_code 62 = .ok (.iload 5, 2) := by decide +kernel
theorem d_Mo_type_64 : decode prog_11_method_36_code 64 = .ok (.bipush 104, 2) := by decide +kernel
theorem d_Mo_type_66 : decode prog_11_method_36_code 66 = .ok (.if_icmp .ne 7, 3) := by decide +kernel
theorem d_Mo_type_69 : decode prog_11_method_36_code 69 = .ok (.iconst 1, 1) := by decide +kernel
theorem d_Mo_type_70 : decode prog_11_method_36_code 70 = .ok (.goto 4, 3) := by decide +kernel
theorem d_Mo_type_73 : decode prog_11_method_36_code 73 = .ok (.iconst 0, 1) := by decide +kernel
theorem d_Mo_type_74 : decode prog_11_method_36_code 74 = .ok (.istore 6, 2) := by decide +kernel
theorem d_Mo_type_76 : decode prog_11_method_36_code 76 = .ok (.iload 5, 2) := by decide +kernel
theorem d_Mo_type_78 : decode prog_11_method_36_code 78 = .ok (.ifCond .eq 16, 3) := by decide +kernel
theorem d_Mo_type_81 : decode prog_11_method_36_code 81 = .ok (.iload 6, 2) := by decide +kernel
theorem d_Mo_type_83 : decode prog_11_method_36_code 83 = .ok (.ifCond .eq 9, 3) := by decide +kernel
theorem d_Mo_type_86 : decode prog_11_method_36_code 86 = .ok (.iload_n 3, 1) := by decide +kernel
theorem d_Mo_type_87 : decode prog_11_method_36_code 87 = .ok (.bipush 60, 2) := by decide +kernel
theorem d_Mo_type_89 : decode prog_11_method_36_code 89 = .ok (.if_icmp .ne 5, 3) := by decide +kernel
theorem d_Mo_type_92 : decode prog_11_method_36_code 92 = .ok (.iconst 0, 1) := by decide +kernel
theorem d_Mo_type_93 : decode prog_11_method_36_code 93 = .ok (.ireturn, 1) := by decide +kernel
theorem d_Mo_type_94 : decode prog_11_method_36_code 94 = .ok (.iload 5, 2) := by decide +kernel
theorem d_Mo_type_96 : decode prog_11_method_36_code 96 = .ok (.ifCond .eq 14, 3) := by decide +kernel
theorem d_Mo_type_99 : decode prog_11_method_36_code 99 = .ok (.aload_n 0, 1) := by decide +kernel
theorem d_Mo_type_100 : decode prog_11_method_36_code 100 = .ok (.getfield 50, 3) := by decide +kernel
theorem d_Mo_type_103 : decode prog_11_method_36_code 103 = .ok (.iload_n 3, 1) := by decide +kernel
theorem d_Mo_type_104 : decode prog_11_method_36_code 104 = .ok (.iload 5, 2) := by decide +kernel
theorem d_Mo_type_106 : decode prog_11_method_36_code 106 = .ok (.iastore, 1) := by decide +kernel
theorem d_Mo_type_107 : decode prog_11_method_36_code 107 = .ok (.iinc 3 1, 3) := by decide +kernel
theorem d_Mo_type_110 : decode prog_11_method_36_code 110 = .ok (.iinc 4 (-1), 3) := by decide +kernel
theorem d_Mo_type_113 : decode prog_11_method_36_code 113 = .ok (.goto (-99), 3) := by decide +kernel
theorem d_Mo_type_116 : decode prog_11_method_36_code 116 = .ok (.aload_n 0, 1) := by decide +kernel
theorem d_Mo_type_117 : decode prog_11_method_36_code 117 = .ok (.iload_n 3, 1) := by decide +kernel
theorem d_Mo_type_118 : decode prog_11_method_36_code 118 = .ok (.putfield 132, 3) := by decide +kernel
theorem d_Mo_type_121 : decode prog_11_method_36_code 121 = .ok (.iconst 1, 1) := by decide +kernel
theorem d_Mo_type_122 : decode prog_11_method_36_code 122 = .ok (.ireturn, 1) := by decide +kernel
theorem lm_type {w : gx_W} {m : Nat} {I : Nat → Nat} {A : Nat → Nat → Nat} {S : sp_St} (h : mdl I A S) (hS : sp_Sok S) {x : Int64} (hI0 : I 0 = 0) : ∀ (fu : Nat) (j : Nat) (A' : Nat → Nat → Nat) (L5 : Option Value) (L6 : Option Value), j < fu → (j ≤ 8) → (∀ q, q ≠ 14 → A' q = A q) → (∀ i, i < (S.2.2.2.1 ++ (sp_ct x (8 - j))).length → A' 14 i = (S.2.2.2.1 ++ (sp_ct x (8 - j))).getD i 0) → (∀ c ∈ (sp_ct x (8 - j)), c ∈ gx_abN) → (S.2.2.2.1.length + (sp_ct x (8 - j)).length ≤ 60) → gx_X (fun _ _ => True) M_Mo_type 7 (gx_nt (moQ w m (nI (op_type S x).1) (op_type S x).2 0)) 14 [some (.ref m), some (.long x), none, some (.int (nI (S.2.2.2.1.length + (sp_ct x (8 - j)).length))), some (.int (nI j - nI 1)), L5, L6] [] (gx_mo w m I A') (0, 0) := by
  intro fu
  induction fu with
  | zero => intro j A' L5 L6 hfu; exact absurd hfu (Nat.not_lt_zero _)
  | succ fu ih =>
    intro j A' L5 L6 hfu hj hA hT hab hl
    refine gx_iload d_Mo_type_14 rfl ?_
    rcases j with _ | j
    · refine gx_if_lt (tgt := 116) d_Mo_type_16 (by decide) (fun _ => ?_) (fun g => absurd gx_neg1 g)
      rw [show sp_ct x (8 - 0) = sp_cs x from sp_ct_8 x] at hT hab hl ⊢
      refine gx_aload_n d_Mo_type_116 rfl ?_
      refine gx_iload_n d_Mo_type_117 rfl ?_
      refine gx_put fp_Mo_132 (fun h => by cases h) d_Mo_type_118 mo_o rfl rfl (Nat.le_of_ble_eq_true rfl) ?_
      refine gx_w mo_p6 ?_
      refine gx_iconst d_Mo_type_121 (nI 1) (by decide) ?_
      refine gx_zreturn rfl gx_nz1 d_Mo_type_122 ?_
      rw [op_type_so hab hl]
      exact ⟨rfl, _, _, rfl, h.ty (fun k h0 h6 => ui_o h6) hA ⟨by rw [ui_s, List.length_append], hT⟩, (ui_o (by decide)).trans hI0⟩
    have hbase : mdl I A' S := h.tyfix hA (fun i hi => by rw [hT i (by rw [List.length_append]; omega), gx_gd_app hi])
    have hby := sp_by_lt x j
    have hct : sp_ct x (8 - j) = sp_ct x (8 - (j + 1)) ++ (if sp_by x j = 0 then [] else [sp_by x j]) := by
      have h1 := sp_ct_s (x := x) (i := 8 - (j + 1)) (by omega)
      rw [show 8 - (j + 1) + 1 = 8 - j by omega, show 7 - (8 - (j + 1)) = j by omega] at h1
      exact h1
    refine gx_L (L' := [some (.ref m), some (.long x), none, some (.int (nI (S.2.2.2.1.length + (sp_ct x (8 - (j + 1))).length))), some (.int (nI j)), L5, L6]) (by rw [gx_s1s]) ?_
    refine gx_top (gx_s1s j) ?_
    refine gx_if_ltN (by omega) (tgt := 116) d_Mo_type_16 (by decide) ?_
    refine gx_lload_n d_Mo_type_19 rfl ?_
    refine gx_bipush d_Mo_type_20 (nI 8) (by decide) ?_
    refine gx_iload d_Mo_type_22 rfl ?_
    refine gx_imulN d_Mo_type_24 ?_
    refine gx_lshr d_Mo_type_25 ?_
    refine gx_l2i d_Mo_type_26 ?_
    refine gx_sipush d_Mo_type_27 (nI 255) (by decide) ?_
    refine gx_iand d_Mo_type_30 ?_
    refine gx_top (sp_by_sh (by omega)) ?_
    refine gx_istore d_Mo_type_31 (Nat.le_of_ble_eq_true rfl) rfl ?_
    refine gx_iload d_Mo_type_33 rfl ?_
    refine gx_bipush d_Mo_type_35 (nI 35) (by decide) ?_
    refine gx_icmp_eqN (by omega) (by omega) (tgt := 69) d_Mo_type_37 (by decide) (fun h37 => ?_) (fun h37 => ?_)
    · have hcab : sp_by x j ∈ gx_abN := ab_in.mpr (by omega)
      have hc0 : ¬ sp_by x j = 0 := by have := ab_in.mp hcab; omega
      refine gx_iconst d_Mo_type_69 (nI 1) (by decide) ?_
      refine gx_goto (tgt := 74) d_Mo_type_70 (by decide) ?_
      refine gx_istore d_Mo_type_74 (Nat.le_of_ble_eq_true rfl) rfl ?_
      refine gx_iload d_Mo_type_76 rfl ?_
      refine gx_if_eqN (by omega) (tgt := 94) d_Mo_type_78 (by decide) (fun h78 => ?_) (fun h78 => ?_)
      · exact absurd h78 hc0
      · refine gx_iload d_Mo_type_81 rfl ?_
        refine gx_if_eqN (by omega) (tgt := 92) d_Mo_type_83 (by decide) (fun h83 => ?_) (fun h83 => ?_)
        · exact absurd h83 (by decide)
        · refine gx_iload_n d_Mo_type_86 rfl ?_
          refine gx_bipush d_Mo_type_87 (nI 60) (by decide) ?_
          refine gx_icmp_neN (by omega) (by omega) (tgt := 94) d_Mo_type_89 (by decide) (fun h89 => ?_) (fun h89 => ?_)
          · refine gx_iload d_Mo_type_94 rfl ?_
            refine gx_if_eqN (by omega) (tgt := 110) d_Mo_type_96 (by decide) (fun h96 => ?_) (fun h96 => ?_)
            · exact absurd h96 hc0
            · refine gx_aload_n d_Mo_type_99 rfl ?_
              refine gx_get fl_Mo_50 d_Mo_type_100 mo_o rfl ?_
              refine gx_iload_n d_Mo_type_103 rfl ?_
              refine gx_iload d_Mo_type_104 rfl ?_
              refine gx_iast d_Mo_type_106 mo_14 (by omega) (by omega) ?_
              refine gx_w mo_s14 ?_
              refine gx_iincN (n := 1) d_Mo_type_107 rfl (by decide) (Nat.le_of_ble_eq_true rfl) rfl ?_
              refine gx_iinc d_Mo_type_110 rfl (nI j - nI 1) (gx_s1 _) (Nat.le_of_ble_eq_true rfl) rfl ?_
              refine gx_goto (tgt := 14) d_Mo_type_113 (by decide) ?_
              refine gx_L (L' := [some (.ref m), some (.long x), none, some (.int (nI (S.2.2.2.1.length + (sp_ct x (8 - j)).length))), some (.int (nI j - nI 1)), some (.int (nI (sp_by x j))), some (.int (nI 1))]) (by rw [hct, if_neg hc0, List.length_append]; rfl) ?_
              refine ih j _ _ _ (by omega) (by omega) (fun q hq => by rw [uA_oj hq]; exact hA q hq) (fun i hi => ?_) (fun c hc => ?_) (by rw [hct, if_neg hc0, List.length_append, List.length_singleton]; omega)
              · rw [hct, if_neg hc0, ← List.append_assoc, List.length_append, List.length_singleton] at hi
                rw [hct, if_neg hc0, ← List.append_assoc]
                have hl9 : (S.2.2.2.1 ++ sp_ct x (8 - (j + 1))).length = S.2.2.2.1.length + (sp_ct x (8 - (j + 1))).length := List.length_append ..
                by_cases e : i = S.2.2.2.1.length + (sp_ct x (8 - (j + 1))).length
                · rw [e, uA_s, ← hl9, gx_gd_mid]
                · rw [uA_i e, hT i (by omega)]
                  exact (gx_gd_app (by omega)).symm
              · rw [hct, if_neg hc0] at hc
                rcases List.mem_append.mp hc with g | g
                · exact hab c g
                · rw [List.mem_singleton] at g; rw [g]; exact hcab
          · refine gx_iconst d_Mo_type_92 (nI 0) (by decide) ?_
            refine gx_zreturn rfl gx_nz0 d_Mo_type_93 ?_
            rw [op_type_no (i := 8 - j) (by omega) (Or.inr (by rw [hct, if_neg hc0, List.length_append, List.length_singleton]; omega))]
            exact ⟨rfl, _, _, rfl, hbase, hI0⟩
    · refine gx_iload d_Mo_type_40 rfl ?_
      refine gx_cS1 lk_Mo_93 d_Mo_type_42 (cm_isSymbol (by omega)) (by omega) rfl rfl (Nat.le_of_ble_eq_true rfl) ?_
      have hbt := Bool.toNat_le (decide (48 ≤ sp_by x j ∧ sp_by x j ≤ 50))
      refine gx_if_neN (by omega) (tgt := 69) d_Mo_type_45 (by decide) (fun h45 => ?_) (fun h45 => ?_)
      · have h45b := of_decide_eq_true (tb1 h45)
        have hcab : sp_by x j ∈ gx_abN := ab_in.mpr (by omega)
        have hc0 : ¬ sp_by x j = 0 := by have := ab_in.mp hcab; omega
        refine gx_iconst d_Mo_type_69 (nI 1) (by decide) ?_
        refine gx_goto (tgt := 74) d_Mo_type_70 (by decide) ?_
        refine gx_istore d_Mo_type_74 (Nat.le_of_ble_eq_true rfl) rfl ?_
        refine gx_iload d_Mo_type_76 rfl ?_
        refine gx_if_eqN (by omega) (tgt := 94) d_Mo_type_78 (by decide) (fun h78 => ?_) (fun h78 => ?_)
        · exact absurd h78 hc0
        · refine gx_iload d_Mo_type_81 rfl ?_
          refine gx_if_eqN (by omega) (tgt := 92) d_Mo_type_83 (by decide) (fun h83 => ?_) (fun h83 => ?_)
          · exact absurd h83 (by decide)
          · refine gx_iload_n d_Mo_type_86 rfl ?_
            refine gx_bipush d_Mo_type_87 (nI 60) (by decide) ?_
            refine gx_icmp_neN (by omega) (by omega) (tgt := 94) d_Mo_type_89 (by decide) (fun h89 => ?_) (fun h89 => ?_)
            · refine gx_iload d_Mo_type_94 rfl ?_
              refine gx_if_eqN (by omega) (tgt := 110) d_Mo_type_96 (by decide) (fun h96 => ?_) (fun h96 => ?_)
              · exact absurd h96 hc0
              · refine gx_aload_n d_Mo_type_99 rfl ?_
                refine gx_get fl_Mo_50 d_Mo_type_100 mo_o rfl ?_
                refine gx_iload_n d_Mo_type_103 rfl ?_
                refine gx_iload d_Mo_type_104 rfl ?_
                refine gx_iast d_Mo_type_106 mo_14 (by omega) (by omega) ?_
                refine gx_w mo_s14 ?_
                refine gx_iincN (n := 1) d_Mo_type_107 rfl (by decide) (Nat.le_of_ble_eq_true rfl) rfl ?_
                refine gx_iinc d_Mo_type_110 rfl (nI j - nI 1) (gx_s1 _) (Nat.le_of_ble_eq_true rfl) rfl ?_
                refine gx_goto (tgt := 14) d_Mo_type_113 (by decide) ?_
                refine gx_L (L' := [some (.ref m), some (.long x), none, some (.int (nI (S.2.2.2.1.length + (sp_ct x (8 - j)).length))), some (.int (nI j - nI 1)), some (.int (nI (sp_by x j))), some (.int (nI 1))]) (by rw [hct, if_neg hc0, List.length_append]; rfl) ?_
                refine ih j _ _ _ (by omega) (by omega) (fun q hq => by rw [uA_oj hq]; exact hA q hq) (fun i hi => ?_) (fun c hc => ?_) (by rw [hct, if_neg hc0, List.length_append, List.length_singleton]; omega)
                · rw [hct, if_neg hc0, ← List.append_assoc, List.length_append, List.length_singleton] at hi
                  rw [hct, if_neg hc0, ← List.append_assoc]
                  have hl9 : (S.2.2.2.1 ++ sp_ct x (8 - (j + 1))).length = S.2.2.2.1.length + (sp_ct x (8 - (j + 1))).length := List.length_append ..
                  by_cases e : i = S.2.2.2.1.length + (sp_ct x (8 - (j + 1))).length
                  · rw [e, uA_s, ← hl9, gx_gd_mid]
                  · rw [uA_i e, hT i (by omega)]
                    exact (gx_gd_app (by omega)).symm
                · rw [hct, if_neg hc0] at hc
                  rcases List.mem_append.mp hc with g | g
                  · exact hab c g
                  · rw [List.mem_singleton] at g; rw [g]; exact hcab
            · refine gx_iconst d_Mo_type_92 (nI 0) (by decide) ?_
              refine gx_zreturn rfl gx_nz0 d_Mo_type_93 ?_
              rw [op_type_no (i := 8 - j) (by omega) (Or.inr (by rw [hct, if_neg hc0, List.length_append, List.length_singleton]; omega))]
              exact ⟨rfl, _, _, rfl, hbase, hI0⟩
      · have h45b : ¬ (48 ≤ sp_by x j ∧ sp_by x j ≤ 50) := fun g => tb0 h45 (decide_eq_true g)
        refine gx_iload d_Mo_type_48 rfl ?_
        refine gx_bipush d_Mo_type_50 (nI 97) (by decide) ?_
        refine gx_icmp_ltN (by omega) (by omega) (tgt := 62) d_Mo_type_52 (by decide) (fun h52 => ?_) (fun h52 => ?_)
        · refine gx_iload d_Mo_type_62 rfl ?_
          refine gx_bipush d_Mo_type_64 (nI 104) (by decide) ?_
          refine gx_icmp_neN (by omega) (by omega) (tgt := 73) d_Mo_type_66 (by decide) (fun h66 => ?_) (fun h66 => ?_)
          · have hcab : ¬ sp_by x j ∈ gx_abN := fun g => by have := ab_in.mp g; omega
            refine gx_iconst d_Mo_type_73 (nI 0) (by decide) ?_
            refine gx_istore d_Mo_type_74 (Nat.le_of_ble_eq_true rfl) rfl ?_
            refine gx_iload d_Mo_type_76 rfl ?_
            refine gx_if_eqN (by omega) (tgt := 94) d_Mo_type_78 (by decide) (fun h78 => ?_) (fun h78 => ?_)
            · have hc0 := h78
              refine gx_iload d_Mo_type_94 rfl ?_
              refine gx_if_eqN (by omega) (tgt := 110) d_Mo_type_96 (by decide) (fun h96 => ?_) (fun h96 => ?_)
              · refine gx_iinc d_Mo_type_110 rfl (nI j - nI 1) (gx_s1 _) (Nat.le_of_ble_eq_true rfl) rfl ?_
                refine gx_goto (tgt := 14) d_Mo_type_113 (by decide) ?_
                refine gx_L (L' := [some (.ref m), some (.long x), none, some (.int (nI (S.2.2.2.1.length + (sp_ct x (8 - j)).length))), some (.int (nI j - nI 1)), some (.int (nI (sp_by x j))), some (.int (nI 0))]) (by rw [hct, if_pos hc0, List.append_nil]; rfl) ?_
                refine ih j _ _ _ (by omega) (by omega) hA ?_ ?_ ?_
                · rw [hct, if_pos hc0, List.append_nil]; exact hT
                · rw [hct, if_pos hc0, List.append_nil]; exact hab
                · rw [hct, if_pos hc0, List.append_nil]; exact hl
              · exact absurd h78 h96
            · refine gx_iload d_Mo_type_81 rfl ?_
              refine gx_if_eqN (by omega) (tgt := 92) d_Mo_type_83 (by decide) (fun h83 => ?_) (fun h83 => ?_)
              · refine gx_iconst d_Mo_type_92 (nI 0) (by decide) ?_
                refine gx_zreturn rfl gx_nz0 d_Mo_type_93 ?_
                rw [op_type_no (i := 8 - j) (by omega) (Or.inl ⟨sp_by x j, by rw [hct, if_neg h78]; exact List.mem_append_right _ (List.mem_singleton.mpr rfl), hcab⟩)]
                exact ⟨rfl, _, _, rfl, hbase, hI0⟩
              · exact absurd rfl h83
          · have hcab : sp_by x j ∈ gx_abN := ab_in.mpr (by omega)
            have hc0 : ¬ sp_by x j = 0 := by have := ab_in.mp hcab; omega
            refine gx_iconst d_Mo_type_69 (nI 1) (by decide) ?_
            refine gx_goto (tgt := 74) d_Mo_type_70 (by decide) ?_
            refine gx_istore d_Mo_type_74 (Nat.le_of_ble_eq_true rfl) rfl ?_
            refine gx_iload d_Mo_type_76 rfl ?_
            refine gx_if_eqN (by omega) (tgt := 94) d_Mo_type_78 (by decide) (fun h78 => ?_) (fun h78 => ?_)
            · exact absurd h78 hc0
            · refine gx_iload d_Mo_type_81 rfl ?_
              refine gx_if_eqN (by omega) (tgt := 92) d_Mo_type_83 (by decide) (fun h83 => ?_) (fun h83 => ?_)
              · exact absurd h83 (by decide)
              · refine gx_iload_n d_Mo_type_86 rfl ?_
                refine gx_bipush d_Mo_type_87 (nI 60) (by decide) ?_
                refine gx_icmp_neN (by omega) (by omega) (tgt := 94) d_Mo_type_89 (by decide) (fun h89 => ?_) (fun h89 => ?_)
                · refine gx_iload d_Mo_type_94 rfl ?_
                  refine gx_if_eqN (by omega) (tgt := 110) d_Mo_type_96 (by decide) (fun h96 => ?_) (fun h96 => ?_)
                  · exact absurd h96 hc0
                  · refine gx_aload_n d_Mo_type_99 rfl ?_
                    refine gx_get fl_Mo_50 d_Mo_type_100 mo_o rfl ?_
                    refine gx_iload_n d_Mo_type_103 rfl ?_
                    refine gx_iload d_Mo_type_104 rfl ?_
                    refine gx_iast d_Mo_type_106 mo_14 (by omega) (by omega) ?_
                    refine gx_w mo_s14 ?_
                    refine gx_iincN (n := 1) d_Mo_type_107 rfl (by decide) (Nat.le_of_ble_eq_true rfl) rfl ?_
                    refine gx_iinc d_Mo_type_110 rfl (nI j - nI 1) (gx_s1 _) (Nat.le_of_ble_eq_true rfl) rfl ?_
                    refine gx_goto (tgt := 14) d_Mo_type_113 (by decide) ?_
                    refine gx_L (L' := [some (.ref m), some (.long x), none, some (.int (nI (S.2.2.2.1.length + (sp_ct x (8 - j)).length))), some (.int (nI j - nI 1)), some (.int (nI (sp_by x j))), some (.int (nI 1))]) (by rw [hct, if_neg hc0, List.length_append]; rfl) ?_
                    refine ih j _ _ _ (by omega) (by omega) (fun q hq => by rw [uA_oj hq]; exact hA q hq) (fun i hi => ?_) (fun c hc => ?_) (by rw [hct, if_neg hc0, List.length_append, List.length_singleton]; omega)
                    · rw [hct, if_neg hc0, ← List.append_assoc, List.length_append, List.length_singleton] at hi
                      rw [hct, if_neg hc0, ← List.append_assoc]
                      have hl9 : (S.2.2.2.1 ++ sp_ct x (8 - (j + 1))).length = S.2.2.2.1.length + (sp_ct x (8 - (j + 1))).length := List.length_append ..
                      by_cases e : i = S.2.2.2.1.length + (sp_ct x (8 - (j + 1))).length
                      · rw [e, uA_s, ← hl9, gx_gd_mid]
                      · rw [uA_i e, hT i (by omega)]
                        exact (gx_gd_app (by omega)).symm
                    · rw [hct, if_neg hc0] at hc
                      rcases List.mem_append.mp hc with g | g
                      · exact hab c g
                      · rw [List.mem_singleton] at g; rw [g]; exact hcab
                · refine gx_iconst d_Mo_type_92 (nI 0) (by decide) ?_
                  refine gx_zreturn rfl gx_nz0 d_Mo_type_93 ?_
                  rw [op_type_no (i := 8 - j) (by omega) (Or.inr (by rw [hct, if_neg hc0, List.length_append, List.length_singleton]; omega))]
                  exact ⟨rfl, _, _, rfl, hbase, hI0⟩
        · refine gx_iload d_Mo_type_55 rfl ?_
          refine gx_bipush d_Mo_type_57 (nI 100) (by decide) ?_
          refine gx_icmp_leN (by omega) (by omega) (tgt := 69) d_Mo_type_59 (by decide) (fun h59 => ?_) (fun h59 => ?_)
          · have hcab : sp_by x j ∈ gx_abN := ab_in.mpr (by omega)
            have hc0 : ¬ sp_by x j = 0 := by have := ab_in.mp hcab; omega
            refine gx_iconst d_Mo_type_69 (nI 1) (by decide) ?_
            refine gx_goto (tgt := 74) d_Mo_type_70 (by decide) ?_
            refine gx_istore d_Mo_type_74 (Nat.le_of_ble_eq_true rfl) rfl ?_
            refine gx_iload d_Mo_type_76 rfl ?_
            refine gx_if_eqN (by omega) (tgt := 94) d_Mo_type_78 (by decide) (fun h78 => ?_) (fun h78 => ?_)
            · exact absurd h78 hc0
            · refine gx_iload d_Mo_type_81 rfl ?_
              refine gx_if_eqN (by omega) (tgt := 92) d_Mo_type_83 (by decide) (fun h83 => ?_) (fun h83 => ?_)
              · exact absurd h83 (by decide)
              · refine gx_iload_n d_Mo_type_86 rfl ?_
                refine gx_bipush d_Mo_type_87 (nI 60) (by decide) ?_
                refine gx_icmp_neN (by omega) (by omega) (tgt := 94) d_Mo_type_89 (by decide) (fun h89 => ?_) (fun h89 => ?_)
                · refine gx_iload d_Mo_type_94 rfl ?_
                  refine gx_if_eqN (by omega) (tgt := 110) d_Mo_type_96 (by decide) (fun h96 => ?_) (fun h96 => ?_)
                  · exact absurd h96 hc0
                  · refine gx_aload_n d_Mo_type_99 rfl ?_
                    refine gx_get fl_Mo_50 d_Mo_type_100 mo_o rfl ?_
                    refine gx_iload_n d_Mo_type_103 rfl ?_
                    refine gx_iload d_Mo_type_104 rfl ?_
                    refine gx_iast d_Mo_type_106 mo_14 (by omega) (by omega) ?_
                    refine gx_w mo_s14 ?_
                    refine gx_iincN (n := 1) d_Mo_type_107 rfl (by decide) (Nat.le_of_ble_eq_true rfl) rfl ?_
                    refine gx_iinc d_Mo_type_110 rfl (nI j - nI 1) (gx_s1 _) (Nat.le_of_ble_eq_true rfl) rfl ?_
                    refine gx_goto (tgt := 14) d_Mo_type_113 (by decide) ?_
                    refine gx_L (L' := [some (.ref m), some (.long x), none, some (.int (nI (S.2.2.2.1.length + (sp_ct x (8 - j)).length))), some (.int (nI j - nI 1)), some (.int (nI (sp_by x j))), some (.int (nI 1))]) (by rw [hct, if_neg hc0, List.length_append]; rfl) ?_
                    refine ih j _ _ _ (by omega) (by omega) (fun q hq => by rw [uA_oj hq]; exact hA q hq) (fun i hi => ?_) (fun c hc => ?_) (by rw [hct, if_neg hc0, List.length_append, List.length_singleton]; omega)
                    · rw [hct, if_neg hc0, ← List.append_assoc, List.length_append, List.length_singleton] at hi
                      rw [hct, if_neg hc0, ← List.append_assoc]
                      have hl9 : (S.2.2.2.1 ++ sp_ct x (8 - (j + 1))).length = S.2.2.2.1.length + (sp_ct x (8 - (j + 1))).length := List.length_append ..
                      by_cases e : i = S.2.2.2.1.length + (sp_ct x (8 - (j + 1))).length
                      · rw [e, uA_s, ← hl9, gx_gd_mid]
                      · rw [uA_i e, hT i (by omega)]
                        exact (gx_gd_app (by omega)).symm
                    · rw [hct, if_neg hc0] at hc
                      rcases List.mem_append.mp hc with g | g
                      · exact hab c g
                      · rw [List.mem_singleton] at g; rw [g]; exact hcab
                · refine gx_iconst d_Mo_type_92 (nI 0) (by decide) ?_
                  refine gx_zreturn rfl gx_nz0 d_Mo_type_93 ?_
                  rw [op_type_no (i := 8 - j) (by omega) (Or.inr (by rw [hct, if_neg hc0, List.length_append, List.length_singleton]; omega))]
                  exact ⟨rfl, _, _, rfl, hbase, hI0⟩
          · refine gx_iload d_Mo_type_62 rfl ?_
            refine gx_bipush d_Mo_type_64 (nI 104) (by decide) ?_
            refine gx_icmp_neN (by omega) (by omega) (tgt := 73) d_Mo_type_66 (by decide) (fun h66 => ?_) (fun h66 => ?_)
            · have hcab : ¬ sp_by x j ∈ gx_abN := fun g => by have := ab_in.mp g; omega
              refine gx_iconst d_Mo_type_73 (nI 0) (by decide) ?_
              refine gx_istore d_Mo_type_74 (Nat.le_of_ble_eq_true rfl) rfl ?_
              refine gx_iload d_Mo_type_76 rfl ?_
              refine gx_if_eqN (by omega) (tgt := 94) d_Mo_type_78 (by decide) (fun h78 => ?_) (fun h78 => ?_)
              · have hc0 := h78
                refine gx_iload d_Mo_type_94 rfl ?_
                refine gx_if_eqN (by omega) (tgt := 110) d_Mo_type_96 (by decide) (fun h96 => ?_) (fun h96 => ?_)
                · refine gx_iinc d_Mo_type_110 rfl (nI j - nI 1) (gx_s1 _) (Nat.le_of_ble_eq_true rfl) rfl ?_
                  refine gx_goto (tgt := 14) d_Mo_type_113 (by decide) ?_
                  refine gx_L (L' := [some (.ref m), some (.long x), none, some (.int (nI (S.2.2.2.1.length + (sp_ct x (8 - j)).length))), some (.int (nI j - nI 1)), some (.int (nI (sp_by x j))), some (.int (nI 0))]) (by rw [hct, if_pos hc0, List.append_nil]; rfl) ?_
                  refine ih j _ _ _ (by omega) (by omega) hA ?_ ?_ ?_
                  · rw [hct, if_pos hc0, List.append_nil]; exact hT
                  · rw [hct, if_pos hc0, List.append_nil]; exact hab
                  · rw [hct, if_pos hc0, List.append_nil]; exact hl
                · exact absurd h78 h96
              · refine gx_iload d_Mo_type_81 rfl ?_
                refine gx_if_eqN (by omega) (tgt := 92) d_Mo_type_83 (by decide) (fun h83 => ?_) (fun h83 => ?_)
                · refine gx_iconst d_Mo_type_92 (nI 0) (by decide) ?_
                  refine gx_zreturn rfl gx_nz0 d_Mo_type_93 ?_
                  rw [op_type_no (i := 8 - j) (by omega) (Or.inl ⟨sp_by x j, by rw [hct, if_neg h78]; exact List.mem_append_right _ (List.mem_singleton.mpr rfl), hcab⟩)]
                  exact ⟨rfl, _, _, rfl, hbase, hI0⟩
                · exact absurd rfl h83
            · have hcab : sp_by x j ∈ gx_abN := ab_in.mpr (by omega)
              have hc0 : ¬ sp_by x j = 0 := by have := ab_in.mp hcab; omega
              refine gx_iconst d_Mo_type_69 (nI 1) (by decide) ?_
              refine gx_goto (tgt := 74) d_Mo_type_70 (by decide) ?_
              refine gx_istore d_Mo_type_74 (Nat.le_of_ble_eq_true rfl) rfl ?_
              refine gx_iload d_Mo_type_76 rfl ?_
              refine gx_if_eqN (by omega) (tgt := 94) d_Mo_type_78 (by decide) (fun h78 => ?_) (fun h78 => ?_)
              · exact absurd h78 hc0
              · refine gx_iload d_Mo_type_81 rfl ?_
                refine gx_if_eqN (by omega) (tgt := 92) d_Mo_type_83 (by decide) (fun h83 => ?_) (fun h83 => ?_)
                · exact absurd h83 (by decide)
                · refine gx_iload_n d_Mo_type_86 rfl ?_
                  refine gx_bipush d_Mo_type_87 (nI 60) (by decide) ?_
                  refine gx_icmp_neN (by omega) (by omega) (tgt := 94) d_Mo_type_89 (by decide) (fun h89 => ?_) (fun h89 => ?_)
                  · refine gx_iload d_Mo_type_94 rfl ?_
                    refine gx_if_eqN (by omega) (tgt := 110) d_Mo_type_96 (by decide) (fun h96 => ?_) (fun h96 => ?_)
                    · exact absurd h96 hc0
                    · refine gx_aload_n d_Mo_type_99 rfl ?_
                      refine gx_get fl_Mo_50 d_Mo_type_100 mo_o rfl ?_
                      refine gx_iload_n d_Mo_type_103 rfl ?_
                      refine gx_iload d_Mo_type_104 rfl ?_
                      refine gx_iast d_Mo_type_106 mo_14 (by omega) (by omega) ?_
                      refine gx_w mo_s14 ?_
                      refine gx_iincN (n := 1) d_Mo_type_107 rfl (by decide) (Nat.le_of_ble_eq_true rfl) rfl ?_
                      refine gx_iinc d_Mo_type_110 rfl (nI j - nI 1) (gx_s1 _) (Nat.le_of_ble_eq_true rfl) rfl ?_
                      refine gx_goto (tgt := 14) d_Mo_type_113 (by decide) ?_
                      refine gx_L (L' := [some (.ref m), some (.long x), none, some (.int (nI (S.2.2.2.1.length + (sp_ct x (8 - j)).length))), some (.int (nI j - nI 1)), some (.int (nI (sp_by x j))), some (.int (nI 1))]) (by rw [hct, if_neg hc0, List.length_append]; rfl) ?_
                      refine ih j _ _ _ (by omega) (by omega) (fun q hq => by rw [uA_oj hq]; exact hA q hq) (fun i hi => ?_) (fun c hc => ?_) (by rw [hct, if_neg hc0, List.length_append, List.length_singleton]; omega)
                      · rw [hct, if_neg hc0, ← List.append_assoc, List.length_append, List.length_singleton] at hi
                        rw [hct, if_neg hc0, ← List.append_assoc]
                        have hl9 : (S.2.2.2.1 ++ sp_ct x (8 - (j + 1))).length = S.2.2.2.1.length + (sp_ct x (8 - (j + 1))).length := List.length_append ..
                        by_cases e : i = S.2.2.2.1.length + (sp_ct x (8 - (j + 1))).length
                        · rw [e, uA_s, ← hl9, gx_gd_mid]
                        · rw [uA_i e, hT i (by omega)]
                          exact (gx_gd_app (by omega)).symm
                      · rw [hct, if_neg hc0] at hc
                        rcases List.mem_append.mp hc with g | g
                        · exact hab c g
                        · rw [List.mem_singleton] at g; rw [g]; exact hcab
                  · refine gx_iconst d_Mo_type_92 (nI 0) (by decide) ?_
                    refine gx_zreturn rfl gx_nz0 d_Mo_type_93 ?_
                    rw [op_type_no (i := 8 - j) (by omega) (Or.inr (by rw [hct, if_neg hc0, List.length_append, List.length_singleton]; omega))]
                    exact ⟨rfl, _, _, rfl, hbase, hI0⟩
theorem cm_type {w : gx_W} {m : Nat} {I : Nat → Nat} {A : Nat → Nat → Nat} {S : sp_St} (h : mdl I A S) (hS : sp_Sok S) {x : Int64} : gx_Ct M_Mo_type 7 0 0 [.ref m, .long x] (gx_mo w m I A) (moQ w m (nI (op_type S x).1) (op_type S x).2 0) := by
  refine gx_ct (L := [some (.ref m), some (.long x), none, none, none, none, none]) (by decide) (Nat.le_of_ble_eq_true rfl) rfl ?_
  refine gx_aload_n d_Mo_type_0 rfl ?_
  refine gx_iconst d_Mo_type_1 (nI 0) (by decide) ?_
  refine gx_put fp_Mo_90 (fun h => by cases h) d_Mo_type_2 mo_o rfl rfl (Nat.le_of_ble_eq_true rfl) ?_
  refine gx_w mo_p0 ?_
  refine gx_aload_n d_Mo_type_5 rfl ?_
  refine gx_get fl_Mo_132 d_Mo_type_6 mo_o rfl ?_
  rw [ui_o (by decide), h.2.2.1.1]
  refine gx_istore_n d_Mo_type_9 (Nat.le_of_ble_eq_true rfl) rfl ?_
  refine gx_bipush d_Mo_type_10 (nI 7) (by decide) ?_
  refine gx_istore d_Mo_type_12 (Nat.le_of_ble_eq_true rfl) rfl ?_
  refine gx_L (L' := [some (.ref m), some (.long x), none, some (.int (nI (S.2.2.2.1.length + (sp_ct x (8 - 8)).length))), some (.int (nI 8 - nI 1)), none, none]) rfl ?_
  exact lm_type h.t hS ui_s 9 8 A _ _ (by omega) (Nat.le_refl _) (fun _ _ => rfl) (fun i hi => by rw [show sp_ct x (8 - 8) = [] from rfl, List.append_nil] at hi ⊢; exact h.2.2.1.2 i hi) (fun c hc => absurd hc (List.not_mem_nil)) (by have := hS.2.2.2.2; show S.2.2.2.1.length + 0 ≤ 60; omega)
