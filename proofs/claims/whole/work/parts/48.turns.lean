/-! the law: a turn, all turns, its beginning -/
theorem d_Law_law_40 : decode code 40 = .ok (.tableswitch 776 0 17 #[88, 215, 290, 365, 378, 391, 428, 441, 506, 562, 587, 631, 642, 655, 668, 725, 738, 763], 88) := by decide +kernel
theorem gx_a31 (x : Int32) : ∃ c, c < 32 ∧ x &&& nI 31 = nI c := by
  refine ⟨(x &&& nI 31).toBitVec.toNat, ?_, ?_⟩
  · rw [Int32.toBitVec_and, BitVec.toNat_and]
    exact Nat.lt_of_le_of_lt Nat.and_le_right (by decide)
  · apply Int32.toBitVec_inj.mp
    show _ = BitVec.ofNat 32 _
    rw [BitVec.ofNat_toNat, BitVec.setWidth_eq]
theorem lw_cmp {L0 i : Nat} (hL : L0 ≤ 3072) (hi : i ≤ 4000) : (nI L0 - nI 6 < nI i) ↔ L0 < i + 6 := by
  by_cases h : 6 ≤ L0
  · rw [pk_sub h, nI_ltI (by omega) (by omega)]; omega
  · have h0 : nI L0 - nI 6 < 0 := by
      rcases (show L0 = 0 ∨ L0 = 1 ∨ L0 = 2 ∨ L0 = 3 ∨ L0 = 4 ∨ L0 = 5 by omega) with rfl | rfl | rfl | rfl | rfl | rfl <;> decide
    refine ⟨fun _ => by omega, fun _ => ?_⟩
    have h1 := nI_pos' (show i < 2 ^ 31 by omega)
    rw [Int32.lt_iff_toInt_lt] at h0 ⊢
    rw [Int32.le_iff_toInt_le] at h1
    omega
theorem gx_good {p : Prop} (h : ¬ ¬ p) : p := Classical.byContradiction h
theorem lw_turn {Q : gx_P} {sb L0 B i b1 b2 : Nat} {xs : Nat → Int32} {L5 L6 : Option Value} (hL : L0 ≤ 3072) (hi : i + 6 ≤ L0) {w : gx_W} {S : sp_St} (h : lwI B w S) (hX : ∀ w' S' L5 L6, lwI B w' S' → gx_X (gx_cF sb L0 xs) M_Law_law 10 Q 816 [some (.ref sb), some (.ref B), some (.ref (B + 360)), some (.ref (B + 385)), some (.int (nI i)), L5, L6] [] w' (b1, b2)) : gx_X (gx_cF sb L0 xs) M_Law_law 10 Q 33 [some (.ref sb), some (.ref B), some (.ref (B + 360)), some (.ref (B + 385)), some (.int (nI i)), L5, L6] [] w (b1 + 1, b2 + 6) := by
  refine gx_aload_n d_Law_law_33 rfl ?_
  refine gx_iload d_Law_law_34 rfl ?_
  refine gx_cld (by omega) (by omega) d_Law_law_36 ?_
  refine gx_bipush d_Law_law_37 (nI 31) (by decide) ?_
  refine gx_iand d_Law_law_39 ?_
  obtain ⟨c, hc, e⟩ := gx_a31 (xs i)
  refine gx_top e ?_
  by_cases h18 : c < 18
  · rcases (show c = 0 ∨ c = 1 ∨ c = 2 ∨ c = 3 ∨ c = 4 ∨ c = 5 ∨ c = 6 ∨ c = 7 ∨ c = 8 ∨ c = 9 ∨ c = 10 ∨ c = 11 ∨ c = 12 ∨ c = 13 ∨ c = 14 ∨ c = 15 ∨ c = 16 ∨ c = 17 by omega) with rfl | rfl | rfl | rfl | rfl | rfl | rfl | rfl | rfl | rfl | rfl | rfl | rfl | rfl | rfl | rfl | rfl | rfl
    · refine gx_tableIn (tgt := 128) d_Law_law_40 (by decide) (by decide) (off := 88) (by decide) (by decide) ?_
      by_cases hz : xs (i + 4) = 0
      · by_cases hbad : sp_in (xs (i + 1)) 4 = true ∧ sp_in (xs (i + 2)) 3 = true ∧ sp_in (xs (i + 3)) 3 = true ∧ sp_in (xs (i + 5)) 5 = true
        · obtain ⟨g1, g2, g3, g5⟩ := hbad
          obtain ⟨q, hq, e1⟩ := sp_in_ex (by decide) g1
          obtain ⟨s, hs, e2⟩ := sp_in_ex (by decide) g2
          obtain ⟨wr, hwr, e3⟩ := sp_in_ex (by decide) g3
          obtain ⟨nx, hnx, e5⟩ := sp_in_ex (by decide) g5
          exact lw_rule_ok0 hL hi h hX e1 e2 e3 e5 hq hs hwr (by omega) hz
        · exact lw_rule_bad0 hL hi h hX hbad hz
      · by_cases hbad : sp_in (xs (i + 1)) 4 = true ∧ sp_in (xs (i + 2)) 3 = true ∧ sp_in (xs (i + 3)) 3 = true ∧ sp_in (xs (i + 5)) 5 = true
        · obtain ⟨g1, g2, g3, g5⟩ := hbad
          obtain ⟨q, hq, e1⟩ := sp_in_ex (by decide) g1
          obtain ⟨s, hs, e2⟩ := sp_in_ex (by decide) g2
          obtain ⟨wr, hwr, e3⟩ := sp_in_ex (by decide) g3
          obtain ⟨nx, hnx, e5⟩ := sp_in_ex (by decide) g5
          exact lw_rule_ok1 hL hi h hX e1 e2 e3 e5 hq hs hwr (by omega) hz
        · exact lw_rule_bad1 hL hi h hX hbad hz
    · refine gx_tableIn (tgt := 255) d_Law_law_40 (by decide) (by decide) (off := 215) (by decide) (by decide) ?_
      by_cases hbad : sp_in (xs (i + 1)) 4 = true ∧ sp_in (xs (i + 2)) 3 = true
      · obtain ⟨q, hq, e1⟩ := sp_in_ex (by decide) hbad.1
        obtain ⟨s, hs, e2⟩ := sp_in_ex (by decide) hbad.2
        exact lw_drop_ok hL hi h hX e1 e2 hq hs
      · exact lw_drop_bad hL hi h hX hbad
    · refine gx_tableIn (tgt := 330) d_Law_law_40 (by decide) (by decide) (off := 290) (by decide) (by decide) ?_
      by_cases hbad : sp_in (xs (i + 1)) 5 = true ∧ ¬ xs (i + 2) < 0
      · obtain ⟨k, hk, e1⟩ := sp_in_ex (by decide) hbad.1
        obtain ⟨word, hw2, e2⟩ := nI_of hbad.2
        exact lw_input_ok hL hi h hX e1 e2 (by omega) hw2
      · exact lw_input_bad hL hi h hX hbad
    · refine gx_tableIn (tgt := 405) d_Law_law_40 (by decide) (by decide) (off := 365) (by decide) (by decide) ?_
      exact lw_steps hL hi h hX
    · refine gx_tableIn (tgt := 418) d_Law_law_40 (by decide) (by decide) (off := 378) (by decide) (by decide) ?_
      exact lw_halts hL hi h hX
    · refine gx_tableIn (tgt := 431) d_Law_law_40 (by decide) (by decide) (off := 391) (by decide) (by decide) ?_
      exact lw_run hL hi h hX
    · refine gx_tableIn (tgt := 468) d_Law_law_40 (by decide) (by decide) (off := 428) (by decide) (by decide) ?_
      exact lw_dominoes hL hi h hX
    · refine gx_tableIn (tgt := 481) d_Law_law_40 (by decide) (by decide) (off := 441) (by decide) (by decide) ?_
      by_cases hz : xs (i + 2) = 0
      · exact lw_domino0 hL hi h hX hz
      · exact lw_domino1 hL hi h hX hz
    · refine gx_tableIn (tgt := 546) d_Law_law_40 (by decide) (by decide) (off := 506) (by decide) (by decide) ?_
      rcases hH : sp_hal S with _ | _
      · exact lw_way_bad hL hi h hX hH
      · exact lw_way_ok hL hi h hX hH
    · refine gx_tableIn (tgt := 602) d_Law_law_40 (by decide) (by decide) (off := 562) (by decide) (by decide) ?_
      exact lw_lay hL hi h hX
    · refine gx_tableIn (tgt := 627) d_Law_law_40 (by decide) (by decide) (off := 587) (by decide) (by decide) ?_
      rcases hH : sp_hal S with _ | _
      · exact lw_layWay_bad hL hi h hX hH
      · exact lw_layWay_ok hL hi h hX hH
    · refine gx_tableIn (tgt := 671) d_Law_law_40 (by decide) (by decide) (off := 631) (by decide) (by decide) ?_
      exact lw_clear hL hi h hX
    · refine gx_tableIn (tgt := 682) d_Law_law_40 (by decide) (by decide) (off := 642) (by decide) (by decide) ?_
      exact lw_tray hL hi h hX
    · refine gx_tableIn (tgt := 695) d_Law_law_40 (by decide) (by decide) (off := 655) (by decide) (by decide) ?_
      exact lw_back hL hi h hX
    · refine gx_tableIn (tgt := 708) d_Law_law_40 (by decide) (by decide) (off := 668) (by decide) (by decide) ?_
      exact lw_type hL hi h hX
    · refine gx_tableIn (tgt := 765) d_Law_law_40 (by decide) (by decide) (off := 725) (by decide) (by decide) ?_
      exact lw_trees hL hi h hX
    · refine gx_tableIn (tgt := 778) d_Law_law_40 (by decide) (by decide) (off := 738) (by decide) (by decide) ?_
      exact lw_search hL hi h hX
    · refine gx_tableIn (tgt := 803) d_Law_law_40 (by decide) (by decide) (off := 763) (by decide) (by decide) ?_
      exact lw_looked hL hi h hX
  · refine gx_tableOut (tgt := 816) d_Law_law_40 (Or.inr (by rw [nI_toInt (by omega)]; omega)) (by decide) ?_
    refine gx_bud b1 b2 (Nat.le_succ _) (Nat.le_add_right _ _) ?_
    exact hX w S _ _ h
theorem lw_loop {sb L0 B : Nat} {xs : Nat → Int32} (hL : L0 ≤ 3072) : ∀ (fu t i : Nat) (w : gx_W) (S : sp_St) (L5 L6 : Option Value), t < fu → i ≤ L0 + 6 → L0 < i + 6 * (t + 1) → lwI B w S → gx_X (gx_cF sb L0 xs) M_Law_law 10 (gx_nt (fun r _ => r = some (.int (nI 1)))) 23 [some (.ref sb), some (.ref B), some (.ref (B + 360)), some (.ref (B + 385)), some (.int (nI i)), L5, L6] [] w (t, 6 * t) := by
  intro fu
  induction fu with
  | zero => intro t i w S L5 L6 hfu; exact absurd hfu (Nat.not_lt_zero _)
  | succ fu ih =>
    intro t i w S L5 L6 hfu hi ht h
    refine gx_iload d_Law_law_23 rfl ?_
    refine gx_aload_n d_Law_law_25 rfl ?_
    refine gx_clen d_Law_law_26 ?_
    refine gx_bipush d_Law_law_27 (nI 6) (by decide) ?_
    refine gx_isub d_Law_law_29 ?_
    refine gx_icmp_gt (tgt := 822) d_Law_law_30 (by decide) (fun h30 => ?_) (fun h30 => ?_)
    · refine gx_iconst d_Law_law_822 (nI 1) (by decide) ?_
      refine gx_zreturn rfl gx_nz1 d_Law_law_823 ?_
      exact rfl
    · have hi6 : i + 6 ≤ L0 := by
        have h31 : ¬ L0 < i + 6 := fun g => h30 ((lw_cmp hL (by omega)).mpr g)
        omega
      obtain ⟨t, rfl⟩ : ∃ t2, t = t2 + 1 := ⟨t - 1, by omega⟩
      refine lw_turn (b1 := t) (b2 := 6 * t) hL hi6 h (fun w2 S2 L5 L6 h2 => ?_)
      refine gx_iincN (n := 6) d_Law_law_816 rfl (by decide) (Nat.le_of_ble_eq_true rfl) rfl ?_
      refine gx_goto (tgt := 23) d_Law_law_819 (by decide) ?_
      exact ih t (i + 6) w2 S2 _ _ (by omega) (by omega) (by omega) h2
theorem lw_main {sb L0 : Nat} {xs : Nat → Int32} (hL : L0 ≤ 3072) {w : gx_W} : gx_X (gx_cF sb L0 xs) M_Law_law 10 (gx_nt (fun r _ => r = some (.int (nI 1)))) 0 [some (.ref sb), none, none, none, none, none, none] [] w (898, 26086) := by
  refine gx_bud (897 + 1) (26077 + 9) (by decide) (by decide) ?_
  refine gx_new nw_Law_8 d_Law_law_0 ?_
  refine gx_dup d_Law_law_3 rfl ?_
  refine gx_callI (as := []) lk_Law_32 d_Law_law_4 (ct_PC_init (by simp [gx_al]) rfl) (by omega) rfl rfl (Nat.le_of_ble_eq_true rfl) (by decide) (fun r w1 hq => ?_)
  obtain ⟨rfl, p1, k1⟩ := hq
  refine gx_bud (537 + 1) (17361 + 33) (by decide) (by decide) ?_
  refine gx_astore_n d_Law_law_7 (Nat.le_of_ble_eq_true rfl) rfl ?_
  refine gx_new nw_Law_33 d_Law_law_8 ?_
  refine gx_dup d_Law_law_11 rfl ?_
  refine gx_callI (as := []) lk_Law_35 d_Law_law_12 (cm_init (by simp [gx_al]) rfl) (by omega) rfl rfl (Nat.le_of_ble_eq_true rfl) (by decide) (fun r w2 hq => ?_)
  obtain ⟨rfl, W, I, A, rfl, k2, hm⟩ := hq
  have e1 : w1.2 = w.2 + 360 := k1.1
  rw [e1] at k2 ⊢
  refine gx_bud (512 + 1) (3072 + 1) (by decide) (by decide) ?_
  refine gx_astore_n d_Law_law_15 (Nat.le_of_ble_eq_true rfl) rfl ?_
  refine gx_iconst d_Law_law_16 (nI 1) (by decide) ?_
  refine gx_newl (b1 := 512) (b2 := 3072) (by decide) d_Law_law_17 ?_
  have e2 : (gx_mo W (w.2 + 360) I A).2 = w.2 + 385 := k2.1
  rw [e2]
  refine gx_astore_n d_Law_law_19 (Nat.le_of_ble_eq_true rfl) rfl ?_
  refine gx_iconst d_Law_law_20 (nI 0) (by decide) ?_
  refine gx_istore d_Law_law_21 (Nat.le_of_ble_eq_true rfl) rfl ?_
  refine lw_loop (B := w.2) hL 513 512 0 _ (sp_fresh sp_M0 []) _ _ (by decide) (by omega) (by omega) ?_
  have hne : ∀ q, q < w.2 + 385 → (gx_al (gx_mo W (w.2 + 360) I A) (gx_al8 5 1 (fun _ => 0))).1 q = (gx_mo W (w.2 + 360) I A).1 q := fun q hq => by
    simp only [gx_al]; rw [if_neg (by rw [e2]; omega)]
  refine ⟨pcS.inn (w := w1) p1 (fun q x y => ?_), ⟨I, A, mo_of ?_ (fun j x y => ?_), hm⟩, ⟨fun _ => 0, ?_⟩, (sok_fresh sp_M0_ok sp_i0_ok).1, (sok_fresh sp_M0_ok sp_i0_ok).2⟩
  · rw [hne q (by omega), mo_out (by omega), k2.2 q (Or.inl (by omega))]
    simp only [gx_al]; rw [if_neg (by omega)]
  · rw [hne _ (by omega)]; exact mo_o
  · rw [hne _ (by omega)]; exact mo_at j x y
  · simp only [gx_al]; rw [if_pos e2.symm]
