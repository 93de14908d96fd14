/-! Box: rules, endings, fill -/
theorem sp_d3 : ∀ c, c < 3 → [0, 1, 2].drop c = c :: [0, 1, 2].drop (c + 1) := by decide
theorem bxOk.rc {w : gx_W} {x : Nat} {ds : List (List Nat × List Nat)} {fo : Nat → Nat} (h : bxOk w x ds fo) : gx_rc w x 5 := by
  obtain ⟨-, U, V, h, -⟩ := h
  exact Or.inl ⟨_, h.1⟩
theorem bxOk.le {w : gx_W} {x : Nat} {ds : List (List Nat × List Nat)} {fo : Nat → Nat} (h : bxOk w x ds fo) : ds.length ≤ 60 := h.1
theorem d_Box_addRule_0 : decode prog_2_method_10_code 0 = .ok (.aload_n 1, 1) := by decide +kernel
theorem d_Box_addRule_1 : decode prog_2_method_10_code 1 = .ok (.getfield 84, 3) := by decide +kernel
theorem d_Box_addRule_4 : decode prog_2_method_10_code 4 = .ok (.iload_n 2, 1) := by decide +kernel
theorem d_Box_addRule_5 : decode prog_2_method_10_code 5 = .ok (.baload, 1) := by decide +kernel
theorem d_Box_addRule_6 : decode prog_2_method_10_code 6 = .ok (.ifCond .ne 4, 3) := by decide +kernel
theorem d_Box_addRule_9 : decode prog_2_method_10_code 9 = .ok (.return_, 1) := by decide +kernel
theorem d_Box_addRule_10 : decode prog_2_method_10_code 10 = .ok (.aload_n 1, 1) := by decide +kernel
theorem d_Box_addRule_11 : decode prog_2_method_10_code 11 = .ok (.getfield 88, 3) := by decide +kernel
theorem d_Box_addRule_14 : decode prog_2_method_10_code 14 = .ok (.iload_n 2, 1) := by decide +kernel
theorem d_Box_addRule_15 : decode prog_2_method_10_code 15 = .ok (.baload, 1) := by decide +kernel
theorem d_Box_addRule_16 : decode prog_2_method_10_code 16 = .ok (.ifCond .eq 11, 3) := by decide +kernel
theorem d_Box_addRule_19 : decode prog_2_method_10_code 19 = .ok (.aload_n 0, 1) := by decide +kernel
theorem d_Box_addRule_20 : decode prog_2_method_10_code 20 = .ok (.aload_n 1, 1) := by decide +kernel
theorem d_Box_addRule_21 : decode prog_2_method_10_code 21 = .ok (.iload_n 2, 1) := by decide +kernel
theorem d_Box_addRule_22 : decode prog_2_method_10_code 22 = .ok (.iload_n 3, 1) := by decide +kernel
theorem d_Box_addRule_23 : decode prog_2_method_10_code 23 = .ok (.invokevirtual 91, 3) := by decide +kernel
theorem d_Box_addRule_26 : decode prog_2_method_10_code 26 = .ok (.return_, 1) := by decide +kernel
theorem d_Box_addRule_27 : decode prog_2_method_10_code 27 = .ok (.iconst 0, 1) := by decide +kernel
theorem d_Box_addRule_28 : decode prog_2_method_10_code 28 = .ok (.istore 4, 2) := by decide +kernel
theorem d_Box_addRule_30 : decode prog_2_method_10_code 30 = .ok (.iload 4, 2) := by decide +kernel
theorem d_Box_addRule_32 : decode prog_2_method_10_code 32 = .ok (.iconst 3, 1) := by decide +kernel
theorem d_Box_addRule_33 : decode prog_2_method_10_code 33 = .ok (.if_icmp .ge 21, 3) := by decide +kernel
theorem d_Box_addRule_36 : decode prog_2_method_10_code 36 = .ok (.aload_n 0, 1) := by decide +kernel
theorem d_Box_addRule_37 : decode prog_2_method_10_code 37 = .ok (.aload_n 1, 1) := by decide +kernel
theorem d_Box_addRule_38 : decode prog_2_method_10_code 38 = .ok (.iload_n 2, 1) := by decide +kernel
theorem d_Box_addRule_39 : decode prog_2_method_10_code 39 = .ok (.iload 4, 2) := by decide +kernel
theorem d_Box_addRule_41 : decode prog_2_method_10_code 41 = .ok (.invokestatic 64, 3) := by decide +kernel
theorem d_Box_addRule_44 : decode prog_2_method_10_code 44 = .ok (.iload_n 3, 1) := by decide +kernel
theorem d_Box_addRule_45 : decode prog_2_method_10_code 45 = .ok (.invokevirtual 94, 3) := by decide +kernel
theorem d_Box_addRule_48 : decode prog_2_method_10_code 48 = .ok (.iinc 4 1, 3) := by decide +kernel
theorem d_Box_addRule_51 : decode prog_2_method_10_code 51 = .ok (.goto (-21), 3) := by decide +kernel
theorem d_Box_addRule_54 : decode prog_2_method_10_code 54 = .ok (.return_, 1) := by decide +kernel
theorem lp_addRule {Q : gx_P} {x a r beh : Nat} {M : sp_M} {t : List Nat} {fo : Nat → Nat} (hM : sp_Mok M) (hxa : a + 7 ≤ x) (hr : r < 12) (hbe : beh < 65536) : ∀ (fu : Nat) (c : Nat) (ds : List (List Nat × List Nat)) (w : gx_W), 3 - c < fu → (mcAt w a M t) → (bxOk w x ds fo) → (c ≤ 3) → (ds.length + (3 - c) ≤ 60) → (∀ w', bxOk w' x (ds ++ ([0, 1, 2].drop c).map (fun s => ([48 + s, sp_let (r / 3), beh], [sp_let (sp_nx M r), 48 + s, 48 + sp_wr M r] ++ (if beh = 35 then [35] else [])))) fo → gx_kp w w' x (x + 303) → Q.1 none w') → gx_X (fun _ _ => True) M_Box_addRule 4 Q 30 [some (.ref x), some (.ref a), some (.int (nI r)), some (.int (nI beh)), some (.int (nI c))] [] w (0, 0) := by
  intro fu
  induction fu with
  | zero => intro c ds w hfu; exact absurd hfu (Nat.not_lt_zero _)
  | succ fu ih =>
    intro c ds w hfu hm hb hc hn hQ
    refine gx_iload d_Box_addRule_30 rfl ?_
    refine gx_iconst d_Box_addRule_32 (nI 3) (by decide) ?_
    refine gx_icmp_geN (by omega) (by omega) (tgt := 54) d_Box_addRule_33 (by decide) (fun h33 => ?_) (fun h33 => ?_)
    · refine gx_return rfl d_Box_addRule_54 ?_
      have e : c = 3 := by omega
      subst e
      exact hQ w (by simpa using hb) gx_kp.rf
    · refine gx_aload_n d_Box_addRule_36 rfl ?_
      refine gx_aload_n d_Box_addRule_37 rfl ?_
      refine gx_iload_n d_Box_addRule_38 rfl ?_
      refine gx_iload d_Box_addRule_39 rfl ?_
      refine gx_cS1 lk_Box_64 d_Box_addRule_41 (ct_digit (by omega)) (by omega) rfl rfl (Nat.le_of_ble_eq_true rfl) ?_
      refine gx_iload_n d_Box_addRule_44 rfl ?_
      refine gx_cVr lk_Box_94 d_Box_addRule_45 (ct_addLeft (ah := 48 + c) hm hM hxa hr hbe hb (by omega) (by omega)) hb.rc (by omega) rfl rfl (Nat.le_of_ble_eq_true rfl) (fun r2 w2 hq => ?_)
      obtain ⟨rfl, hb, hK2⟩ := hq
      refine gx_iincN (n := 1) d_Box_addRule_48 rfl (by decide) (Nat.le_of_ble_eq_true rfl) rfl ?_
      refine gx_goto (tgt := 30) d_Box_addRule_51 (by decide) ?_
      refine ih (c + 1) _ _ (by omega) (hm.kept hK2 (by omega)) hb (by omega) (by simp; omega) (fun w' h1 h2 => hQ w' ?_ (hK2.trans h2))
      rw [sp_d3 c (by omega), List.map_cons]
      rwa [List.append_assoc, List.singleton_append] at h1
def sp_ar (M : sp_M) (r beh : Nat) : List (List Nat × List Nat) := if sp_kn M r = 1 then sp_re M r beh (if beh = 35 then [35] else []) else []
theorem sp_ar_len (M : sp_M) (r beh : Nat) : (sp_ar M r beh).length ≤ 3 := by
  unfold sp_ar sp_re
  split
  · split <;> simp
  · simp
theorem ct_addRule {w : gx_W} {x a r beh : Nat} {M : sp_M} {t : List Nat} {ds : List (List Nat × List Nat)} {fo : Nat → Nat} (hm : mcAt w a M t) (hM : sp_Mok M) (hxa : a + 7 ≤ x) (hr : r < 12) (hbe : beh < 65536) (hb : bxOk w x ds fo) (hn : ds.length + 3 ≤ 60) : gx_Ct M_Box_addRule 4 0 0 [.ref x, .ref a, .int (nI r), .int (nI beh)] w (fun v w' => v = none ∧ bxOk w' x (ds ++ sp_ar M r beh) fo ∧ gx_kp w w' x (x + 303)) := by
  refine gx_ct (L := [some (.ref x), some (.ref a), some (.int (nI r)), some (.int (nI beh)), none]) (by decide) (Nat.le_of_ble_eq_true rfl) rfl ?_
  have hMr := hM r
  refine gx_aload_n d_Box_addRule_0 rfl ?_
  refine gx_get fl_Box_84 d_Box_addRule_1 hm.1 rfl ?_
  refine gx_iload_n d_Box_addRule_4 rfl ?_
  refine gx_zald d_Box_addRule_5 hm.2.1 (by omega) (by omega) ?_
  refine gx_if_neN (by omega) (tgt := 10) d_Box_addRule_6 (by decide) (fun h6 => ?_) (fun h6 => ?_)
  · rw [show sp_ar M r beh = sp_re M r beh (if beh = 35 then [35] else []) from if_pos (by omega)]
    unfold sp_re
    refine gx_aload_n d_Box_addRule_10 rfl ?_
    refine gx_get fl_Box_88 d_Box_addRule_11 hm.1 rfl ?_
    refine gx_iload_n d_Box_addRule_14 rfl ?_
    refine gx_zald d_Box_addRule_15 hm.2.2.1 (by omega) (by omega) ?_
    refine gx_if_eqN (by omega) (tgt := 27) d_Box_addRule_16 (by decide) (fun h16 => ?_) (fun h16 => ?_)
    · rw [if_neg (show ¬ sp_rt M r = 1 by omega)]
      refine gx_iconst d_Box_addRule_27 (nI 0) (by decide) ?_
      refine gx_istore d_Box_addRule_28 (Nat.le_of_ble_eq_true rfl) rfl ?_
      exact lp_addRule hM hxa hr hbe 4 0 ds w (by omega) hm hb (by omega) hn (fun w' h1 h2 => ⟨rfl, h1, h2⟩)
    · rw [if_pos (show sp_rt M r = 1 by omega)]
      refine gx_aload_n d_Box_addRule_19 rfl ?_
      refine gx_aload_n d_Box_addRule_20 rfl ?_
      refine gx_iload_n d_Box_addRule_21 rfl ?_
      refine gx_iload_n d_Box_addRule_22 rfl ?_
      refine gx_cVr lk_Box_91 d_Box_addRule_23 (ct_addRight hm hM hxa hr hbe hb (by omega)) hb.rc (by omega) rfl rfl (Nat.le_of_ble_eq_true rfl) (fun r2 w2 hq => ?_)
      obtain ⟨rfl, hb, hK2⟩ := hq
      refine gx_return rfl d_Box_addRule_26 ?_
      exact ⟨rfl, hb, hK2⟩
  · rw [show sp_ar M r beh = [] from if_neg (by omega), List.append_nil]
    refine gx_return rfl d_Box_addRule_9 ?_
    exact ⟨rfl, hb, gx_kp.rf⟩
theorem d_Box_addEnding_0 : decode prog_2_method_14_code 0 = .ok (.iconst 4, 1) := by decide +kernel
theorem d_Box_addEnding_1 : decode prog_2_method_14_code 1 = .ok (.invokestatic 98, 3) := by decide +kernel
theorem d_Box_addEnding_4 : decode prog_2_method_14_code 4 = .ok (.istore_n 1, 1) := by decide +kernel
theorem d_Box_addEnding_5 : decode prog_2_method_14_code 5 = .ok (.iconst 0, 1) := by decide +kernel
theorem d_Box_addEnding_6 : decode prog_2_method_14_code 6 = .ok (.istore_n 2, 1) := by decide +kernel
theorem d_Box_addEnding_7 : decode prog_2_method_14_code 7 = .ok (.iload_n 2, 1) := by decide +kernel
theorem d_Box_addEnding_8 : decode prog_2_method_14_code 8 = .ok (.iconst 3, 1) := by decide +kernel
theorem d_Box_addEnding_9 : decode prog_2_method_14_code 9 = .ok (.if_icmp .ge 39, 3) := by decide +kernel
theorem d_Box_addEnding_12 : decode prog_2_method_14_code 12 = .ok (.aload_n 0, 1) := by decide +kernel
theorem d_Box_addEnding_13 : decode prog_2_method_14_code 13 = .ok (.invokevirtual 30, 3) := by decide +kernel
theorem d_Box_addEnding_16 : decode prog_2_method_14_code 16 = .ok (.astore_n 3, 1) := by decide +kernel
theorem d_Box_addEnding_17 : decode prog_2_method_14_code 17 = .ok (.aload_n 3, 1) := by decide +kernel
theorem d_Box_addEnding_18 : decode prog_2_method_14_code 18 = .ok (.getfield 34, 3) := by decide +kernel
theorem d_Box_addEnding_21 : decode prog_2_method_14_code 21 = .ok (.iload_n 2, 1) := by decide +kernel
theorem d_Box_addEnding_22 : decode prog_2_method_14_code 22 = .ok (.invokestatic 64, 3) := by decide +kernel
theorem d_Box_addEnding_25 : decode prog_2_method_14_code 25 = .ok (.invokevirtual 38, 3) := by decide +kernel
theorem d_Box_addEnding_28 : decode prog_2_method_14_code 28 = .ok (.iload_n 1, 1) := by decide +kernel
theorem d_Box_addEnding_29 : decode prog_2_method_14_code 29 = .ok (.invokevirtual 38, 3) := by decide +kernel
theorem d_Box_addEnding_32 : decode prog_2_method_14_code 32 = .ok (.pop, 1) := by decide +kernel
theorem d_Box_addEnding_33 : decode prog_2_method_14_code 33 = .ok (.aload_n 3, 1) := by decide +kernel
theorem d_Box_addEnding_34 : decode prog_2_method_14_code 34 = .ok (.getfield 44, 3) := by decide +kernel
theorem d_Box_addEnding_37 : decode prog_2_method_14_code 37 = .ok (.iload_n 1, 1) := by decide +kernel
theorem d_Box_addEnding_38 : decode prog_2_method_14_code 38 = .ok (.invokevirtual 38, 3) := by decide +kernel
theorem d_Box_addEnding_41 : decode prog_2_method_14_code 41 = .ok (.pop, 1) := by decide +kernel
theorem d_Box_addEnding_42 : decode prog_2_method_14_code 42 = .ok (.iinc 2 1, 3) := by decide +kernel
theorem d_Box_addEnding_45 : decode prog_2_method_14_code 45 = .ok (.goto (-38), 3) := by decide +kernel
theorem d_Box_addEnding_48 : decode prog_2_method_14_code 48 = .ok (.iconst 0, 1) := by decide +kernel
theorem d_Box_addEnding_49 : decode prog_2_method_14_code 49 = .ok (.istore_n 2, 1) := by decide +kernel
theorem d_Box_addEnding_50 : decode prog_2_method_14_code 50 = .ok (.iload_n 2, 1) := by decide +kernel
theorem d_Box_addEnding_51 : decode prog_2_method_14_code 51 = .ok (.iconst 3, 1) := by decide +kernel
theorem d_Box_addEnding_52 : decode prog_2_method_14_code 52 = .ok (.if_icmp .ge 39, 3) := by decide +kernel
theorem d_Box_addEnding_55 : decode prog_2_method_14_code 55 = .ok (.aload_n 0, 1) := by decide +kernel
theorem d_Box_addEnding_56 : decode prog_2_method_14_code 56 = .ok (.invokevirtual 30, 3) := by decide +kernel
theorem d_Box_addEnding_59 : decode prog_2_method_14_code 59 = .ok (.astore_n 3, 1) := by decide +kernel
theorem d_Box_addEnding_60 : decode prog_2_method_14_code 60 = .ok (.aload_n 3, 1) := by decide +kernel
theorem d_Box_addEnding_61 : decode prog_2_method_14_code 61 = .ok (.getfield 34, 3) := by decide +kernel
theorem d_Box_addEnding_64 : decode prog_2_method_14_code 64 = .ok (.iload_n 1, 1) := by decide +kernel
theorem d_Box_addEnding_65 : decode prog_2_method_14_code 65 = .ok (.invokevirtual 38, 3) := by decide +kernel
theorem d_Box_addEnding_68 : decode prog_2_method_14_code 68 = .ok (.iload_n 2, 1) := by decide +kernel
theorem d_Box_addEnding_69 : decode prog_2_method_14_code 69 = .ok (.invokestatic 64, 3) := by decide +kernel
theorem d_Box_addEnding_72 : decode prog_2_method_14_code 72 = .ok (.invokevirtual 38, 3) := by decide +kernel
theorem d_Box_addEnding_75 : decode prog_2_method_14_code 75 = .ok (.pop, 1) := by decide +kernel
theorem d_Box_addEnding_76 : decode prog_2_method_14_code 76 = .ok (.aload_n 3, 1) := by decide +kernel
theorem d_Box_addEnding_77 : decode prog_2_method_14_code 77 = .ok (.getfield 44, 3) := by decide +kernel
theorem d_Box_addEnding_80 : decode prog_2_method_14_code 80 = .ok (.iload_n 1, 1) := by decide +kernel
theorem d_Box_addEnding_81 : decode prog_2_method_14_code 81 = .ok (.invokevirtual 38, 3) := by decide +kernel
theorem d_Box_addEnding_84 : decode prog_2_method_14_code 84 = .ok (.pop, 1) := by decide +kernel
theorem d_Box_addEnding_85 : decode prog_2_method_14_code 85 = .ok (.iinc 2 1, 3) := by decide +kernel
theorem d_Box_addEnding_88 : decode prog_2_method_14_code 88 = .ok (.goto (-38), 3) := by decide +kernel
theorem d_Box_addEnding_91 : decode prog_2_method_14_code 91 = .ok (.aload_n 0, 1) := by decide +kernel
theorem d_Box_addEnding_92 : decode prog_2_method_14_code 92 = .ok (.invokevirtual 30, 3) := by decide +kernel
theorem d_Box_addEnding_95 : decode prog_2_method_14_code 95 = .ok (.astore_n 2, 1) := by decide +kernel
theorem d_Box_addEnding_96 : decode prog_2_method_14_code 96 = .ok (.aload_n 2, 1) := by decide +kernel
theorem d_Box_addEnding_97 : decode prog_2_method_14_code 97 = .ok (.getfield 34, 3) := by decide +kernel
theorem d_Box_addEnding_100 : decode prog_2_method_14_code 100 = .ok (.iload_n 1, 1) := by decide +kernel
theorem d_Box_addEnding_101 : decode prog_2_method_14_code 101 = .ok (.invokevirtual 38, 3) := by decide +kernel
theorem d_Box_addEnding_104 : decode prog_2_method_14_code 104 = .ok (.bipush 35, 2) := by decide +kernel
theorem d_Box_addEnding_106 : decode prog_2_method_14_code 106 = .ok (.invokevirtual 38, 3) := by decide +kernel
theorem d_Box_addEnding_109 : decode prog_2_method_14_code 109 = .ok (.bipush 35, 2) := by decide +kernel
theorem d_Box_addEnding_111 : decode prog_2_method_14_code 111 = .ok (.invokevirtual 38, 3) := by decide +kernel
theorem d_Box_addEnding_114 : decode prog_2_method_14_code 114 = .ok (.pop, 1) := by decide +kernel
theorem d_Box_addEnding_115 : decode prog_2_method_14_code 115 = .ok (.aload_n 2, 1) := by decide +kernel
theorem d_Box_addEnding_116 : decode prog_2_method_14_code 116 = .ok (.getfield 44, 3) := by decide +kernel
theorem d_Box_addEnding_119 : decode prog_2_method_14_code 119 = .ok (.bipush 35, 2) := by decide +kernel
theorem d_Box_addEnding_121 : decode prog_2_method_14_code 121 = .ok (.invokevirtual 38, 3) := by decide +kernel
theorem d_Box_addEnding_124 : decode prog_2_method_14_code 124 = .ok (.pop, 1) := by decide +kernel
theorem d_Box_addEnding_125 : decode prog_2_method_14_code 125 = .ok (.return_, 1) := by decide +kernel
theorem lp_end1 {Q : gx_P} {x : Nat} {fo : Nat → Nat} : ∀ (fu : Nat) (s : Nat) (ds : List (List Nat × List Nat)) (w : gx_W) (L3 : Option Value), 3 - s < fu → (bxOk w x ds fo) → (s ≤ 3) → (ds.length + (3 - s) ≤ 60) → (∀ w' L', bxOk w' x (ds ++ ([0, 1, 2].drop s).map (fun s => ([48 + s, 104], [104]))) fo → gx_kp w w' x (x + 303) → gx_X (fun _ _ => True) M_Box_addEnding 3 Q 48 [some (.ref x), some (.int (nI 104)), some (.int (nI 3)), L'] [] w' (0, 0)) → gx_X (fun _ _ => True) M_Box_addEnding 3 Q 7 [some (.ref x), some (.int (nI 104)), some (.int (nI s)), L3] [] w (0, 0) := by
  intro fu
  induction fu with
  | zero => intro s ds w L3 hfu; exact absurd hfu (Nat.not_lt_zero _)
  | succ fu ih =>
    intro s ds w L3 hfu hb hs hn hX
    refine gx_iload_n d_Box_addEnding_7 rfl ?_
    refine gx_iconst d_Box_addEnding_8 (nI 3) (by decide) ?_
    refine gx_icmp_geN (by omega) (by omega) (tgt := 48) d_Box_addEnding_9 (by decide) (fun h9 => ?_) (fun h9 => ?_)
    · have e : s = 3 := by omega
      subst e
      exact hX w _ (by simpa using hb) gx_kp.rf
    · refine gx_aload_n d_Box_addEnding_12 rfl ?_
      obtain ⟨hd60, U, V, h, hd⟩ := hb
      refine gx_cVr lk_Box_30 d_Box_addEnding_13 (ct_open h (by omega)) (Or.inl ⟨_, h.1⟩) (by omega) rfl rfl (Nat.le_of_ble_eq_true rfl) (fun r w1 hq => ?_)
      obtain ⟨rfl, hB, hK⟩ := hq
      refine gx_astore_n d_Box_addEnding_16 (Nat.le_of_ble_eq_true rfl) rfl ?_
      refine gx_aload_n d_Box_addEnding_17 rfl ?_
      refine gx_get fl_Box_34 d_Box_addEnding_18 hB.ob rfl ?_
      refine gx_iload_n d_Box_addEnding_21 rfl ?_
      refine gx_cS1 lk_Box_64 d_Box_addEnding_22 (ct_digit (by omega)) (by omega) rfl rfl (Nat.le_of_ble_eq_true rfl) ?_
      refine gx_cV1 lk_Box_38 d_Box_addEnding_25 (ct_Word_add hB.uw (by omega) (by simp)) (Or.inr ⟨_, _, hB.uw⟩) (by omega) rfl rfl (Nat.le_of_ble_eq_true rfl) ?_
      replace hB := hB.up ([] ++ [48 + s])
      replace hK := hK.trans (gx_kp.st (a := x + 4 + 5 * ds.length) (x := gx_bx 0 3 ([] ++ [48 + s])) (by omega) (by omega))
      refine gx_iload_n d_Box_addEnding_28 rfl ?_
      refine gx_cV1 lk_Box_38 d_Box_addEnding_29 (ct_Word_add hB.uw (by omega) (by simp)) (Or.inr ⟨_, _, hB.uw⟩) (by omega) rfl rfl (Nat.le_of_ble_eq_true rfl) ?_
      replace hB := hB.up (([] ++ [48 + s]) ++ [104])
      replace hK := hK.trans (gx_kp.st (a := x + 4 + 5 * ds.length) (x := gx_bx 0 3 (([] ++ [48 + s]) ++ [104])) (by omega) (by omega))
      refine gx_pop d_Box_addEnding_32 rfl ?_
      refine gx_aload_n d_Box_addEnding_33 rfl ?_
      refine gx_get fl_Box_44 d_Box_addEnding_34 hB.ob rfl ?_
      refine gx_iload_n d_Box_addEnding_37 rfl ?_
      refine gx_cV1 lk_Box_38 d_Box_addEnding_38 (ct_Word_add hB.lw (by omega) (by simp)) (Or.inr ⟨_, _, hB.lw⟩) (by omega) rfl rfl (Nat.le_of_ble_eq_true rfl) ?_
      replace hB := hB.lo ([] ++ [104])
      replace hK := hK.trans (gx_kp.st (a := x + 6 + 5 * ds.length) (x := gx_bx 0 7 ([] ++ [104])) (by omega) (by omega))
      refine gx_pop d_Box_addEnding_41 rfl ?_
      refine gx_iincN (n := 1) d_Box_addEnding_42 rfl (by decide) (Nat.le_of_ble_eq_true rfl) rfl ?_
      refine gx_goto (tgt := 7) d_Box_addEnding_45 (by decide) ?_
      refine ih (s + 1) (ds ++ [([48 + s, 104], [104])]) _ _ (by omega) (hB.ok hd) (by omega) (by simp; omega) (fun w' L' h1 h2 => hX w' L' ?_ (hK.trans h2))
      rw [sp_d3 s (by omega), List.map_cons]
      rwa [List.append_assoc, List.singleton_append] at h1
theorem lp_end2 {Q : gx_P} {x : Nat} {fo : Nat → Nat} : ∀ (fu : Nat) (s : Nat) (ds : List (List Nat × List Nat)) (w : gx_W) (L3 : Option Value), 3 - s < fu → (bxOk w x ds fo) → (s ≤ 3) → (ds.length + (3 - s) ≤ 60) → (∀ w' L', bxOk w' x (ds ++ ([0, 1, 2].drop s).map (fun s => ([104, 48 + s], [104]))) fo → gx_kp w w' x (x + 303) → gx_X (fun _ _ => True) M_Box_addEnding 3 Q 91 [some (.ref x), some (.int (nI 104)), some (.int (nI 3)), L'] [] w' (0, 0)) → gx_X (fun _ _ => True) M_Box_addEnding 3 Q 50 [some (.ref x), some (.int (nI 104)), some (.int (nI s)), L3] [] w (0, 0) := by
  intro fu
  induction fu with
  | zero => intro s ds w L3 hfu; exact absurd hfu (Nat.not_lt_zero _)
  | succ fu ih =>
    intro s ds w L3 hfu hb hs hn hX
    refine gx_iload_n d_Box_addEnding_50 rfl ?_
    refine gx_iconst d_Box_addEnding_51 (nI 3) (by decide) ?_
    refine gx_icmp_geN (by omega) (by omega) (tgt := 91) d_Box_addEnding_52 (by decide) (fun h52 => ?_) (fun h52 => ?_)
    · have e : s = 3 := by omega
      subst e
      exact hX w _ (by simpa using hb) gx_kp.rf
    · refine gx_aload_n d_Box_addEnding_55 rfl ?_
      obtain ⟨hd60, U, V, h, hd⟩ := hb
      refine gx_cVr lk_Box_30 d_Box_addEnding_56 (ct_open h (by omega)) (Or.inl ⟨_, h.1⟩) (by omega) rfl rfl (Nat.le_of_ble_eq_true rfl) (fun r w1 hq => ?_)
      obtain ⟨rfl, hB, hK⟩ := hq
      refine gx_astore_n d_Box_addEnding_59 (Nat.le_of_ble_eq_true rfl) rfl ?_
      refine gx_aload_n d_Box_addEnding_60 rfl ?_
      refine gx_get fl_Box_34 d_Box_addEnding_61 hB.ob rfl ?_
      refine gx_iload_n d_Box_addEnding_64 rfl ?_
      refine gx_cV1 lk_Box_38 d_Box_addEnding_65 (ct_Word_add hB.uw (by omega) (by simp)) (Or.inr ⟨_, _, hB.uw⟩) (by omega) rfl rfl (Nat.le_of_ble_eq_true rfl) ?_
      replace hB := hB.up ([] ++ [104])
      replace hK := hK.trans (gx_kp.st (a := x + 4 + 5 * ds.length) (x := gx_bx 0 3 ([] ++ [104])) (by omega) (by omega))
      refine gx_iload_n d_Box_addEnding_68 rfl ?_
      refine gx_cS1 lk_Box_64 d_Box_addEnding_69 (ct_digit (by omega)) (by omega) rfl rfl (Nat.le_of_ble_eq_true rfl) ?_
      refine gx_cV1 lk_Box_38 d_Box_addEnding_72 (ct_Word_add hB.uw (by omega) (by simp)) (Or.inr ⟨_, _, hB.uw⟩) (by omega) rfl rfl (Nat.le_of_ble_eq_true rfl) ?_
      replace hB := hB.up (([] ++ [104]) ++ [48 + s])
      replace hK := hK.trans (gx_kp.st (a := x + 4 + 5 * ds.length) (x := gx_bx 0 3 (([] ++ [104]) ++ [48 + s])) (by omega) (by omega))
      refine gx_pop d_Box_addEnding_75 rfl ?_
      refine gx_aload_n d_Box_addEnding_76 rfl ?_
      refine gx_get fl_Box_44 d_Box_addEnding_77 hB.ob rfl ?_
      refine gx_iload_n d_Box_addEnding_80 rfl ?_
      refine gx_cV1 lk_Box_38 d_Box_addEnding_81 (ct_Word_add hB.lw (by omega) (by simp)) (Or.inr ⟨_, _, hB.lw⟩) (by omega) rfl rfl (Nat.le_of_ble_eq_true rfl) ?_
      replace hB := hB.lo ([] ++ [104])
      replace hK := hK.trans (gx_kp.st (a := x + 6 + 5 * ds.length) (x := gx_bx 0 7 ([] ++ [104])) (by omega) (by omega))
      refine gx_pop d_Box_addEnding_84 rfl ?_
      refine gx_iincN (n := 1) d_Box_addEnding_85 rfl (by decide) (Nat.le_of_ble_eq_true rfl) rfl ?_
      refine gx_goto (tgt := 50) d_Box_addEnding_88 (by decide) ?_
      refine ih (s + 1) (ds ++ [([104, 48 + s], [104])]) _ _ (by omega) (hB.ok hd) (by omega) (by simp; omega) (fun w' L' h1 h2 => hX w' L' ?_ (hK.trans h2))
      rw [sp_d3 s (by omega), List.map_cons]
      rwa [List.append_assoc, List.singleton_append] at h1
theorem end3 {Q : gx_P} {w : gx_W} {x : Nat} {ds : List (List Nat × List Nat)} {fo : Nat → Nat} {L2 L3 : Option Value} (hb : bxOk w x ds fo) (hn : ds.length < 60) (hQ : ∀ w', bxOk w' x (ds ++ [([104, 35, 35], [35])]) fo → gx_kp w w' x (x + 303) → Q.1 none w') : gx_X (fun _ _ => True) M_Box_addEnding 3 Q 91 [some (.ref x), some (.int (nI 104)), L2, L3] [] w (0, 0) := by
  refine gx_aload_n d_Box_addEnding_91 rfl ?_
  obtain ⟨hd60, U, V, h, hd⟩ := hb
  refine gx_cVr lk_Box_30 d_Box_addEnding_92 (ct_open h (by omega)) (Or.inl ⟨_, h.1⟩) (by omega) rfl rfl (Nat.le_of_ble_eq_true rfl) (fun r w1 hq => ?_)
  obtain ⟨rfl, hB, hK⟩ := hq
  refine gx_astore_n d_Box_addEnding_95 (Nat.le_of_ble_eq_true rfl) rfl ?_
  refine gx_aload_n d_Box_addEnding_96 rfl ?_
  refine gx_get fl_Box_34 d_Box_addEnding_97 hB.ob rfl ?_
  refine gx_iload_n d_Box_addEnding_100 rfl ?_
  refine gx_cV1 lk_Box_38 d_Box_addEnding_101 (ct_Word_add hB.uw (by omega) (by simp)) (Or.inr ⟨_, _, hB.uw⟩) (by omega) rfl rfl (Nat.le_of_ble_eq_true rfl) ?_
  replace hB := hB.up ([] ++ [104])
  replace hK := hK.trans (gx_kp.st (a := x + 4 + 5 * ds.length) (x := gx_bx 0 3 ([] ++ [104])) (by omega) (by omega))
  refine gx_bipush d_Box_addEnding_104 (nI 35) (by decide) ?_
  refine gx_cV1 lk_Box_38 d_Box_addEnding_106 (ct_Word_add hB.uw (by omega) (by simp)) (Or.inr ⟨_, _, hB.uw⟩) (by omega) rfl rfl (Nat.le_of_ble_eq_true rfl) ?_
  replace hB := hB.up (([] ++ [104]) ++ [35])
  replace hK := hK.trans (gx_kp.st (a := x + 4 + 5 * ds.length) (x := gx_bx 0 3 (([] ++ [104]) ++ [35])) (by omega) (by omega))
  refine gx_bipush d_Box_addEnding_109 (nI 35) (by decide) ?_
  refine gx_cV1 lk_Box_38 d_Box_addEnding_111 (ct_Word_add hB.uw (by omega) (by simp)) (Or.inr ⟨_, _, hB.uw⟩) (by omega) rfl rfl (Nat.le_of_ble_eq_true rfl) ?_
  replace hB := hB.up ((([] ++ [104]) ++ [35]) ++ [35])
  replace hK := hK.trans (gx_kp.st (a := x + 4 + 5 * ds.length) (x := gx_bx 0 3 ((([] ++ [104]) ++ [35]) ++ [35])) (by omega) (by omega))
  refine gx_pop d_Box_addEnding_114 rfl ?_
  refine gx_aload_n d_Box_addEnding_115 rfl ?_
  refine gx_get fl_Box_44 d_Box_addEnding_116 hB.ob rfl ?_
  refine gx_bipush d_Box_addEnding_119 (nI 35) (by decide) ?_
  refine gx_cV1 lk_Box_38 d_Box_addEnding_121 (ct_Word_add hB.lw (by omega) (by simp)) (Or.inr ⟨_, _, hB.lw⟩) (by omega) rfl rfl (Nat.le_of_ble_eq_true rfl) ?_
  replace hB := hB.lo ([] ++ [35])
  replace hK := hK.trans (gx_kp.st (a := x + 6 + 5 * ds.length) (x := gx_bx 0 7 ([] ++ [35])) (by omega) (by omega))
  refine gx_pop d_Box_addEnding_124 rfl ?_
  refine gx_return rfl d_Box_addEnding_125 ?_
  exact hQ _ (hB.ok hd) hK
theorem ct_addEnding {w : gx_W} {x : Nat} {ds : List (List Nat × List Nat)} {fo : Nat → Nat} (hb : bxOk w x ds fo) (hn : ds.length + 7 ≤ 60) : gx_Ct M_Box_addEnding 3 0 0 [.ref x] w (fun v w' => v = none ∧ bxOk w' x (ds ++ sp_en) fo ∧ gx_kp w w' x (x + 303)) := by
  refine gx_ct (L := [some (.ref x), none, none, none]) (by decide) (Nat.le_of_ble_eq_true rfl) rfl ?_
  refine gx_iconst d_Box_addEnding_0 (nI 4) (by decide) ?_
  refine gx_cS1 lk_Box_98 d_Box_addEnding_1 (ct_letter (q := 4) (by omega)) (by omega) rfl rfl (Nat.le_of_ble_eq_true rfl) ?_
  refine gx_top (show _ = nI 104 from rfl) ?_
  refine gx_istore_n d_Box_addEnding_4 (Nat.le_of_ble_eq_true rfl) rfl ?_
  refine gx_iconst d_Box_addEnding_5 (nI 0) (by decide) ?_
  refine gx_istore_n d_Box_addEnding_6 (Nat.le_of_ble_eq_true rfl) rfl ?_
  refine lp_end1 4 0 ds w none (by omega) hb (by omega) (by omega) (fun w1 L1 hb1 k1 => ?_)
  refine gx_iconst d_Box_addEnding_48 (nI 0) (by decide) ?_
  refine gx_istore_n d_Box_addEnding_49 (Nat.le_of_ble_eq_true rfl) rfl ?_
  refine lp_end2 4 0 _ w1 L1 (by omega) hb1 (by omega) (by simp; omega) (fun w2 L2 hb2 k2 => ?_)
  refine end3 hb2 (by simp; omega) (fun w3 hb3 k3 => ⟨rfl, ?_, (k1.trans k2).trans k3⟩)
  simpa [sp_en] using hb3
theorem d_Box_fill_0 : decode prog_2_method_5_code 0 = .ok (.aload_n 0, 1) := by decide +kernel
theorem d_Box_fill_1 : decode prog_2_method_5_code 1 = .ok (.iconst 0, 1) := by decide +kernel
theorem d_Box_fill_2 : decode prog_2_method_5_code 2 = .ok (.putfield 22, 3) := by decide +kernel
theorem d_Box_fill_5 : decode prog_2_method_5_code 5 = .ok (.aload_n 0, 1) := by decide +kernel
theorem d_Box_fill_6 : decode prog_2_method_5_code 6 = .ok (.invokevirtual 30, 3) := by decide +kernel
theorem d_Box_fill_9 : decode prog_2_method_5_code 9 = .ok (.astore_n 2, 1) := by decide +kernel
theorem d_Box_fill_10 : decode prog_2_method_5_code 10 = .ok (.aload_n 2, 1) := by decide +kernel
theorem d_Box_fill_11 : decode prog_2_method_5_code 11 = .ok (.getfield 34, 3) := by decide +kernel
theorem d_Box_fill_14 : decode prog_2_method_5_code 14 = .ok (.bipush 35, 2) := by decide +kernel
theorem d_Box_fill_16 : decode prog_2_method_5_code 16 = .ok (.invokevirtual 38, 3) := by decide +kernel
theorem d_Box_fill_19 : decode prog_2_method_5_code 19 = .ok (.pop, 1) := by decide +kernel
theorem d_Box_fill_20 : decode prog_2_method_5_code 20 = .ok (.aload_n 2, 1) := by decide +kernel
theorem d_Box_fill_21 : decode prog_2_method_5_code 21 = .ok (.getfield 44, 3) := by decide +kernel
theorem d_Box_fill_24 : decode prog_2_method_5_code 24 = .ok (.bipush 35, 2) := by decide +kernel
theorem d_Box_fill_26 : decode prog_2_method_5_code 26 = .ok (.invokevirtual 38, 3) := by decide +kernel
theorem d_Box_fill_29 : decode prog_2_method_5_code 29 = .ok (.aload_n 1, 1) := by decide +kernel
theorem d_Box_fill_30 : decode prog_2_method_5_code 30 = .ok (.getfield 47, 3) := by decide +kernel
theorem d_Box_fill_33 : decode prog_2_method_5_code 33 = .ok (.iconst 0, 1) := by decide +kernel
theorem d_Box_fill_34 : decode prog_2_method_5_code 34 = .ok (.aload_n 1, 1) := by decide +kernel
theorem d_Box_fill_35 : decode prog_2_method_5_code 35 = .ok (.getfield 47, 3) := by decide +kernel
theorem d_Box_fill_38 : decode prog_2_method_5_code 38 = .ok (.invokevirtual 52, 3) := by decide +kernel
theorem d_Box_fill_41 : decode prog_2_method_5_code 41 = .ok (.invokevirtual 56, 3) := by decide +kernel
theorem d_Box_fill_44 : decode prog_2_method_5_code 44 = .ok (.aload_n 2, 1) := by decide +kernel
theorem d_Box_fill_45 : decode prog_2_method_5_code 45 = .ok (.getfield 44, 3) := by decide +kernel
theorem d_Box_fill_48 : decode prog_2_method_5_code 48 = .ok (.bipush 35, 2) := by decide +kernel
theorem d_Box_fill_50 : decode prog_2_method_5_code 50 = .ok (.invokevirtual 38, 3) := by decide +kernel
theorem d_Box_fill_53 : decode prog_2_method_5_code 53 = .ok (.pop, 1) := by decide +kernel
theorem d_Box_fill_54 : decode prog_2_method_5_code 54 = .ok (.aload_n 0, 1) := by decide +kernel
theorem d_Box_fill_55 : decode prog_2_method_5_code 55 = .ok (.bipush 35, 2) := by decide +kernel
theorem d_Box_fill_57 : decode prog_2_method_5_code 57 = .ok (.invokevirtual 60, 3) := by decide +kernel
theorem d_Box_fill_60 : decode prog_2_method_5_code 60 = .ok (.iconst 0, 1) := by decide +kernel
theorem d_Box_fill_61 : decode prog_2_method_5_code 61 = .ok (.istore_n 3, 1) := by decide +kernel
theorem d_Box_fill_62 : decode prog_2_method_5_code 62 = .ok (.iload_n 3, 1) := by decide +kernel
theorem d_Box_fill_63 : decode prog_2_method_5_code 63 = .ok (.iconst 3, 1) := by decide +kernel
theorem d_Box_fill_64 : decode prog_2_method_5_code 64 = .ok (.if_icmp .ge 17, 3) := by decide +kernel
theorem d_Box_fill_67 : decode prog_2_method_5_code 67 = .ok (.aload_n 0, 1) := by decide +kernel
theorem d_Box_fill_68 : decode prog_2_method_5_code 68 = .ok (.iload_n 3, 1) := by decide +kernel
theorem d_Box_fill_69 : decode prog_2_method_5_code 69 = .ok (.invokestatic 64, 3) := by decide +kernel
theorem d_Box_fill_72 : decode prog_2_method_5_code 72 = .ok (.invokevirtual 60, 3) := by decide +kernel
theorem d_Box_fill_75 : decode prog_2_method_5_code 75 = .ok (.iinc 3 1, 3) := by decide +kernel
theorem d_Box_fill_78 : decode prog_2_method_5_code 78 = .ok (.goto (-16), 3) := by decide +kernel
theorem d_Box_fill_81 : decode prog_2_method_5_code 81 = .ok (.iconst 0, 1) := by decide +kernel
theorem d_Box_fill_82 : decode prog_2_method_5_code 82 = .ok (.istore_n 3, 1) := by decide +kernel
theorem d_Box_fill_83 : decode prog_2_method_5_code 83 = .ok (.iload_n 3, 1) := by decide +kernel
theorem d_Box_fill_84 : decode prog_2_method_5_code 84 = .ok (.bipush 12, 2) := by decide +kernel
theorem d_Box_fill_86 : decode prog_2_method_5_code 86 = .ok (.if_icmp .ge 45, 3) := by decide +kernel
theorem d_Box_fill_89 : decode prog_2_method_5_code 89 = .ok (.aload_n 0, 1) := by decide +kernel
theorem d_Box_fill_90 : decode prog_2_method_5_code 90 = .ok (.getfield 17, 3) := by decide +kernel
theorem d_Box_fill_93 : decode prog_2_method_5_code 93 = .ok (.iload_n 3, 1) := by decide +kernel
theorem d_Box_fill_94 : decode prog_2_method_5_code 94 = .ok (.aload_n 0, 1) := by decide +kernel
theorem d_Box_fill_95 : decode prog_2_method_5_code 95 = .ok (.getfield 22, 3) := by decide +kernel
theorem d_Box_fill_98 : decode prog_2_method_5_code 98 = .ok (.iastore, 1) := by decide +kernel
theorem d_Box_fill_99 : decode prog_2_method_5_code 99 = .ok (.aload_n 0, 1) := by decide +kernel
theorem d_Box_fill_100 : decode prog_2_method_5_code 100 = .ok (.aload_n 1, 1) := by decide +kernel
theorem d_Box_fill_101 : decode prog_2_method_5_code 101 = .ok (.iload_n 3, 1) := by decide +kernel
theorem d_Box_fill_102 : decode prog_2_method_5_code 102 = .ok (.iload_n 3, 1) := by decide +kernel
theorem d_Box_fill_103 : decode prog_2_method_5_code 103 = .ok (.iconst 3, 1) := by decide +kernel
theorem d_Box_fill_104 : decode prog_2_method_5_code 104 = .ok (.irem, 1) := by decide +kernel
theorem d_Box_fill_105 : decode prog_2_method_5_code 105 = .ok (.invokestatic 64, 3) := by decide +kernel
theorem d_Box_fill_108 : decode prog_2_method_5_code 108 = .ok (.invokevirtual 68, 3) := by decide +kernel
theorem d_Box_fill_111 : decode prog_2_method_5_code 111 = .ok (.iload_n 3, 1) := by decide +kernel
theorem d_Box_fill_112 : decode prog_2_method_5_code 112 = .ok (.iconst 3, 1) := by decide +kernel
theorem d_Box_fill_113 : decode prog_2_method_5_code 113 = .ok (.irem, 1) := by decide +kernel
theorem d_Box_fill_114 : decode prog_2_method_5_code 114 = .ok (.ifCond .ne 11, 3) := by decide +kernel
theorem d_Box_fill_117 : decode prog_2_method_5_code 117 = .ok (.aload_n 0, 1) := by decide +kernel
theorem d_Box_fill_118 : decode prog_2_method_5_code 118 = .ok (.aload_n 1, 1) := by decide +kernel
theorem d_Box_fill_119 : decode prog_2_method_5_code 119 = .ok (.iload_n 3, 1) := by decide +kernel
theorem d_Box_fill_120 : decode prog_2_method_5_code 120 = .ok (.bipush 35, 2) := by decide +kernel
theorem d_Box_fill_122 : decode prog_2_method_5_code 122 = .ok (.invokevirtual 68, 3) := by decide +kernel
theorem d_Box_fill_125 : decode prog_2_method_5_code 125 = .ok (.iinc 3 1, 3) := by decide +kernel
theorem d_Box_fill_128 : decode prog_2_method_5_code 128 = .ok (.goto (-45), 3) := by decide +kernel
theorem d_Box_fill_131 : decode prog_2_method_5_code 131 = .ok (.aload_n 0, 1) := by decide +kernel
theorem d_Box_fill_132 : decode prog_2_method_5_code 132 = .ok (.invokevirtual 72, 3) := by decide +kernel
theorem d_Box_fill_135 : decode prog_2_method_5_code 135 = .ok (.return_, 1) := by decide +kernel
theorem lp_fill1 {Q : gx_P} {x a : Nat} {fo : Nat → Nat} {z : Nat} : ∀ (fu : Nat) (s : Nat) (ds : List (List Nat × List Nat)) (w : gx_W), 3 - s < fu → (bxOk w x ds fo) → (s ≤ 3) → (ds.length + (3 - s) ≤ 60) → (∀ w', bxOk w' x (ds ++ ([0, 1, 2].drop s).map (fun s => ([48 + s], [48 + s]))) fo → gx_kp w w' x (x + 303) → gx_X (fun _ _ => True) M_Box_fill 5 Q 81 [some (.ref x), some (.ref a), some (.ref z), some (.int (nI 3))] [] w' (0, 0)) → gx_X (fun _ _ => True) M_Box_fill 5 Q 62 [some (.ref x), some (.ref a), some (.ref z), some (.int (nI s))] [] w (0, 0) := by
  intro fu
  induction fu with
  | zero => intro s ds w hfu; exact absurd hfu (Nat.not_lt_zero _)
  | succ fu ih =>
    intro s ds w hfu hb hs hn hX
    refine gx_iload_n d_Box_fill_62 rfl ?_
    refine gx_iconst d_Box_fill_63 (nI 3) (by decide) ?_
    refine gx_icmp_geN (by omega) (by omega) (tgt := 81) d_Box_fill_64 (by decide) (fun h64 => ?_) (fun h64 => ?_)
    · have e : s = 3 := by omega
      subst e
      exact hX w (by simpa using hb) gx_kp.rf
    · refine gx_aload_n d_Box_fill_67 rfl ?_
      refine gx_iload_n d_Box_fill_68 rfl ?_
      refine gx_cS1 lk_Box_64 d_Box_fill_69 (ct_digit (by omega)) (by omega) rfl rfl (Nat.le_of_ble_eq_true rfl) ?_
      refine gx_cVr lk_Box_60 d_Box_fill_72 (ct_addCopy (c := 48 + s) hb (by omega) (by omega)) hb.rc (by omega) rfl rfl (Nat.le_of_ble_eq_true rfl) (fun r2 w2 hq => ?_)
      obtain ⟨rfl, hb, hK2⟩ := hq
      refine gx_iincN (n := 1) d_Box_fill_75 rfl (by decide) (Nat.le_of_ble_eq_true rfl) rfl ?_
      refine gx_goto (tgt := 62) d_Box_fill_78 (by decide) ?_
      refine ih (s + 1) _ _ (by omega) hb (by omega) (by simp; omega) (fun w' h1 h2 => hX w' ?_ (hK2.trans h2))
      rw [sp_d3 s (by omega), List.map_cons]
      rwa [List.append_assoc, List.singleton_append] at h1
theorem sp_rd_ar (M : sp_M) (r : Nat) : sp_rd M r = sp_ar M r (48 + r % 3) ++ (if r % 3 = 0 then sp_ar M r 35 else []) := by
  unfold sp_rd sp_ar
  have h1 : ¬ 48 + r % 3 = 35 := by omega
  by_cases e : sp_kn M r = 1
  · rw [if_pos e, if_pos e, if_pos e, if_neg h1, if_pos rfl]
  · rw [if_neg e, if_neg e, if_neg e]; simp
theorem sp_rs_succ (M : sp_M) (r : Nat) : sp_rs M (r + 1) = sp_rs M r ++ sp_rd M r := by
  unfold sp_rs
  rw [List.range_succ, List.flatMap_append]
  simp
theorem sp_rd_len (M : sp_M) (r : Nat) : (sp_rd M r).length ≤ 3 + (if r % 3 = 0 then 3 else 0) := by
  rw [sp_rd_ar, List.length_append]
  have h1 := sp_ar_len M r (48 + r % 3)
  have h2 := sp_ar_len M r 35
  by_cases e : r % 3 = 0
  · rw [if_pos e, if_pos e]; omega
  · rw [if_neg e, if_neg e]; simp; omega
theorem sp_rs_len (M : sp_M) : ∀ r, (sp_rs M r).length ≤ 3 * r + 3 * ((r + 2) / 3)
  | 0 => by simp [sp_rs]
  | r + 1 => by
    have h1 := sp_rs_len M r
    have h2 := sp_rd_len M r
    rw [sp_rs_succ, List.length_append]
    by_cases e : r % 3 = 0
    · rw [if_pos e] at h2; omega
    · rw [if_neg e] at h2; omega
theorem bxOk.fst {w : gx_W} {x k v : Nat} {ds : List (List Nat × List Nat)} {fo : Nat → Nat} (h : bxOk w x ds fo) : bxOk (gx_st w (x + 2) (gx_ai 0 12 (fun r => nI (gx_u fo k v r)))) x ds (gx_u fo k v) := by
  obtain ⟨h0, U, V, h1, h2⟩ := h
  exact ⟨h0, U, V, h1.fst, h2⟩
theorem bxOk.at {w : gx_W} {x : Nat} {ds : List (List Nat × List Nat)} {fo : Nat → Nat} (h : bxOk w x ds fo) : w.1 x = some (gx_ob 5 [.ref (x + 1), .ref (x + 2), .int (nI ds.length)]) ∧ w.1 (x + 2) = some (gx_ai 0 12 (fun r => nI (fo r))) := by
  obtain ⟨h0, U, V, h1, h2⟩ := h
  exact ⟨h1.1, h1.2.2.1⟩
theorem lp_fill2 {Q : gx_P} {x a : Nat} {M : sp_M} {t : List Nat} {H : List (List Nat × List Nat)} {z : Nat} (hM : sp_Mok M) (hxa : a + 7 ≤ x) (hH : H.length = 5) : ∀ (fu : Nat) (r : Nat) (fo : Nat → Nat) (w : gx_W), 12 - r < fu → (mcAt w a M t) → (bxOk w x (H ++ sp_rs M r) fo) → (r ≤ 12) → (∀ i, i < r → fo i = sp_fo M i) → (∀ w' fo', bxOk w' x (H ++ sp_rs M 12) fo' → (∀ i, i < 12 → fo' i = sp_fo M i) → gx_kp w w' x (x + 303) → gx_X (fun _ _ => True) M_Box_fill 5 Q 131 [some (.ref x), some (.ref a), some (.ref z), some (.int (nI 12))] [] w' (0, 0)) → gx_X (fun _ _ => True) M_Box_fill 5 Q 83 [some (.ref x), some (.ref a), some (.ref z), some (.int (nI r))] [] w (0, 0) := by
  intro fu
  induction fu with
  | zero => intro r fo w hfu; exact absurd hfu (Nat.not_lt_zero _)
  | succ fu ih =>
    intro r fo w hfu hm hb hr hfo hX
    refine gx_iload_n d_Box_fill_83 rfl ?_
    refine gx_bipush d_Box_fill_84 (nI 12) (by decide) ?_
    refine gx_icmp_geN (by omega) (by omega) (tgt := 131) d_Box_fill_86 (by decide) (fun h86 => ?_) (fun h86 => ?_)
    · have e : r = 12 := by omega
      subst e
      exact hX w fo hb hfo gx_kp.rf
    · refine gx_aload_n d_Box_fill_89 rfl ?_
      have hB := hb.at
      have hlen := sp_rs_len M r
      refine gx_get fl_Box_17 d_Box_fill_90 hB.1 rfl ?_
      refine gx_iload_n d_Box_fill_93 rfl ?_
      refine gx_aload_n d_Box_fill_94 rfl ?_
      refine gx_get fl_Box_22 d_Box_fill_95 hB.1 rfl ?_
      refine gx_iast d_Box_fill_98 hB.2 (by omega) (by omega) ?_
      rw [gx_u_upd]
      have hb1 := bxOk.fst (k := r) (v := (H ++ sp_rs M r).length) hb
      have k1 : gx_kp w (gx_st w (x + 2) (gx_ai 0 12 (fun q => nI (gx_u fo r (H ++ sp_rs M r).length q)))) x (x + 303) := gx_kp.st (by omega) (by omega)
      have hm1 := hm.kept k1 (by omega)
      have hle : (H ++ sp_rs M r).length = 5 + (sp_rs M r).length := by rw [List.length_append, hH]
      refine gx_aload_n d_Box_fill_99 rfl ?_
      refine gx_aload_n d_Box_fill_100 rfl ?_
      refine gx_iload_n d_Box_fill_101 rfl ?_
      refine gx_iload_n d_Box_fill_102 rfl ?_
      refine gx_iconst d_Box_fill_103 (nI 3) (by decide) ?_
      refine gx_iremN (by omega) (by omega) (by omega) d_Box_fill_104 ?_
      refine gx_cS1 lk_Box_64 d_Box_fill_105 (ct_digit (s := r % 3) (by omega)) (by omega) rfl rfl (Nat.le_of_ble_eq_true rfl) ?_
      refine gx_cVr lk_Box_68 d_Box_fill_108 (ct_addRule (beh := 48 + r % 3) hm1 hM hxa (by omega) (by omega) hb1 (by omega)) hb1.rc (by omega) rfl rfl (Nat.le_of_ble_eq_true rfl) (fun r2 w2 hq => ?_)
      obtain ⟨rfl, hb2, k2⟩ := hq
      have hm2 := hm1.kept k2 (by omega)
      have hl2 := sp_ar_len M r (48 + r % 3)
      have hle2 : (H ++ sp_rs M r ++ sp_ar M r (48 + r % 3)).length ≤ 57 := by rw [List.length_append]; omega
      refine gx_iload_n d_Box_fill_111 rfl ?_
      refine gx_iconst d_Box_fill_112 (nI 3) (by decide) ?_
      refine gx_iremN (by omega) (by omega) (by omega) d_Box_fill_113 ?_
      refine gx_if_neN (by omega) (tgt := 125) d_Box_fill_114 (by decide) (fun h114 => ?_) (fun h114 => ?_)
      · refine gx_iincN (n := 1) d_Box_fill_125 rfl (by decide) (Nat.le_of_ble_eq_true rfl) rfl ?_
        refine gx_goto (tgt := 83) d_Box_fill_128 (by decide) ?_
        refine ih (r + 1) (gx_u fo r (H ++ sp_rs M r).length) _ (by omega) (hm2) ?_ (by omega) (fun i hi => ?_) (fun w' fo' h1 h2 h3 => hX w' fo' h1 h2 ((k1.trans k2).trans h3))
        · rw [sp_rs_succ, sp_rd_ar, if_neg h114, List.append_nil]
          simpa [List.append_assoc] using hb2
        · by_cases e : i = r
          · subst e
            rw [gx_u_eq, hle]; rfl
          · rw [gx_u_ne e]; exact hfo i (by omega)
      · refine gx_aload_n d_Box_fill_117 rfl ?_
        refine gx_aload_n d_Box_fill_118 rfl ?_
        refine gx_iload_n d_Box_fill_119 rfl ?_
        refine gx_bipush d_Box_fill_120 (nI 35) (by decide) ?_
        refine gx_cVr lk_Box_68 d_Box_fill_122 (ct_addRule (beh := 35) hm2 hM hxa (by omega) (by omega) hb2 (by omega)) hb2.rc (by omega) rfl rfl (Nat.le_of_ble_eq_true rfl) (fun r2 w3 hq => ?_)
        obtain ⟨rfl, hb3, k3⟩ := hq
        refine gx_iincN (n := 1) d_Box_fill_125 rfl (by decide) (Nat.le_of_ble_eq_true rfl) rfl ?_
        refine gx_goto (tgt := 83) d_Box_fill_128 (by decide) ?_
        refine ih (r + 1) (gx_u fo r (H ++ sp_rs M r).length) _ (by omega) (hm2.kept k3 (by omega)) ?_ (by omega) (fun i hi => ?_) (fun w' fo' h1 h2 h3 => hX w' fo' h1 h2 (((k1.trans k2).trans k3).trans h3))
        · rw [sp_rs_succ, sp_rd_ar, if_pos h114]
          simpa [List.append_assoc] using hb3
        · by_cases e : i = r
          · subst e
            rw [gx_u_eq, hle]; rfl
          · rw [gx_u_ne e]; exact hfo i (by omega)
theorem ct_fill {w : gx_W} {x a m : Nat} {M : sp_M} {t : List Nat} {U V : Nat → List Nat} {fo : Nat → Nat} (hm : mcAt w a M t) (hM : sp_Mok M) (hxa : a + 7 ≤ x) (h : bxAt w x m U V fo) (ht : t.length ≤ 5) : gx_Ct M_Box_fill 5 0 0 [.ref x, .ref a] w (fun v w' => v = none ∧ ∃ fo', bxOk w' x (sp_dom M t) fo' ∧ (∀ i, i < 12 → fo' i = sp_fo M i) ∧ gx_kp w w' x (x + 303)) := by
  refine gx_ct (L := [some (.ref x), some (.ref a), none, none]) (by decide) (Nat.le_of_ble_eq_true rfl) rfl ?_
  refine gx_aload_n d_Box_fill_0 rfl ?_
  refine gx_iconst d_Box_fill_1 (nI 0) (by decide) ?_
  refine gx_put fp_Box_22 (fun h => by cases h) d_Box_fill_2 h.1 rfl rfl (Nat.le_of_ble_eq_true rfl) ?_
  have h1 := bxAt.num (k := 0) h
  have k1 : gx_kp w (gx_st w x (gx_ob 5 [.ref (x + 1), .ref (x + 2), .int (nI 0)])) x (x + 303) := gx_kp.st (by omega) (by omega)
  refine gx_w (w' := gx_st w x (gx_ob 5 [.ref (x + 1), .ref (x + 2), .int (nI 0)])) rfl ?_
  have hm1 := hm.kept k1 (by omega)
  refine gx_aload_n d_Box_fill_5 rfl ?_
  refine gx_cVr lk_Box_30 d_Box_fill_6 (ct_open h1 (by omega)) (Or.inl ⟨_, h1.1⟩) (by omega) rfl rfl (Nat.le_of_ble_eq_true rfl) (fun r w1 hq => ?_)
  obtain ⟨rfl, hB, hK⟩ := hq
  refine gx_astore_n d_Box_fill_9 (Nat.le_of_ble_eq_true rfl) rfl ?_
  refine gx_aload_n d_Box_fill_10 rfl ?_
  refine gx_get fl_Box_34 d_Box_fill_11 hB.ob rfl ?_
  refine gx_bipush d_Box_fill_14 (nI 35) (by decide) ?_
  refine gx_cV1 lk_Box_38 d_Box_fill_16 (ct_Word_add hB.uw (by omega) (by simp)) (Or.inr ⟨_, _, hB.uw⟩) (by omega) rfl rfl (Nat.le_of_ble_eq_true rfl) ?_
  replace hB := hB.up ([] ++ [35])
  replace hK := hK.trans (gx_kp.st (a := x + 4 + 5 * 0) (x := gx_bx 0 3 ([] ++ [35])) (by omega) (by omega))
  refine gx_pop d_Box_fill_19 rfl ?_
  refine gx_aload_n d_Box_fill_20 rfl ?_
  refine gx_get fl_Box_44 d_Box_fill_21 hB.ob rfl ?_
  refine gx_bipush d_Box_fill_24 (nI 35) (by decide) ?_
  refine gx_cV1 lk_Box_38 d_Box_fill_26 (ct_Word_add hB.lw (by omega) (by simp)) (Or.inr ⟨_, _, hB.lw⟩) (by omega) rfl rfl (Nat.le_of_ble_eq_true rfl) ?_
  replace hB := hB.lo ([] ++ [35])
  replace hK := hK.trans (gx_kp.st (a := x + 6 + 5 * 0) (x := gx_bx 0 7 ([] ++ [35])) (by omega) (by omega))
  refine gx_aload_n d_Box_fill_29 rfl ?_
  have hmk := hm1.kept hK (by omega)
  refine gx_get fl_Box_47 d_Box_fill_30 hmk.1 rfl ?_
  refine gx_iconst d_Box_fill_33 (nI 0) (by decide) ?_
  refine gx_aload_n d_Box_fill_34 rfl ?_
  refine gx_get fl_Box_47 d_Box_fill_35 hmk.1 rfl ?_
  refine gx_cV1 lk_Box_52 d_Box_fill_38 (ct_Word_size hmk.2.2.2.2.2) (Or.inr ⟨_, _, hmk.2.2.2.2.2⟩) (by omega) rfl rfl (Nat.le_of_ble_eq_true rfl) ?_
  refine gx_cV0 lk_Box_56 d_Box_fill_41 (ct_Word_addPart (a := 0) (b := t.length) hB.lw hmk.2.2.2.2.2 (by omega) (by omega) (Nat.le_refl _) (by simp; omega)) (Or.inr ⟨_, _, hB.lw⟩) (by omega) rfl rfl (Nat.le_of_ble_eq_true rfl) ?_
  rw [List.take_of_length_le (Nat.le_refl _), List.drop_zero]
  replace hB := hB.lo ([] ++ [35] ++ t)
  replace hK := hK.trans (gx_kp.st (a := x + 6 + 5 * 0) (x := gx_bx 0 7 ([] ++ [35] ++ t)) (by omega) (by omega))
  refine gx_aload_n d_Box_fill_44 rfl ?_
  refine gx_get fl_Box_44 d_Box_fill_45 hB.ob rfl ?_
  refine gx_bipush d_Box_fill_48 (nI 35) (by decide) ?_
  refine gx_cV1 lk_Box_38 d_Box_fill_50 (ct_Word_add hB.lw (by omega) (by simp; omega)) (Or.inr ⟨_, _, hB.lw⟩) (by omega) rfl rfl (Nat.le_of_ble_eq_true rfl) ?_
  replace hB := hB.lo (([] ++ [35] ++ t) ++ [35])
  replace hK := hK.trans (gx_kp.st (a := x + 6 + 5 * 0) (x := gx_bx 0 7 (([] ++ [35] ++ t) ++ [35])) (by omega) (by omega))
  have hb0 : bxOk _ x ([] ++ [([35], [35] ++ t ++ [35])]) fo := bxDm.ok (ds := []) hB (fun i hi => absurd hi (Nat.not_lt_zero i))
  generalize hwg : gx_st _ (x + 6 + 5 * 0) (gx_bx 0 7 ([] ++ [35] ++ t ++ [35])) = wg at hb0 hK ⊢
  refine gx_pop d_Box_fill_53 rfl ?_
  refine gx_aload_n d_Box_fill_54 rfl ?_
  refine gx_bipush d_Box_fill_55 (nI 35) (by decide) ?_
  refine gx_cVr lk_Box_60 d_Box_fill_57 (ct_addCopy (c := 35) hb0 (by omega) (by simp)) hb0.rc (by omega) rfl rfl (Nat.le_of_ble_eq_true rfl) (fun r2 w2 hq => ?_)
  obtain ⟨rfl, hb1, k2⟩ := hq
  refine gx_iconst d_Box_fill_60 (nI 0) (by decide) ?_
  refine gx_istore_n d_Box_fill_61 (Nat.le_of_ble_eq_true rfl) rfl ?_
  have kk := (k1.trans hK).trans k2
  have hX2 : ∀ w' fo', bxOk w' x (sp_hd t ++ sp_rs M 12) fo' → (∀ i, i < 12 → fo' i = sp_fo M i) → gx_kp w w' x (x + 303) → gx_X (fun _ _ => True) M_Box_fill 5 (gx_nt (fun v w' => v = none ∧ ∃ fo', bxOk w' x (sp_dom M t) fo' ∧ (∀ i, i < 12 → fo' i = sp_fo M i) ∧ gx_kp w w' x (x + 303))) 131 [some (.ref x), some (.ref a), some (.ref (x + 3 + 5 * 0)), some (.int (nI 12))] [] w' (0, 0) := by
    intro w' fo' hb' hfo' hk'
    have hlen := sp_rs_len M 12
    refine gx_aload_n d_Box_fill_131 rfl ?_
    refine gx_cVr lk_Box_72 d_Box_fill_132 (ct_addEnding hb' (by rw [List.length_append]; have : (sp_hd t).length = 5 := rfl; omega)) hb'.rc (by omega) rfl rfl (Nat.le_of_ble_eq_true rfl) (fun r2 w5 hq => ?_)
    obtain ⟨rfl, hb5, k5⟩ := hq
    refine gx_return rfl d_Box_fill_135 ?_
    exact ⟨rfl, fo', hb5, hfo', hk'.trans k5⟩
  refine lp_fill1 4 0 _ _ (by omega) hb1 (by omega) (by simp) (fun w3 hb3 k3 => ?_)
  refine gx_iconst d_Box_fill_81 (nI 0) (by decide) ?_
  refine gx_istore_n d_Box_fill_82 (Nat.le_of_ble_eq_true rfl) rfl ?_
  refine lp_fill2 (H := sp_hd t) hM hxa rfl 13 0 fo w3 (by omega) (hm.kept (kk.trans k3) (by omega)) ?_ (by omega) (fun i hi => absurd hi (Nat.not_lt_zero i)) (fun w4 fo4 hb4 hfo4 k4 => hX2 w4 fo4 hb4 hfo4 ((kk.trans k3).trans k4))
  simpa [sp_hd, sp_rs] using hb3
