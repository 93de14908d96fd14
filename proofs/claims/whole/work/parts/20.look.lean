/-! Hunt: going on, looking, laying -/
/-- the rows that go on from row number at, of size sz, with the dominoes from number d on -/
def sp_ch (a0 sz : Nat) (Rr : List Nat) : Nat → List (List Nat × List Nat) → List sp_E
  | _, [] => []
  | d, (u, l) :: t => if sp_agb u (Rr ++ l) = true then (nI a0, d, sz + 1, (Rr ++ l).drop u.length) :: sp_ch a0 sz Rr (d + 1) t else sp_ch a0 sz Rr (d + 1) t
def dmP (p : List Nat × List Nat) : Prop := p.1.count 35 ≤ p.2.count 35 ∨ (p.1 = [104, 35, 35] ∧ p.2 = [35])
theorem agb_le : ∀ {u v : List Nat}, sp_agb u v = true → u.length ≤ v.length → v.take u.length = u
  | [], v, _, _ => by simp
  | a :: u, [], _, h => by simp at h
  | a :: u, b :: v, h, hl => by
    simp only [sp_agb, Bool.and_eq_true, beq_iff_eq] at h
    have := agb_le h.2 (by simpa using hl)
    simp [h.1, this]
theorem agb_ge : ∀ {u v : List Nat}, sp_agb u v = true → v.length ≤ u.length → u.take v.length = v
  | u, [], _, _ => by simp
  | [], b :: v, _, h => by simp at h
  | a :: u, b :: v, h, hl => by
    simp only [sp_agb, Bool.and_eq_true, beq_iff_eq] at h
    have := agb_ge h.2 (by simpa using hl)
    simp [h.1, this]
theorem dm_fit {Rr u l : List Nat} (hR : 0 < Rr.count 35) (hd : dmP (u, l)) (ha : sp_agb u (Rr ++ l) = true) : u.length ≤ Rr.length + l.length ∧ ((Rr ++ l).drop u.length = [] ∨ 0 < ((Rr ++ l).drop u.length).count 35) := by
  have hle : u.length ≤ Rr.length + l.length := by
    refine Nat.le_of_not_lt fun hlt => ?_
    have h1 := agb_ge ha (by rw [List.length_append]; omega)
    have h2 : u = (Rr ++ l) ++ u.drop (Rr ++ l).length := by
      conv => lhs; rw [← List.take_append_drop (Rr ++ l).length u, h1]
    have h3 : u.count 35 = Rr.count 35 + l.count 35 + (u.drop (Rr ++ l).length).count 35 := by
      conv => lhs; rw [h2]
      rw [List.count_append, List.count_append]
    rcases hd with hd | ⟨e1, e2⟩
    · simp only at hd
      omega
    · simp only at e1 e2
      subst e1; subst e2
      have h4 : Rr.length ≤ 1 := by simp at hlt; omega
      have h5 : Rr.length ≠ 0 := fun e => by rw [List.length_eq_zero_iff.mp e] at hR; simp at hR
      have h6 : Rr.length = 1 := by omega
      rw [List.length_append, h6] at h1
      simp at h1
      obtain ⟨a, rfl⟩ := List.length_eq_one_iff.mp h6
      simp at h1
      rw [← h1] at hR
      exact absurd hR (by decide)
  refine ⟨hle, ?_⟩
  have h1 := agb_le ha (by rw [List.length_append]; exact hle)
  have h2 : Rr ++ l = u ++ (Rr ++ l).drop u.length := by
    conv => lhs; rw [← List.take_append_drop u.length (Rr ++ l), h1]
  have h3 : Rr.count 35 + l.count 35 = u.count 35 + ((Rr ++ l).drop u.length).count 35 := by
    rw [← List.count_append, ← List.count_append, ← h2]
  rcases hd with hd | ⟨e1, e2⟩
  · simp only at hd
    exact Or.inr (by omega)
  · simp only at e1 e2
    subst e1; subst e2
    by_cases hX : (Rr ++ [35]).drop [104, 35, 35].length = []
    · exact Or.inl hX
    · refine Or.inr (List.count_pos_iff.mpr ?_)
      have h4 : (Rr ++ [35]).getLast? = some 35 := by simp
      have h5 := List.getLast?_eq_some_getLast hX
      rw [h2, List.getLast?_append, h5] at h4
      have h6 := List.getLast_mem hX
      rw [Option.some_or] at h4
      rw [Option.some.inj h4] at h6
      exact h6
def sp_ge (e : sp_E) : Prop := (e.2.2.2 = [] ∨ 0 < e.2.2.2.count 35)
theorem sp_ch_ge {a0 sz : Nat} {Rr : List Nat} (hR : 0 < Rr.count 35) : ∀ (ds : List (List Nat × List Nat)) (d : Nat), (∀ p ∈ ds, dmP p) → ∀ e ∈ sp_ch a0 sz Rr d ds, sp_ge e
  | [], d, _, e, he => by simp [sp_ch] at he
  | (u, l) :: t, d, hd, e, he => by
    unfold sp_ch at he
    have ih := sp_ch_ge (a0 := a0) (sz := sz) hR t (d + 1) (fun p hp => hd p (List.mem_cons_of_mem _ hp))
    by_cases ha : sp_agb u (Rr ++ l) = true
    · rw [if_pos ha] at he
      rcases List.mem_cons.mp he with h1 | h1
      · rw [h1]
        exact (dm_fit hR (hd _ List.mem_cons_self) ha).2
      · exact ih e h1
    · rw [if_neg ha] at he
      exact ih e he
theorem gx_dd {ds : List (List Nat × List Nat)} {i : Nat} (h : i < ds.length) : ds.drop i = ((ds.getD i ([], [])).1, (ds.getD i ([], [])).2) :: ds.drop (i + 1) := by
  rw [List.drop_eq_getElem_cons h, List.getD_eq_getElem?_getD, List.getElem?_eq_getElem h]
  rfl
theorem gx_ddm {ds : List (List Nat × List Nat)} {i : Nat} (h : i < ds.length) : ds.getD i ([], []) ∈ ds := by
  rw [List.getD_eq_getElem?_getD, List.getElem?_eq_getElem h]
  exact List.getElem_mem h
theorem gx_qe {q : List sp_E} {k : List sp_E} {i : Nat} (h : i < q.length) : (q ++ k).getD i sp_e0 = q.getD i sp_e0 := by
  simp [List.getD_eq_getElem?_getD, List.getElem?_append_left h]
theorem gx_qm {q : List sp_E} {i : Nat} (h : i < q.length) : q.getD i sp_e0 ∈ q := by
  rw [List.getD_eq_getElem?_getD, List.getElem?_eq_getElem h]
  exact List.getElem_mem h
theorem d_Hunt_goOn_0 : decode prog_4_method_7_code 0 = .ok (.aload_n 0, 1) := by decide +kernel
theorem d_Hunt_goOn_1 : decode prog_4_method_7_code 1 = .ok (.getfield 21, 3) := by decide +kernel
theorem d_Hunt_goOn_4 : decode prog_4_method_7_code 4 = .ok (.iload_n 1, 1) := by decide +kernel
theorem d_Hunt_goOn_5 : decode prog_4_method_7_code 5 = .ok (.iaload, 1) := by decide +kernel
theorem d_Hunt_goOn_6 : decode prog_4_method_7_code 6 = .ok (.bipush 12, 2) := by decide +kernel
theorem d_Hunt_goOn_8 : decode prog_4_method_7_code 8 = .ok (.if_icmp .le 4, 3) := by decide +kernel
theorem d_Hunt_goOn_11 : decode prog_4_method_7_code 11 = .ok (.return_, 1) := by decide +kernel
theorem d_Hunt_goOn_12 : decode prog_4_method_7_code 12 = .ok (.aload_n 0, 1) := by decide +kernel
theorem d_Hunt_goOn_13 : decode prog_4_method_7_code 13 = .ok (.getfield 33, 3) := by decide +kernel
theorem d_Hunt_goOn_16 : decode prog_4_method_7_code 16 = .ok (.invokevirtual 44, 3) := by decide +kernel
theorem d_Hunt_goOn_19 : decode prog_4_method_7_code 19 = .ok (.iconst 0, 1) := by decide +kernel
theorem d_Hunt_goOn_20 : decode prog_4_method_7_code 20 = .ok (.istore_n 3, 1) := by decide +kernel
theorem d_Hunt_goOn_21 : decode prog_4_method_7_code 21 = .ok (.iload_n 3, 1) := by decide +kernel
theorem d_Hunt_goOn_22 : decode prog_4_method_7_code 22 = .ok (.aload_n 0, 1) := by decide +kernel
theorem d_Hunt_goOn_23 : decode prog_4_method_7_code 23 = .ok (.getfield 21, 3) := by decide +kernel
theorem d_Hunt_goOn_26 : decode prog_4_method_7_code 26 = .ok (.iload_n 1, 1) := by decide +kernel
theorem d_Hunt_goOn_27 : decode prog_4_method_7_code 27 = .ok (.iaload, 1) := by decide +kernel
theorem d_Hunt_goOn_28 : decode prog_4_method_7_code 28 = .ok (.if_icmp .ge 28, 3) := by decide +kernel
theorem d_Hunt_goOn_31 : decode prog_4_method_7_code 31 = .ok (.aload_n 0, 1) := by decide +kernel
theorem d_Hunt_goOn_32 : decode prog_4_method_7_code 32 = .ok (.getfield 33, 3) := by decide +kernel
theorem d_Hunt_goOn_35 : decode prog_4_method_7_code 35 = .ok (.aload_n 0, 1) := by decide +kernel
theorem d_Hunt_goOn_36 : decode prog_4_method_7_code 36 = .ok (.getfield 24, 3) := by decide +kernel
theorem d_Hunt_goOn_39 : decode prog_4_method_7_code 39 = .ok (.iload_n 1, 1) := by decide +kernel
theorem d_Hunt_goOn_40 : decode prog_4_method_7_code 40 = .ok (.bipush 12, 2) := by decide +kernel
theorem d_Hunt_goOn_42 : decode prog_4_method_7_code 42 = .ok (.imul, 1) := by decide +kernel
theorem d_Hunt_goOn_43 : decode prog_4_method_7_code 43 = .ok (.iload_n 3, 1) := by decide +kernel
theorem d_Hunt_goOn_44 : decode prog_4_method_7_code 44 = .ok (.iadd, 1) := by decide +kernel
theorem d_Hunt_goOn_45 : decode prog_4_method_7_code 45 = .ok (.caload, 1) := by decide +kernel
theorem d_Hunt_goOn_46 : decode prog_4_method_7_code 46 = .ok (.invokevirtual 74, 3) := by decide +kernel
theorem d_Hunt_goOn_49 : decode prog_4_method_7_code 49 = .ok (.pop, 1) := by decide +kernel
theorem d_Hunt_goOn_50 : decode prog_4_method_7_code 50 = .ok (.iinc 3 1, 3) := by decide +kernel
theorem d_Hunt_goOn_53 : decode prog_4_method_7_code 53 = .ok (.goto (-32), 3) := by decide +kernel
theorem d_Hunt_goOn_56 : decode prog_4_method_7_code 56 = .ok (.iconst 0, 1) := by decide +kernel
theorem d_Hunt_goOn_57 : decode prog_4_method_7_code 57 = .ok (.istore_n 3, 1) := by decide +kernel
theorem d_Hunt_goOn_58 : decode prog_4_method_7_code 58 = .ok (.iload_n 3, 1) := by decide +kernel
theorem d_Hunt_goOn_59 : decode prog_4_method_7_code 59 = .ok (.aload_n 2, 1) := by decide +kernel
theorem d_Hunt_goOn_60 : decode prog_4_method_7_code 60 = .ok (.invokevirtual 77, 3) := by decide +kernel
theorem d_Hunt_goOn_63 : decode prog_4_method_7_code 63 = .ok (.if_icmp .ge 42, 3) := by decide +kernel
theorem d_Hunt_goOn_66 : decode prog_4_method_7_code 66 = .ok (.aload_n 0, 1) := by decide +kernel
theorem d_Hunt_goOn_67 : decode prog_4_method_7_code 67 = .ok (.getfield 41, 3) := by decide +kernel
theorem d_Hunt_goOn_70 : decode prog_4_method_7_code 70 = .ok (.sipush 401, 3) := by decide +kernel
theorem d_Hunt_goOn_73 : decode prog_4_method_7_code 73 = .ok (.if_icmp .ge 32, 3) := by decide +kernel
theorem d_Hunt_goOn_76 : decode prog_4_method_7_code 76 = .ok (.aload_n 0, 1) := by decide +kernel
theorem d_Hunt_goOn_77 : decode prog_4_method_7_code 77 = .ok (.aload_n 2, 1) := by decide +kernel
theorem d_Hunt_goOn_78 : decode prog_4_method_7_code 78 = .ok (.iload_n 3, 1) := by decide +kernel
theorem d_Hunt_goOn_79 : decode prog_4_method_7_code 79 = .ok (.invokevirtual 47, 3) := by decide +kernel
theorem d_Hunt_goOn_82 : decode prog_4_method_7_code 82 = .ok (.invokevirtual 79, 3) := by decide +kernel
theorem d_Hunt_goOn_85 : decode prog_4_method_7_code 85 = .ok (.ifCond .eq 14, 3) := by decide +kernel
theorem d_Hunt_goOn_88 : decode prog_4_method_7_code 88 = .ok (.aload_n 0, 1) := by decide +kernel
theorem d_Hunt_goOn_89 : decode prog_4_method_7_code 89 = .ok (.iload_n 1, 1) := by decide +kernel
theorem d_Hunt_goOn_90 : decode prog_4_method_7_code 90 = .ok (.iload_n 3, 1) := by decide +kernel
theorem d_Hunt_goOn_91 : decode prog_4_method_7_code 91 = .ok (.aload_n 2, 1) := by decide +kernel
theorem d_Hunt_goOn_92 : decode prog_4_method_7_code 92 = .ok (.iload_n 3, 1) := by decide +kernel
theorem d_Hunt_goOn_93 : decode prog_4_method_7_code 93 = .ok (.invokevirtual 47, 3) := by decide +kernel
theorem d_Hunt_goOn_96 : decode prog_4_method_7_code 96 = .ok (.invokevirtual 53, 3) := by decide +kernel
theorem d_Hunt_goOn_99 : decode prog_4_method_7_code 99 = .ok (.iinc 3 1, 3) := by decide +kernel
theorem d_Hunt_goOn_102 : decode prog_4_method_7_code 102 = .ok (.goto (-44), 3) := by decide +kernel
theorem d_Hunt_goOn_105 : decode prog_4_method_7_code 105 = .ok (.return_, 1) := by decide +kernel
theorem lp_goOn1 {Q : gx_P} {z a0 x m : Nat} {lk : Int32} {Rr : List Nat} {f1 f2 f3 f4 f5 : Nat → Int32} (ha0 : a0 < m) (hm : m ≤ 401) (hR : Rr.length ≤ 12) (hRs : gx_sm Rr) (h4 : f4 a0 = nI Rr.length) (h5 : ∀ j, j < Rr.length → j < 12 → f5 (a0 * 12 + j) = nI (Rr.getD j 0)) : ∀ (fu : Nat) (i : Nat) (w : gx_W), Rr.length - i < fu → (hnR w z m lk (Rr.take i) f1 f2 f3 f4 f5) → (i ≤ Rr.length) → (∀ w', hnR w' z m lk Rr f1 f2 f3 f4 f5 → gx_kp w w' z (z + 8) → gx_X (fun _ _ => True) M_Hunt_goOn 4 Q 56 [some (.ref z), some (.int (nI a0)), some (.ref x), some (.int (nI Rr.length))] [] w' (0, 0)) → gx_X (fun _ _ => True) M_Hunt_goOn 4 Q 21 [some (.ref z), some (.int (nI a0)), some (.ref x), some (.int (nI i))] [] w (0, 0) := by
  intro fu
  induction fu with
  | zero => intro i w hfu; exact absurd hfu (Nat.not_lt_zero _)
  | succ fu ih =>
    intro i w hfu hz hi hX
    have htk : (Rr.take i).length = i := by rw [List.length_take]; omega
    refine gx_iload_n d_Hunt_goOn_21 rfl ?_
    refine gx_aload_n d_Hunt_goOn_22 rfl ?_
    refine gx_get fl_Hunt_21 d_Hunt_goOn_23 hz.1 rfl ?_
    refine gx_iload_n d_Hunt_goOn_26 rfl ?_
    refine gx_iald d_Hunt_goOn_27 hz.2.2.2.2.1 (by omega) (by omega) ?_
    refine gx_top h4 ?_
    refine gx_icmp_geN (by omega) (by omega) (tgt := 56) d_Hunt_goOn_28 (by decide) (fun h28 => ?_) (fun h28 => ?_)
    · have e : i = Rr.length := by omega
      subst e
      rw [List.take_of_length_le (Nat.le_refl _)] at hz
      exact hX w hz gx_kp.rf
    · refine gx_aload_n d_Hunt_goOn_31 rfl ?_
      refine gx_get fl_Hunt_33 d_Hunt_goOn_32 hz.1 rfl ?_
      refine gx_aload_n d_Hunt_goOn_35 rfl ?_
      refine gx_get fl_Hunt_24 d_Hunt_goOn_36 hz.1 rfl ?_
      refine gx_iload_n d_Hunt_goOn_39 rfl ?_
      refine gx_bipush d_Hunt_goOn_40 (nI 12) (by decide) ?_
      refine gx_imulN d_Hunt_goOn_42 ?_
      refine gx_iload_n d_Hunt_goOn_43 rfl ?_
      refine gx_iaddN d_Hunt_goOn_44 ?_
      refine gx_cald d_Hunt_goOn_45 hz.2.2.2.2.2.1 (by omega) (by omega) ?_
      refine gx_top (h5 i (by omega) (by omega)) ?_
      refine gx_cV1 lk_Hunt_74 d_Hunt_goOn_46 (ct_Word_add hz.2.2.2.2.2.2 (gx_sm_at hRs i) (by omega)) (Or.inr ⟨_, _, hz.2.2.2.2.2.2⟩) (by omega) rfl rfl (Nat.le_of_ble_eq_true rfl) ?_
      refine gx_pop d_Hunt_goOn_49 rfl ?_
      refine gx_iincN (n := 1) d_Hunt_goOn_50 rfl (by decide) (Nat.le_of_ble_eq_true rfl) rfl ?_
      refine gx_goto (tgt := 21) d_Hunt_goOn_53 (by decide) ?_
      have kk : gx_kp w (gx_st w (z + 6) (gx_bx 0 12 (Rr.take i ++ [Rr.getD i 0]))) z (z + 8) := gx_kp.st (by omega) (by omega)
      refine ih (i + 1) _ (by omega) ?_ (by omega) (fun w' h1 h2 => hX w' h1 (kk.trans h2))
      rw [gx_take_succ (by omega)]
      exact hz.so _
theorem lp_goOn2 {Q : gx_P} {w0 : gx_W} {z a0 x : Nat} {lk : Int32} {Rr : List Nat} {ds : List (List Nat × List Nat)} {fo : Nat → Nat} (hb0 : bxOk w0 x ds fo) (hxz : x + 303 ≤ z) (hfit : ∀ i, i < ds.length → sp_agb (ds.getD i ([], [])).1 (Rr ++ (ds.getD i ([], [])).2) = true → (ds.getD i ([], [])).1.length ≤ Rr.length + (ds.getD i ([], [])).2.length) : ∀ (fu : Nat) (i : Nat) (q : List sp_E) (w : gx_W), ds.length - i < fu → (gx_kp w0 w z (z + 8)) → (hnAt w z q lk Rr) → (a0 < q.length) → (i ≤ ds.length) → (∀ w', hnAt w' z ((q ++ sp_ch a0 (q.getD a0 sp_e0).2.2.1 Rr i (ds.drop i)).take 401) lk Rr → gx_kp w0 w' z (z + 8) → Q.1 none w') → gx_X (fun _ _ => True) M_Hunt_goOn 4 Q 58 [some (.ref z), some (.int (nI a0)), some (.ref x), some (.int (nI i))] [] w (0, 0) := by
  intro fu
  induction fu with
  | zero => intro i q w hfu; exact absurd hfu (Nat.not_lt_zero _)
  | succ fu ih =>
    intro i q w hfu hk hz ha0 hi hQ
    have hz0 := hz
    obtain ⟨hd60, U, V, hb1, hd⟩ := hb0.kept hk (by omega)
    obtain ⟨hq401, f1, f2, f3, f4, f5, hzr, hF⟩ := hz
    refine gx_iload_n d_Hunt_goOn_58 rfl ?_
    refine gx_aload_n d_Hunt_goOn_59 rfl ?_
    refine gx_cV1 lk_Hunt_77 d_Hunt_goOn_60 (ct_Box_size hb1) (Or.inl ⟨_, hb1.1⟩) (by omega) rfl rfl (Nat.le_of_ble_eq_true rfl) ?_
    refine gx_icmp_geN (by omega) (by omega) (tgt := 105) d_Hunt_goOn_63 (by decide) (fun h63 => ?_) (fun h63 => ?_)
    · refine gx_return rfl d_Hunt_goOn_105 ?_
      refine hQ w ?_ hk
      rw [List.drop_eq_nil_of_le h63, show sp_ch a0 (q.getD a0 sp_e0).2.2.1 Rr i [] = [] by unfold sp_ch; rfl, List.append_nil, List.take_of_length_le hq401]
      exact hz0
    · refine gx_aload_n d_Hunt_goOn_66 rfl ?_
      refine gx_get fl_Hunt_41 d_Hunt_goOn_67 hzr.1 rfl ?_
      refine gx_sipush d_Hunt_goOn_70 (nI 401) (by decide) ?_
      refine gx_icmp_geN (by omega) (by omega) (tgt := 105) d_Hunt_goOn_73 (by decide) (fun h73 => ?_) (fun h73 => ?_)
      · refine gx_return rfl d_Hunt_goOn_105 ?_
        refine hQ w ?_ hk
        rw [List.take_append_of_le_length (by omega), List.take_of_length_le hq401]
        exact hz0
      · refine gx_aload_n d_Hunt_goOn_76 rfl ?_
        refine gx_aload_n d_Hunt_goOn_77 rfl ?_
        refine gx_iload_n d_Hunt_goOn_78 rfl ?_
        obtain ⟨hD, hu, hl⟩ := hb1.2.2.2 i (by omega)
        rw [(hd i (by omega)).1] at hu
        rw [(hd i (by omega)).2] at hl
        refine gx_cV1 lk_Hunt_47 d_Hunt_goOn_79 (ct_Box_get hb1 (show i < ds.length by omega) hd60) (Or.inl ⟨_, hb1.1⟩) (by omega) rfl rfl (Nat.le_of_ble_eq_true rfl) ?_
        refine gx_cV1 lk_Hunt_79 d_Hunt_goOn_82 (ct_fits hzr hD hu hl) (Or.inl ⟨_, hzr.1⟩) (by omega) rfl rfl (Nat.le_of_ble_eq_true rfl) ?_
        have hbt := Bool.toNat_le (sp_agb (ds.getD i ([], [])).1 (Rr ++ (ds.getD i ([], [])).2))
        refine gx_if_eqN (by omega) (tgt := 99) d_Hunt_goOn_85 (by decide) (fun h85 => ?_) (fun h85 => ?_)
        · have hag : ¬ sp_agb (ds.getD i ([], [])).1 (Rr ++ (ds.getD i ([], [])).2) = true := fun g => by rw [g] at h85; exact absurd h85 (by decide)
          refine gx_iincN (n := 1) d_Hunt_goOn_99 rfl (by decide) (Nat.le_of_ble_eq_true rfl) rfl ?_
          refine gx_goto (tgt := 58) d_Hunt_goOn_102 (by decide) ?_
          refine ih (i + 1) q w (by omega) hk hz0 ha0 (by omega) (fun w' h1 h2 => hQ w' ?_ h2)
          rw [gx_dd (show i < ds.length by omega)]
          unfold sp_ch
          rw [if_neg hag]
          exact h1
        · have hag : sp_agb (ds.getD i ([], [])).1 (Rr ++ (ds.getD i ([], [])).2) = true := by cases hg : sp_agb (ds.getD i ([], [])).1 (Rr ++ (ds.getD i ([], [])).2) <;> simp_all
          refine gx_aload_n d_Hunt_goOn_88 rfl ?_
          refine gx_iload_n d_Hunt_goOn_89 rfl ?_
          refine gx_iload_n d_Hunt_goOn_90 rfl ?_
          refine gx_aload_n d_Hunt_goOn_91 rfl ?_
          refine gx_iload_n d_Hunt_goOn_92 rfl ?_
          refine gx_cV1 lk_Hunt_47 d_Hunt_goOn_93 (ct_Box_get hb1 (show i < ds.length by omega) hd60) (Or.inl ⟨_, hb1.1⟩) (by omega) rfl rfl (Nat.le_of_ble_eq_true rfl) ?_
          refine gx_cVr lk_Hunt_53 d_Hunt_goOn_96 (ct_keep hz0 hD hu hl ⟨by omega, by omega, by omega⟩ (by omega) (hfit i (by omega) hag) ha0 rfl rfl) (Or.inl ⟨_, hzr.1⟩) (by omega) rfl rfl (Nat.le_of_ble_eq_true rfl) (fun r2 w2 hq => ?_)
          obtain ⟨rfl, hz2, k2⟩ := hq
          refine gx_iincN (n := 1) d_Hunt_goOn_99 rfl (by decide) (Nat.le_of_ble_eq_true rfl) rfl ?_
          refine gx_goto (tgt := 58) d_Hunt_goOn_102 (by decide) ?_
          refine ih (i + 1) _ w2 (by omega) (hk.trans k2) hz2 (by simp; omega) (by omega) (fun w' h1 h2 => hQ w' ?_ h2)
          rw [gx_dd (show i < ds.length by omega)]
          unfold sp_ch
          rw [if_pos hag]
          rw [gx_qe ha0, List.append_assoc, List.singleton_append] at h1
          exact h1
def sp_nq (cap : Nat) (ds : List (List Nat × List Nat)) (a0 : Nat) (q : List sp_E) : List sp_E := if (q.getD a0 sp_e0).2.2.2.length ≤ 12 then (q ++ sp_ch a0 (q.getD a0 sp_e0).2.2.1 (q.getD a0 sp_e0).2.2.2 0 ds).take cap else q
theorem ct_goOn {w : gx_W} {z a0 x : Nat} {lk : Int32} {op : List Nat} {q : List sp_E} {ds : List (List Nat × List Nat)} {fo : Nat → Nat} (hz0 : hnAt w z q lk op) (hb0 : bxOk w x ds fo) (hxz : x + 303 ≤ z) (ha0 : a0 < q.length) (hRs : gx_sm (q.getD a0 sp_e0).2.2.2) (hRc : 0 < (q.getD a0 sp_e0).2.2.2.count 35) (hRl : (q.getD a0 sp_e0).2.2.2.length < 65536) (hds : ∀ p ∈ ds, dmP p) : gx_Ct M_Hunt_goOn 4 0 0 [.ref z, .int (nI a0), .ref x] w (fun v w' => v = none ∧ (∃ op', hnAt w' z (sp_nq 401 ds a0 q) lk op') ∧ gx_kp w w' z (z + 8)) := by
  refine gx_ct (L := [some (.ref z), some (.int (nI a0)), some (.ref x), none]) (by decide) (Nat.le_of_ble_eq_true rfl) rfl ?_
  have hz1 := hz0
  obtain ⟨hq401, f1, f2, f3, f4, f5, hz, hF⟩ := hz0
  obtain ⟨-, -, -, h4, h5⟩ := hF a0 ha0
  refine gx_aload_n d_Hunt_goOn_0 rfl ?_
  refine gx_get fl_Hunt_21 d_Hunt_goOn_1 hz.1 rfl ?_
  refine gx_iload_n d_Hunt_goOn_4 rfl ?_
  refine gx_iald d_Hunt_goOn_5 hz.2.2.2.2.1 (by omega) (by omega) ?_
  refine gx_top h4 ?_
  refine gx_bipush d_Hunt_goOn_6 (nI 12) (by decide) ?_
  refine gx_icmp_leN (by omega) (by omega) (tgt := 12) d_Hunt_goOn_8 (by decide) (fun h8 => ?_) (fun h8 => ?_)
  · rw [show sp_nq 401 ds a0 q = (q ++ sp_ch a0 (q.getD a0 sp_e0).2.2.1 (q.getD a0 sp_e0).2.2.2 0 ds).take 401 from if_pos h8]
    refine gx_aload_n d_Hunt_goOn_12 rfl ?_
    refine gx_get fl_Hunt_33 d_Hunt_goOn_13 hz.1 rfl ?_
    refine gx_cV0 lk_Hunt_44 d_Hunt_goOn_16 (ct_Word_empty hz.2.2.2.2.2.2) (Or.inr ⟨_, _, hz.2.2.2.2.2.2⟩) (by omega) rfl rfl (Nat.le_of_ble_eq_true rfl) ?_
    refine gx_iconst d_Hunt_goOn_19 (nI 0) (by decide) ?_
    refine gx_istore_n d_Hunt_goOn_20 (Nat.le_of_ble_eq_true rfl) rfl ?_
    have k1 : gx_kp w (gx_st w (z + 6) (gx_bx 0 12 [])) z (z + 8) := gx_kp.st (by omega) (by omega)
    refine lp_goOn1 ha0 hq401 h8 hRs h4 h5 ((q.getD a0 sp_e0).2.2.2.length + 1) 0 _ (by omega) (by rw [List.take_zero]; exact hz.so []) (Nat.zero_le _) (fun w2 hz2 k2 => ?_)
    refine gx_iconst d_Hunt_goOn_56 (nI 0) (by decide) ?_
    refine gx_istore_n d_Hunt_goOn_57 (Nat.le_of_ble_eq_true rfl) rfl ?_
    refine lp_goOn2 hb0 hxz (fun i hi hag => (dm_fit hRc (hds _ (gx_ddm hi)) hag).1) (ds.length + 1) 0 q w2 (by omega) (k1.trans k2) ⟨hq401, f1, f2, f3, f4, f5, hz2, hF⟩ ha0 (Nat.zero_le _) (fun w3 hz3 k3 => ?_)
    exact ⟨rfl, ⟨_, by simpa using hz3⟩, k3⟩
  · rw [show sp_nq 401 ds a0 q = q from if_neg (by omega)]
    refine gx_return rfl d_Hunt_goOn_11 ?_
    exact ⟨rfl, ⟨op, hz1⟩, gx_kp.rf⟩
def sp_lk (cap : Nat) (ds : List (List Nat × List Nat)) : Nat → Nat → List sp_E → Nat × Nat × List sp_E
  | 0, a0, q => (if a0 < q.length then 2 else 0, a0, q)
  | n + 1, a0, q => if a0 < q.length then (if (q.getD a0 sp_e0).2.2.2.length = 0 then (1, a0 + 1, q) else sp_lk cap ds n (a0 + 1) (sp_nq cap ds a0 q)) else (0, a0, q)
def sp_qok (q : List sp_E) : Prop := ∀ e ∈ q, sp_ge e ∧ gx_sm e.2.2.2 ∧ e.2.2.2.length < 65536
theorem sp_ch_sm {a0 sz : Nat} {Rr : List Nat} (hR : gx_sm Rr) (hRl : Rr.length ≤ 12) : ∀ (ds : List (List Nat × List Nat)) (d : Nat), (∀ p ∈ ds, gx_sm p.2 ∧ p.2.length ≤ 7) → ∀ e ∈ sp_ch a0 sz Rr d ds, gx_sm e.2.2.2 ∧ e.2.2.2.length < 65536
  | [], d, _, e, he => by simp [sp_ch] at he
  | (u, l) :: t, d, hd, e, he => by
    unfold sp_ch at he
    have ih := sp_ch_sm (a0 := a0) (sz := sz) hR hRl t (d + 1) (fun p hp => hd p (List.mem_cons_of_mem _ hp))
    have h7 := hd _ List.mem_cons_self
    by_cases ha : sp_agb u (Rr ++ l) = true
    · rw [if_pos ha] at he
      rcases List.mem_cons.mp he with h1 | h1
      · rw [h1]
        refine ⟨fun c hc => gx_sm_app hR h7.1 c (List.mem_of_mem_drop hc), ?_⟩
        simp only [List.length_drop, List.length_append]
        have := h7.2
        simp only at this
        omega
      · exact ih e h1
    · rw [if_neg ha] at he
      exact ih e he
theorem sp_nq_ok {cap : Nat} {ds : List (List Nat × List Nat)} {a0 : Nat} {q : List sp_E} (hq : sp_qok q) (ha : a0 < q.length) (hne : (q.getD a0 sp_e0).2.2.2.length ≠ 0) (hds : ∀ p ∈ ds, dmP p) (hdl : ∀ p ∈ ds, gx_sm p.2 ∧ p.2.length ≤ 7) : sp_qok (sp_nq cap ds a0 q) := by
  have he := hq _ (gx_qm ha)
  unfold sp_nq
  split
  · rename_i h12
    intro e hm
    rcases List.mem_append.mp (List.mem_of_mem_take hm) with h1 | h1
    · exact hq e h1
    · have hc : 0 < (q.getD a0 sp_e0).2.2.2.count 35 := by
        rcases he.1 with g | g
        · rw [g] at hne; exact absurd rfl hne
        · exact g
      have h2 := sp_ch_sm he.2.1 h12 ds 0 hdl e h1
      exact ⟨sp_ch_ge hc ds 0 hds e h1, h2.1, h2.2⟩
  · exact hq
theorem d_Hunt_look_0 : decode prog_4_method_4_code 0 = .ok (.aload_n 0, 1) := by decide +kernel
theorem d_Hunt_look_1 : decode prog_4_method_4_code 1 = .ok (.iconst 0, 1) := by decide +kernel
theorem d_Hunt_look_2 : decode prog_4_method_4_code 2 = .ok (.putfield 37, 3) := by decide +kernel
theorem d_Hunt_look_5 : decode prog_4_method_4_code 5 = .ok (.aload_n 0, 1) := by decide +kernel
theorem d_Hunt_look_6 : decode prog_4_method_4_code 6 = .ok (.iconst 0, 1) := by decide +kernel
theorem d_Hunt_look_7 : decode prog_4_method_4_code 7 = .ok (.putfield 41, 3) := by decide +kernel
theorem d_Hunt_look_10 : decode prog_4_method_4_code 10 = .ok (.aload_n 0, 1) := by decide +kernel
theorem d_Hunt_look_11 : decode prog_4_method_4_code 11 = .ok (.getfield 33, 3) := by decide +kernel
theorem d_Hunt_look_14 : decode prog_4_method_4_code 14 = .ok (.invokevirtual 44, 3) := by decide +kernel
theorem d_Hunt_look_17 : decode prog_4_method_4_code 17 = .ok (.aload_n 0, 1) := by decide +kernel
theorem d_Hunt_look_18 : decode prog_4_method_4_code 18 = .ok (.iconst (-1), 1) := by decide +kernel
theorem d_Hunt_look_19 : decode prog_4_method_4_code 19 = .ok (.iconst 0, 1) := by decide +kernel
theorem d_Hunt_look_20 : decode prog_4_method_4_code 20 = .ok (.aload_n 1, 1) := by decide +kernel
theorem d_Hunt_look_21 : decode prog_4_method_4_code 21 = .ok (.iconst 0, 1) := by decide +kernel
theorem d_Hunt_look_22 : decode prog_4_method_4_code 22 = .ok (.invokevirtual 47, 3) := by decide +kernel
theorem d_Hunt_look_25 : decode prog_4_method_4_code 25 = .ok (.invokevirtual 53, 3) := by decide +kernel
theorem d_Hunt_look_28 : decode prog_4_method_4_code 28 = .ok (.iconst 0, 1) := by decide +kernel
theorem d_Hunt_look_29 : decode prog_4_method_4_code 29 = .ok (.istore_n 3, 1) := by decide +kernel
theorem d_Hunt_look_30 : decode prog_4_method_4_code 30 = .ok (.iload_n 3, 1) := by decide +kernel
theorem d_Hunt_look_31 : decode prog_4_method_4_code 31 = .ok (.aload_n 0, 1) := by decide +kernel
theorem d_Hunt_look_32 : decode prog_4_method_4_code 32 = .ok (.getfield 41, 3) := by decide +kernel
theorem d_Hunt_look_35 : decode prog_4_method_4_code 35 = .ok (.if_icmp .ge 38, 3) := by decide +kernel
theorem d_Hunt_look_38 : decode prog_4_method_4_code 38 = .ok (.iload_n 3, 1) := by decide +kernel
theorem d_Hunt_look_39 : decode prog_4_method_4_code 39 = .ok (.iload_n 2, 1) := by decide +kernel
theorem d_Hunt_look_40 : decode prog_4_method_4_code 40 = .ok (.if_icmp .ge 33, 3) := by decide +kernel
theorem d_Hunt_look_43 : decode prog_4_method_4_code 43 = .ok (.aload_n 0, 1) := by decide +kernel
theorem d_Hunt_look_44 : decode prog_4_method_4_code 44 = .ok (.iload_n 3, 1) := by decide +kernel
theorem d_Hunt_look_45 : decode prog_4_method_4_code 45 = .ok (.iconst 1, 1) := by decide +kernel
theorem d_Hunt_look_46 : decode prog_4_method_4_code 46 = .ok (.iadd, 1) := by decide +kernel
theorem d_Hunt_look_47 : decode prog_4_method_4_code 47 = .ok (.putfield 37, 3) := by decide +kernel
theorem d_Hunt_look_50 : decode prog_4_method_4_code 50 = .ok (.aload_n 0, 1) := by decide +kernel
theorem d_Hunt_look_51 : decode prog_4_method_4_code 51 = .ok (.getfield 21, 3) := by decide +kernel
theorem d_Hunt_look_54 : decode prog_4_method_4_code 54 = .ok (.iload_n 3, 1) := by decide +kernel
theorem d_Hunt_look_55 : decode prog_4_method_4_code 55 = .ok (.iaload, 1) := by decide +kernel
theorem d_Hunt_look_56 : decode prog_4_method_4_code 56 = .ok (.ifCond .ne 5, 3) := by decide +kernel
theorem d_Hunt_look_59 : decode prog_4_method_4_code 59 = .ok (.iconst 1, 1) := by decide +kernel
theorem d_Hunt_look_60 : decode prog_4_method_4_code 60 = .ok (.ireturn, 1) := by decide +kernel
theorem d_Hunt_look_61 : decode prog_4_method_4_code 61 = .ok (.aload_n 0, 1) := by decide +kernel
theorem d_Hunt_look_62 : decode prog_4_method_4_code 62 = .ok (.iload_n 3, 1) := by decide +kernel
theorem d_Hunt_look_63 : decode prog_4_method_4_code 63 = .ok (.aload_n 1, 1) := by decide +kernel
theorem d_Hunt_look_64 : decode prog_4_method_4_code 64 = .ok (.invokevirtual 57, 3) := by decide +kernel
theorem d_Hunt_look_67 : decode prog_4_method_4_code 67 = .ok (.iinc 3 1, 3) := by decide +kernel
theorem d_Hunt_look_70 : decode prog_4_method_4_code 70 = .ok (.goto (-40), 3) := by decide +kernel
theorem d_Hunt_look_73 : decode prog_4_method_4_code 73 = .ok (.aload_n 0, 1) := by decide +kernel
theorem d_Hunt_look_74 : decode prog_4_method_4_code 74 = .ok (.getfield 37, 3) := by decide +kernel
theorem d_Hunt_look_77 : decode prog_4_method_4_code 77 = .ok (.aload_n 0, 1) := by decide +kernel
theorem d_Hunt_look_78 : decode prog_4_method_4_code 78 = .ok (.getfield 41, 3) := by decide +kernel
theorem d_Hunt_look_81 : decode prog_4_method_4_code 81 = .ok (.if_icmp .ge 7, 3) := by decide +kernel
theorem d_Hunt_look_84 : decode prog_4_method_4_code 84 = .ok (.iconst 2, 1) := by decide +kernel
theorem d_Hunt_look_85 : decode prog_4_method_4_code 85 = .ok (.goto 4, 3) := by decide +kernel
theorem d_Hunt_look_88 : decode prog_4_method_4_code 88 = .ok (.iconst 0, 1) := by decide +kernel
theorem d_Hunt_look_89 : decode prog_4_method_4_code 89 = .ok (.ireturn, 1) := by decide +kernel
theorem lp_look {Q : gx_P} {w0 : gx_W} {z x fuel : Nat} {ds : List (List Nat × List Nat)} {fo : Nat → Nat} (hb0 : bxOk w0 x ds fo) (hxz : x + 303 ≤ z) (hfu0 : fuel ≤ 400) (hds : ∀ p ∈ ds, dmP p) (hdl : ∀ p ∈ ds, gx_sm p.2 ∧ p.2.length ≤ 7) : ∀ (fu : Nat) (i : Nat) (q : List sp_E) (op : List Nat) (w : gx_W), fuel - i < fu → (gx_kp w0 w z (z + 8)) → (hnAt w z q (nI i) op) → (sp_qok q) → (i ≤ fuel) → (∀ w', (∃ op', hnAt w' z (sp_lk 401 ds (fuel - i) i q).2.2 (nI (sp_lk 401 ds (fuel - i) i q).2.1) op') → gx_kp w0 w' z (z + 8) → Q.1 (some (.int (nI (sp_lk 401 ds (fuel - i) i q).1))) w') → gx_X (fun _ _ => True) M_Hunt_look 5 Q 30 [some (.ref z), some (.ref x), some (.int (nI fuel)), some (.int (nI i))] [] w (0, 0) := by
  intro fu
  induction fu with
  | zero => intro i q op w hfu; exact absurd hfu (Nat.not_lt_zero _)
  | succ fu ih =>
    intro i q op w hfu hk hz hq hi hQ
    have hz0 := hz
    obtain ⟨hq401, f1, f2, f3, f4, f5, hzr, hF⟩ := hz
    refine gx_iload_n d_Hunt_look_30 rfl ?_
    refine gx_aload_n d_Hunt_look_31 rfl ?_
    refine gx_get fl_Hunt_41 d_Hunt_look_32 hzr.1 rfl ?_
    refine gx_icmp_geN (by omega) (by omega) (tgt := 73) d_Hunt_look_35 (by decide) (fun h35 => ?_) (fun h35 => ?_)
    · have e0 : sp_lk 401 ds (fuel - i) i q = (0, i, q) := by
        cases fuel - i with
        | zero => simp only [sp_lk, if_neg (show ¬ i < q.length by omega)]
        | succ m => simp only [sp_lk, if_neg (show ¬ i < q.length by omega)]
      rw [e0] at hQ
      refine gx_aload_n d_Hunt_look_73 rfl ?_
      refine gx_get fl_Hunt_37 d_Hunt_look_74 hzr.1 rfl ?_
      refine gx_aload_n d_Hunt_look_77 rfl ?_
      refine gx_get fl_Hunt_41 d_Hunt_look_78 hzr.1 rfl ?_
      refine gx_icmp_geN (by omega) (by omega) (tgt := 88) d_Hunt_look_81 (by decide) (fun h81 => ?_) (fun h81 => ?_)
      · refine gx_iconst d_Hunt_look_88 (nI 0) (by decide) ?_
        refine gx_ireturn rfl d_Hunt_look_89 ?_
        exact hQ w ⟨op, hz0⟩ hk
      · exact absurd h35 h81
    · have h35b : i < q.length := by omega
      refine gx_iload_n d_Hunt_look_38 rfl ?_
      refine gx_iload_n d_Hunt_look_39 rfl ?_
      refine gx_icmp_geN (by omega) (by omega) (tgt := 73) d_Hunt_look_40 (by decide) (fun h40 => ?_) (fun h40 => ?_)
      · have e0 : sp_lk 401 ds (fuel - i) i q = (2, i, q) := by
          rw [show fuel - i = 0 by omega]
          simp only [sp_lk, if_pos h35b]
        rw [e0] at hQ
        refine gx_aload_n d_Hunt_look_73 rfl ?_
        refine gx_get fl_Hunt_37 d_Hunt_look_74 hzr.1 rfl ?_
        refine gx_aload_n d_Hunt_look_77 rfl ?_
        refine gx_get fl_Hunt_41 d_Hunt_look_78 hzr.1 rfl ?_
        refine gx_icmp_geN (by omega) (by omega) (tgt := 88) d_Hunt_look_81 (by decide) (fun h81 => ?_) (fun h81 => ?_)
        · exact absurd h81 (by omega)
        · refine gx_iconst d_Hunt_look_84 (nI 2) (by decide) ?_
          refine gx_goto (tgt := 89) d_Hunt_look_85 (by decide) ?_
          refine gx_ireturn rfl d_Hunt_look_89 ?_
          exact hQ w ⟨op, hz0⟩ hk
      · refine gx_aload_n d_Hunt_look_43 rfl ?_
        refine gx_iload_n d_Hunt_look_44 rfl ?_
        refine gx_iconst d_Hunt_look_45 (nI 1) (by decide) ?_
        refine gx_iaddN d_Hunt_look_46 ?_
        refine gx_put fp_Hunt_37 (fun h => by cases h) d_Hunt_look_47 hzr.1 rfl rfl (Nat.le_of_ble_eq_true rfl) ?_
        have z1 := hzr.s0 q.length (nI (i + 1))
        have k1 : gx_kp w _ z (z + 8) := gx_kp.st (a := z) (x := gx_ob 7 [.ref (z + 1), .ref (z + 2), .ref (z + 3), .ref (z + 4), .ref (z + 5), .ref (z + 6), .int (nI q.length), .int (nI (i + 1))]) (by omega) (by omega)
        refine gx_w (w' := gx_st w z (gx_ob 7 [.ref (z + 1), .ref (z + 2), .ref (z + 3), .ref (z + 4), .ref (z + 5), .ref (z + 6), .int (nI q.length), .int (nI (i + 1))])) rfl ?_
        refine gx_aload_n d_Hunt_look_50 rfl ?_
        refine gx_get fl_Hunt_21 d_Hunt_look_51 z1.1 rfl ?_
        refine gx_iload_n d_Hunt_look_54 rfl ?_
        have hqi := hq _ (gx_qm h35b)
        refine gx_iald d_Hunt_look_55 z1.2.2.2.2.1 (by omega) (by omega) ?_
        refine gx_top (hF i h35b).2.2.2.1 ?_
        have hrl := hqi.2.2
        have ef : fuel - i = (fuel - (i + 1)) + 1 := by omega
        rw [ef] at hQ
        simp only [sp_lk, if_pos h35b] at hQ
        refine gx_if_neN (by omega) (tgt := 61) d_Hunt_look_56 (by decide) (fun h56 => ?_) (fun h56 => ?_)
        · rw [if_neg h56] at hQ
          refine gx_aload_n d_Hunt_look_61 rfl ?_
          refine gx_iload_n d_Hunt_look_62 rfl ?_
          refine gx_aload_n d_Hunt_look_63 rfl ?_
          refine gx_cVr lk_Hunt_57 d_Hunt_look_64 (ct_goOn (z := z) ⟨hq401, f1, f2, f3, f4, f5, z1, hF⟩ (hb0.kept (hk.trans k1) (by omega)) hxz h35b hqi.2.1 (by rcases hqi.1 with g | g; (rw [g] at h56; exact absurd rfl h56); exact g) hrl hds) (Or.inl ⟨_, z1.1⟩) (by omega) rfl rfl (Nat.le_of_ble_eq_true rfl) (fun r2 w2 hq => ?_)
          obtain ⟨rfl, ⟨op2, hz2⟩, k2⟩ := hq
          refine gx_iincN (n := 1) d_Hunt_look_67 rfl (by decide) (Nat.le_of_ble_eq_true rfl) rfl ?_
          refine gx_goto (tgt := 30) d_Hunt_look_70 (by decide) ?_
          exact ih (i + 1) _ op2 w2 (by omega) ((hk.trans k1).trans k2) hz2 (sp_nq_ok hq h35b h56 hds hdl) (by omega) hQ
        · rw [if_pos h56] at hQ
          refine gx_iconst d_Hunt_look_59 (nI 1) (by decide) ?_
          refine gx_ireturn rfl d_Hunt_look_60 ?_
          exact hQ _ ⟨op, hq401, f1, f2, f3, f4, f5, z1, hF⟩ (hk.trans k1)
theorem ct_look {w : gx_W} {z x fuel : Nat} {lk : Int32} {op : List Nat} {q : List sp_E} {ds : List (List Nat × List Nat)} {fo : Nat → Nat} {u0 l0 : List Nat} (hz0 : hnAt w z q lk op) (hb0 : bxOk w x ds fo) (hxz : x + 303 ≤ z) (hfu : fuel ≤ 400) (hds : ∀ p ∈ ds, dmP p) (hdl : ∀ p ∈ ds, gx_sm p.2 ∧ p.2.length ≤ 7) (hd0 : 0 < ds.length) (he0 : ds.getD 0 ([], []) = (u0, l0)) (hul : u0.length ≤ l0.length) (hge : 0 < (l0.drop u0.length).count 35) : gx_Ct M_Hunt_look 5 0 0 [.ref z, .ref x, .int (nI fuel)] w (fun v w' => v = some (.int (nI (sp_lk 401 ds fuel 0 [(-1, 0, 1, l0.drop u0.length)]).1)) ∧ (∃ op', hnAt w' z (sp_lk 401 ds fuel 0 [(-1, 0, 1, l0.drop u0.length)]).2.2 (nI (sp_lk 401 ds fuel 0 [(-1, 0, 1, l0.drop u0.length)]).2.1) op') ∧ gx_kp w w' z (z + 8)) := by
  refine gx_ct (L := [some (.ref z), some (.ref x), some (.int (nI fuel)), none]) (by decide) (Nat.le_of_ble_eq_true rfl) rfl ?_
  obtain ⟨hq401, f1, f2, f3, f4, f5, hz, hF⟩ := hz0
  have hl7 := hdl _ (gx_ddm hd0)
  rw [he0] at hl7
  refine gx_aload_n d_Hunt_look_0 rfl ?_
  refine gx_iconst d_Hunt_look_1 (nI 0) (by decide) ?_
  refine gx_put fp_Hunt_37 (fun h => by cases h) d_Hunt_look_2 hz.1 rfl rfl (Nat.le_of_ble_eq_true rfl) ?_
  have z1 := hz.s0 q.length (nI 0)
  have k1 : gx_kp w _ z (z + 8) := gx_kp.st (a := z) (x := gx_ob 7 [.ref (z + 1), .ref (z + 2), .ref (z + 3), .ref (z + 4), .ref (z + 5), .ref (z + 6), .int (nI q.length), .int (nI 0)]) (by omega) (by omega)
  refine gx_w (w' := gx_st w z (gx_ob 7 [.ref (z + 1), .ref (z + 2), .ref (z + 3), .ref (z + 4), .ref (z + 5), .ref (z + 6), .int (nI q.length), .int (nI 0)])) rfl ?_
  refine gx_aload_n d_Hunt_look_5 rfl ?_
  refine gx_iconst d_Hunt_look_6 (nI 0) (by decide) ?_
  refine gx_put fp_Hunt_41 (fun h => by cases h) d_Hunt_look_7 z1.1 rfl rfl (Nat.le_of_ble_eq_true rfl) ?_
  have z2 := z1.s0 0 (nI 0)
  have k2 := k1.trans (gx_kp.st (w := gx_st w z (gx_ob 7 [.ref (z + 1), .ref (z + 2), .ref (z + 3), .ref (z + 4), .ref (z + 5), .ref (z + 6), .int (nI q.length), .int (nI 0)])) (a := z) (x := gx_ob 7 [.ref (z + 1), .ref (z + 2), .ref (z + 3), .ref (z + 4), .ref (z + 5), .ref (z + 6), .int (nI 0), .int (nI 0)]) (Nat.le_refl z) (show z < z + 8 by omega))
  refine gx_w (w' := gx_st (gx_st w z (gx_ob 7 [.ref (z + 1), .ref (z + 2), .ref (z + 3), .ref (z + 4), .ref (z + 5), .ref (z + 6), .int (nI q.length), .int (nI 0)])) z (gx_ob 7 [.ref (z + 1), .ref (z + 2), .ref (z + 3), .ref (z + 4), .ref (z + 5), .ref (z + 6), .int (nI 0), .int (nI 0)])) rfl ?_
  refine gx_aload_n d_Hunt_look_10 rfl ?_
  refine gx_get fl_Hunt_33 d_Hunt_look_11 z2.1 rfl ?_
  refine gx_cV0 lk_Hunt_44 d_Hunt_look_14 (ct_Word_empty z2.2.2.2.2.2.2) (Or.inr ⟨_, _, z2.2.2.2.2.2.2⟩) (by omega) rfl rfl (Nat.le_of_ble_eq_true rfl) ?_
  have z3 := z2.so []
  have k3 := k2.trans (gx_kp.st (w := gx_st (gx_st w z (gx_ob 7 [.ref (z + 1), .ref (z + 2), .ref (z + 3), .ref (z + 4), .ref (z + 5), .ref (z + 6), .int (nI q.length), .int (nI 0)])) z (gx_ob 7 [.ref (z + 1), .ref (z + 2), .ref (z + 3), .ref (z + 4), .ref (z + 5), .ref (z + 6), .int (nI 0), .int (nI 0)])) (a := z + 6) (x := gx_bx 0 12 []) (show z ≤ z + 6 by omega) (show z + 6 < z + 8 by omega))
  generalize hwg : gx_st _ (z + 6) (gx_bx 0 12 []) = w3 at z3 k3 ⊢
  obtain ⟨hd60, U, V, hb1, hd⟩ := hb0.kept k3 (by omega)
  obtain ⟨hD, hu, hl⟩ := hb1.2.2.2 0 (by omega)
  rw [(hd 0 hd0).1, he0] at hu
  rw [(hd 0 hd0).2, he0] at hl
  refine gx_aload_n d_Hunt_look_17 rfl ?_
  refine gx_iconst d_Hunt_look_18 (-1) (by decide) ?_
  refine gx_iconst d_Hunt_look_19 (nI 0) (by decide) ?_
  refine gx_aload_n d_Hunt_look_20 rfl ?_
  refine gx_iconst d_Hunt_look_21 (nI 0) (by decide) ?_
  refine gx_cV1 lk_Hunt_47 d_Hunt_look_22 (ct_Box_get hb1 hd0 hd60) (Or.inl ⟨_, hb1.1⟩) (by omega) rfl rfl (Nat.le_of_ble_eq_true rfl) ?_
  refine gx_cVr lk_Hunt_53 d_Hunt_look_25 (ct_keep_root (q := []) (sz := 1) (op := []) ⟨by simp, f1, f2, f3, f4, f5, z3, fun i hi => absurd hi (Nat.not_lt_zero i)⟩ hD hu hl ⟨by omega, by omega, by omega⟩ (by simp) (by simpa using hul) rfl rfl) (Or.inl ⟨_, z3.1⟩) (by omega) rfl rfl (Nat.le_of_ble_eq_true rfl) (fun r2 w4 hq => ?_)
  obtain ⟨rfl, hz4, k4⟩ := hq
  refine gx_iconst d_Hunt_look_28 (nI 0) (by decide) ?_
  refine gx_istore_n d_Hunt_look_29 (Nat.le_of_ble_eq_true rfl) rfl ?_
  refine lp_look hb0 hxz hfu hds hdl (fuel + 1) 0 _ [] w4 (by omega) (k3.trans k4) hz4 (fun e he => ?_) (Nat.zero_le _) (fun w5 h5 k5 => ?_)
  · rw [List.nil_append] at he
    rw [List.mem_singleton.mp he]
    refine ⟨Or.inr (by simpa using hge), fun c hc => hl7.1 c (List.mem_of_mem_drop (by simpa using hc)), ?_⟩
    simp only [List.nil_append, List.length_drop]
    have := hl7.2
    simp only at this
    omega
  · simp only [List.nil_append, Nat.sub_zero] at h5 ⊢
    first
      | exact ⟨rfl, h5, k5⟩
      | exact ⟨trivial, h5, k5⟩
