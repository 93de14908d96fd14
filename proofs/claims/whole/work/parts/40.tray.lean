/-! the reference: the words of the tray, tray, back, trees -/
def moU (j : Nat) (A A' : Nat → Nat → Nat) (l : List Nat) : Prop := (∀ q, q ≠ j → A' q = A q) ∧ ∀ i, i < l.length → A' j i = l.getD i 0
theorem moU.nil {j : Nat} {A : Nat → Nat → Nat} : moU j A A [] := ⟨fun _ _ => rfl, fun i hi => absurd hi (Nat.not_lt_zero _)⟩
theorem moU.push {j : Nat} {A A' : Nat → Nat → Nat} {l : List Nat} {x : Nat} (h : moU j A A' l) : moU j A (uA A' j l.length x) (l ++ [x]) := by
  refine ⟨fun q hq => by rw [uA_oj hq]; exact h.1 q hq, fun i hi => ?_⟩
  rw [List.length_append, List.length_singleton] at hi
  by_cases e : i = l.length
  · subst e; rw [uA_s, gx_gd_mid]
  · rw [uA_i e, h.2 i (by omega), gx_gd_app (by omega)]
theorem moU.at {j : Nat} {A A' : Nat → Nat → Nat} {l : List Nat} (h : moU j A A' l) {q : Nat} (hq : q ≠ j) (i : Nat) : A' q i = A q i := congrFun (h.1 q hq) i
theorem agb_iff : ∀ (l k : List Nat), sp_agb l k = true ↔ ∀ i, i < l.length → i < k.length → l.getD i 0 = k.getD i 0
  | [], k => by simp [sp_agb_nil]
  | a :: l, [] => by simp [sp_agb_nil2]
  | a :: l, b :: k => by
    have ih := agb_iff l k
    simp only [sp_agb, Bool.and_eq_true, beq_iff_eq]
    constructor
    · rintro ⟨rfl, h⟩ i h1 h2
      cases i with
      | zero => rfl
      | succ i => simp only [List.getD_cons_succ]; exact ih.mp h i (by simpa using h1) (by simpa using h2)
    · intro h
      refine ⟨by simpa using h 0 (by simp) (by simp), ih.mpr fun i h1 h2 => ?_⟩
      simpa using h (i + 1) (by simpa using h1) (by simpa using h2)
theorem gx_exl {l k : List Nat} (h : l.length = k.length) : (l = k ↔ ∀ i, i < l.length → l.getD i 0 = k.getD i 0) := by
  rw [← sp_agb_eq h, agb_iff]
  exact ⟨fun g i hi => g i hi (by omega), fun g i hi _ => g i hi⟩
theorem d_Mo_word_0 : decode prog_11_method_32_code 0 = .ok (.iconst 0, 1) := by decide +kernel
theorem d_Mo_word_1 : decode prog_11_method_32_code 1 = .ok (.istore_n 2, 1) := by decide +kernel
theorem d_Mo_word_2 : decode prog_11_method_32_code 2 = .ok (.iconst 0, 1) := by decide +kernel
theorem d_Mo_word_3 : decode prog_11_method_32_code 3 = .ok (.istore_n 3, 1) := by decide +kernel
theorem d_Mo_word_4 : decode prog_11_method_32_code 4 = .ok (.iload_n 3, 1) := by decide +kernel
theorem d_Mo_word_5 : decode prog_11_method_32_code 5 = .ok (.aload_n 0, 1) := by decide +kernel
theorem d_Mo_word_6 : decode prog_11_method_32_code 6 = .ok (.getfield 129, 3) := by decide +kernel
theorem d_Mo_word_9 : decode prog_11_method_32_code 9 = .ok (.if_icmp .ge 103, 3) := by decide +kernel
theorem d_Mo_word_12 : decode prog_11_method_32_code 12 = .ok (.aload_n 0, 1) := by decide +kernel
theorem d_Mo_word_13 : decode prog_11_method_32_code 13 = .ok (.getfield 47, 3) := by decide +kernel
theorem d_Mo_word_16 : decode prog_11_method_32_code 16 = .ok (.iload_n 3, 1) := by decide +kernel
theorem d_Mo_word_17 : decode prog_11_method_32_code 17 = .ok (.iaload, 1) := by decide +kernel
theorem d_Mo_word_18 : decode prog_11_method_32_code 18 = .ok (.istore 4, 2) := by decide +kernel
theorem d_Mo_word_20 : decode prog_11_method_32_code 20 = .ok (.iload_n 1, 1) := by decide +kernel
theorem d_Mo_word_21 : decode prog_11_method_32_code 21 = .ok (.ifCond .eq 13, 3) := by decide +kernel
theorem d_Mo_word_24 : decode prog_11_method_32_code 24 = .ok (.aload_n 0, 1) := by decide +kernel
theorem d_Mo_word_25 : decode prog_11_method_32_code 25 = .ok (.getfield 32, 3) := by decide +kernel
theorem d_Mo_word_28 : decode prog_11_method_32_code 28 = .ok (.iload 4, 2) := by decide +kernel
theorem d_Mo_word_30 : decode prog_11_method_32_code 30 = .ok (.iaload, 1) := by decide +kernel
theorem d_Mo_word_31 : decode prog_11_method_32_code 31 = .ok (.goto 10, 3) := by decide +kernel
theorem d_Mo_word_34 : decode prog_11_method_32_code 34 = .ok (.aload_n 0, 1) := by decide +kernel
theorem d_Mo_word_35 : decode prog_11_method_32_code 35 = .ok (.getfield 38, 3) := by decide +kernel
theorem d_Mo_word_38 : decode prog_11_method_32_code 38 = .ok (.iload 4, 2) := by decide +kernel
theorem d_Mo_word_40 : decode prog_11_method_32_code 40 = .ok (.iaload, 1) := by decide +kernel
theorem d_Mo_word_41 : decode prog_11_method_32_code 41 = .ok (.istore 5, 2) := by decide +kernel
theorem d_Mo_word_43 : decode prog_11_method_32_code 43 = .ok (.iconst 0, 1) := by decide +kernel
theorem d_Mo_word_44 : decode prog_11_method_32_code 44 = .ok (.istore 6, 2) := by decide +kernel
theorem d_Mo_word_46 : decode prog_11_method_32_code 46 = .ok (.iload 6, 2) := by decide +kernel
theorem d_Mo_word_48 : decode prog_11_method_32_code 48 = .ok (.iload 5, 2) := by decide +kernel
theorem d_Mo_word_50 : decode prog_11_method_32_code 50 = .ok (.if_icmp .ge 56, 3) := by decide +kernel
theorem d_Mo_word_53 : decode prog_11_method_32_code 53 = .ok (.iload_n 1, 1) := by decide +kernel
theorem d_Mo_word_54 : decode prog_11_method_32_code 54 = .ok (.ifCond .eq 24, 3) := by decide +kernel
theorem d_Mo_word_57 : decode prog_11_method_32_code 57 = .ok (.aload_n 0, 1) := by decide +kernel
theorem d_Mo_word_58 : decode prog_11_method_32_code 58 = .ok (.getfield 53, 3) := by decide +kernel
theorem d_Mo_word_61 : decode prog_11_method_32_code 61 = .ok (.iload_n 2, 1) := by decide +kernel
theorem d_Mo_word_62 : decode prog_11_method_32_code 62 = .ok (.aload_n 0, 1) := by decide +kernel
theorem d_Mo_word_63 : decode prog_11_method_32_code 63 = .ok (.getfield 35, 3) := by decide +kernel
theorem d_Mo_word_66 : decode prog_11_method_32_code 66 = .ok (.iconst 4, 1) := by decide +kernel
theorem d_Mo_word_67 : decode prog_11_method_32_code 67 = .ok (.iload 4, 2) := by decide +kernel
theorem d_Mo_word_69 : decode prog_11_method_32_code 69 = .ok (.imul, 1) := by decide +kernel
theorem d_Mo_word_70 : decode prog_11_method_32_code 70 = .ok (.iload 6, 2) := by decide +kernel
theorem d_Mo_word_72 : decode prog_11_method_32_code 72 = .ok (.iadd, 1) := by decide +kernel
theorem d_Mo_word_73 : decode prog_11_method_32_code 73 = .ok (.iaload, 1) := by decide +kernel
theorem d_Mo_word_74 : decode prog_11_method_32_code 74 = .ok (.iastore, 1) := by decide +kernel
theorem d_Mo_word_75 : decode prog_11_method_32_code 75 = .ok (.goto 22, 3) := by decide +kernel
theorem d_Mo_word_78 : decode prog_11_method_32_code 78 = .ok (.aload_n 0, 1) := by decide +kernel
theorem d_Mo_word_79 : decode prog_11_method_32_code 79 = .ok (.getfield 56, 3) := by decide +kernel
theorem d_Mo_word_82 : decode prog_11_method_32_code 82 = .ok (.iload_n 2, 1) := by decide +kernel
theorem d_Mo_word_83 : decode prog_11_method_32_code 83 = .ok (.aload_n 0, 1) := by decide +kernel
theorem d_Mo_word_84 : decode prog_11_method_32_code 84 = .ok (.getfield 41, 3) := by decide +kernel
theorem d_Mo_word_87 : decode prog_11_method_32_code 87 = .ok (.bipush 8, 2) := by decide +kernel
theorem d_Mo_word_89 : decode prog_11_method_32_code 89 = .ok (.iload 4, 2) := by decide +kernel
theorem d_Mo_word_91 : decode prog_11_method_32_code 91 = .ok (.imul, 1) := by decide +kernel
theorem d_Mo_word_92 : decode prog_11_method_32_code 92 = .ok (.iload 6, 2) := by decide +kernel
theorem d_Mo_word_94 : decode prog_11_method_32_code 94 = .ok (.iadd, 1) := by decide +kernel
theorem d_Mo_word_95 : decode prog_11_method_32_code 95 = .ok (.iaload, 1) := by decide +kernel
theorem d_Mo_word_96 : decode prog_11_method_32_code 96 = .ok (.iastore, 1) := by decide +kernel
theorem d_Mo_word_97 : decode prog_11_method_32_code 97 = .ok (.iinc 2 1, 3) := by decide +kernel
theorem d_Mo_word_100 : decode prog_11_method_32_code 100 = .ok (.iinc 6 1, 3) := by decide +kernel
theorem d_Mo_word_103 : decode prog_11_method_32_code 103 = .ok (.goto (-57), 3) := by decide +kernel
theorem d_Mo_word_106 : decode prog_11_method_32_code 106 = .ok (.iinc 3 1, 3) := by decide +kernel
theorem d_Mo_word_109 : decode prog_11_method_32_code 109 = .ok (.goto (-105), 3) := by decide +kernel
theorem d_Mo_word_112 : decode prog_11_method_32_code 112 = .ok (.iload_n 2, 1) := by decide +kernel
theorem d_Mo_word_113 : decode prog_11_method_32_code 113 = .ok (.ireturn, 1) := by decide +kernel
theorem lm_w1 {Q : gx_P} {w : gx_W} {m : Nat} {I : Nat → Nat} {A : Nat → Nat → Nat} {ds : List (List Nat × List Nat)} {d k : Nat} {p0 : List Nat} (hds : moDs A ds) (hd : d < ds.length) (h60 : ds.length ≤ 60) (hp0 : p0.length ≤ 420) : ∀ (fu : Nat) (i : Nat) (p : List Nat) (A' : Nat → Nat → Nat), ((ds.getD d ([], [])).1).length - i < fu → (i ≤ ((ds.getD d ([], [])).1).length) → (p = p0 ++ ((ds.getD d ([], [])).1).take i) → (moU 15 A A' p) → (∀ A'' L6, moU 15 A A'' (p0 ++ ((ds.getD d ([], [])).1)) → gx_X (fun _ _ => True) M_Mo_word 1 Q 106 [some (.ref m), some (.int (nI 1)), some (.int (nI (p0 ++ ((ds.getD d ([], [])).1)).length)), some (.int (nI k)), some (.int (nI d)), some (.int (nI ((ds.getD d ([], [])).1).length)), L6] [] (gx_mo w m I A'') (0, 0)) → gx_X (fun _ _ => True) M_Mo_word 1 Q 46 [some (.ref m), some (.int (nI 1)), some (.int (nI p.length)), some (.int (nI k)), some (.int (nI d)), some (.int (nI ((ds.getD d ([], [])).1).length)), some (.int (nI i))] [] (gx_mo w m I A') (0, 0) := by
  intro fu
  induction fu with
  | zero => intro i p A' hfu; exact absurd hfu (Nat.not_lt_zero _)
  | succ fu ih =>
    intro i p A' hfu hi hp hU hX
    obtain ⟨⟨a1, a2⟩, ⟨a3, a4⟩, a5, a6⟩ := hds d hd
    have hpl : p.length = p0.length + i := by rw [hp, List.length_append, List.length_take]; omega
    refine gx_iload d_Mo_word_46 rfl ?_
    refine gx_iload d_Mo_word_48 rfl ?_
    refine gx_icmp_geN (by omega) (by omega) (tgt := 106) d_Mo_word_50 (by decide) (fun h50 => ?_) (fun h50 => ?_)
    · rw [show i = ((ds.getD d ([], [])).1).length by omega, List.take_of_length_le (Nat.le_refl _)] at hp
      subst hp
      exact hX _ _ hU
    · refine gx_iload_n d_Mo_word_53 rfl ?_
      refine gx_if_eqN (by omega) (tgt := 78) d_Mo_word_54 (by decide) (fun h54 => ?_) (fun h54 => ?_)
      · exact absurd h54 (by decide)
      · refine gx_aload_n d_Mo_word_57 rfl ?_
        refine gx_get fl_Mo_53 d_Mo_word_58 mo_o rfl ?_
        refine gx_iload_n d_Mo_word_61 rfl ?_
        refine gx_aload_n d_Mo_word_62 rfl ?_
        refine gx_get fl_Mo_35 d_Mo_word_63 mo_o rfl ?_
        refine gx_iconst d_Mo_word_66 (nI 4) (by decide) ?_
        refine gx_iload d_Mo_word_67 rfl ?_
        refine gx_imulN d_Mo_word_69 ?_
        refine gx_iload d_Mo_word_70 rfl ?_
        refine gx_iaddN d_Mo_word_72 ?_
        refine gx_iald d_Mo_word_73 mo_9 (by omega) (by omega) ?_
        rw [hU.at (q := 9) (by decide), a5 i (by omega)]
        refine gx_iast d_Mo_word_74 mo_15 (by omega) (by omega) ?_
        refine gx_w mo_s15 ?_
        refine gx_goto (tgt := 97) d_Mo_word_75 (by decide) ?_
        refine gx_iincN (n := 1) d_Mo_word_97 rfl (by decide) (Nat.le_of_ble_eq_true rfl) rfl ?_
        refine gx_iincN (n := 1) d_Mo_word_100 rfl (by decide) (Nat.le_of_ble_eq_true rfl) rfl ?_
        refine gx_goto (tgt := 46) d_Mo_word_103 (by decide) ?_
        refine gx_L (L' := [some (.ref m), some (.int (nI 1)), some (.int (nI (p ++ [((ds.getD d ([], [])).1).getD i 0]).length)), some (.int (nI k)), some (.int (nI d)), some (.int (nI ((ds.getD d ([], [])).1).length)), some (.int (nI (i + 1)))]) (by rw [List.length_append]; rfl) ?_
        refine ih (i + 1) _ _ (by omega) (by omega) ?_ hU.push hX
        rw [hp, gx_take_succ (by omega), List.append_assoc]
theorem lm_x1 {w : gx_W} {m : Nat} {I : Nat → Nat} {A : Nat → Nat → Nat} {ds : List (List Nat × List Nat)} {laid : List Nat} (hds : moDs A ds) (h60 : ds.length ≤ 60) (hla : moL (I 5) (A 13) laid) (hl60 : laid.length ≤ 60) (hld : ∀ d ∈ laid, d < ds.length) : ∀ (fu : Nat) (k : Nat) (p : List Nat) (A' : Nat → Nat → Nat) (L4 : Option Value) (L5 : Option Value) (L6 : Option Value), laid.length - k < fu → (k ≤ laid.length) → (p = (laid.take k).flatMap (fun d => (ds.getD d ([], [])).1)) → (p.length ≤ 3 * k) → (moU 15 A A' p) → gx_X (fun _ _ => True) M_Mo_word 1 (gx_nt (fun r w' => r = some (.int (nI (laid.flatMap (fun d => (ds.getD d ([], [])).1)).length)) ∧ ∃ A'', w' = gx_mo w m I A'' ∧ moU 15 A A'' (laid.flatMap (fun d => (ds.getD d ([], [])).1)))) 4 [some (.ref m), some (.int (nI 1)), some (.int (nI p.length)), some (.int (nI k)), L4, L5, L6] [] (gx_mo w m I A') (0, 0) := by
  intro fu
  induction fu with
  | zero => intro k p A' L4 L5 L6 hfu; exact absurd hfu (Nat.not_lt_zero _)
  | succ fu ih =>
    intro k p A' L4 L5 L6 hfu hk hp hpl hU
    refine gx_iload_n d_Mo_word_4 rfl ?_
    refine gx_aload_n d_Mo_word_5 rfl ?_
    refine gx_get fl_Mo_129 d_Mo_word_6 mo_o rfl ?_
    rw [hla.1]
    refine gx_icmp_geN (by omega) (by omega) (tgt := 112) d_Mo_word_9 (by decide) (fun h9 => ?_) (fun h9 => ?_)
    · refine gx_iload_n d_Mo_word_112 rfl ?_
      refine gx_ireturn rfl d_Mo_word_113 ?_
      rw [show k = laid.length by omega, List.take_of_length_le (Nat.le_refl _)] at hp
      subst hp
      exact ⟨rfl, _, rfl, hU⟩
    · have hd := hld _ (gx_gd_mem (show k < laid.length by omega))
      obtain ⟨⟨a1, a2⟩, ⟨a3, a4⟩, a5, a6⟩ := hds _ hd
      refine gx_aload_n d_Mo_word_12 rfl ?_
      refine gx_get fl_Mo_47 d_Mo_word_13 mo_o rfl ?_
      refine gx_iload_n d_Mo_word_16 rfl ?_
      refine gx_iald d_Mo_word_17 mo_13 (by omega) (by omega) ?_
      rw [hU.at (q := 13) (by decide), hla.2 k (by omega)]
      refine gx_istore d_Mo_word_18 (Nat.le_of_ble_eq_true rfl) rfl ?_
      refine gx_iload_n d_Mo_word_20 rfl ?_
      refine gx_if_eqN (by omega) (tgt := 34) d_Mo_word_21 (by decide) (fun h21 => ?_) (fun h21 => ?_)
      · exact absurd h21 (by decide)
      · refine gx_aload_n d_Mo_word_24 rfl ?_
        refine gx_get fl_Mo_32 d_Mo_word_25 mo_o rfl ?_
        refine gx_iload d_Mo_word_28 rfl ?_
        refine gx_iald d_Mo_word_30 mo_8 (by omega) (by omega) ?_
        rw [hU.at (q := 8) (by decide), a1]
        refine gx_goto (tgt := 41) d_Mo_word_31 (by decide) ?_
        refine gx_istore d_Mo_word_41 (Nat.le_of_ble_eq_true rfl) rfl ?_
        refine gx_iconst d_Mo_word_43 (nI 0) (by decide) ?_
        refine gx_istore d_Mo_word_44 (Nat.le_of_ble_eq_true rfl) rfl ?_
        refine lm_w1 (p0 := p) hds hd h60 (by omega) 8 0 p _ (by omega) (Nat.zero_le _) (by rw [List.take_zero, List.append_nil]) hU (fun A2 L9 hU2 => ?_)
        refine gx_iincN (n := 1) d_Mo_word_106 rfl (by decide) (Nat.le_of_ble_eq_true rfl) rfl ?_
        refine gx_goto (tgt := 4) d_Mo_word_109 (by decide) ?_
        refine ih (k + 1) _ _ _ _ _ (by omega) (by omega) ?_ (by rw [List.length_append]; omega) hU2
        rw [hp, gx_take_succ (by omega), List.flatMap_append]
        simp
theorem cm_wordU {w : gx_W} {m : Nat} {I : Nat → Nat} {A : Nat → Nat → Nat} {ds : List (List Nat × List Nat)} {laid : List Nat} (hds : moDs A ds) (h60 : ds.length ≤ 60) (hla : moL (I 5) (A 13) laid) (hl60 : laid.length ≤ 60) (hld : ∀ d ∈ laid, d < ds.length) : gx_Ct M_Mo_word 1 0 0 [.ref m, .int (nI 1)] (gx_mo w m I A) (fun r w' => r = some (.int (nI (sp_up ds laid).length)) ∧ ∃ A'', w' = gx_mo w m I A'' ∧ moU 15 A A'' (sp_up ds laid)) := by
  refine gx_ct (L := [some (.ref m), some (.int (nI 1)), none, none, none, none, none]) (by decide) (Nat.le_of_ble_eq_true rfl) rfl ?_
  refine gx_iconst d_Mo_word_0 (nI 0) (by decide) ?_
  refine gx_istore_n d_Mo_word_1 (Nat.le_of_ble_eq_true rfl) rfl ?_
  refine gx_iconst d_Mo_word_2 (nI 0) (by decide) ?_
  refine gx_istore_n d_Mo_word_3 (Nat.le_of_ble_eq_true rfl) rfl ?_
  exact lm_x1 hds h60 hla hl60 hld 61 0 [] A _ _ _ (by omega) (Nat.zero_le _) (by rw [List.take_zero]; rfl) (Nat.zero_le _) moU.nil
theorem lm_w0 {Q : gx_P} {w : gx_W} {m : Nat} {I : Nat → Nat} {A : Nat → Nat → Nat} {ds : List (List Nat × List Nat)} {d k : Nat} {p0 : List Nat} (hds : moDs A ds) (hd : d < ds.length) (h60 : ds.length ≤ 60) (hp0 : p0.length ≤ 420) : ∀ (fu : Nat) (i : Nat) (p : List Nat) (A' : Nat → Nat → Nat), ((ds.getD d ([], [])).2).length - i < fu → (i ≤ ((ds.getD d ([], [])).2).length) → (p = p0 ++ ((ds.getD d ([], [])).2).take i) → (moU 16 A A' p) → (∀ A'' L6, moU 16 A A'' (p0 ++ ((ds.getD d ([], [])).2)) → gx_X (fun _ _ => True) M_Mo_word 1 Q 106 [some (.ref m), some (.int (nI 0)), some (.int (nI (p0 ++ ((ds.getD d ([], [])).2)).length)), some (.int (nI k)), some (.int (nI d)), some (.int (nI ((ds.getD d ([], [])).2).length)), L6] [] (gx_mo w m I A'') (0, 0)) → gx_X (fun _ _ => True) M_Mo_word 1 Q 46 [some (.ref m), some (.int (nI 0)), some (.int (nI p.length)), some (.int (nI k)), some (.int (nI d)), some (.int (nI ((ds.getD d ([], [])).2).length)), some (.int (nI i))] [] (gx_mo w m I A') (0, 0) := by
  intro fu
  induction fu with
  | zero => intro i p A' hfu; exact absurd hfu (Nat.not_lt_zero _)
  | succ fu ih =>
    intro i p A' hfu hi hp hU hX
    obtain ⟨⟨a1, a2⟩, ⟨a3, a4⟩, a5, a6⟩ := hds d hd
    have hpl : p.length = p0.length + i := by rw [hp, List.length_append, List.length_take]; omega
    refine gx_iload d_Mo_word_46 rfl ?_
    refine gx_iload d_Mo_word_48 rfl ?_
    refine gx_icmp_geN (by omega) (by omega) (tgt := 106) d_Mo_word_50 (by decide) (fun h50 => ?_) (fun h50 => ?_)
    · rw [show i = ((ds.getD d ([], [])).2).length by omega, List.take_of_length_le (Nat.le_refl _)] at hp
      subst hp
      exact hX _ _ hU
    · refine gx_iload_n d_Mo_word_53 rfl ?_
      refine gx_if_eqN (by omega) (tgt := 78) d_Mo_word_54 (by decide) (fun h54 => ?_) (fun h54 => ?_)
      · refine gx_aload_n d_Mo_word_78 rfl ?_
        refine gx_get fl_Mo_56 d_Mo_word_79 mo_o rfl ?_
        refine gx_iload_n d_Mo_word_82 rfl ?_
        refine gx_aload_n d_Mo_word_83 rfl ?_
        refine gx_get fl_Mo_41 d_Mo_word_84 mo_o rfl ?_
        refine gx_bipush d_Mo_word_87 (nI 8) (by decide) ?_
        refine gx_iload d_Mo_word_89 rfl ?_
        refine gx_imulN d_Mo_word_91 ?_
        refine gx_iload d_Mo_word_92 rfl ?_
        refine gx_iaddN d_Mo_word_94 ?_
        refine gx_iald d_Mo_word_95 mo_11 (by omega) (by omega) ?_
        rw [hU.at (q := 11) (by decide), a6 i (by omega)]
        refine gx_iast d_Mo_word_96 mo_16 (by omega) (by omega) ?_
        refine gx_w mo_s16 ?_
        refine gx_iincN (n := 1) d_Mo_word_97 rfl (by decide) (Nat.le_of_ble_eq_true rfl) rfl ?_
        refine gx_iincN (n := 1) d_Mo_word_100 rfl (by decide) (Nat.le_of_ble_eq_true rfl) rfl ?_
        refine gx_goto (tgt := 46) d_Mo_word_103 (by decide) ?_
        refine gx_L (L' := [some (.ref m), some (.int (nI 0)), some (.int (nI (p ++ [((ds.getD d ([], [])).2).getD i 0]).length)), some (.int (nI k)), some (.int (nI d)), some (.int (nI ((ds.getD d ([], [])).2).length)), some (.int (nI (i + 1)))]) (by rw [List.length_append]; rfl) ?_
        refine ih (i + 1) _ _ (by omega) (by omega) ?_ hU.push hX
        rw [hp, gx_take_succ (by omega), List.append_assoc]
      · exact absurd rfl h54
theorem lm_x0 {w : gx_W} {m : Nat} {I : Nat → Nat} {A : Nat → Nat → Nat} {ds : List (List Nat × List Nat)} {laid : List Nat} (hds : moDs A ds) (h60 : ds.length ≤ 60) (hla : moL (I 5) (A 13) laid) (hl60 : laid.length ≤ 60) (hld : ∀ d ∈ laid, d < ds.length) : ∀ (fu : Nat) (k : Nat) (p : List Nat) (A' : Nat → Nat → Nat) (L4 : Option Value) (L5 : Option Value) (L6 : Option Value), laid.length - k < fu → (k ≤ laid.length) → (p = (laid.take k).flatMap (fun d => (ds.getD d ([], [])).2)) → (p.length ≤ 7 * k) → (moU 16 A A' p) → gx_X (fun _ _ => True) M_Mo_word 1 (gx_nt (fun r w' => r = some (.int (nI (laid.flatMap (fun d => (ds.getD d ([], [])).2)).length)) ∧ ∃ A'', w' = gx_mo w m I A'' ∧ moU 16 A A'' (laid.flatMap (fun d => (ds.getD d ([], [])).2)))) 4 [some (.ref m), some (.int (nI 0)), some (.int (nI p.length)), some (.int (nI k)), L4, L5, L6] [] (gx_mo w m I A') (0, 0) := by
  intro fu
  induction fu with
  | zero => intro k p A' L4 L5 L6 hfu; exact absurd hfu (Nat.not_lt_zero _)
  | succ fu ih =>
    intro k p A' L4 L5 L6 hfu hk hp hpl hU
    refine gx_iload_n d_Mo_word_4 rfl ?_
    refine gx_aload_n d_Mo_word_5 rfl ?_
    refine gx_get fl_Mo_129 d_Mo_word_6 mo_o rfl ?_
    rw [hla.1]
    refine gx_icmp_geN (by omega) (by omega) (tgt := 112) d_Mo_word_9 (by decide) (fun h9 => ?_) (fun h9 => ?_)
    · refine gx_iload_n d_Mo_word_112 rfl ?_
      refine gx_ireturn rfl d_Mo_word_113 ?_
      rw [show k = laid.length by omega, List.take_of_length_le (Nat.le_refl _)] at hp
      subst hp
      exact ⟨rfl, _, rfl, hU⟩
    · have hd := hld _ (gx_gd_mem (show k < laid.length by omega))
      obtain ⟨⟨a1, a2⟩, ⟨a3, a4⟩, a5, a6⟩ := hds _ hd
      refine gx_aload_n d_Mo_word_12 rfl ?_
      refine gx_get fl_Mo_47 d_Mo_word_13 mo_o rfl ?_
      refine gx_iload_n d_Mo_word_16 rfl ?_
      refine gx_iald d_Mo_word_17 mo_13 (by omega) (by omega) ?_
      rw [hU.at (q := 13) (by decide), hla.2 k (by omega)]
      refine gx_istore d_Mo_word_18 (Nat.le_of_ble_eq_true rfl) rfl ?_
      refine gx_iload_n d_Mo_word_20 rfl ?_
      refine gx_if_eqN (by omega) (tgt := 34) d_Mo_word_21 (by decide) (fun h21 => ?_) (fun h21 => ?_)
      · refine gx_aload_n d_Mo_word_34 rfl ?_
        refine gx_get fl_Mo_38 d_Mo_word_35 mo_o rfl ?_
        refine gx_iload d_Mo_word_38 rfl ?_
        refine gx_iald d_Mo_word_40 mo_10 (by omega) (by omega) ?_
        rw [hU.at (q := 10) (by decide), a2]
        refine gx_istore d_Mo_word_41 (Nat.le_of_ble_eq_true rfl) rfl ?_
        refine gx_iconst d_Mo_word_43 (nI 0) (by decide) ?_
        refine gx_istore d_Mo_word_44 (Nat.le_of_ble_eq_true rfl) rfl ?_
        refine lm_w0 (p0 := p) hds hd h60 (by omega) 8 0 p _ (by omega) (Nat.zero_le _) (by rw [List.take_zero, List.append_nil]) hU (fun A2 L9 hU2 => ?_)
        refine gx_iincN (n := 1) d_Mo_word_106 rfl (by decide) (Nat.le_of_ble_eq_true rfl) rfl ?_
        refine gx_goto (tgt := 4) d_Mo_word_109 (by decide) ?_
        refine ih (k + 1) _ _ _ _ _ (by omega) (by omega) ?_ (by rw [List.length_append]; omega) hU2
        rw [hp, gx_take_succ (by omega), List.flatMap_append]
        simp
      · exact absurd rfl h21
theorem cm_wordL {w : gx_W} {m : Nat} {I : Nat → Nat} {A : Nat → Nat → Nat} {ds : List (List Nat × List Nat)} {laid : List Nat} (hds : moDs A ds) (h60 : ds.length ≤ 60) (hla : moL (I 5) (A 13) laid) (hl60 : laid.length ≤ 60) (hld : ∀ d ∈ laid, d < ds.length) : gx_Ct M_Mo_word 1 0 0 [.ref m, .int (nI 0)] (gx_mo w m I A) (fun r w' => r = some (.int (nI (sp_lw ds laid).length)) ∧ ∃ A'', w' = gx_mo w m I A'' ∧ moU 16 A A'' (sp_lw ds laid)) := by
  refine gx_ct (L := [some (.ref m), some (.int (nI 0)), none, none, none, none, none]) (by decide) (Nat.le_of_ble_eq_true rfl) rfl ?_
  refine gx_iconst d_Mo_word_0 (nI 0) (by decide) ?_
  refine gx_istore_n d_Mo_word_1 (Nat.le_of_ble_eq_true rfl) rfl ?_
  refine gx_iconst d_Mo_word_2 (nI 0) (by decide) ?_
  refine gx_istore_n d_Mo_word_3 (Nat.le_of_ble_eq_true rfl) rfl ?_
  exact lm_x0 hds h60 hla hl60 hld 61 0 [] A _ _ _ (by omega) (Nat.zero_le _) (by rw [List.take_zero]; rfl) (Nat.zero_le _) moU.nil
theorem sp_up_le {ds : List (List Nat × List Nat)} (hk : ∀ p ∈ ds, sp_dk p) : ∀ (laid : List Nat), (∀ d ∈ laid, d < ds.length) → (gx_sm (sp_up ds laid) ∧ (sp_up ds laid).length ≤ 3 * laid.length) ∧ gx_sm (sp_lw ds laid) ∧ (sp_lw ds laid).length ≤ 7 * laid.length
  | [], _ => ⟨⟨fun _ h => absurd h (List.not_mem_nil), Nat.le_refl _⟩, fun _ h => absurd h (List.not_mem_nil), Nat.le_refl _⟩
  | d :: t, h => by
    obtain ⟨⟨a1, a2⟩, a3, a4⟩ := sp_up_le hk t (fun x hx => h x (List.mem_cons_of_mem _ hx))
    obtain ⟨_, ⟨b1, b2⟩, b3, b4, _⟩ := hk _ (gx_dmem (h d (List.mem_cons_self ..)))
    refine ⟨⟨fun c hc => ?_, ?_⟩, fun c hc => ?_, ?_⟩
    · rcases List.mem_append.mp (show c ∈ (ds.getD d ([], [])).1 ++ sp_up ds t from hc) with g | g
      · exact b1 c g
      · exact a1 c g
    · show ((ds.getD d ([], [])).1 ++ sp_up ds t).length ≤ _
      rw [List.length_append, List.length_cons]; omega
    · rcases List.mem_append.mp (show c ∈ (ds.getD d ([], [])).2 ++ sp_lw ds t from hc) with g | g
      · exact b2 c g
      · exact a3 c g
    · show ((ds.getD d ([], [])).2 ++ sp_lw ds t).length ≤ _
      rw [List.length_append, List.length_cons]; omega
/-- both words stand in their arrays, all else is as it was -/
def moV (A A' : Nat → Nat → Nat) (u v : List Nat) : Prop := (∀ q, q ≠ 15 → q ≠ 16 → A' q = A q) ∧ (∀ i, i < u.length → A' 15 i = u.getD i 0) ∧ ∀ i, i < v.length → A' 16 i = v.getD i 0
theorem moV.of {A A1 A2 : Nat → Nat → Nat} {u v : List Nat} (h : moU 15 A A1 u) (h2 : moU 16 A1 A2 v) : moV A A2 u v := ⟨fun q h5 h6 => by rw [h2.1 q h6, h.1 q h5], fun i hi => by rw [h2.at (by decide)]; exact h.2 i hi, h2.2⟩
theorem moV.at {A A' : Nat → Nat → Nat} {u v : List Nat} (h : moV A A' u v) {q : Nat} (h5 : q ≠ 15 ∧ q ≠ 16) (i : Nat) : A' q i = A q i := congrFun (h.1 q h5.1 h5.2) i
theorem sp_tray_0 {ds : List (List Nat × List Nat)} {laid : List Nat} (h : ¬ ∀ i, i < (sp_up ds laid).length → i < (sp_lw ds laid).length → (sp_up ds laid).getD i 0 = (sp_lw ds laid).getD i 0) : sp_tray ds laid = 0 := by
  unfold sp_tray
  rw [if_neg (fun g => h ((agb_iff _ _).mp g))]
theorem sp_tray_2 {ds : List (List Nat × List Nat)} {laid : List Nat} (h : ∀ i, i < (sp_up ds laid).length → i < (sp_lw ds laid).length → (sp_up ds laid).getD i 0 = (sp_lw ds laid).getD i 0) (h0 : 0 < laid.length) (h1 : laid.getD 0 0 = 0) (h2 : (sp_up ds laid).length = (sp_lw ds laid).length) : sp_tray ds laid = 2 := by
  have e : laid.getD 0 1 = 0 := by
    cases laid with
    | nil => exact absurd h0 (Nat.lt_irrefl _)
    | cons a t => exact h1
  unfold sp_tray
  rw [if_pos ((agb_iff _ _).mpr h), if_pos ⟨e, (sp_agb_eq h2).mp ((agb_iff _ _).mpr h)⟩]
theorem sp_tray_1 {ds : List (List Nat × List Nat)} {laid : List Nat} (h : ∀ i, i < (sp_up ds laid).length → i < (sp_lw ds laid).length → (sp_up ds laid).getD i 0 = (sp_lw ds laid).getD i 0) (h1 : ¬ (0 < laid.length ∧ laid.getD 0 0 = 0 ∧ (sp_up ds laid).length = (sp_lw ds laid).length)) : sp_tray ds laid = 1 := by
  unfold sp_tray
  rw [if_pos ((agb_iff _ _).mpr h), if_neg (fun g => h1 ?_)]
  obtain ⟨g1, g2⟩ := g
  rw [g2]
  cases laid with
  | nil => exact absurd g1 (by decide)
  | cons a t => exact ⟨by simp, g1, rfl⟩
theorem d_Mo_kind_0 : decode prog_11_method_33_code 0 = .ok (.aload_n 0, 1) := by decide +kernel
theorem d_Mo_kind_1 : decode prog_11_method_33_code 1 = .ok (.iconst 1, 1) := by decide +kernel
theorem d_Mo_kind_2 : decode prog_11_method_33_code 2 = .ok (.invokevirtual 167, 3) := by decide +kernel
theorem d_Mo_kind_5 : decode prog_11_method_33_code 5 = .ok (.istore_n 1, 1) := by decide +kernel
theorem d_Mo_kind_6 : decode prog_11_method_33_code 6 = .ok (.aload_n 0, 1) := by decide +kernel
theorem d_Mo_kind_7 : decode prog_11_method_33_code 7 = .ok (.iconst 0, 1) := by decide +kernel
theorem d_Mo_kind_8 : decode prog_11_method_33_code 8 = .ok (.invokevirtual 167, 3) := by decide +kernel
theorem d_Mo_kind_11 : decode prog_11_method_33_code 11 = .ok (.istore_n 2, 1) := by decide +kernel
theorem d_Mo_kind_12 : decode prog_11_method_33_code 12 = .ok (.iconst 1, 1) := by decide +kernel
theorem d_Mo_kind_13 : decode prog_11_method_33_code 13 = .ok (.istore_n 3, 1) := by decide +kernel
theorem d_Mo_kind_14 : decode prog_11_method_33_code 14 = .ok (.iconst 0, 1) := by decide +kernel
theorem d_Mo_kind_15 : decode prog_11_method_33_code 15 = .ok (.istore 4, 2) := by decide +kernel
theorem d_Mo_kind_17 : decode prog_11_method_33_code 17 = .ok (.iload 4, 2) := by decide +kernel
theorem d_Mo_kind_19 : decode prog_11_method_33_code 19 = .ok (.iload_n 1, 1) := by decide +kernel
theorem d_Mo_kind_20 : decode prog_11_method_33_code 20 = .ok (.if_icmp .ge 42, 3) := by decide +kernel
theorem d_Mo_kind_23 : decode prog_11_method_33_code 23 = .ok (.iload 4, 2) := by decide +kernel
theorem d_Mo_kind_25 : decode prog_11_method_33_code 25 = .ok (.iload_n 2, 1) := by decide +kernel
theorem d_Mo_kind_26 : decode prog_11_method_33_code 26 = .ok (.if_icmp .ge 36, 3) := by decide +kernel
theorem d_Mo_kind_29 : decode prog_11_method_33_code 29 = .ok (.iload_n 3, 1) := by decide +kernel
theorem d_Mo_kind_30 : decode prog_11_method_33_code 30 = .ok (.ifCond .eq 24, 3) := by decide +kernel
theorem d_Mo_kind_33 : decode prog_11_method_33_code 33 = .ok (.aload_n 0, 1) := by decide +kernel
theorem d_Mo_kind_34 : decode prog_11_method_33_code 34 = .ok (.getfield 53, 3) := by decide +kernel
theorem d_Mo_kind_37 : decode prog_11_method_33_code 37 = .ok (.iload 4, 2) := by decide +kernel
theorem d_Mo_kind_39 : decode prog_11_method_33_code 39 = .ok (.iaload, 1) := by decide +kernel
theorem d_Mo_kind_40 : decode prog_11_method_33_code 40 = .ok (.aload_n 0, 1) := by decide +kernel
theorem d_Mo_kind_41 : decode prog_11_method_33_code 41 = .ok (.getfield 56, 3) := by decide +kernel
theorem d_Mo_kind_44 : decode prog_11_method_33_code 44 = .ok (.iload 4, 2) := by decide +kernel
theorem d_Mo_kind_46 : decode prog_11_method_33_code 46 = .ok (.iaload, 1) := by decide +kernel
theorem d_Mo_kind_47 : decode prog_11_method_33_code 47 = .ok (.if_icmp .ne 7, 3) := by decide +kernel
theorem d_Mo_kind_50 : decode prog_11_method_33_code 50 = .ok (.iconst 1, 1) := by decide +kernel
theorem d_Mo_kind_51 : decode prog_11_method_33_code 51 = .ok (.goto 4, 3) := by decide +kernel
theorem d_Mo_kind_54 : decode prog_11_method_33_code 54 = .ok (.iconst 0, 1) := by decide +kernel
theorem d_Mo_kind_55 : decode prog_11_method_33_code 55 = .ok (.istore_n 3, 1) := by decide +kernel
theorem d_Mo_kind_56 : decode prog_11_method_33_code 56 = .ok (.iinc 4 1, 3) := by decide +kernel
theorem d_Mo_kind_59 : decode prog_11_method_33_code 59 = .ok (.goto (-42), 3) := by decide +kernel
theorem d_Mo_kind_62 : decode prog_11_method_33_code 62 = .ok (.iload_n 3, 1) := by decide +kernel
theorem d_Mo_kind_63 : decode prog_11_method_33_code 63 = .ok (.ifCond .ne 7, 3) := by decide +kernel
theorem d_Mo_kind_66 : decode prog_11_method_33_code 66 = .ok (.iconst 0, 1) := by decide +kernel
theorem d_Mo_kind_67 : decode prog_11_method_33_code 67 = .ok (.goto 29, 3) := by decide +kernel
theorem d_Mo_kind_70 : decode prog_11_method_33_code 70 = .ok (.aload_n 0, 1) := by decide +kernel
theorem d_Mo_kind_71 : decode prog_11_method_33_code 71 = .ok (.getfield 129, 3) := by decide +kernel
theorem d_Mo_kind_74 : decode prog_11_method_33_code 74 = .ok (.ifCond .le 21, 3) := by decide +kernel
theorem d_Mo_kind_77 : decode prog_11_method_33_code 77 = .ok (.aload_n 0, 1) := by decide +kernel
theorem d_Mo_kind_78 : decode prog_11_method_33_code 78 = .ok (.getfield 47, 3) := by decide +kernel
theorem d_Mo_kind_81 : decode prog_11_method_33_code 81 = .ok (.iconst 0, 1) := by decide +kernel
theorem d_Mo_kind_82 : decode prog_11_method_33_code 82 = .ok (.iaload, 1) := by decide +kernel
theorem d_Mo_kind_83 : decode prog_11_method_33_code 83 = .ok (.ifCond .ne 12, 3) := by decide +kernel
theorem d_Mo_kind_86 : decode prog_11_method_33_code 86 = .ok (.iload_n 1, 1) := by decide +kernel
theorem d_Mo_kind_87 : decode prog_11_method_33_code 87 = .ok (.iload_n 2, 1) := by decide +kernel
theorem d_Mo_kind_88 : decode prog_11_method_33_code 88 = .ok (.if_icmp .ne 7, 3) := by decide +kernel
theorem d_Mo_kind_91 : decode prog_11_method_33_code 91 = .ok (.iconst 2, 1) := by decide +kernel
theorem d_Mo_kind_92 : decode prog_11_method_33_code 92 = .ok (.goto 4, 3) := by decide +kernel
theorem d_Mo_kind_95 : decode prog_11_method_33_code 95 = .ok (.iconst 1, 1) := by decide +kernel
theorem d_Mo_kind_96 : decode prog_11_method_33_code 96 = .ok (.ireturn, 1) := by decide +kernel
theorem lm_kind {Q : gx_P} {w : gx_W} {m : Nat} {I : Nat → Nat} {A A1 : Nat → Nat → Nat} {u v : List Nat} (hV : moV A A1 u v) (hu : gx_sm u) (hv : gx_sm v) (hul : u.length ≤ 420) (hvl : v.length ≤ 420) : ∀ (fu : Nat) (i : Nat) (f : Nat), u.length - i < fu → (i ≤ u.length ∧ i ≤ v.length) → (f ≤ 1 ∧ (f = 1 ↔ ∀ k, k < i → u.getD k 0 = v.getD k 0)) → (∀ f L4, f ≤ 1 → (f = 1 ↔ ∀ k, k < u.length → k < v.length → u.getD k 0 = v.getD k 0) → gx_X (fun _ _ => True) M_Mo_kind 2 Q 62 [some (.ref m), some (.int (nI u.length)), some (.int (nI v.length)), some (.int (nI f)), L4] [] (gx_mo w m I A1) (0, 0)) → gx_X (fun _ _ => True) M_Mo_kind 2 Q 17 [some (.ref m), some (.int (nI u.length)), some (.int (nI v.length)), some (.int (nI f)), some (.int (nI i))] [] (gx_mo w m I A1) (0, 0) := by
  intro fu
  induction fu with
  | zero => intro i f hfu; exact absurd hfu (Nat.not_lt_zero _)
  | succ fu ih =>
    intro i f hfu hi hf hX
    have h1 := gx_sm_at hu i
    have h2 := gx_sm_at hv i
    have hi1 := hi.1
    have hi2 := hi.2
    have hf1 := hf.1
    refine gx_iload d_Mo_kind_17 rfl ?_
    refine gx_iload_n d_Mo_kind_19 rfl ?_
    refine gx_icmp_geN (by omega) (by omega) (tgt := 62) d_Mo_kind_20 (by decide) (fun h20 => ?_) (fun h20 => ?_)
    · exact hX f _ hf.1 (hf.2.trans ⟨fun g k a _ => g k (by omega), fun g k a => g k (by omega) (by omega)⟩)
    · refine gx_iload d_Mo_kind_23 rfl ?_
      refine gx_iload_n d_Mo_kind_25 rfl ?_
      refine gx_icmp_geN (by omega) (by omega) (tgt := 62) d_Mo_kind_26 (by decide) (fun h26 => ?_) (fun h26 => ?_)
      · exact hX f _ hf.1 (hf.2.trans ⟨fun g k a _ => g k (by omega), fun g k a => g k (by omega) (by omega)⟩)
      · refine gx_iload_n d_Mo_kind_29 rfl ?_
        refine gx_if_eqN (by omega) (tgt := 54) d_Mo_kind_30 (by decide) (fun h30 => ?_) (fun h30 => ?_)
        · refine gx_iconst d_Mo_kind_54 (nI 0) (by decide) ?_
          refine gx_istore_n d_Mo_kind_55 (Nat.le_of_ble_eq_true rfl) rfl ?_
          refine gx_iincN (n := 1) d_Mo_kind_56 rfl (by decide) (Nat.le_of_ble_eq_true rfl) rfl ?_
          refine gx_goto (tgt := 17) d_Mo_kind_59 (by decide) ?_
          refine ih (i + 1) 0 (by omega) (by omega) ⟨by decide, ⟨fun g => absurd g (by decide), fun g => ?_⟩⟩ hX
          exact absurd (hf.2.mpr (fun k hk => g k (by omega))) (by omega)
        · refine gx_aload_n d_Mo_kind_33 rfl ?_
          refine gx_get fl_Mo_53 d_Mo_kind_34 mo_o rfl ?_
          refine gx_iload d_Mo_kind_37 rfl ?_
          refine gx_iald d_Mo_kind_39 mo_15 (by omega) (by omega) ?_
          rw [hV.2.1 i (by omega)]
          refine gx_aload_n d_Mo_kind_40 rfl ?_
          refine gx_get fl_Mo_56 d_Mo_kind_41 mo_o rfl ?_
          refine gx_iload d_Mo_kind_44 rfl ?_
          refine gx_iald d_Mo_kind_46 mo_16 (by omega) (by omega) ?_
          rw [hV.2.2 i (by omega)]
          refine gx_icmp_neN (by omega) (by omega) (tgt := 54) d_Mo_kind_47 (by decide) (fun h47 => ?_) (fun h47 => ?_)
          · refine gx_iconst d_Mo_kind_54 (nI 0) (by decide) ?_
            refine gx_istore_n d_Mo_kind_55 (Nat.le_of_ble_eq_true rfl) rfl ?_
            refine gx_iincN (n := 1) d_Mo_kind_56 rfl (by decide) (Nat.le_of_ble_eq_true rfl) rfl ?_
            refine gx_goto (tgt := 17) d_Mo_kind_59 (by decide) ?_
            refine ih (i + 1) 0 (by omega) (by omega) ⟨by decide, ⟨fun g => absurd g (by decide), fun g => ?_⟩⟩ hX
            exact absurd (g i (by omega)) h47
          · refine gx_iconst d_Mo_kind_50 (nI 1) (by decide) ?_
            refine gx_goto (tgt := 55) d_Mo_kind_51 (by decide) ?_
            refine gx_istore_n d_Mo_kind_55 (Nat.le_of_ble_eq_true rfl) rfl ?_
            refine gx_iincN (n := 1) d_Mo_kind_56 rfl (by decide) (Nat.le_of_ble_eq_true rfl) rfl ?_
            refine gx_goto (tgt := 17) d_Mo_kind_59 (by decide) ?_
            refine ih (i + 1) 1 (by omega) (by omega) ⟨by decide, ⟨fun _ k hk => ?_, fun _ => rfl⟩⟩ hX
            by_cases e : k = i
            · rw [e]; exact h47
            · exact hf.2.mp (by omega) k (by omega)
theorem cm_kind {w : gx_W} {m : Nat} {I : Nat → Nat} {A : Nat → Nat → Nat} {ds : List (List Nat × List Nat)} {laid : List Nat} (hds : moDs A ds) (h60 : ds.length ≤ 60) (hdk : ∀ p ∈ ds, sp_dk p) (hla : moL (I 5) (A 13) laid) (hl60 : laid.length ≤ 60) (hld : ∀ d ∈ laid, d < ds.length) : gx_Ct M_Mo_kind 2 0 0 [.ref m] (gx_mo w m I A) (fun r w' => r = some (.int (nI (sp_tray ds laid))) ∧ ∃ A'', w' = gx_mo w m I A'' ∧ moV A A'' (sp_up ds laid) (sp_lw ds laid)) := by
  refine gx_ct (L := [some (.ref m), none, none, none, none]) (by decide) (Nat.le_of_ble_eq_true rfl) rfl ?_
  obtain ⟨⟨hu1, hu2⟩, hv1, hv2⟩ := sp_up_le hdk laid hld
  refine gx_aload_n d_Mo_kind_0 rfl ?_
  refine gx_iconst d_Mo_kind_1 (nI 1) (by decide) ?_
  refine gx_cVr lk_Mo_167 d_Mo_kind_2 (cm_wordU hds h60 hla hl60 hld) (Or.inl ⟨_, mo_o⟩) (by omega) rfl rfl (Nat.le_of_ble_eq_true rfl) (fun r2 w2 hq => ?_)
  obtain ⟨rfl, A1, rfl, hU1⟩ := hq
  have hds1 : moDs A1 ds := by unfold moDs; rw [hU1.1 8 (by decide), hU1.1 9 (by decide), hU1.1 10 (by decide), hU1.1 11 (by decide)]; exact hds
  have hla1 : moL (I 5) (A1 13) laid := by rw [hU1.1 13 (by decide)]; exact hla
  refine gx_istore_n d_Mo_kind_5 (Nat.le_of_ble_eq_true rfl) rfl ?_
  refine gx_aload_n d_Mo_kind_6 rfl ?_
  refine gx_iconst d_Mo_kind_7 (nI 0) (by decide) ?_
  refine gx_cVr lk_Mo_167 d_Mo_kind_8 (cm_wordL hds1 h60 hla1 hl60 hld) (Or.inl ⟨_, mo_o⟩) (by omega) rfl rfl (Nat.le_of_ble_eq_true rfl) (fun r2 w2 hq => ?_)
  obtain ⟨rfl, A2, rfl, hU2⟩ := hq
  have hV := moV.of hU1 hU2
  refine gx_istore_n d_Mo_kind_11 (Nat.le_of_ble_eq_true rfl) rfl ?_
  refine gx_iconst d_Mo_kind_12 (nI 1) (by decide) ?_
  refine gx_istore_n d_Mo_kind_13 (Nat.le_of_ble_eq_true rfl) rfl ?_
  refine gx_iconst d_Mo_kind_14 (nI 0) (by decide) ?_
  refine gx_istore d_Mo_kind_15 (Nat.le_of_ble_eq_true rfl) rfl ?_
  refine lm_kind hV hu1 hv1 (by omega) (by omega) ((sp_up ds laid).length + 1) 0 1 (by omega) ⟨Nat.zero_le _, Nat.zero_le _⟩ ⟨by decide, ⟨fun _ k hk => absurd hk (Nat.not_lt_zero _), fun _ => rfl⟩⟩ (fun f L4 hf1 hff => ?_)
  refine gx_iload_n d_Mo_kind_62 rfl ?_
  refine gx_if_neN (by omega) (tgt := 70) d_Mo_kind_63 (by decide) (fun h63 => ?_) (fun h63 => ?_)
  · refine gx_aload_n d_Mo_kind_70 rfl ?_
    refine gx_get fl_Mo_129 d_Mo_kind_71 mo_o rfl ?_
    rw [hla.1]
    refine gx_if_leN (by omega) (tgt := 95) d_Mo_kind_74 (by decide) (fun h74 => ?_) (fun h74 => ?_)
    · refine gx_iconst d_Mo_kind_95 (nI 1) (by decide) ?_
      refine gx_ireturn rfl d_Mo_kind_96 ?_
      exact ⟨by rw [sp_tray_1 (hff.mp (by omega)) (by omega)], _, rfl, hV⟩
    · have hd0 := hld _ (gx_gd_mem (show 0 < laid.length by omega))
      refine gx_aload_n d_Mo_kind_77 rfl ?_
      refine gx_get fl_Mo_47 d_Mo_kind_78 mo_o rfl ?_
      refine gx_iconst d_Mo_kind_81 (nI 0) (by decide) ?_
      refine gx_iald d_Mo_kind_82 mo_13 (by omega) (by omega) ?_
      rw [hV.at (by decide), hla.2 0 (by omega)]
      refine gx_if_neN (by omega) (tgt := 95) d_Mo_kind_83 (by decide) (fun h83 => ?_) (fun h83 => ?_)
      · refine gx_iconst d_Mo_kind_95 (nI 1) (by decide) ?_
        refine gx_ireturn rfl d_Mo_kind_96 ?_
        exact ⟨by rw [sp_tray_1 (hff.mp (by omega)) (by omega)], _, rfl, hV⟩
      · refine gx_iload_n d_Mo_kind_86 rfl ?_
        refine gx_iload_n d_Mo_kind_87 rfl ?_
        refine gx_icmp_neN (by omega) (by omega) (tgt := 95) d_Mo_kind_88 (by decide) (fun h88 => ?_) (fun h88 => ?_)
        · refine gx_iconst d_Mo_kind_95 (nI 1) (by decide) ?_
          refine gx_ireturn rfl d_Mo_kind_96 ?_
          exact ⟨by rw [sp_tray_1 (hff.mp (by omega)) (by omega)], _, rfl, hV⟩
        · refine gx_iconst d_Mo_kind_91 (nI 2) (by decide) ?_
          refine gx_goto (tgt := 96) d_Mo_kind_92 (by decide) ?_
          refine gx_ireturn rfl d_Mo_kind_96 ?_
          exact ⟨by rw [sp_tray_2 (hff.mp (by omega)) (by omega) h83 h88], _, rfl, hV⟩
  · refine gx_iconst d_Mo_kind_66 (nI 0) (by decide) ?_
    refine gx_goto (tgt := 96) d_Mo_kind_67 (by decide) ?_
    refine gx_ireturn rfl d_Mo_kind_96 ?_
    exact ⟨by rw [sp_tray_0 (fun g => absurd (hff.mpr g) (by omega))], _, rfl, hV⟩
theorem mdl.V {I : Nat → Nat} {A A' : Nat → Nat → Nat} {S : sp_St} {u v : List Nat} (h : mdl I A S) (hV : moV A A' u v) : mdl I A' S := h.of (fun _ _ _ => rfl) (fun j hj => hV.1 j (by omega) (by omega))
theorem gx_hh_nil {l : List Nat} {i : Nat} (h : l.length ≤ i) : sp_hh (l.drop i) = 0 := by rw [List.drop_eq_nil_of_le h]; rfl
theorem gx_hh_h {l : List Nat} {i : Nat} (hi : i < l.length) (h : l.getD i 0 = 104) : sp_hh (l.drop i) = 0 := by rw [gx_drop_cons hi, h]; rfl
theorem gx_hh_s {l : List Nat} {i : Nat} (hi : i < l.length) (h : ¬ l.getD i 0 = 104) : sp_hh (l.drop i) = (if l.getD i 0 = 35 then 1 else 0) + sp_hh (l.drop (i + 1)) := by
  rw [gx_drop_cons hi]
  conv => lhs; unfold sp_hh
  rw [if_neg h]
theorem gx_hb (k : Nat) : nI (4294967295 + k) = nI k - nI 1 := by
  rw [Nat.add_comm, ← nI_add, ← gx_m1, Int32.sub_eq_add_neg]; rfl
theorem d_Mo_tray_0 : decode prog_11_method_34_code 0 = .ok (.aload_n 0, 1) := by decide +kernel
theorem d_Mo_tray_1 : decode prog_11_method_34_code 1 = .ok (.iconst 0, 1) := by decide +kernel
theorem d_Mo_tray_2 : decode prog_11_method_34_code 2 = .ok (.putfield 90, 3) := by decide +kernel
theorem d_Mo_tray_5 : decode prog_11_method_34_code 5 = .ok (.aload_n 0, 1) := by decide +kernel
theorem d_Mo_tray_6 : decode prog_11_method_34_code 6 = .ok (.invokevirtual 171, 3) := by decide +kernel
theorem d_Mo_tray_9 : decode prog_11_method_34_code 9 = .ok (.ireturn, 1) := by decide +kernel
theorem cm_tray {w : gx_W} {m : Nat} {I : Nat → Nat} {A : Nat → Nat → Nat} {S : sp_St} (h : mdl I A S) (hS : sp_Sok S)  : gx_Ct M_Mo_tray 7 0 0 [.ref m] (gx_mo w m I A) (moQ w m (nI (sp_tray (sp_dS S) S.2.2.1)) S 0) := by
  refine gx_ct (L := [some (.ref m)]) (by decide) (Nat.le_of_ble_eq_true rfl) rfl ?_
  refine gx_aload_n d_Mo_tray_0 rfl ?_
  refine gx_iconst d_Mo_tray_1 (nI 0) (by decide) ?_
  refine gx_put fp_Mo_90 (fun h => by cases h) d_Mo_tray_2 mo_o rfl rfl (Nat.le_of_ble_eq_true rfl) ?_
  refine gx_w mo_p0 ?_
  refine gx_aload_n d_Mo_tray_5 rfl ?_
  refine gx_cVr lk_Mo_171 d_Mo_tray_6 (cm_kind (ds := sp_dS S) h.d.2 (sp_dsx_len S.1 S.2.1).2 (sp_dsx_ok hS.1 hS.2.1) h.t.2.1 hS.2.2.2.1 hS.2.2.1) (Or.inl ⟨_, mo_o⟩) (by omega) rfl rfl (Nat.le_of_ble_eq_true rfl) (fun r2 w2 hq => ?_)
  obtain ⟨rfl, A2, rfl, hV⟩ := hq
  refine gx_ireturn rfl d_Mo_tray_9 ?_
  exact ⟨rfl, _, _, rfl, h.t.V hV, ui_s⟩
theorem d_Mo_back_0 : decode prog_11_method_35_code 0 = .ok (.aload_n 0, 1) := by decide +kernel
theorem d_Mo_back_1 : decode prog_11_method_35_code 1 = .ok (.iconst 0, 1) := by decide +kernel
theorem d_Mo_back_2 : decode prog_11_method_35_code 2 = .ok (.putfield 90, 3) := by decide +kernel
theorem d_Mo_back_5 : decode prog_11_method_35_code 5 = .ok (.aload_n 0, 1) := by decide +kernel
theorem d_Mo_back_6 : decode prog_11_method_35_code 6 = .ok (.invokevirtual 171, 3) := by decide +kernel
theorem d_Mo_back_9 : decode prog_11_method_35_code 9 = .ok (.iconst 2, 1) := by decide +kernel
theorem d_Mo_back_10 : decode prog_11_method_35_code 10 = .ok (.if_icmp .eq 5, 3) := by decide +kernel
theorem d_Mo_back_13 : decode prog_11_method_35_code 13 = .ok (.iconst (-1), 1) := by decide +kernel
theorem d_Mo_back_14 : decode prog_11_method_35_code 14 = .ok (.ireturn, 1) := by decide +kernel
theorem d_Mo_back_15 : decode prog_11_method_35_code 15 = .ok (.aload_n 0, 1) := by decide +kernel
theorem d_Mo_back_16 : decode prog_11_method_35_code 16 = .ok (.iconst 1, 1) := by decide +kernel
theorem d_Mo_back_17 : decode prog_11_method_35_code 17 = .ok (.invokevirtual 167, 3) := by decide +kernel
theorem d_Mo_back_20 : decode prog_11_method_35_code 20 = .ok (.istore_n 1, 1) := by decide +kernel
theorem d_Mo_back_21 : decode prog_11_method_35_code 21 = .ok (.iconst (-1), 1) := by decide +kernel
theorem d_Mo_back_22 : decode prog_11_method_35_code 22 = .ok (.istore_n 2, 1) := by decide +kernel
theorem d_Mo_back_23 : decode prog_11_method_35_code 23 = .ok (.iconst 0, 1) := by decide +kernel
theorem d_Mo_back_24 : decode prog_11_method_35_code 24 = .ok (.istore_n 3, 1) := by decide +kernel
theorem d_Mo_back_25 : decode prog_11_method_35_code 25 = .ok (.iload_n 3, 1) := by decide +kernel
theorem d_Mo_back_26 : decode prog_11_method_35_code 26 = .ok (.iload_n 1, 1) := by decide +kernel
theorem d_Mo_back_27 : decode prog_11_method_35_code 27 = .ok (.if_icmp .ge 39, 3) := by decide +kernel
theorem d_Mo_back_30 : decode prog_11_method_35_code 30 = .ok (.aload_n 0, 1) := by decide +kernel
theorem d_Mo_back_31 : decode prog_11_method_35_code 31 = .ok (.getfield 53, 3) := by decide +kernel
theorem d_Mo_back_34 : decode prog_11_method_35_code 34 = .ok (.iload_n 3, 1) := by decide +kernel
theorem d_Mo_back_35 : decode prog_11_method_35_code 35 = .ok (.iaload, 1) := by decide +kernel
theorem d_Mo_back_36 : decode prog_11_method_35_code 36 = .ok (.bipush 104, 2) := by decide +kernel
theorem d_Mo_back_38 : decode prog_11_method_35_code 38 = .ok (.if_icmp .eq 28, 3) := by decide +kernel
theorem d_Mo_back_41 : decode prog_11_method_35_code 41 = .ok (.iload_n 2, 1) := by decide +kernel
theorem d_Mo_back_42 : decode prog_11_method_35_code 42 = .ok (.aload_n 0, 1) := by decide +kernel
theorem d_Mo_back_43 : decode prog_11_method_35_code 43 = .ok (.getfield 53, 3) := by decide +kernel
theorem d_Mo_back_46 : decode prog_11_method_35_code 46 = .ok (.iload_n 3, 1) := by decide +kernel
theorem d_Mo_back_47 : decode prog_11_method_35_code 47 = .ok (.iaload, 1) := by decide +kernel
theorem d_Mo_back_48 : decode prog_11_method_35_code 48 = .ok (.bipush 35, 2) := by decide +kernel
theorem d_Mo_back_50 : decode prog_11_method_35_code 50 = .ok (.if_icmp .ne 7, 3) := by decide +kernel
theorem d_Mo_back_53 : decode prog_11_method_35_code 53 = .ok (.iconst 1, 1) := by decide +kernel
theorem d_Mo_back_54 : decode prog_11_method_35_code 54 = .ok (.goto 4, 3) := by decide +kernel
theorem d_Mo_back_57 : decode prog_11_method_35_code 57 = .ok (.iconst 0, 1) := by decide +kernel
theorem d_Mo_back_58 : decode prog_11_method_35_code 58 = .ok (.iadd, 1) := by decide +kernel
theorem d_Mo_back_59 : decode prog_11_method_35_code 59 = .ok (.istore_n 2, 1) := by decide +kernel
theorem d_Mo_back_60 : decode prog_11_method_35_code 60 = .ok (.iinc 3 1, 3) := by decide +kernel
theorem d_Mo_back_63 : decode prog_11_method_35_code 63 = .ok (.goto (-38), 3) := by decide +kernel
theorem d_Mo_back_66 : decode prog_11_method_35_code 66 = .ok (.iload_n 2, 1) := by decide +kernel
theorem d_Mo_back_67 : decode prog_11_method_35_code 67 = .ok (.ireturn, 1) := by decide +kernel
theorem lm_back {w : gx_W} {m : Nat} {I : Nat → Nat} {A : Nat → Nat → Nat} {u : List Nat} (hV : ∀ i, i < u.length → A 15 i = u.getD i 0) (hu : gx_sm u) (hul : u.length ≤ 420) : ∀ (fu : Nat) (i : Nat) (k : Nat), u.length - i < fu → (i ≤ u.length) → (k + sp_hh (u.drop i) = sp_hh u) → gx_X (fun _ _ => True) M_Mo_back 7 (gx_nt (gx_eq (some (.int (nI (sp_hh u) - nI 1))) (gx_mo w m I A))) 25 [some (.ref m), some (.int (nI u.length)), some (.int (nI (4294967295 + k))), some (.int (nI i))] [] (gx_mo w m I A) (0, 0) := by
  intro fu
  induction fu with
  | zero => intro i k hfu; exact absurd hfu (Nat.not_lt_zero _)
  | succ fu ih =>
    intro i k hfu hi hk
    have h1 := gx_sm_at hu i
    refine gx_iload_n d_Mo_back_25 rfl ?_
    refine gx_iload_n d_Mo_back_26 rfl ?_
    refine gx_icmp_geN (by omega) (by omega) (tgt := 66) d_Mo_back_27 (by decide) (fun h27 => ?_) (fun h27 => ?_)
    · refine gx_iload_n d_Mo_back_66 rfl ?_
      refine gx_ireturn rfl d_Mo_back_67 ?_
      rw [gx_hh_nil (by omega)] at hk
      rw [gx_hb, show k = sp_hh u by omega]
      exact ⟨rfl, rfl⟩
    · refine gx_aload_n d_Mo_back_30 rfl ?_
      refine gx_get fl_Mo_53 d_Mo_back_31 mo_o rfl ?_
      refine gx_iload_n d_Mo_back_34 rfl ?_
      refine gx_iald d_Mo_back_35 mo_15 (by omega) (by omega) ?_
      rw [hV i (by omega)]
      refine gx_bipush d_Mo_back_36 (nI 104) (by decide) ?_
      refine gx_icmp_eqN (by omega) (by omega) (tgt := 66) d_Mo_back_38 (by decide) (fun h38 => ?_) (fun h38 => ?_)
      · refine gx_iload_n d_Mo_back_66 rfl ?_
        refine gx_ireturn rfl d_Mo_back_67 ?_
        rw [gx_hh_h (by omega) h38] at hk
        rw [gx_hb, show k = sp_hh u by omega]
        exact ⟨rfl, rfl⟩
      · refine gx_iload_n d_Mo_back_41 rfl ?_
        refine gx_aload_n d_Mo_back_42 rfl ?_
        refine gx_get fl_Mo_53 d_Mo_back_43 mo_o rfl ?_
        refine gx_iload_n d_Mo_back_46 rfl ?_
        refine gx_iald d_Mo_back_47 mo_15 (by omega) (by omega) ?_
        rw [hV i (by omega)]
        refine gx_bipush d_Mo_back_48 (nI 35) (by decide) ?_
        refine gx_icmp_neN (by omega) (by omega) (tgt := 57) d_Mo_back_50 (by decide) (fun h50 => ?_) (fun h50 => ?_)
        · refine gx_iconst d_Mo_back_57 (nI 0) (by decide) ?_
          refine gx_iaddN d_Mo_back_58 ?_
          refine gx_istore_n d_Mo_back_59 (Nat.le_of_ble_eq_true rfl) rfl ?_
          refine gx_iincN (n := 1) d_Mo_back_60 rfl (by decide) (Nat.le_of_ble_eq_true rfl) rfl ?_
          refine gx_goto (tgt := 25) d_Mo_back_63 (by decide) ?_
          refine ih (i + 1) (k + 0) (by omega) (by omega) ?_
          rw [gx_hh_s (by omega) h38, if_neg h50] at hk
          omega
        · refine gx_iconst d_Mo_back_53 (nI 1) (by decide) ?_
          refine gx_goto (tgt := 58) d_Mo_back_54 (by decide) ?_
          refine gx_iaddN d_Mo_back_58 ?_
          refine gx_istore_n d_Mo_back_59 (Nat.le_of_ble_eq_true rfl) rfl ?_
          refine gx_iincN (n := 1) d_Mo_back_60 rfl (by decide) (Nat.le_of_ble_eq_true rfl) rfl ?_
          refine gx_goto (tgt := 25) d_Mo_back_63 (by decide) ?_
          refine gx_L (L' := [some (.ref m), some (.int (nI u.length)), some (.int (nI (4294967295 + (k + 1)))), some (.int (nI (i + 1)))]) (by rw [← Nat.add_assoc]; rfl) ?_
          refine ih (i + 1) (k + 1) (by omega) (by omega) ?_
          rw [gx_hh_s (by omega) h38, if_pos h50] at hk
          omega
theorem cm_back {w : gx_W} {m : Nat} {I : Nat → Nat} {A : Nat → Nat → Nat} {S : sp_St} (h : mdl I A S) (hS : sp_Sok S)  : gx_Ct M_Mo_back 7 0 0 [.ref m] (gx_mo w m I A) (moQ w m (sp_back (sp_dS S) S.2.2.1) S 0) := by
  refine gx_ct (L := [some (.ref m), none, none, none]) (by decide) (Nat.le_of_ble_eq_true rfl) rfl ?_
  obtain ⟨⟨hu1, hu2⟩, hv1, hv2⟩ := sp_up_le (sp_dsx_ok hS.1 hS.2.1) S.2.2.1 hS.2.2.1
  change (sp_up (sp_dS S) S.2.2.1).length ≤ _ at hu2
  have h60 := hS.2.2.2.1
  have ht2 : sp_tray (sp_dS S) S.2.2.1 ≤ 2 := by unfold sp_tray; split <;> (try split) <;> decide
  refine gx_aload_n d_Mo_back_0 rfl ?_
  refine gx_iconst d_Mo_back_1 (nI 0) (by decide) ?_
  refine gx_put fp_Mo_90 (fun h => by cases h) d_Mo_back_2 mo_o rfl rfl (Nat.le_of_ble_eq_true rfl) ?_
  refine gx_w mo_p0 ?_
  refine gx_aload_n d_Mo_back_5 rfl ?_
  refine gx_cVr lk_Mo_171 d_Mo_back_6 (cm_kind (ds := sp_dS S) h.d.2 (sp_dsx_len S.1 S.2.1).2 (sp_dsx_ok hS.1 hS.2.1) h.t.2.1 hS.2.2.2.1 hS.2.2.1) (Or.inl ⟨_, mo_o⟩) (by omega) rfl rfl (Nat.le_of_ble_eq_true rfl) (fun r2 w2 hq => ?_)
  obtain ⟨rfl, A2, rfl, hV⟩ := hq
  refine gx_iconst d_Mo_back_9 (nI 2) (by decide) ?_
  refine gx_icmp_eqN (by omega) (by omega) (tgt := 15) d_Mo_back_10 (by decide) (fun h10 => ?_) (fun h10 => ?_)
  · refine gx_aload_n d_Mo_back_15 rfl ?_
    refine gx_iconst d_Mo_back_16 (nI 1) (by decide) ?_
    refine gx_cVr lk_Mo_167 d_Mo_back_17 (cm_wordU (ds := sp_dS S) (by unfold moDs; rw [hV.1 8 (by decide) (by decide), hV.1 9 (by decide) (by decide), hV.1 10 (by decide) (by decide), hV.1 11 (by decide) (by decide)]; exact h.1.2.2.2.1.2) (sp_dsx_len S.1 S.2.1).2 (by rw [hV.1 13 (by decide) (by decide)]; exact h.t.2.1) hS.2.2.2.1 hS.2.2.1) (Or.inl ⟨_, mo_o⟩) (by omega) rfl rfl (Nat.le_of_ble_eq_true rfl) (fun r2 w2 hq => ?_)
    obtain ⟨rfl, A3, rfl, hU⟩ := hq
    refine gx_istore_n d_Mo_back_20 (Nat.le_of_ble_eq_true rfl) rfl ?_
    refine gx_iconst d_Mo_back_21 (nI 4294967295) (by decide) ?_
    refine gx_istore_n d_Mo_back_22 (Nat.le_of_ble_eq_true rfl) rfl ?_
    refine gx_iconst d_Mo_back_23 (nI 0) (by decide) ?_
    refine gx_istore_n d_Mo_back_24 (Nat.le_of_ble_eq_true rfl) rfl ?_
    refine gx_wk ?_ (lm_back (u := sp_up (sp_dS S) S.2.2.1) hU.2 hu1 (by omega) ((sp_up (sp_dS S) S.2.2.1).length + 1) 0 0 (by omega) (Nat.zero_le _) (Nat.zero_add _))
    intro r w2 hq _
    obtain ⟨rfl, rfl⟩ := hq
    rw [show sp_back (sp_dS S) S.2.2.1 = nI (sp_hh (sp_up (sp_dS S) S.2.2.1)) - nI 1 from if_pos h10]
    exact ⟨rfl, _, _, rfl, (h.t.V hV).of (fun _ _ _ => rfl) (fun j hj => hU.1 j (by omega)), ui_s⟩
  · refine gx_iconst d_Mo_back_13 (nI 4294967295) (by decide) ?_
    refine gx_ireturn rfl d_Mo_back_14 ?_
    rw [show sp_back (sp_dS S) S.2.2.1 = -1 from if_neg h10]
    exact ⟨congrArg (fun x => some (Value.int x)) gx_m1.symm, _, _, rfl, h.t.V hV, ui_s⟩
def sp_tk (z : Bool) (u t : List Nat) (i f : Nat) : Prop := f ≤ 1 ∧ (f = 1 ↔ z = true ∧ u.length = t.length ∧ ∀ k, k < i → u.getD k 0 = t.getD k 0)
theorem sp_tk.s0 {z : Bool} {u t : List Nat} {i f : Nat} (h : sp_tk z u t i f) (h0 : f = 0) : sp_tk z u t (i + 1) 0 := ⟨by decide, ⟨fun g => absurd g (by decide), fun g => absurd (h.2.mpr ⟨g.1, g.2.1, fun k hk => g.2.2 k (by omega)⟩) (by omega)⟩⟩
theorem sp_tk.sn {z : Bool} {u t : List Nat} {i f : Nat} (h : sp_tk z u t i f) (h0 : ¬ u.getD i 0 = t.getD i 0) : sp_tk z u t (i + 1) 0 := ⟨by decide, ⟨fun g => absurd g (by decide), fun g => absurd (g.2.2 i (by omega)) h0⟩⟩
theorem sp_tk.sy {z : Bool} {u t : List Nat} {i f : Nat} (h : sp_tk z u t i f) (h1 : ¬ f = 0) (h0 : u.getD i 0 = t.getD i 0) : sp_tk z u t (i + 1) 1 := by
  have hf := h.1
  obtain ⟨a1, a2, a3⟩ := h.2.mp (by omega)
  exact ⟨by decide, ⟨fun _ => ⟨a1, a2, fun k hk => by
    by_cases e : k = i
    · rw [e]; exact h0
    · exact a3 k (by omega)⟩, fun _ => rfl⟩⟩
theorem sp_tk.len {z : Bool} {u t : List Nat} {i f : Nat} (h : sp_tk z u t i f) (h1 : ¬ f = 0) : u.length = t.length := (h.2.mp (by have := h.1; omega)).2.1
theorem sp_tk.fin {z : Bool} {u t : List Nat} {f : Nat} (h : sp_tk z u t t.length f) : f = (z && decide (t = u)).toNat := by
  have hf := h.1
  by_cases e : f = 1
  · obtain ⟨a1, a2, a3⟩ := h.2.mp e
    rw [a1, decide_eq_true ((gx_exl a2.symm).mpr (fun i hi => (a3 i hi).symm)), e]; rfl
  · cases hz : z
    · rw [Bool.false_and]; show f = 0; omega
    · rw [Bool.true_and, decide_eq_false (fun g => e (h.2.mpr ⟨hz, by rw [g], fun k hk => by rw [g]⟩))]; show f = 0; omega
theorem sp_trees_z (ds : List (List Nat × List Nat)) (laid typed : List Nat) : sp_trees ds laid typed = (decide (0 < laid.length) && decide (typed = sp_up ds laid)).toNat + (decide (0 < laid.length) && decide (typed = sp_lw ds laid)).toNat := by
  unfold sp_trees
  by_cases h : laid.length = 0
  · rw [if_pos h, decide_eq_false (show ¬ 0 < laid.length by omega), Bool.false_and, Bool.false_and]; rfl
  · rw [if_neg h, decide_eq_true (show 0 < laid.length by omega), Bool.true_and, Bool.true_and]
theorem d_Mo_trees_0 : decode prog_11_method_37_code 0 = .ok (.aload_n 0, 1) := by decide +kernel
theorem d_Mo_trees_1 : decode prog_11_method_37_code 1 = .ok (.iconst 0, 1) := by decide +kernel
theorem d_Mo_trees_2 : decode prog_11_method_37_code 2 = .ok (.putfield 90, 3) := by decide +kernel
theorem d_Mo_trees_5 : decode prog_11_method_37_code 5 = .ok (.aload_n 0, 1) := by decide +kernel
theorem d_Mo_trees_6 : decode prog_11_method_37_code 6 = .ok (.iconst 1, 1) := by decide +kernel
theorem d_Mo_trees_7 : decode prog_11_method_37_code 7 = .ok (.invokevirtual 167, 3) := by decide +kernel
theorem d_Mo_trees_10 : decode prog_11_method_37_code 10 = .ok (.istore_n 1, 1) := by decide +kernel
theorem d_Mo_trees_11 : decode prog_11_method_37_code 11 = .ok (.aload_n 0, 1) := by decide +kernel
theorem d_Mo_trees_12 : decode prog_11_method_37_code 12 = .ok (.iconst 0, 1) := by decide +kernel
theorem d_Mo_trees_13 : decode prog_11_method_37_code 13 = .ok (.invokevirtual 167, 3) := by decide +kernel
theorem d_Mo_trees_16 : decode prog_11_method_37_code 16 = .ok (.istore_n 2, 1) := by decide +kernel
theorem d_Mo_trees_17 : decode prog_11_method_37_code 17 = .ok (.aload_n 0, 1) := by decide +kernel
theorem d_Mo_trees_18 : decode prog_11_method_37_code 18 = .ok (.getfield 129, 3) := by decide +kernel
theorem d_Mo_trees_21 : decode prog_11_method_37_code 21 = .ok (.ifCond .le 15, 3) := by decide +kernel
theorem d_Mo_trees_24 : decode prog_11_method_37_code 24 = .ok (.iload_n 1, 1) := by decide +kernel
theorem d_Mo_trees_25 : decode prog_11_method_37_code 25 = .ok (.aload_n 0, 1) := by decide +kernel
theorem d_Mo_trees_26 : decode prog_11_method_37_code 26 = .ok (.getfield 132, 3) := by decide +kernel
theorem d_Mo_trees_29 : decode prog_11_method_37_code 29 = .ok (.if_icmp .ne 7, 3) := by decide +kernel
theorem d_Mo_trees_32 : decode prog_11_method_37_code 32 = .ok (.iconst 1, 1) := by decide +kernel
theorem d_Mo_trees_33 : decode prog_11_method_37_code 33 = .ok (.goto 4, 3) := by decide +kernel
theorem d_Mo_trees_36 : decode prog_11_method_37_code 36 = .ok (.iconst 0, 1) := by decide +kernel
theorem d_Mo_trees_37 : decode prog_11_method_37_code 37 = .ok (.istore_n 3, 1) := by decide +kernel
theorem d_Mo_trees_38 : decode prog_11_method_37_code 38 = .ok (.aload_n 0, 1) := by decide +kernel
theorem d_Mo_trees_39 : decode prog_11_method_37_code 39 = .ok (.getfield 129, 3) := by decide +kernel
theorem d_Mo_trees_42 : decode prog_11_method_37_code 42 = .ok (.ifCond .le 15, 3) := by decide +kernel
theorem d_Mo_trees_45 : decode prog_11_method_37_code 45 = .ok (.iload_n 2, 1) := by decide +kernel
theorem d_Mo_trees_46 : decode prog_11_method_37_code 46 = .ok (.aload_n 0, 1) := by decide +kernel
theorem d_Mo_trees_47 : decode prog_11_method_37_code 47 = .ok (.getfield 132, 3) := by decide +kernel
theorem d_Mo_trees_50 : decode prog_11_method_37_code 50 = .ok (.if_icmp .ne 7, 3) := by decide +kernel
theorem d_Mo_trees_53 : decode prog_11_method_37_code 53 = .ok (.iconst 1, 1) := by decide +kernel
theorem d_Mo_trees_54 : decode prog_11_method_37_code 54 = .ok (.goto 4, 3) := by decide +kernel
theorem d_Mo_trees_57 : decode prog_11_method_37_code 57 = .ok (.iconst 0, 1) := by decide +kernel
theorem d_Mo_trees_58 : decode prog_11_method_37_code 58 = .ok (.istore 4, 2) := by decide +kernel
theorem d_Mo_trees_60 : decode prog_11_method_37_code 60 = .ok (.iconst 0, 1) := by decide +kernel
theorem d_Mo_trees_61 : decode prog_11_method_37_code 61 = .ok (.istore 5, 2) := by decide +kernel
theorem d_Mo_trees_63 : decode prog_11_method_37_code 63 = .ok (.iload 5, 2) := by decide +kernel
theorem d_Mo_trees_65 : decode prog_11_method_37_code 65 = .ok (.aload_n 0, 1) := by decide +kernel
theorem d_Mo_trees_66 : decode prog_11_method_37_code 66 = .ok (.getfield 132, 3) := by decide +kernel
theorem d_Mo_trees_69 : decode prog_11_method_37_code 69 = .ok (.if_icmp .ge 65, 3) := by decide +kernel
theorem d_Mo_trees_72 : decode prog_11_method_37_code 72 = .ok (.iload_n 3, 1) := by decide +kernel
theorem d_Mo_trees_73 : decode prog_11_method_37_code 73 = .ok (.ifCond .eq 24, 3) := by decide +kernel
theorem d_Mo_trees_76 : decode prog_11_method_37_code 76 = .ok (.aload_n 0, 1) := by decide +kernel
theorem d_Mo_trees_77 : decode prog_11_method_37_code 77 = .ok (.getfield 53, 3) := by decide +kernel
theorem d_Mo_trees_80 : decode prog_11_method_37_code 80 = .ok (.iload 5, 2) := by decide +kernel
theorem d_Mo_trees_82 : decode prog_11_method_37_code 82 = .ok (.iaload, 1) := by decide +kernel
theorem d_Mo_trees_83 : decode prog_11_method_37_code 83 = .ok (.aload_n 0, 1) := by decide +kernel
theorem d_Mo_trees_84 : decode prog_11_method_37_code 84 = .ok (.getfield 50, 3) := by decide +kernel
theorem d_Mo_trees_87 : decode prog_11_method_37_code 87 = .ok (.iload 5, 2) := by decide +kernel
theorem d_Mo_trees_89 : decode prog_11_method_37_code 89 = .ok (.iaload, 1) := by decide +kernel
theorem d_Mo_trees_90 : decode prog_11_method_37_code 90 = .ok (.if_icmp .ne 7, 3) := by decide +kernel
theorem d_Mo_trees_93 : decode prog_11_method_37_code 93 = .ok (.iconst 1, 1) := by decide +kernel
theorem d_Mo_trees_94 : decode prog_11_method_37_code 94 = .ok (.goto 4, 3) := by decide +kernel
theorem d_Mo_trees_97 : decode prog_11_method_37_code 97 = .ok (.iconst 0, 1) := by decide +kernel
theorem d_Mo_trees_98 : decode prog_11_method_37_code 98 = .ok (.istore_n 3, 1) := by decide +kernel
theorem d_Mo_trees_99 : decode prog_11_method_37_code 99 = .ok (.iload 4, 2) := by decide +kernel
theorem d_Mo_trees_101 : decode prog_11_method_37_code 101 = .ok (.ifCond .eq 24, 3) := by decide +kernel
theorem d_Mo_trees_104 : decode prog_11_method_37_code 104 = .ok (.aload_n 0, 1) := by decide +kernel
theorem d_Mo_trees_105 : decode prog_11_method_37_code 105 = .ok (.getfield 56, 3) := by decide +kernel
theorem d_Mo_trees_108 : decode prog_11_method_37_code 108 = .ok (.iload 5, 2) := by decide +kernel
theorem d_Mo_trees_110 : decode prog_11_method_37_code 110 = .ok (.iaload, 1) := by decide +kernel
theorem d_Mo_trees_111 : decode prog_11_method_37_code 111 = .ok (.aload_n 0, 1) := by decide +kernel
theorem d_Mo_trees_112 : decode prog_11_method_37_code 112 = .ok (.getfield 50, 3) := by decide +kernel
theorem d_Mo_trees_115 : decode prog_11_method_37_code 115 = .ok (.iload 5, 2) := by decide +kernel
theorem d_Mo_trees_117 : decode prog_11_method_37_code 117 = .ok (.iaload, 1) := by decide +kernel
theorem d_Mo_trees_118 : decode prog_11_method_37_code 118 = .ok (.if_icmp .ne 7, 3) := by decide +kernel
theorem d_Mo_trees_121 : decode prog_11_method_37_code 121 = .ok (.iconst 1, 1) := by decide +kernel
theorem d_Mo_trees_122 : decode prog_11_method_37_code 122 = .ok (.goto 4, 3) := by decide +kernel
theorem d_Mo_trees_125 : decode prog_11_method_37_code 125 = .ok (.iconst 0, 1) := by decide +kernel
theorem d_Mo_trees_126 : decode prog_11_method_37_code 126 = .ok (.istore 4, 2) := by decide +kernel
theorem d_Mo_trees_128 : decode prog_11_method_37_code 128 = .ok (.iinc 5 1, 3) := by decide +kernel
theorem d_Mo_trees_131 : decode prog_11_method_37_code 131 = .ok (.goto (-68), 3) := by decide +kernel
theorem d_Mo_trees_134 : decode prog_11_method_37_code 134 = .ok (.iload_n 3, 1) := by decide +kernel
theorem d_Mo_trees_135 : decode prog_11_method_37_code 135 = .ok (.ifCond .eq 7, 3) := by decide +kernel
theorem d_Mo_trees_138 : decode prog_11_method_37_code 138 = .ok (.iconst 1, 1) := by decide +kernel
theorem d_Mo_trees_139 : decode prog_11_method_37_code 139 = .ok (.goto 4, 3) := by decide +kernel
theorem d_Mo_trees_142 : decode prog_11_method_37_code 142 = .ok (.iconst 0, 1) := by decide +kernel
theorem d_Mo_trees_143 : decode prog_11_method_37_code 143 = .ok (.iload 4, 2) := by decide +kernel
theorem d_Mo_trees_145 : decode prog_11_method_37_code 145 = .ok (.ifCond .eq 7, 3) := by decide +kernel
theorem d_Mo_trees_148 : decode prog_11_method_37_code 148 = .ok (.iconst 1, 1) := by decide +kernel
theorem d_Mo_trees_149 : decode prog_11_method_37_code 149 = .ok (.goto 4, 3) := by decide +kernel
theorem d_Mo_trees_152 : decode prog_11_method_37_code 152 = .ok (.iconst 0, 1) := by decide +kernel
theorem d_Mo_trees_153 : decode prog_11_method_37_code 153 = .ok (.iadd, 1) := by decide +kernel
theorem d_Mo_trees_154 : decode prog_11_method_37_code 154 = .ok (.ireturn, 1) := by decide +kernel
theorem lm_trees {w : gx_W} {m : Nat} {I : Nat → Nat} {A : Nat → Nat → Nat} {u v t : List Nat} {z : Bool} (hu : gx_sm u) (hv : gx_sm v) (hul : u.length ≤ 420) (hvl : v.length ≤ 420) (ht : gx_sm t) (ht60 : t.length ≤ 60) (hA : ∀ i, i < u.length → A 15 i = u.getD i 0) (hB : ∀ i, i < v.length → A 16 i = v.getD i 0) (hT : moL (I 6) (A 14) t)  : ∀ (fu : Nat) (i : Nat) (f : Nat) (g : Nat), t.length - i < fu → (i ≤ t.length) → (sp_tk z u t i f) → (sp_tk z v t i g) → gx_X (fun _ _ => True) M_Mo_trees 7 (gx_nt (gx_eq (some (.int (nI ((z && decide (t = u)).toNat + (z && decide (t = v)).toNat)))) (gx_mo w m I A))) 63 [some (.ref m), some (.int (nI u.length)), some (.int (nI v.length)), some (.int (nI f)), some (.int (nI g)), some (.int (nI i))] [] (gx_mo w m I A) (0, 0) := by
  intro fu
  induction fu with
  | zero => intro i f g hfu; exact absurd hfu (Nat.not_lt_zero _)
  | succ fu ih =>
    intro i f g hfu hi hf hg
    have h1 := gx_sm_at hu i
    have h2 := gx_sm_at hv i
    have h3 := gx_sm_at ht i
    have hf1 := hf.1
    have hg1 := hg.1
    refine gx_iload d_Mo_trees_63 rfl ?_
    refine gx_aload_n d_Mo_trees_65 rfl ?_
    refine gx_get fl_Mo_132 d_Mo_trees_66 mo_o rfl ?_
    rw [hT.1]
    refine gx_icmp_geN (by omega) (by omega) (tgt := 134) d_Mo_trees_69 (by decide) (fun h69 => ?_) (fun h69 => ?_)
    · obtain rfl : i = t.length := by omega
      have e1 := hf.fin
      have e2 := hg.fin
      have e3 := Bool.toNat_le (z && decide (t = u))
      have e4 := Bool.toNat_le (z && decide (t = v))
      refine gx_iload_n d_Mo_trees_134 rfl ?_
      refine gx_if_eqN (by omega) (tgt := 142) d_Mo_trees_135 (by decide) (fun h135 => ?_) (fun h135 => ?_)
      · refine gx_iconst d_Mo_trees_142 (nI 0) (by decide) ?_
        refine gx_iload d_Mo_trees_143 rfl ?_
        refine gx_if_eqN (by omega) (tgt := 152) d_Mo_trees_145 (by decide) (fun h145 => ?_) (fun h145 => ?_)
        · refine gx_iconst d_Mo_trees_152 (nI 0) (by decide) ?_
          refine gx_iaddN d_Mo_trees_153 ?_
          refine gx_ireturn rfl d_Mo_trees_154 ?_
          rw [← e1, ← e2]
          exact ⟨by rw [h135, h145], rfl⟩
        · refine gx_iconst d_Mo_trees_148 (nI 1) (by decide) ?_
          refine gx_goto (tgt := 153) d_Mo_trees_149 (by decide) ?_
          refine gx_iaddN d_Mo_trees_153 ?_
          refine gx_ireturn rfl d_Mo_trees_154 ?_
          rw [← e1, ← e2]
          exact ⟨by rw [h135, show g = 1 by omega], rfl⟩
      · refine gx_iconst d_Mo_trees_138 (nI 1) (by decide) ?_
        refine gx_goto (tgt := 143) d_Mo_trees_139 (by decide) ?_
        refine gx_iload d_Mo_trees_143 rfl ?_
        refine gx_if_eqN (by omega) (tgt := 152) d_Mo_trees_145 (by decide) (fun h145 => ?_) (fun h145 => ?_)
        · refine gx_iconst d_Mo_trees_152 (nI 0) (by decide) ?_
          refine gx_iaddN d_Mo_trees_153 ?_
          refine gx_ireturn rfl d_Mo_trees_154 ?_
          rw [← e1, ← e2]
          exact ⟨by rw [show f = 1 by omega, h145], rfl⟩
        · refine gx_iconst d_Mo_trees_148 (nI 1) (by decide) ?_
          refine gx_goto (tgt := 153) d_Mo_trees_149 (by decide) ?_
          refine gx_iaddN d_Mo_trees_153 ?_
          refine gx_ireturn rfl d_Mo_trees_154 ?_
          rw [← e1, ← e2]
          exact ⟨by rw [show f = 1 by omega, show g = 1 by omega], rfl⟩
    · refine gx_iload_n d_Mo_trees_72 rfl ?_
      refine gx_if_eqN (by omega) (tgt := 97) d_Mo_trees_73 (by decide) (fun h73 => ?_) (fun h73 => ?_)
      · refine gx_iconst d_Mo_trees_97 (nI 0) (by decide) ?_
        refine gx_istore_n d_Mo_trees_98 (Nat.le_of_ble_eq_true rfl) rfl ?_
        refine gx_iload d_Mo_trees_99 rfl ?_
        refine gx_if_eqN (by omega) (tgt := 125) d_Mo_trees_101 (by decide) (fun h101 => ?_) (fun h101 => ?_)
        · refine gx_iconst d_Mo_trees_125 (nI 0) (by decide) ?_
          refine gx_istore d_Mo_trees_126 (Nat.le_of_ble_eq_true rfl) rfl ?_
          refine gx_iincN (n := 1) d_Mo_trees_128 rfl (by decide) (Nat.le_of_ble_eq_true rfl) rfl ?_
          refine gx_goto (tgt := 63) d_Mo_trees_131 (by decide) ?_
          exact ih (i + 1) 0 0 (by omega) (by omega) (hf.s0 h73) (hg.s0 h101)
        · have hl2 := hg.len h101
          refine gx_aload_n d_Mo_trees_104 rfl ?_
          refine gx_get fl_Mo_56 d_Mo_trees_105 mo_o rfl ?_
          refine gx_iload d_Mo_trees_108 rfl ?_
          refine gx_iald d_Mo_trees_110 mo_16 (by omega) (by omega) ?_
          rw [hB i (by omega)]
          refine gx_aload_n d_Mo_trees_111 rfl ?_
          refine gx_get fl_Mo_50 d_Mo_trees_112 mo_o rfl ?_
          refine gx_iload d_Mo_trees_115 rfl ?_
          refine gx_iald d_Mo_trees_117 mo_14 (by omega) (by omega) ?_
          rw [hT.2 i (by omega)]
          refine gx_icmp_neN (by omega) (by omega) (tgt := 125) d_Mo_trees_118 (by decide) (fun h118 => ?_) (fun h118 => ?_)
          · refine gx_iconst d_Mo_trees_125 (nI 0) (by decide) ?_
            refine gx_istore d_Mo_trees_126 (Nat.le_of_ble_eq_true rfl) rfl ?_
            refine gx_iincN (n := 1) d_Mo_trees_128 rfl (by decide) (Nat.le_of_ble_eq_true rfl) rfl ?_
            refine gx_goto (tgt := 63) d_Mo_trees_131 (by decide) ?_
            exact ih (i + 1) 0 0 (by omega) (by omega) (hf.s0 h73) (hg.sn h118)
          · refine gx_iconst d_Mo_trees_121 (nI 1) (by decide) ?_
            refine gx_goto (tgt := 126) d_Mo_trees_122 (by decide) ?_
            refine gx_istore d_Mo_trees_126 (Nat.le_of_ble_eq_true rfl) rfl ?_
            refine gx_iincN (n := 1) d_Mo_trees_128 rfl (by decide) (Nat.le_of_ble_eq_true rfl) rfl ?_
            refine gx_goto (tgt := 63) d_Mo_trees_131 (by decide) ?_
            exact ih (i + 1) 0 1 (by omega) (by omega) (hf.s0 h73) (hg.sy h101 h118)
      · have hl1 := hf.len h73
        refine gx_aload_n d_Mo_trees_76 rfl ?_
        refine gx_get fl_Mo_53 d_Mo_trees_77 mo_o rfl ?_
        refine gx_iload d_Mo_trees_80 rfl ?_
        refine gx_iald d_Mo_trees_82 mo_15 (by omega) (by omega) ?_
        rw [hA i (by omega)]
        refine gx_aload_n d_Mo_trees_83 rfl ?_
        refine gx_get fl_Mo_50 d_Mo_trees_84 mo_o rfl ?_
        refine gx_iload d_Mo_trees_87 rfl ?_
        refine gx_iald d_Mo_trees_89 mo_14 (by omega) (by omega) ?_
        rw [hT.2 i (by omega)]
        refine gx_icmp_neN (by omega) (by omega) (tgt := 97) d_Mo_trees_90 (by decide) (fun h90 => ?_) (fun h90 => ?_)
        · refine gx_iconst d_Mo_trees_97 (nI 0) (by decide) ?_
          refine gx_istore_n d_Mo_trees_98 (Nat.le_of_ble_eq_true rfl) rfl ?_
          refine gx_iload d_Mo_trees_99 rfl ?_
          refine gx_if_eqN (by omega) (tgt := 125) d_Mo_trees_101 (by decide) (fun h101 => ?_) (fun h101 => ?_)
          · refine gx_iconst d_Mo_trees_125 (nI 0) (by decide) ?_
            refine gx_istore d_Mo_trees_126 (Nat.le_of_ble_eq_true rfl) rfl ?_
            refine gx_iincN (n := 1) d_Mo_trees_128 rfl (by decide) (Nat.le_of_ble_eq_true rfl) rfl ?_
            refine gx_goto (tgt := 63) d_Mo_trees_131 (by decide) ?_
            exact ih (i + 1) 0 0 (by omega) (by omega) (hf.sn h90) (hg.s0 h101)
          · have hl2 := hg.len h101
            refine gx_aload_n d_Mo_trees_104 rfl ?_
            refine gx_get fl_Mo_56 d_Mo_trees_105 mo_o rfl ?_
            refine gx_iload d_Mo_trees_108 rfl ?_
            refine gx_iald d_Mo_trees_110 mo_16 (by omega) (by omega) ?_
            rw [hB i (by omega)]
            refine gx_aload_n d_Mo_trees_111 rfl ?_
            refine gx_get fl_Mo_50 d_Mo_trees_112 mo_o rfl ?_
            refine gx_iload d_Mo_trees_115 rfl ?_
            refine gx_iald d_Mo_trees_117 mo_14 (by omega) (by omega) ?_
            rw [hT.2 i (by omega)]
            refine gx_icmp_neN (by omega) (by omega) (tgt := 125) d_Mo_trees_118 (by decide) (fun h118 => ?_) (fun h118 => ?_)
            · refine gx_iconst d_Mo_trees_125 (nI 0) (by decide) ?_
              refine gx_istore d_Mo_trees_126 (Nat.le_of_ble_eq_true rfl) rfl ?_
              refine gx_iincN (n := 1) d_Mo_trees_128 rfl (by decide) (Nat.le_of_ble_eq_true rfl) rfl ?_
              refine gx_goto (tgt := 63) d_Mo_trees_131 (by decide) ?_
              exact ih (i + 1) 0 0 (by omega) (by omega) (hf.sn h90) (hg.sn h118)
            · refine gx_iconst d_Mo_trees_121 (nI 1) (by decide) ?_
              refine gx_goto (tgt := 126) d_Mo_trees_122 (by decide) ?_
              refine gx_istore d_Mo_trees_126 (Nat.le_of_ble_eq_true rfl) rfl ?_
              refine gx_iincN (n := 1) d_Mo_trees_128 rfl (by decide) (Nat.le_of_ble_eq_true rfl) rfl ?_
              refine gx_goto (tgt := 63) d_Mo_trees_131 (by decide) ?_
              exact ih (i + 1) 0 1 (by omega) (by omega) (hf.sn h90) (hg.sy h101 h118)
        · refine gx_iconst d_Mo_trees_93 (nI 1) (by decide) ?_
          refine gx_goto (tgt := 98) d_Mo_trees_94 (by decide) ?_
          refine gx_istore_n d_Mo_trees_98 (Nat.le_of_ble_eq_true rfl) rfl ?_
          refine gx_iload d_Mo_trees_99 rfl ?_
          refine gx_if_eqN (by omega) (tgt := 125) d_Mo_trees_101 (by decide) (fun h101 => ?_) (fun h101 => ?_)
          · refine gx_iconst d_Mo_trees_125 (nI 0) (by decide) ?_
            refine gx_istore d_Mo_trees_126 (Nat.le_of_ble_eq_true rfl) rfl ?_
            refine gx_iincN (n := 1) d_Mo_trees_128 rfl (by decide) (Nat.le_of_ble_eq_true rfl) rfl ?_
            refine gx_goto (tgt := 63) d_Mo_trees_131 (by decide) ?_
            exact ih (i + 1) 1 0 (by omega) (by omega) (hf.sy h73 h90) (hg.s0 h101)
          · have hl2 := hg.len h101
            refine gx_aload_n d_Mo_trees_104 rfl ?_
            refine gx_get fl_Mo_56 d_Mo_trees_105 mo_o rfl ?_
            refine gx_iload d_Mo_trees_108 rfl ?_
            refine gx_iald d_Mo_trees_110 mo_16 (by omega) (by omega) ?_
            rw [hB i (by omega)]
            refine gx_aload_n d_Mo_trees_111 rfl ?_
            refine gx_get fl_Mo_50 d_Mo_trees_112 mo_o rfl ?_
            refine gx_iload d_Mo_trees_115 rfl ?_
            refine gx_iald d_Mo_trees_117 mo_14 (by omega) (by omega) ?_
            rw [hT.2 i (by omega)]
            refine gx_icmp_neN (by omega) (by omega) (tgt := 125) d_Mo_trees_118 (by decide) (fun h118 => ?_) (fun h118 => ?_)
            · refine gx_iconst d_Mo_trees_125 (nI 0) (by decide) ?_
              refine gx_istore d_Mo_trees_126 (Nat.le_of_ble_eq_true rfl) rfl ?_
              refine gx_iincN (n := 1) d_Mo_trees_128 rfl (by decide) (Nat.le_of_ble_eq_true rfl) rfl ?_
              refine gx_goto (tgt := 63) d_Mo_trees_131 (by decide) ?_
              exact ih (i + 1) 1 0 (by omega) (by omega) (hf.sy h73 h90) (hg.sn h118)
            · refine gx_iconst d_Mo_trees_121 (nI 1) (by decide) ?_
              refine gx_goto (tgt := 126) d_Mo_trees_122 (by decide) ?_
              refine gx_istore d_Mo_trees_126 (Nat.le_of_ble_eq_true rfl) rfl ?_
              refine gx_iincN (n := 1) d_Mo_trees_128 rfl (by decide) (Nat.le_of_ble_eq_true rfl) rfl ?_
              refine gx_goto (tgt := 63) d_Mo_trees_131 (by decide) ?_
              exact ih (i + 1) 1 1 (by omega) (by omega) (hf.sy h73 h90) (hg.sy h101 h118)
theorem cm_trees {w : gx_W} {m : Nat} {I : Nat → Nat} {A : Nat → Nat → Nat} {S : sp_St} (h : mdl I A S) (hS : sp_Sok S) (hty : gx_sm S.2.2.2.1) : gx_Ct M_Mo_trees 7 0 0 [.ref m] (gx_mo w m I A) (moQ w m (nI (sp_trees (sp_dS S) S.2.2.1 S.2.2.2.1)) S 0) := by
  refine gx_ct (L := [some (.ref m), none, none, none, none, none]) (by decide) (Nat.le_of_ble_eq_true rfl) rfl ?_
  obtain ⟨⟨hu1, hu2⟩, hv1, hv2⟩ := sp_up_le (sp_dsx_ok hS.1 hS.2.1) S.2.2.1 hS.2.2.1
  have h60 := hS.2.2.2.1
  have ht60 := hS.2.2.2.2
  change (sp_up (sp_dS S) S.2.2.1).length ≤ _ at hu2
  change (sp_lw (sp_dS S) S.2.2.1).length ≤ _ at hv2
  refine gx_aload_n d_Mo_trees_0 rfl ?_
  refine gx_iconst d_Mo_trees_1 (nI 0) (by decide) ?_
  refine gx_put fp_Mo_90 (fun h => by cases h) d_Mo_trees_2 mo_o rfl rfl (Nat.le_of_ble_eq_true rfl) ?_
  refine gx_w mo_p0 ?_
  refine gx_aload_n d_Mo_trees_5 rfl ?_
  refine gx_iconst d_Mo_trees_6 (nI 1) (by decide) ?_
  refine gx_cVr lk_Mo_167 d_Mo_trees_7 (cm_wordU (ds := sp_dS S) h.1.2.2.2.1.2 (sp_dsx_len S.1 S.2.1).2 h.t.2.1 hS.2.2.2.1 hS.2.2.1) (Or.inl ⟨_, mo_o⟩) (by omega) rfl rfl (Nat.le_of_ble_eq_true rfl) (fun r2 w2 hq => ?_)
  obtain ⟨rfl, A1, rfl, hU1⟩ := hq
  refine gx_istore_n d_Mo_trees_10 (Nat.le_of_ble_eq_true rfl) rfl ?_
  refine gx_aload_n d_Mo_trees_11 rfl ?_
  refine gx_iconst d_Mo_trees_12 (nI 0) (by decide) ?_
  refine gx_cVr lk_Mo_167 d_Mo_trees_13 (cm_wordL (ds := sp_dS S) (by unfold moDs; rw [hU1.1 8 (by decide), hU1.1 9 (by decide), hU1.1 10 (by decide), hU1.1 11 (by decide)]; exact h.1.2.2.2.1.2) (sp_dsx_len S.1 S.2.1).2 (by rw [hU1.1 13 (by decide)]; exact h.t.2.1) hS.2.2.2.1 hS.2.2.1) (Or.inl ⟨_, mo_o⟩) (by omega) rfl rfl (Nat.le_of_ble_eq_true rfl) (fun r2 w2 hq => ?_)
  obtain ⟨rfl, A2, rfl, hU2⟩ := hq
  have hV := moV.of hU1 hU2
  have hT2 : moL (sp_u I 0 0 6) (A2 14) S.2.2.2.1 := by rw [hV.1 14 (by decide) (by decide)]; exact h.t.2.2.1
  refine gx_istore_n d_Mo_trees_16 (Nat.le_of_ble_eq_true rfl) rfl ?_
  refine gx_aload_n d_Mo_trees_17 rfl ?_
  refine gx_get fl_Mo_129 d_Mo_trees_18 mo_o rfl ?_
  rw [ui_o (by decide), h.2.1.1]
  refine gx_if_leN (by omega) (tgt := 36) d_Mo_trees_21 (by decide) (fun h21 => ?_) (fun h21 => ?_)
  · refine gx_iconst d_Mo_trees_36 (nI 0) (by decide) ?_
    refine gx_istore_n d_Mo_trees_37 (Nat.le_of_ble_eq_true rfl) rfl ?_
    refine gx_aload_n d_Mo_trees_38 rfl ?_
    refine gx_get fl_Mo_129 d_Mo_trees_39 mo_o rfl ?_
    rw [ui_o (by decide), h.2.1.1]
    refine gx_if_leN (by omega) (tgt := 57) d_Mo_trees_42 (by decide) (fun h42 => ?_) (fun h42 => ?_)
    · refine gx_iconst d_Mo_trees_57 (nI 0) (by decide) ?_
      refine gx_istore d_Mo_trees_58 (Nat.le_of_ble_eq_true rfl) rfl ?_
      refine gx_iconst d_Mo_trees_60 (nI 0) (by decide) ?_
      refine gx_istore d_Mo_trees_61 (Nat.le_of_ble_eq_true rfl) rfl ?_
      refine gx_wk ?_ (lm_trees (z := decide (0 < S.2.2.1.length)) (u := sp_up (sp_dS S) S.2.2.1) (v := sp_lw (sp_dS S) S.2.2.1) (t := S.2.2.2.1) hu1 hv1 (by omega) (by omega) hty (by omega) hV.2.1 hV.2.2 hT2 (S.2.2.2.1.length + 1) 0 0 0 (by omega) (Nat.zero_le _) ⟨by decide, ⟨fun g => absurd g (by decide), fun g => absurd g.1 (by simp only [decide_eq_true_eq]; omega)⟩⟩ ⟨by decide, ⟨fun g => absurd g (by decide), fun g => absurd g.1 (by simp only [decide_eq_true_eq]; omega)⟩⟩)
      intro r w2 hq _
      obtain ⟨rfl, rfl⟩ := hq
      rw [sp_trees_z]
      exact ⟨rfl, _, _, rfl, h.t.V hV, ui_s⟩
    · exact absurd h42 (by omega)
  · refine gx_iload_n d_Mo_trees_24 rfl ?_
    refine gx_aload_n d_Mo_trees_25 rfl ?_
    refine gx_get fl_Mo_132 d_Mo_trees_26 mo_o rfl ?_
    rw [ui_o (by decide), h.2.2.1.1]
    refine gx_icmp_neN (by omega) (by omega) (tgt := 36) d_Mo_trees_29 (by decide) (fun h29 => ?_) (fun h29 => ?_)
    · refine gx_iconst d_Mo_trees_36 (nI 0) (by decide) ?_
      refine gx_istore_n d_Mo_trees_37 (Nat.le_of_ble_eq_true rfl) rfl ?_
      refine gx_aload_n d_Mo_trees_38 rfl ?_
      refine gx_get fl_Mo_129 d_Mo_trees_39 mo_o rfl ?_
      rw [ui_o (by decide), h.2.1.1]
      refine gx_if_leN (by omega) (tgt := 57) d_Mo_trees_42 (by decide) (fun h42 => ?_) (fun h42 => ?_)
      · exact absurd h42 (by omega)
      · refine gx_iload_n d_Mo_trees_45 rfl ?_
        refine gx_aload_n d_Mo_trees_46 rfl ?_
        refine gx_get fl_Mo_132 d_Mo_trees_47 mo_o rfl ?_
        rw [ui_o (by decide), h.2.2.1.1]
        refine gx_icmp_neN (by omega) (by omega) (tgt := 57) d_Mo_trees_50 (by decide) (fun h50 => ?_) (fun h50 => ?_)
        · refine gx_iconst d_Mo_trees_57 (nI 0) (by decide) ?_
          refine gx_istore d_Mo_trees_58 (Nat.le_of_ble_eq_true rfl) rfl ?_
          refine gx_iconst d_Mo_trees_60 (nI 0) (by decide) ?_
          refine gx_istore d_Mo_trees_61 (Nat.le_of_ble_eq_true rfl) rfl ?_
          refine gx_wk ?_ (lm_trees (z := decide (0 < S.2.2.1.length)) (u := sp_up (sp_dS S) S.2.2.1) (v := sp_lw (sp_dS S) S.2.2.1) (t := S.2.2.2.1) hu1 hv1 (by omega) (by omega) hty (by omega) hV.2.1 hV.2.2 hT2 (S.2.2.2.1.length + 1) 0 0 0 (by omega) (Nat.zero_le _) ⟨by decide, ⟨fun g => absurd g (by decide), fun g => absurd g.2.1 h29⟩⟩ ⟨by decide, ⟨fun g => absurd g (by decide), fun g => absurd g.2.1 h50⟩⟩)
          intro r w2 hq _
          obtain ⟨rfl, rfl⟩ := hq
          rw [sp_trees_z]
          exact ⟨rfl, _, _, rfl, h.t.V hV, ui_s⟩
        · refine gx_iconst d_Mo_trees_53 (nI 1) (by decide) ?_
          refine gx_goto (tgt := 58) d_Mo_trees_54 (by decide) ?_
          refine gx_istore d_Mo_trees_58 (Nat.le_of_ble_eq_true rfl) rfl ?_
          refine gx_iconst d_Mo_trees_60 (nI 0) (by decide) ?_
          refine gx_istore d_Mo_trees_61 (Nat.le_of_ble_eq_true rfl) rfl ?_
          refine gx_wk ?_ (lm_trees (z := decide (0 < S.2.2.1.length)) (u := sp_up (sp_dS S) S.2.2.1) (v := sp_lw (sp_dS S) S.2.2.1) (t := S.2.2.2.1) hu1 hv1 (by omega) (by omega) hty (by omega) hV.2.1 hV.2.2 hT2 (S.2.2.2.1.length + 1) 0 0 1 (by omega) (Nat.zero_le _) ⟨by decide, ⟨fun g => absurd g (by decide), fun g => absurd g.2.1 h29⟩⟩ ⟨by decide, ⟨fun _ => ⟨decide_eq_true (by omega), h50, fun k hk => absurd hk (Nat.not_lt_zero _)⟩, fun _ => rfl⟩⟩)
          intro r w2 hq _
          obtain ⟨rfl, rfl⟩ := hq
          rw [sp_trees_z]
          exact ⟨rfl, _, _, rfl, h.t.V hV, ui_s⟩
    · refine gx_iconst d_Mo_trees_32 (nI 1) (by decide) ?_
      refine gx_goto (tgt := 37) d_Mo_trees_33 (by decide) ?_
      refine gx_istore_n d_Mo_trees_37 (Nat.le_of_ble_eq_true rfl) rfl ?_
      refine gx_aload_n d_Mo_trees_38 rfl ?_
      refine gx_get fl_Mo_129 d_Mo_trees_39 mo_o rfl ?_
      rw [ui_o (by decide), h.2.1.1]
      refine gx_if_leN (by omega) (tgt := 57) d_Mo_trees_42 (by decide) (fun h42 => ?_) (fun h42 => ?_)
      · exact absurd h42 (by omega)
      · refine gx_iload_n d_Mo_trees_45 rfl ?_
        refine gx_aload_n d_Mo_trees_46 rfl ?_
        refine gx_get fl_Mo_132 d_Mo_trees_47 mo_o rfl ?_
        rw [ui_o (by decide), h.2.2.1.1]
        refine gx_icmp_neN (by omega) (by omega) (tgt := 57) d_Mo_trees_50 (by decide) (fun h50 => ?_) (fun h50 => ?_)
        · refine gx_iconst d_Mo_trees_57 (nI 0) (by decide) ?_
          refine gx_istore d_Mo_trees_58 (Nat.le_of_ble_eq_true rfl) rfl ?_
          refine gx_iconst d_Mo_trees_60 (nI 0) (by decide) ?_
          refine gx_istore d_Mo_trees_61 (Nat.le_of_ble_eq_true rfl) rfl ?_
          refine gx_wk ?_ (lm_trees (z := decide (0 < S.2.2.1.length)) (u := sp_up (sp_dS S) S.2.2.1) (v := sp_lw (sp_dS S) S.2.2.1) (t := S.2.2.2.1) hu1 hv1 (by omega) (by omega) hty (by omega) hV.2.1 hV.2.2 hT2 (S.2.2.2.1.length + 1) 0 1 0 (by omega) (Nat.zero_le _) ⟨by decide, ⟨fun _ => ⟨decide_eq_true (by omega), h29, fun k hk => absurd hk (Nat.not_lt_zero _)⟩, fun _ => rfl⟩⟩ ⟨by decide, ⟨fun g => absurd g (by decide), fun g => absurd g.2.1 h50⟩⟩)
          intro r w2 hq _
          obtain ⟨rfl, rfl⟩ := hq
          rw [sp_trees_z]
          exact ⟨rfl, _, _, rfl, h.t.V hV, ui_s⟩
        · refine gx_iconst d_Mo_trees_53 (nI 1) (by decide) ?_
          refine gx_goto (tgt := 58) d_Mo_trees_54 (by decide) ?_
          refine gx_istore d_Mo_trees_58 (Nat.le_of_ble_eq_true rfl) rfl ?_
          refine gx_iconst d_Mo_trees_60 (nI 0) (by decide) ?_
          refine gx_istore d_Mo_trees_61 (Nat.le_of_ble_eq_true rfl) rfl ?_
          refine gx_wk ?_ (lm_trees (z := decide (0 < S.2.2.1.length)) (u := sp_up (sp_dS S) S.2.2.1) (v := sp_lw (sp_dS S) S.2.2.1) (t := S.2.2.2.1) hu1 hv1 (by omega) (by omega) hty (by omega) hV.2.1 hV.2.2 hT2 (S.2.2.2.1.length + 1) 0 1 1 (by omega) (Nat.zero_le _) ⟨by decide, ⟨fun _ => ⟨decide_eq_true (by omega), h29, fun k hk => absurd hk (Nat.not_lt_zero _)⟩, fun _ => rfl⟩⟩ ⟨by decide, ⟨fun _ => ⟨decide_eq_true (by omega), h50, fun k hk => absurd hk (Nat.not_lt_zero _)⟩, fun _ => rfl⟩⟩)
          intro r w2 hq _
          obtain ⟨rfl, rfl⟩ := hq
          rw [sp_trees_z]
          exact ⟨rfl, _, _, rfl, h.t.V hV, ui_s⟩
