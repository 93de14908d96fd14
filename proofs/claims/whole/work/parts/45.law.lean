/-! the law: its script, its state -/
abbrev M_Law_law : gx_M := (⟨"PostChainLaw", "law", "([I)Z"⟩, code, 7, (some .boolean))
theorem ml_Law_36 : Cond.methodLink "PostChainLaw" 36 M_Law_rule.1 ∈ gx_T := gx_T_in (List.mem_append_right _ (show _ ∈ tables_1 from (List.mem_append_right _ (List.mem_append_right _ (List.mem_append_left _ (List.mem_of_getElem? (i := 163) (by decide +kernel))))))) (by decide +kernel)
theorem sn_Law_rule : Cond.static M_Law_rule.1 ∈ gx_T := gx_T_in (List.mem_append_right _ (show _ ∈ tables_1 from (List.mem_append_right _ (List.mem_append_right _ (List.mem_append_left _ (List.mem_of_getElem? (i := 164) (by decide +kernel))))))) (by decide +kernel)
theorem cw_Law_rule : Cond.codeWith M_Law_rule.1 M_Law_rule.2.1 M_Law_rule.2.2.1 M_Law_rule.2.2.2 (gx_tab M_Law_rule.1) ∈ gx_T := gx_T_in (List.mem_append_right _ (show _ ∈ tables_1 from (List.mem_append_right _ (List.mem_append_right _ (List.mem_append_left _ (List.mem_of_getElem? (i := 165) (by decide +kernel))))))) (by decide +kernel)
theorem ml_Law_45 : Cond.methodLink "PostChainLaw" 45 M_Law_drop.1 ∈ gx_T := gx_T_in (List.mem_append_right _ (show _ ∈ tables_1 from (List.mem_append_right _ (List.mem_append_right _ (List.mem_append_right _ (List.mem_append_left _ (List.mem_of_getElem? (i := 5) (by decide +kernel)))))))) (by decide +kernel)
theorem sn_Law_drop : Cond.static M_Law_drop.1 ∈ gx_T := gx_T_in (List.mem_append_right _ (show _ ∈ tables_1 from (List.mem_append_right _ (List.mem_append_right _ (List.mem_append_right _ (List.mem_append_left _ (List.mem_of_getElem? (i := 6) (by decide +kernel)))))))) (by decide +kernel)
theorem cw_Law_drop : Cond.codeWith M_Law_drop.1 M_Law_drop.2.1 M_Law_drop.2.2.1 M_Law_drop.2.2.2 (gx_tab M_Law_drop.1) ∈ gx_T := gx_T_in (List.mem_append_right _ (show _ ∈ tables_1 from (List.mem_append_right _ (List.mem_append_right _ (List.mem_append_right _ (List.mem_append_left _ (List.mem_of_getElem? (i := 7) (by decide +kernel)))))))) (by decide +kernel)
theorem ml_Law_49 : Cond.methodLink "PostChainLaw" 49 M_Law_input.1 ∈ gx_T := gx_T_in (List.mem_append_right _ (show _ ∈ tables_1 from (List.mem_append_right _ (List.mem_append_right _ (List.mem_append_right _ (List.mem_append_left _ (List.mem_of_getElem? (i := 16) (by decide +kernel)))))))) (by decide +kernel)
theorem sn_Law_input : Cond.static M_Law_input.1 ∈ gx_T := gx_T_in (List.mem_append_right _ (show _ ∈ tables_1 from (List.mem_append_right _ (List.mem_append_right _ (List.mem_append_right _ (List.mem_append_left _ (List.mem_of_getElem? (i := 17) (by decide +kernel)))))))) (by decide +kernel)
theorem cw_Law_input : Cond.codeWith M_Law_input.1 M_Law_input.2.1 M_Law_input.2.2.1 M_Law_input.2.2.2 (gx_tab M_Law_input.1) ∈ gx_T := gx_T_in (List.mem_append_right _ (show _ ∈ tables_1 from (List.mem_append_right _ (List.mem_append_right _ (List.mem_append_right _ (List.mem_append_left _ (List.mem_of_getElem? (i := 18) (by decide +kernel)))))))) (by decide +kernel)
theorem ml_Law_75 : Cond.methodLink "PostChainLaw" 75 M_Law_way.1 ∈ gx_T := gx_T_in (List.mem_append_right _ (show _ ∈ tables_1 from (List.mem_append_right _ (List.mem_append_right _ (List.mem_append_right _ (List.mem_append_left _ (List.mem_of_getElem? (i := 29) (by decide +kernel)))))))) (by decide +kernel)
theorem sn_Law_way : Cond.static M_Law_way.1 ∈ gx_T := gx_T_in (List.mem_append_right _ (show _ ∈ tables_1 from (List.mem_append_right _ (List.mem_append_right _ (List.mem_append_right _ (List.mem_append_left _ (List.mem_of_getElem? (i := 30) (by decide +kernel)))))))) (by decide +kernel)
theorem cw_Law_way : Cond.codeWith M_Law_way.1 M_Law_way.2.1 M_Law_way.2.2.1 M_Law_way.2.2.2 (gx_tab M_Law_way.1) ∈ gx_T := gx_T_in (List.mem_append_right _ (show _ ∈ tables_1 from (List.mem_append_right _ (List.mem_append_right _ (List.mem_append_right _ (List.mem_append_left _ (List.mem_of_getElem? (i := 31) (by decide +kernel)))))))) (by decide +kernel)
theorem ml_Law_83 : Cond.methodLink "PostChainLaw" 83 M_Law_layWay.1 ∈ gx_T := gx_T_in (List.mem_append_right _ (show _ ∈ tables_1 from (List.mem_append_right _ (List.mem_append_right _ (List.mem_append_right _ (List.mem_append_left _ (List.mem_of_getElem? (i := 57) (by decide +kernel)))))))) (by decide +kernel)
theorem sn_Law_layWay : Cond.static M_Law_layWay.1 ∈ gx_T := gx_T_in (List.mem_append_right _ (show _ ∈ tables_1 from (List.mem_append_right _ (List.mem_append_right _ (List.mem_append_right _ (List.mem_append_left _ (List.mem_of_getElem? (i := 58) (by decide +kernel)))))))) (by decide +kernel)
theorem cw_Law_layWay : Cond.codeWith M_Law_layWay.1 M_Law_layWay.2.1 M_Law_layWay.2.2.1 M_Law_layWay.2.2.2 (gx_tab M_Law_layWay.1) ∈ gx_T := gx_T_in (List.mem_append_right _ (show _ ∈ tables_1 from (List.mem_append_right _ (List.mem_append_right _ (List.mem_append_right _ (List.mem_append_left _ (List.mem_of_getElem? (i := 59) (by decide +kernel)))))))) (by decide +kernel)
theorem kl_Law_99 : Cond.constantLong "PostChainLaw" 99 4294967295 ∈ gx_T := gx_T_in (List.mem_append_right _ (show _ ∈ tables_1 from (List.mem_append_right _ (List.mem_append_right _ (List.mem_append_right _ (List.mem_append_right _ (List.mem_of_getElem? (i := 95) (by decide +kernel)))))))) (by decide +kernel)
def gx_cF (sb L0 : Nat) (xs : Nat → Int32) : gx_N → State → Prop := fun N U => va_X sb L0 xs U N.2.2 ∧ sb < N.2.2.size
section GXC
variable {M : gx_M} {d : Nat} {Q : gx_P} {pc : Nat} {L : List (Option Value)} {st : List Value} {w : gx_W} {b : Nat × Nat} {sb L0 : Nat} {xs : Nat → Int32}
theorem gx_cld {j : Nat} (hj : j < L0) (hL : L0 < 2 ^ 31) (hdg : decode M.2.1 pc = .ok (.iaload, 1)) (k : gx_X (gx_cF sb L0 xs) M d Q (pc + 1) L (.int (xs j) :: st) w b) : gx_X (gx_cF sb L0 xs) M d Q pc L (.int (nI j) :: .ref sb :: st) w b := fun p l e R s m args below meth c H locs cells slots ls N A V hl hw hS hd hc hs => by
  have V0 := V
  obtain ⟨hx, hb, hml, hr, hlk, hown, hnm, hts, hK, hfr, hlo, hA, hF, hlt, hxt, hAo, hso⟩ := V
  have h1 : s.heap[sb]? = N.2.2[sb]? := hso sb hF.2
  have h2 : sb < s.heap.size := by
    obtain ⟨scr, g, _⟩ := hF.1
    rw [← h1] at g
    exact (Array.getElem?_eq_some_iff.mp g).1
  have k2 := k p l e R s m args below meth c H locs cells slots ls N A V0 hl hw hS hd hc hs
  rw [show xs j = xs (nI j).toNatClampNeg by rw [nI_clamp (by omega)]] at k2
  exact va_sld hx hb (hF.1.kept h1) h2 (fun g => Nat.not_le.mpr hF.2 (hAo _ g)) hS (vp_in_nI hj hL) hdg k2
theorem gx_clen (hdg : decode M.2.1 pc = .ok (.arraylength, 1)) (k : gx_X (gx_cF sb L0 xs) M d Q (pc + 1) L (.int (nI L0) :: st) w b) : gx_X (gx_cF sb L0 xs) M d Q pc L (.ref sb :: st) w b := fun p l e R s m args below meth c H locs cells slots ls N A V hl hw hS hd hc hs => by
  have V0 := V
  obtain ⟨hx, hb, hml, hr, hlk, hown, hnm, hts, hK, hfr, hlo, hA, hF, hlt, hxt, hAo, hso⟩ := V
  have h1 : s.heap[sb]? = N.2.2[sb]? := hso sb hF.2
  have h2 : sb < s.heap.size := by
    obtain ⟨scr, g, _⟩ := hF.1
    rw [← h1] at g
    exact (Array.getElem?_eq_some_iff.mp g).1
  exact va_slen hx hb (hF.1.kept h1) h2 (fun g => Nat.not_le.mpr hF.2 (hAo _ g)) hS hdg (k p l e R s m args below meth c H locs cells slots ls N A V0 hl hw hS hd hc hs)
end GXC
theorem pcS.inn {w w' : gx_W} {B : Nat} {S : sp_St} (h : pcS w B S) (hk : ∀ q, B ≤ q → q < B + 360 → w'.1 q = w.1 q) : pcS w' B S := by
  obtain ⟨⟨h0, h1, ⟨r1, r2, T, r3, r4⟩, ⟨fo, ⟨b1, U, V, b2, b3⟩, hfo⟩, ⟨t, h4⟩, ⟨q, op, h5⟩, h6, h7⟩, ⟨l8, h8⟩, ⟨l9, h9⟩⟩ := h
  exact ⟨⟨by rw [hk _ (by omega) (by omega)]; exact h0, h1.inn (fun q x y => hk q (by omega) (by omega)), ⟨r1, r2, T, r3.inn (fun q x y => hk q (by omega) (by omega)), r4⟩, ⟨fo, ⟨b1, U, V, b2.inn (fun q x y => hk q (by omega) (by omega)), b3⟩, hfo⟩, ⟨t, h4.inn (fun q x y => hk q (by omega) (by omega))⟩, ⟨q, op, h5.inn (fun q x y => hk q (by omega) (by omega))⟩, by rw [hk _ (by omega) (by omega)]; exact h6, by rw [hk _ (by omega) (by omega)]; exact h7⟩, ⟨l8, by rw [hk _ (by omega) (by omega)]; exact h8⟩, ⟨l9, by rw [hk _ (by omega) (by omega)]; exact h9⟩⟩
/-- between two calls: the object and the reference stand for one and the same state -/
def lwI (B : Nat) (w : gx_W) (S : sp_St) : Prop := pcS w B S ∧ (∃ I A, w = gx_mo w (B + 360) I A ∧ mdl I A S) ∧ (∃ f, w.1 (B + 385) = some (gx_al8 5 1 f)) ∧ sp_Sok S ∧ gx_sm S.2.2.2.1
theorem mo_mo {W : gx_W} {m : Nat} {I I' : Nat → Nat} {A A' : Nat → Nat → Nat} : gx_mo W m I A = gx_mo (gx_mo W m I' A') m I A := by
  refine Prod.ext ?_ rfl
  funext q
  show (if q = m then _ else if m < q ∧ q ≤ m + 24 then _ else W.1 q) = (if q = m then _ else if m < q ∧ q ≤ m + 24 then _ else (if q = m then _ else if m < q ∧ q ≤ m + 24 then _ else W.1 q))
  by_cases e1 : q = m
  · rw [if_pos e1, if_pos e1]
  · by_cases e2 : m < q ∧ q ≤ m + 24
    · rw [if_neg e1, if_neg e1, if_pos e2, if_pos e2]
    · rw [if_neg e1, if_neg e1, if_neg e2, if_neg e2, if_neg e1, if_neg e2]
theorem mo_kp {w w1 : gx_W} {B m : Nat} {I : Nat → Nat} {A : Nat → Nat → Nat} (h : w = gx_mo w m I A) (hk : gx_kp w w1 B m) : w1 = gx_mo w1 m I A := by
  have h1 : ∀ q, w.1 q = (gx_mo w m I A).1 q := fun q => congrArg (fun x => x.1 q) h
  refine mo_of ?_ (fun j a c => ?_)
  · rw [hk.2 m (Or.inr (Nat.le_refl _)), h1]; exact mo_o
  · rw [hk.2 (m + j) (Or.inr (by omega)), h1]; exact mo_at j a c
theorem mo_sto {w : gx_W} {m a : Nat} {I : Nat → Nat} {A : Nat → Nat → Nat} {x : gx_E} (h : w = gx_mo w m I A) (ha : m + 25 ≤ a) : gx_st w a x = gx_mo (gx_st w a x) m I A := by
  have h1 : ∀ q, w.1 q = (gx_mo w m I A).1 q := fun q => congrArg (fun x => x.1 q) h
  refine mo_of ?_ (fun j p c => ?_)
  · rw [gx_st_ne (by omega), h1]; exact mo_o
  · rw [gx_st_ne (by omega), h1]; exact mo_at j p c
theorem mo_gr {w : gx_W} {m k : Nat} {I : Nat → Nat} {A : Nat → Nat → Nat} (h : w = gx_mo w m I A) : gx_gr w k = gx_mo (gx_gr w k) m I A := by
  have h1 : ∀ q, w.1 q = (gx_mo w m I A).1 q := fun q => congrArg (fun x => x.1 q) h
  refine mo_of ?_ (fun j p c => ?_)
  · show w.1 _ = _; rw [h1]; exact mo_o
  · show w.1 _ = _; rw [h1]; exact mo_at j p c
/-- the reference has answered -/
theorem lwI.mo {B : Nat} {w : gx_W} {S : sp_St} {I : Nat → Nat} {A : Nat → Nat → Nat} {f : Nat → Int64} (h : pcS w B S) (hO : w.1 (B + 385) = some (gx_al8 5 1 f)) (hm : mdl I A S) (hS : sp_Sok S) (ht : gx_sm S.2.2.2.1) : lwI B (gx_mo w (B + 360) I A) S :=
  ⟨h.inn (fun q a c => mo_out (by omega)), ⟨I, A, mo_mo, hm⟩, ⟨f, by rw [mo_out (by omega)]; exact hO⟩, hS, ht⟩
theorem sok_fresh {M : sp_M} {inp : List Nat} (hM : sp_Mok M) (hi : sp_iok inp) : sp_Sok (sp_fresh M inp) ∧ gx_sm (sp_fresh M inp).2.2.2.1 := ⟨⟨hM, hi, fun d hd => absurd hd (List.not_mem_nil), Nat.zero_le _, Nat.zero_le _⟩, fun d hd => absurd hd (List.not_mem_nil)⟩
theorem sok_rule {S : sp_St} {q s wr rt nx : Nat} (h : sp_Sok S) (ht : gx_sm S.2.2.2.1) (h2 : wr < 3) (h3 : rt ≤ 1) (h4 : nx ≤ 4) : sp_Sok (op_rule S q s wr rt nx).2 ∧ gx_sm (op_rule S q s wr rt nx).2.2.2.2.1 := by
  unfold op_rule
  split
  · exact ⟨h, ht⟩
  · exact sok_fresh (sp_lrn_ok h.1 h2 h3 h4) h.2.1
theorem sok_drop {S : sp_St} {q s : Nat} (h : sp_Sok S) (ht : gx_sm S.2.2.2.1) : sp_Sok (op_drop S q s).2 ∧ gx_sm (op_drop S q s).2.2.2.2.1 := by
  unfold op_drop
  split
  · exact sok_fresh (sp_fgt_ok h.1) h.2.1
  · exact ⟨h, ht⟩
theorem sok_input {S : sp_St} {k word : Nat} (h : sp_Sok S) (hn : k ≤ 4) : sp_Sok (op_input S k word).2 ∧ gx_sm (op_input S k word).2.2.2.2.1 := sok_fresh h.1 (sp_dg_ok hn)
theorem sok_lay {S : sp_St} {k : Int32} (h : sp_Sok S) : sp_Sok (S.1, S.2.1, (sp_lay (sp_dS S).length S.2.2.1 k).2, S.2.2.2.1, S.2.2.2.2) := by
  have hdl : 12 ≤ (sp_dS S).length ∧ (sp_dS S).length ≤ 60 := sp_dsx_len S.1 S.2.1
  obtain ⟨h1, h2, h3, h4, h5⟩ := h
  unfold sp_lay
  by_cases g : sp_in k (sp_dS S).length = true ∧ S.2.2.1.length < 60
  · rw [if_pos g]
    obtain ⟨j, hj, rfl⟩ := sp_in_ex (by omega) g.1
    refine ⟨h1, h2, fun d hd => ?_, by show (S.2.2.1 ++ [_]).length ≤ 60; rw [List.length_append, List.length_singleton]; omega, h5⟩
    rcases List.mem_append.mp hd with q | q
    · exact h3 d q
    · rw [List.mem_singleton] at q; rw [q, gx_clz (by omega)]; exact hj
  · rw [if_neg g]; exact ⟨h1, h2, h3, h4, h5⟩
theorem sok_type {S : sp_St} {x : Int64} (h : sp_Sok S) (ht : gx_sm S.2.2.2.1) : sp_Sok (op_type S x).2 ∧ gx_sm (op_type S x).2.2.2.2.1 := by
  unfold op_type
  split
  · rename_i g
    refine ⟨⟨h.1, h.2.1, h.2.2.1, h.2.2.2.1, ?_⟩, gx_sm_app ht (sp_cs_sm x)⟩
    show (S.2.2.2.1 ++ sp_cs x).length ≤ 60
    rw [List.length_append]; exact g.2
  · exact ⟨h, ht⟩
theorem sv_60 {cap : Nat} {ds : List (List Nat × List Nat)} {laid : List Nat} {lk fuel : Int32} (h : laid.length ≤ 60) : (sp_sv cap ds laid lk fuel).2.2.length ≤ 60 := by
  unfold sp_sv
  split
  · show (sp_fl _ laid).length ≤ 60
    unfold sp_fl
    split
    · rename_i g
      rw [List.length_reverse]
      exact Nat.le_trans (sp_ph_len _ _ _) g.2
    · exact h
  · exact h
theorem sp_hw_lt {e nn : Nat} (he : e + 7 = nn) (h5 : 5 ≤ e) : ∀ (k : Nat) (l r : List Nat), (∀ s ∈ l, s < 3) → (∀ s ∈ r, s < 3) → ∀ d ∈ sp_hw e k l r, d < nn
  | 0, l, r, _, _, d, hd => by simp [sp_hw] at hd
  | k + 1, l, r, hl, hr, d, hd => by
    have hcp : ∀ (t : List Nat), (∀ s ∈ t, s < 3) → ∀ d ∈ sp_cp t, d < nn := fun t ht d hd => by
      unfold sp_cp at hd
      obtain ⟨s, hs, rfl⟩ := List.mem_map.mp hd
      have := ht s hs; omega
    have hrt : ∀ s ∈ r.tail, s < 3 := fun s hs => hr s (List.mem_of_mem_tail hs)
    have hld : ∀ s ∈ l.dropLast, s < 3 := fun s hs => hl s (List.dropLast_subset _ hs)
    unfold sp_hw at hd
    split at hd
    · have hg := sp_gd_lt hr 0
      simp only [List.mem_cons, List.mem_append, List.cons_append] at hd
      rcases hd with g | g | g | g
      · omega
      · exact hcp _ hrt d g
      · omega
      · exact sp_hw_lt he h5 k [] r.tail (fun s hs => absurd hs (List.not_mem_nil)) hrt d g
    · have hg : sp_lst l < 3 := sp_gd_lt hl _
      simp only [List.mem_cons, List.mem_append, List.cons_append, List.append_assoc] at hd
      rcases hd with g | g | g | g | g
      · exact hcp _ hld d g
      · omega
      · exact hcp _ hr d g
      · omega
      · exact sp_hw_lt he h5 k l.dropLast r hld hr d g
theorem sp_ws_lt {M : sp_M} {c : sp_C} {t : List Nat} (hM : sp_Mok M) (hc : sp_ok c) : ∀ d ∈ sp_ws M c, d < (sp_dom M t).length := by
  intro d hd
  have hn := sp_dom_n M t
  have hcp : ∀ (t' : List Nat), (∀ s ∈ t', s < 3) → ∀ d ∈ sp_cp t', d < (sp_dom M t).length := fun t' ht d hd => by
    unfold sp_cp at hd
    obtain ⟨s, hs, rfl⟩ := List.mem_map.mp hd
    have := ht s hs; omega
  have hrt : ∀ s ∈ c.2.2.tail, s < 3 := fun s hs => hc.2.2 s (List.mem_of_mem_tail hs)
  have hld : ∀ s ∈ c.1.dropLast, s < 3 := fun s hs => hc.1 s (List.dropLast_subset _ hs)
  have hg0 := sp_gd_lt hc.2.2 0
  have hg1 : sp_lst c.1 < 3 := sp_gd_lt hc.1 _
  unfold sp_ws at hd
  rcases hrl : sp_rl M c with _ | r
  · rw [hrl] at hd; exact absurd hd (List.not_mem_nil)
  · rw [hrl] at hd
    simp only at hd
    obtain ⟨hr12, hre, hq3, hkn⟩ := sp_rl_lt hrl hc
    have hr3 : r = 3 * c.2.1 + c.2.2.getD 0 0 := by omega
    have hM2 := (hM r).2.1
    have h1 : ∀ d ∈ (if c.2.2.length = 0 then [] else [1]), d < (sp_dom M t).length := fun d hd => by
      split at hd
      · exact absurd hd (List.not_mem_nil)
      · rw [List.mem_singleton] at hd; omega
    by_cases hrt1 : sp_rt M r = 1
    · rw [if_pos hrt1] at hd
      simp only [List.mem_append, List.mem_cons, List.append_assoc, List.cons_append] at hd
      rcases hd with g | g | g | g
      · exact hcp _ hc.1 d g
      · rw [g, hr3]
        rw [hr3] at hkn hrt1
        by_cases h0 : c.2.2.length = 0
        · rw [if_pos h0]; exact (fs_re hq3 hg0 hkn hrt1 (gx_gd_ge (by omega))).2.1
        · rw [if_neg h0]; exact (fs_rt hq3 hg0 hkn hrt1).2.1
      · exact hcp _ hrt d g
      · exact h1 d g
    · rw [if_neg hrt1] at hd
      have hrt0 : sp_rt M r = 0 := by omega
      simp only [List.mem_append, List.mem_cons, List.append_assoc, List.cons_append] at hd
      rcases hd with g | g | g | g
      · exact hcp _ hld d g
      · rw [g, hr3]
        rw [hr3] at hkn hrt0
        by_cases h0 : c.2.2.length = 0
        · rw [if_pos h0, Nat.add_assoc]; exact (fs_le hq3 hg0 hg1 hkn hrt0 (gx_gd_ge (by omega))).2.1
        · rw [if_neg h0]; exact (fs_lt hq3 hg0 hg1 hkn hrt0).2.1
      · exact hcp _ hrt d g
      · exact h1 d g
theorem sp_wyx_lt {S : sp_St} (h : sp_Sok S) : ∀ d ∈ sp_wyx S.1 S.2.1, d < (sp_dS S).length := by
  intro d hd
  have hdl : 12 ≤ (sp_dS S).length ∧ (sp_dS S).length ≤ 60 := sp_dsx_len S.1 S.2.1
  have h4 := h.2.1.1
  have h0 : 0 < (sp_rsx S.1 S.2.1).length := List.length_pos_iff.mpr (sp_run_ne _ _ _)
  have hk : ∀ k, k ∈ sp_rsx S.1 S.2.1 → sp_ok k ∧ sp_len k ≤ 10 := fun k hk => sp_run_ok h.1 12 (sp_c0 S.2.1) (sp_c0_k h.2.1) (by rw [sp_c0_len]; omega) k hk
  by_cases e : (sp_lc S.1 S.2.1).2.1 = 4
  · rw [sp_wyx_so e] at hd
    unfold sp_wy at hd
    have hlast := (hk _ (gx_cmem (show (sp_rsx S.1 S.2.1).length - 1 < _ by omega))).1
    rcases List.mem_append.mp hd with g | g
    · rcases List.mem_append.mp g with g | g
      · rcases List.mem_cons.mp g with g | g
        · omega
        · obtain ⟨c, hc, hdc⟩ := List.mem_flatMap.mp g
          exact sp_ws_lt h.1 (hk c (List.mem_of_mem_take hc)).1 d hdc
      · exact sp_hw_lt (by show (sp_dS S).length - 7 + 7 = (sp_dS S).length; omega) (by show 5 ≤ (sp_dS S).length - 7; omega) _ _ _ hlast.1 hlast.2.2 d g
    · rw [List.mem_singleton] at g
      show d < (sp_dsx S.1 S.2.1).length
      change 12 ≤ (sp_dsx S.1 S.2.1).length ∧ _ at hdl
      omega
  · rw [sp_wyx_no e] at hd; exact absurd hd (List.not_mem_nil)
theorem sok_layWay {S : sp_St} (h : sp_Sok S) (ht : gx_sm S.2.2.2.1) : sp_Sok (op_layWay S).2 ∧ gx_sm (op_layWay S).2.2.2.2.1 := by
  unfold op_layWay
  split
  · rename_i g
    exact ⟨⟨h.1, h.2.1, sp_wyx_lt h, g, h.2.2.2.2⟩, ht⟩
  · exact ⟨h, ht⟩
