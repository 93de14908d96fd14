/-! Hunt: laying; the whole object -/
theorem d_Hunt_foundSize_0 : decode prog_4_method_5_code 0 = .ok (.aload_n 0, 1) := by decide +kernel
theorem d_Hunt_foundSize_1 : decode prog_4_method_5_code 1 = .ok (.getfield 37, 3) := by decide +kernel
theorem d_Hunt_foundSize_4 : decode prog_4_method_5_code 4 = .ok (.ifCond .le 17, 3) := by decide +kernel
theorem d_Hunt_foundSize_7 : decode prog_4_method_5_code 7 = .ok (.aload_n 0, 1) := by decide +kernel
theorem d_Hunt_foundSize_8 : decode prog_4_method_5_code 8 = .ok (.getfield 18, 3) := by decide +kernel
theorem d_Hunt_foundSize_11 : decode prog_4_method_5_code 11 = .ok (.aload_n 0, 1) := by decide +kernel
theorem d_Hunt_foundSize_12 : decode prog_4_method_5_code 12 = .ok (.getfield 37, 3) := by decide +kernel
theorem d_Hunt_foundSize_15 : decode prog_4_method_5_code 15 = .ok (.iconst 1, 1) := by decide +kernel
theorem d_Hunt_foundSize_16 : decode prog_4_method_5_code 16 = .ok (.isub, 1) := by decide +kernel
theorem d_Hunt_foundSize_17 : decode prog_4_method_5_code 17 = .ok (.iaload, 1) := by decide +kernel
theorem d_Hunt_foundSize_18 : decode prog_4_method_5_code 18 = .ok (.goto 4, 3) := by decide +kernel
theorem d_Hunt_foundSize_21 : decode prog_4_method_5_code 21 = .ok (.iconst 0, 1) := by decide +kernel
theorem d_Hunt_foundSize_22 : decode prog_4_method_5_code 22 = .ok (.ireturn, 1) := by decide +kernel
theorem ct_foundSize {w : gx_W} {z k : Nat} {op : List Nat} {q : List sp_E} (hz0 : hnAt w z q (nI (k + 1)) op) (hk : k < q.length) : gx_Ct M_Hunt_foundSize 1 0 0 [.ref z] w (gx_eq (some (.int (nI (q.getD k sp_e0).2.2.1))) w) := by
  refine gx_ct (L := [some (.ref z)]) (by decide) (Nat.le_of_ble_eq_true rfl) rfl ?_
  obtain ⟨hq401, f1, f2, f3, f4, f5, hz, hF⟩ := hz0
  refine gx_aload_n d_Hunt_foundSize_0 rfl ?_
  refine gx_get fl_Hunt_37 d_Hunt_foundSize_1 hz.1 rfl ?_
  refine gx_if_leN (by omega) (tgt := 21) d_Hunt_foundSize_4 (by decide) (fun h4 => ?_) (fun h4 => ?_)
  · exact absurd h4 (by omega)
  · refine gx_aload_n d_Hunt_foundSize_7 rfl ?_
    refine gx_get fl_Hunt_18 d_Hunt_foundSize_8 hz.1 rfl ?_
    refine gx_aload_n d_Hunt_foundSize_11 rfl ?_
    refine gx_get fl_Hunt_37 d_Hunt_foundSize_12 hz.1 rfl ?_
    refine gx_iconst d_Hunt_foundSize_15 (nI 1) (by decide) ?_
    refine gx_isubN (by omega) d_Hunt_foundSize_16 ?_
    rw [Nat.add_sub_cancel]
    refine gx_iald d_Hunt_foundSize_17 hz.2.2.2.1 (by omega) (by omega) ?_
    rw [(hF k hk).2.2.1]
    refine gx_goto (tgt := 22) d_Hunt_foundSize_18 (by decide) ?_
    refine gx_ireturn rfl d_Hunt_foundSize_22 ?_
    exact ⟨rfl, rfl⟩
def sp_ph (q : List sp_E) : Nat → Int32 → List Nat
  | 0, _ => []
  | n + 1, a => if a < 0 then [] else (q.getD a.toNatClampNeg sp_e0).2.1 :: sp_ph q n (q.getD a.toNatClampNeg sp_e0).1
def sp_qf (q : List sp_E) : Prop := ∀ i, i < q.length → ((q.getD i sp_e0).1 = -1 ∨ ∃ j, j < i ∧ (q.getD i sp_e0).1 = nI j) ∧ (q.getD i sp_e0).2.1 < 65536
theorem d_Hunt_layFound_0 : decode prog_4_method_6_code 0 = .ok (.aload_n 1, 1) := by decide +kernel
theorem d_Hunt_layFound_1 : decode prog_4_method_6_code 1 = .ok (.invokevirtual 61, 3) := by decide +kernel
theorem d_Hunt_layFound_4 : decode prog_4_method_6_code 4 = .ok (.aload_n 0, 1) := by decide +kernel
theorem d_Hunt_layFound_5 : decode prog_4_method_6_code 5 = .ok (.getfield 37, 3) := by decide +kernel
theorem d_Hunt_layFound_8 : decode prog_4_method_6_code 8 = .ok (.iconst 1, 1) := by decide +kernel
theorem d_Hunt_layFound_9 : decode prog_4_method_6_code 9 = .ok (.isub, 1) := by decide +kernel
theorem d_Hunt_layFound_10 : decode prog_4_method_6_code 10 = .ok (.istore_n 2, 1) := by decide +kernel
theorem d_Hunt_layFound_11 : decode prog_4_method_6_code 11 = .ok (.aload_n 0, 1) := by decide +kernel
theorem d_Hunt_layFound_12 : decode prog_4_method_6_code 12 = .ok (.invokevirtual 64, 3) := by decide +kernel
theorem d_Hunt_layFound_15 : decode prog_4_method_6_code 15 = .ok (.istore_n 3, 1) := by decide +kernel
theorem d_Hunt_layFound_16 : decode prog_4_method_6_code 16 = .ok (.iload_n 3, 1) := by decide +kernel
theorem d_Hunt_layFound_17 : decode prog_4_method_6_code 17 = .ok (.ifCond .le 30, 3) := by decide +kernel
theorem d_Hunt_layFound_20 : decode prog_4_method_6_code 20 = .ok (.iload_n 2, 1) := by decide +kernel
theorem d_Hunt_layFound_21 : decode prog_4_method_6_code 21 = .ok (.ifCond .lt 26, 3) := by decide +kernel
theorem d_Hunt_layFound_24 : decode prog_4_method_6_code 24 = .ok (.aload_n 1, 1) := by decide +kernel
theorem d_Hunt_layFound_25 : decode prog_4_method_6_code 25 = .ok (.aload_n 0, 1) := by decide +kernel
theorem d_Hunt_layFound_26 : decode prog_4_method_6_code 26 = .ok (.getfield 15, 3) := by decide +kernel
theorem d_Hunt_layFound_29 : decode prog_4_method_6_code 29 = .ok (.iload_n 2, 1) := by decide +kernel
theorem d_Hunt_layFound_30 : decode prog_4_method_6_code 30 = .ok (.iaload, 1) := by decide +kernel
theorem d_Hunt_layFound_31 : decode prog_4_method_6_code 31 = .ok (.invokevirtual 68, 3) := by decide +kernel
theorem d_Hunt_layFound_34 : decode prog_4_method_6_code 34 = .ok (.aload_n 0, 1) := by decide +kernel
theorem d_Hunt_layFound_35 : decode prog_4_method_6_code 35 = .ok (.getfield 11, 3) := by decide +kernel
theorem d_Hunt_layFound_38 : decode prog_4_method_6_code 38 = .ok (.iload_n 2, 1) := by decide +kernel
theorem d_Hunt_layFound_39 : decode prog_4_method_6_code 39 = .ok (.iaload, 1) := by decide +kernel
theorem d_Hunt_layFound_40 : decode prog_4_method_6_code 40 = .ok (.istore_n 2, 1) := by decide +kernel
theorem d_Hunt_layFound_41 : decode prog_4_method_6_code 41 = .ok (.iinc 3 (-1), 3) := by decide +kernel
theorem d_Hunt_layFound_44 : decode prog_4_method_6_code 44 = .ok (.goto (-28), 3) := by decide +kernel
theorem d_Hunt_layFound_47 : decode prog_4_method_6_code 47 = .ok (.aload_n 1, 1) := by decide +kernel
theorem d_Hunt_layFound_48 : decode prog_4_method_6_code 48 = .ok (.invokevirtual 71, 3) := by decide +kernel
theorem d_Hunt_layFound_51 : decode prog_4_method_6_code 51 = .ok (.return_, 1) := by decide +kernel
theorem lp_layFound {Q : gx_P} {z h cap : Nat} {lk : Int32} {op : List Nat} {q : List sp_E} (hqf : sp_qf q) (hzh : z + 8 ≤ h) : ∀ (fu : Nat) (m : Nat) (a : Int32) (p : List Nat) (w : gx_W), m < fu → (hnAt w z q lk op) → (w.1 h = some (gx_bx 1 cap p)) → (a = -1 ∨ ∃ j, j < q.length ∧ a = nI j) → (m < 2 ^ 31) → (p.length + m ≤ cap) → (∀ w' a' m', hnAt w' z q lk op → w' = gx_st w h (gx_bx 1 cap (p ++ sp_ph q m a)) → gx_X (fun _ _ => True) M_Hunt_layFound 2 Q 47 [some (.ref z), some (.ref h), some (.int a'), some (.int m')] [] w' (0, 0)) → gx_X (fun _ _ => True) M_Hunt_layFound 2 Q 16 [some (.ref z), some (.ref h), some (.int a), some (.int (nI m))] [] w (0, 0) := by
  intro fu
  induction fu with
  | zero => intro m a p w hfu; exact absurd hfu (Nat.not_lt_zero _)
  | succ fu ih =>
    intro m a p w hfu hz0 hw ha hm hp hX
    have hz1 := hz0
    obtain ⟨hq401, f1, f2, f3, f4, f5, hz, hF⟩ := hz0
    refine gx_iload_n d_Hunt_layFound_16 rfl ?_
    refine gx_if_leN (by omega) (tgt := 47) d_Hunt_layFound_17 (by decide) (fun h17 => ?_) (fun h17 => ?_)
    · have e : m = 0 := by omega
      subst e
      exact hX w _ _ hz1 (by rw [show sp_ph q 0 a = [] from rfl, List.append_nil, gx_st_id hw])
    · obtain ⟨m2, rfl⟩ : ∃ m2, m = m2 + 1 := ⟨m - 1, by omega⟩
      refine gx_iload_n d_Hunt_layFound_20 rfl ?_
      refine gx_if_lt (tgt := 47) d_Hunt_layFound_21 (by decide) (fun h21 => ?_) (fun h21 => ?_)
      · exact hX w _ _ hz1 (by rw [show sp_ph q (m2 + 1) a = [] from if_pos h21, List.append_nil, gx_st_id hw])
      · obtain ⟨j, hj, rfl⟩ : ∃ j, j < q.length ∧ a = nI j := by
          rcases ha with g | g
          · rw [g] at h21; exact absurd (by decide) h21
          · exact g
        have hqj := hqf j hj
        refine gx_aload_n d_Hunt_layFound_24 rfl ?_
        refine gx_aload_n d_Hunt_layFound_25 rfl ?_
        refine gx_get fl_Hunt_15 d_Hunt_layFound_26 hz.1 rfl ?_
        refine gx_iload_n d_Hunt_layFound_29 rfl ?_
        refine gx_iald d_Hunt_layFound_30 hz.2.2.1 (by omega) (by omega) ?_
        rw [(hF j hj).2.1]
        refine gx_cV0 lk_Hunt_68 d_Hunt_layFound_31 (ct_Row_add hw hqj.2 (by omega)) (Or.inr ⟨_, _, hw⟩) (by omega) rfl rfl (Nat.le_of_ble_eq_true rfl) ?_
        have kk : gx_kp w (gx_st w h (gx_bx 1 cap (p ++ [(q.getD j sp_e0).2.1]))) h (h + 2) := gx_kp.st (by omega) (by omega)
        have hz2 := hz.kept kk (by omega)
        refine gx_aload_n d_Hunt_layFound_34 rfl ?_
        refine gx_get fl_Hunt_11 d_Hunt_layFound_35 hz2.1 rfl ?_
        refine gx_iload_n d_Hunt_layFound_38 rfl ?_
        refine gx_iald d_Hunt_layFound_39 hz2.2.1 (by omega) (by omega) ?_
        rw [(hF j hj).1]
        refine gx_istore_n d_Hunt_layFound_40 (Nat.le_of_ble_eq_true rfl) rfl ?_
        refine gx_iincM d_Hunt_layFound_41 rfl (by decide) (Nat.le_of_ble_eq_true rfl) rfl ?_
        refine gx_goto (tgt := 16) d_Hunt_layFound_44 (by decide) ?_
        refine ih m2 _ (p ++ [(q.getD j sp_e0).2.1]) _ (by omega) (hz1.kept kk (by omega)) gx_st_eq ?_ (by omega) (by simp; omega) (fun w' a' m' h1 h2 => hX w' a' m' h1 ?_)
        · rcases hqj.1 with g | ⟨i, hi, g⟩
          · exact Or.inl g
          · exact Or.inr ⟨i, by omega, g⟩
        · rw [h2, gx_st_st, List.append_assoc, List.singleton_append, show sp_ph q (m2 + 1) (nI j) = (q.getD (nI j).toNatClampNeg sp_e0).2.1 :: sp_ph q m2 (q.getD (nI j).toNatClampNeg sp_e0).1 from if_neg h21, nI_clamp (by omega)]
theorem ct_layFound {w : gx_W} {z h cap k : Nat} {op p : List Nat} {q : List sp_E} (hz0 : hnAt w z q (nI (k + 1)) op) (hk : k < q.length) (hqf : sp_qf q) (hzh : z + 8 ≤ h) (hw : w.1 h = some (gx_bx 1 cap p)) (hs : (q.getD k sp_e0).2.2.1 ≤ cap) (hs2 : cap < 65536) : gx_Ct M_Hunt_layFound 2 0 0 [.ref z, .ref h] w (gx_eq none (gx_st w h (gx_bx 1 cap (sp_ph q (q.getD k sp_e0).2.2.1 (nI k)).reverse))) := by
  refine gx_ct (L := [some (.ref z), some (.ref h), none, none]) (by decide) (Nat.le_of_ble_eq_true rfl) rfl ?_
  have hz1 := hz0
  obtain ⟨hq401, f1, f2, f3, f4, f5, hz, hF⟩ := hz0
  refine gx_aload_n d_Hunt_layFound_0 rfl ?_
  refine gx_cV0 lk_Hunt_61 d_Hunt_layFound_1 (ct_Row_empty hw) (Or.inr ⟨_, _, hw⟩) (by omega) rfl rfl (Nat.le_of_ble_eq_true rfl) ?_
  have kk : gx_kp w (gx_st w h (gx_bx 1 cap [])) h (h + 2) := gx_kp.st (by omega) (by omega)
  have hz2 := hz1.kept kk (by omega)
  have hz3 := hz.kept kk (by omega)
  refine gx_aload_n d_Hunt_layFound_4 rfl ?_
  refine gx_get fl_Hunt_37 d_Hunt_layFound_5 hz3.1 rfl ?_
  refine gx_iconst d_Hunt_layFound_8 (nI 1) (by decide) ?_
  refine gx_isubN (by omega) d_Hunt_layFound_9 ?_
  rw [Nat.add_sub_cancel]
  refine gx_istore_n d_Hunt_layFound_10 (Nat.le_of_ble_eq_true rfl) rfl ?_
  refine gx_aload_n d_Hunt_layFound_11 rfl ?_
  refine gx_cV1 lk_Hunt_64 d_Hunt_layFound_12 (ct_foundSize hz2 hk) (Or.inl ⟨_, hz3.1⟩) (by omega) rfl rfl (Nat.le_of_ble_eq_true rfl) ?_
  refine gx_istore_n d_Hunt_layFound_15 (Nat.le_of_ble_eq_true rfl) rfl ?_
  refine lp_layFound hqf hzh ((q.getD k sp_e0).2.2.1 + 1) _ (nI k) [] _ (by omega) hz2 gx_st_eq (Or.inr ⟨k, hk, rfl⟩) (by omega) (by simpa using hs) (fun w' a' m' hz4 hw' => ?_)
  rw [gx_st_st, List.nil_append] at hw'
  subst hw'
  refine gx_aload_n d_Hunt_layFound_47 rfl ?_
  refine gx_cV0 lk_Hunt_71 d_Hunt_layFound_48 (ct_Row_turn gx_st_eq) (Or.inr ⟨_, _, gx_st_eq⟩) (by omega) rfl rfl (Nat.le_of_ble_eq_true rfl) ?_
  refine gx_return rfl d_Hunt_layFound_51 ?_
  exact ⟨rfl, by rw [gx_st_st]⟩
def sp_c0 (inp : List Nat) : sp_C := ([], 0, inp)
def sp_rsx (M : sp_M) (inp : List Nat) : List sp_C := sp_run M 12 (sp_c0 inp)
def sp_dsx (M : sp_M) (inp : List Nat) : List (List Nat × List Nat) := sp_dom M (sp_txt (sp_c0 inp))
def sp_lc (M : sp_M) (inp : List Nat) : sp_C := (sp_rsx M inp).getD ((sp_rsx M inp).length - 1) ([], 0, [])
def sp_wyx (M : sp_M) (inp : List Nat) : List Nat := if (sp_lc M inp).2.1 = 4 then sp_wy M (sp_rsx M inp) (sp_dsx M inp).length else []
def sp_iok (inp : List Nat) : Prop := inp.length ≤ 4 ∧ ∀ s ∈ inp, s < 3
def pcO (B : Nat) : gx_E := gx_ob 8 [.ref (B + 1), .ref (B + 8), .ref (B + 36), .ref (B + 339), .ref (B + 344), .ref (B + 352), .ref (B + 354), .ref (B + 356), .ref (B + 358)]
/-- the object before its parts are made anew -/
def pc0 (w : gx_W) (B : Nat) (M : sp_M) (inp : List Nat) : Prop := w.1 B = some (pcO B) ∧ mcAt w (B + 1) M (sp_txt (sp_c0 inp)) ∧ (∃ m T, rnAt w (B + 8) m T) ∧ (∃ m U V fo, bxAt w (B + 36) m U V fo) ∧ (∃ p t, wyAt w (B + 339) p t) ∧ (∃ q lk op, hnAt w (B + 344) q lk op) ∧ (∃ l, w.1 (B + 352) = some (gx_bx 1 60 l)) ∧ (∃ l, w.1 (B + 354) = some (gx_bx 0 60 l)) ∧ (∃ l, w.1 (B + 356) = some (gx_bx 0 180 l)) ∧ ∃ l, w.1 (B + 358) = some (gx_bx 0 420 l)
/-- the object as every call leaves it -/
def pcC (w : gx_W) (B : Nat) (M : sp_M) (inp : List Nat) (laid typed : List Nat) (lk : Int32) : Prop := w.1 B = some (pcO B) ∧ mcAt w (B + 1) M (sp_txt (sp_c0 inp)) ∧ rnOk w (B + 8) (sp_rsx M inp) ∧ (∃ fo, bxOk w (B + 36) (sp_dsx M inp) fo ∧ ∀ i, i < 12 → fo i = sp_fo M i) ∧ (∃ t, wyAt w (B + 339) (sp_wyx M inp) t) ∧ (∃ q op, hnAt w (B + 344) q lk op) ∧ w.1 (B + 352) = some (gx_bx 1 60 laid) ∧ w.1 (B + 354) = some (gx_bx 0 60 typed)
def pcAt (w : gx_W) (B : Nat) (M : sp_M) (inp : List Nat) (laid typed : List Nat) (lk : Int32) : Prop := pcC w B M inp laid typed lk ∧ (∃ l, w.1 (B + 356) = some (gx_bx 0 180 l)) ∧ ∃ l, w.1 (B + 358) = some (gx_bx 0 420 l)
theorem pcAt.to0 {w : gx_W} {B : Nat} {M : sp_M} {inp laid typed : List Nat} {lk : Int32} (h : pcAt w B M inp laid typed lk) : pc0 w B M inp := by
  obtain ⟨⟨h0, h1, ⟨-, -, T, h2, -⟩, ⟨fo, ⟨-, U, V, h3, -⟩, -⟩, ⟨t, h4⟩, ⟨q, op, h5⟩, h6, h7⟩, h8, h9⟩ := h
  exact ⟨h0, h1, ⟨_, T, h2⟩, ⟨_, U, V, fo, h3⟩, ⟨_, t, h4⟩, ⟨q, _, op, h5⟩, ⟨_, h6⟩, ⟨_, h7⟩, h8, h9⟩
theorem pcC.kept {w w' : gx_W} {B lo hi : Nat} {M : sp_M} {inp laid typed : List Nat} {lk : Int32} (h : pcC w B M inp laid typed lk) (hk : gx_kp w w' lo hi) (hd : B + 356 ≤ lo ∨ hi ≤ B) : pcC w' B M inp laid typed lk := by
  obtain ⟨h0, h1, h2, ⟨fo, h3, hfo⟩, ⟨t, h4⟩, ⟨q, op, h5⟩, h6, h7⟩ := h
  exact ⟨by rw [hk.2 _ (by omega)]; exact h0, h1.kept hk (by omega), h2.kept hk (by omega), ⟨fo, h3.kept hk (by omega), hfo⟩, ⟨t, h4.kept hk (by omega)⟩, ⟨q, op, h5.kept hk (by omega)⟩, by rw [hk.2 _ (by omega)]; exact h6, by rw [hk.2 _ (by omega)]; exact h7⟩
theorem pcAt.kept {w w' : gx_W} {B lo hi : Nat} {M : sp_M} {inp laid typed : List Nat} {lk : Int32} (h : pcAt w B M inp laid typed lk) (hk : gx_kp w w' lo hi) (hd : B + 360 ≤ lo ∨ hi ≤ B) : pcAt w' B M inp laid typed lk := by
  obtain ⟨h0, ⟨l1, h1⟩, ⟨l2, h2⟩⟩ := h
  exact ⟨h0.kept hk (by omega), ⟨l1, by rw [hk.2 _ (by omega)]; exact h1⟩, ⟨l2, by rw [hk.2 _ (by omega)]; exact h2⟩⟩
theorem pcAt.laid {w : gx_W} {B : Nat} {M : sp_M} {inp laid typed : List Nat} {lk : Int32} (l : List Nat) (h : pcAt w B M inp laid typed lk) : pcAt (gx_st w (B + 352) (gx_bx 1 60 l)) B M inp l typed lk := by
  have hk : gx_kp w (gx_st w (B + 352) (gx_bx 1 60 l)) (B + 352) (B + 353) := gx_kp.st (by omega) (by omega)
  obtain ⟨⟨h0, h1, h2, ⟨fo, h3, hfo⟩, ⟨t, h4⟩, ⟨q, op, h5⟩, h6, h7⟩, ⟨l1, h8⟩, ⟨l2, h9⟩⟩ := h
  exact ⟨⟨by rw [hk.2 _ (by omega)]; exact h0, h1.kept hk (by omega), h2.kept hk (by omega), ⟨fo, h3.kept hk (by omega), hfo⟩, ⟨t, h4.kept hk (by omega)⟩, ⟨q, op, h5.kept hk (by omega)⟩, gx_st_eq, by rw [hk.2 _ (by omega)]; exact h7⟩, ⟨l1, by rw [hk.2 _ (by omega)]; exact h8⟩, ⟨l2, by rw [hk.2 _ (by omega)]; exact h9⟩⟩
theorem pcAt.typed {w : gx_W} {B : Nat} {M : sp_M} {inp laid typed : List Nat} {lk : Int32} (l : List Nat) (h : pcAt w B M inp laid typed lk) : pcAt (gx_st w (B + 354) (gx_bx 0 60 l)) B M inp laid l lk := by
  have hk : gx_kp w (gx_st w (B + 354) (gx_bx 0 60 l)) (B + 354) (B + 355) := gx_kp.st (by omega) (by omega)
  obtain ⟨⟨h0, h1, h2, ⟨fo, h3, hfo⟩, ⟨t, h4⟩, ⟨q, op, h5⟩, h6, h7⟩, ⟨l1, h8⟩, ⟨l2, h9⟩⟩ := h
  exact ⟨⟨by rw [hk.2 _ (by omega)]; exact h0, h1.kept hk (by omega), h2.kept hk (by omega), ⟨fo, h3.kept hk (by omega), hfo⟩, ⟨t, h4.kept hk (by omega)⟩, ⟨q, op, h5.kept hk (by omega)⟩, by rw [hk.2 _ (by omega)]; exact h6, gx_st_eq⟩, ⟨l1, by rw [hk.2 _ (by omega)]; exact h8⟩, ⟨l2, by rw [hk.2 _ (by omega)]; exact h9⟩⟩
theorem pcAt.hunt {w w' : gx_W} {B : Nat} {M : sp_M} {inp laid typed op : List Nat} {lk lk' : Int32} {q : List sp_E} (h : pcAt w B M inp laid typed lk) (hk : gx_kp w w' (B + 344) (B + 344 + 8)) (hz : hnAt w' (B + 344) q lk' op) : pcAt w' B M inp laid typed lk' := by
  obtain ⟨⟨h0, h1, h2, ⟨fo, h3, hfo⟩, ⟨t, h4⟩, -, h6, h7⟩, ⟨l1, h8⟩, ⟨l2, h9⟩⟩ := h
  exact ⟨⟨by rw [hk.2 _ (by omega)]; exact h0, h1.kept hk (by omega), h2.kept hk (by omega), ⟨fo, h3.kept hk (by omega), hfo⟩, ⟨t, h4.kept hk (by omega)⟩, ⟨q, op, hz⟩, by rw [hk.2 _ (by omega)]; exact h6, by rw [hk.2 _ (by omega)]; exact h7⟩, ⟨l1, by rw [hk.2 _ (by omega)]; exact h8⟩, ⟨l2, by rw [hk.2 _ (by omega)]; exact h9⟩⟩
theorem sp_c0_ok {inp : List Nat} (h : sp_iok inp) : sp_ok (sp_c0 inp) ∧ sp_len (sp_c0 inp) ≤ 5 := by
  refine ⟨⟨(fun s hs => by cases hs), Nat.zero_le _, h.2⟩, ?_⟩
  have := h.1
  show 0 + 1 + inp.length ≤ 5
  omega
theorem sp_dsx_len (M : sp_M) (inp : List Nat) : 12 ≤ (sp_dsx M inp).length ∧ (sp_dsx M inp).length ≤ 60 := by
  have h1 := sp_rs_len M 12
  unfold sp_dsx sp_dom
  rw [List.length_append, List.length_append]
  have h2 : (sp_hd (sp_txt (sp_c0 inp))).length = 5 := rfl
  have h3 : sp_en.length = 7 := rfl
  omega
theorem sp_lc_ok {M : sp_M} {inp : List Nat} (hM : sp_Mok M) (hi : sp_iok inp) : sp_ok (sp_lc M inp) := by
  obtain ⟨h1, h2⟩ := sp_c0_ok hi
  have hpos : 0 < (sp_rsx M inp).length := List.length_pos_iff.mpr (sp_run_ne _ _ _)
  exact (sp_run_ok hM 12 (sp_c0 inp) h1 (by omega) _ (gx_gdc_mem (by unfold sp_rsx at hpos ⊢; omega))).1
theorem d_PC_startOver_0 : decode prog_1_method_20_code 0 = .ok (.aload_n 0, 1) := by decide +kernel
theorem d_PC_startOver_1 : decode prog_1_method_20_code 1 = .ok (.getfield 19, 3) := by decide +kernel
theorem d_PC_startOver_4 : decode prog_1_method_20_code 4 = .ok (.aload_n 0, 1) := by decide +kernel
theorem d_PC_startOver_5 : decode prog_1_method_20_code 5 = .ok (.getfield 12, 3) := by decide +kernel
theorem d_PC_startOver_8 : decode prog_1_method_20_code 8 = .ok (.invokevirtual 203, 3) := by decide +kernel
theorem d_PC_startOver_11 : decode prog_1_method_20_code 11 = .ok (.aload_n 0, 1) := by decide +kernel
theorem d_PC_startOver_12 : decode prog_1_method_20_code 12 = .ok (.getfield 26, 3) := by decide +kernel
theorem d_PC_startOver_15 : decode prog_1_method_20_code 15 = .ok (.aload_n 0, 1) := by decide +kernel
theorem d_PC_startOver_16 : decode prog_1_method_20_code 16 = .ok (.getfield 12, 3) := by decide +kernel
theorem d_PC_startOver_19 : decode prog_1_method_20_code 19 = .ok (.invokevirtual 207, 3) := by decide +kernel
theorem d_PC_startOver_22 : decode prog_1_method_20_code 22 = .ok (.aload_n 0, 1) := by decide +kernel
theorem d_PC_startOver_23 : decode prog_1_method_20_code 23 = .ok (.getfield 33, 3) := by decide +kernel
theorem d_PC_startOver_26 : decode prog_1_method_20_code 26 = .ok (.aload_n 0, 1) := by decide +kernel
theorem d_PC_startOver_27 : decode prog_1_method_20_code 27 = .ok (.getfield 12, 3) := by decide +kernel
theorem d_PC_startOver_30 : decode prog_1_method_20_code 30 = .ok (.aload_n 0, 1) := by decide +kernel
theorem d_PC_startOver_31 : decode prog_1_method_20_code 31 = .ok (.getfield 19, 3) := by decide +kernel
theorem d_PC_startOver_34 : decode prog_1_method_20_code 34 = .ok (.aload_n 0, 1) := by decide +kernel
theorem d_PC_startOver_35 : decode prog_1_method_20_code 35 = .ok (.getfield 26, 3) := by decide +kernel
theorem d_PC_startOver_38 : decode prog_1_method_20_code 38 = .ok (.invokevirtual 210, 3) := by decide +kernel
theorem d_PC_startOver_41 : decode prog_1_method_20_code 41 = .ok (.aload_n 0, 1) := by decide +kernel
theorem d_PC_startOver_42 : decode prog_1_method_20_code 42 = .ok (.getfield 40, 3) := by decide +kernel
theorem d_PC_startOver_45 : decode prog_1_method_20_code 45 = .ok (.invokevirtual 214, 3) := by decide +kernel
theorem d_PC_startOver_48 : decode prog_1_method_20_code 48 = .ok (.aload_n 0, 1) := by decide +kernel
theorem d_PC_startOver_49 : decode prog_1_method_20_code 49 = .ok (.getfield 49, 3) := by decide +kernel
theorem d_PC_startOver_52 : decode prog_1_method_20_code 52 = .ok (.invokevirtual 154, 3) := by decide +kernel
theorem d_PC_startOver_55 : decode prog_1_method_20_code 55 = .ok (.aload_n 0, 1) := by decide +kernel
theorem d_PC_startOver_56 : decode prog_1_method_20_code 56 = .ok (.getfield 56, 3) := by decide +kernel
theorem d_PC_startOver_59 : decode prog_1_method_20_code 59 = .ok (.invokevirtual 157, 3) := by decide +kernel
theorem d_PC_startOver_62 : decode prog_1_method_20_code 62 = .ok (.return_, 1) := by decide +kernel
theorem ct_startOver {w : gx_W} {B : Nat} {M : sp_M} {inp : List Nat} (h : pc0 w B M inp) (hM : sp_Mok M) (hi : sp_iok inp) : gx_Ct M_PC_startOver 6 0 0 [.ref B] w (fun v w' => v = none ∧ pcAt w' B M inp [] [] (-1) ∧ gx_kp w w' B (B + 360)) := by
  refine gx_ct (L := [some (.ref B)]) (by decide) (Nat.le_of_ble_eq_true rfl) rfl ?_
  obtain ⟨h0, h1, ⟨m2, T, h2⟩, ⟨m3, U, V, fo, h3⟩, ⟨p, t, h4⟩, ⟨q, lk, op, h5⟩, ⟨l6, h6⟩, ⟨l7, h7⟩, ⟨l8, h8⟩, ⟨l9, h9⟩⟩ := h
  obtain ⟨hc0, hl0⟩ := sp_c0_ok hi
  refine gx_aload_n d_PC_startOver_0 rfl ?_
  refine gx_get fl_PC_19 d_PC_startOver_1 h0 rfl ?_
  refine gx_aload_n d_PC_startOver_4 rfl ?_
  refine gx_get fl_PC_12 d_PC_startOver_5 h0 rfl ?_
  refine gx_cVr lk_PC_203 d_PC_startOver_8 (ct_follow h1 hM (by omega) h2 hc0 hl0) (Or.inl ⟨_, h2.1⟩) (by omega) rfl rfl (Nat.le_of_ble_eq_true rfl) (fun r2 w1 hq => ?_)
  obtain ⟨rfl, r1, k1⟩ := hq
  have o1 : w1.1 B = some (pcO B) := by rw [k1.2 _ (by omega)]; exact h0
  refine gx_aload_n d_PC_startOver_11 rfl ?_
  refine gx_get fl_PC_26 d_PC_startOver_12 o1 rfl ?_
  refine gx_aload_n d_PC_startOver_15 rfl ?_
  refine gx_get fl_PC_12 d_PC_startOver_16 o1 rfl ?_
  refine gx_cVr lk_PC_207 d_PC_startOver_19 (ct_fill (h1.kept k1 (by omega)) hM (by omega) (h3.kept k1 (by omega)) (by rw [sp_txt_len]; exact hl0)) (Or.inl ⟨_, (h3.kept k1 (by omega)).1⟩) (by omega) rfl rfl (Nat.le_of_ble_eq_true rfl) (fun r2 w2 hq => ?_)
  obtain ⟨rfl, fo2, b2, hfo2, k2⟩ := hq
  have o2 : w2.1 B = some (pcO B) := by rw [k2.2 _ (by omega)]; exact o1
  have y2 := (h4.kept k1 (by omega)).kept k2 (by omega)
  refine gx_aload_n d_PC_startOver_22 rfl ?_
  refine gx_get fl_PC_33 d_PC_startOver_23 o2 rfl ?_
  refine gx_aload_n d_PC_startOver_26 rfl ?_
  refine gx_get fl_PC_12 d_PC_startOver_27 o2 rfl ?_
  refine gx_aload_n d_PC_startOver_30 rfl ?_
  refine gx_get fl_PC_19 d_PC_startOver_31 o2 rfl ?_
  refine gx_aload_n d_PC_startOver_34 rfl ?_
  refine gx_get fl_PC_26 d_PC_startOver_35 o2 rfl ?_
  have hdl := sp_dsx_len M inp
  refine gx_cVr lk_PC_210 d_PC_startOver_38 (ct_trace (c0 := sp_c0 inp) (rs := sp_rsx M inp) (ds := sp_dsx M inp) ((h1.kept k1 (by omega)).kept k2 (by omega)) hM (r1.kept k2 (by omega)) rfl hc0 (by omega) y2 rfl b2 hfo2 (by omega) (by omega) (by omega) (by omega)) (Or.inl ⟨_, y2.1⟩) (by omega) rfl rfl (Nat.le_of_ble_eq_true rfl) (fun r2 w3 hq => ?_)
  obtain ⟨rfl, k3, t3, y3⟩ := hq
  have o3 : w3.1 B = some (pcO B) := by rw [k3.2 _ (by omega)]; exact o2
  have z3 := ((h5.kept k1 (by omega)).kept k2 (by omega)).kept k3 (by omega)
  obtain ⟨hq401, f1, f2, f3, f4, f5, hz, hF⟩ := z3
  refine gx_aload_n d_PC_startOver_41 rfl ?_
  refine gx_get fl_PC_40 d_PC_startOver_42 o3 rfl ?_
  refine gx_cV0 lk_PC_214 d_PC_startOver_45 (ct_forget hz) (Or.inl ⟨_, hz.1⟩) (by omega) rfl rfl (Nat.le_of_ble_eq_true rfl) ?_
  have z4 := hz.s0 q.length (-1)
  have k4 : gx_kp w3 _ (B + 344) (B + 344 + 8) := gx_kp.st (a := B + 344) (x := gx_ob 7 [.ref (B + 344 + 1), .ref (B + 344 + 2), .ref (B + 344 + 3), .ref (B + 344 + 4), .ref (B + 344 + 5), .ref (B + 344 + 6), .int (nI q.length), .int (-1)]) (by omega) (by omega)
  generalize hw4 : gx_st w3 (B + 344) (gx_ob 7 [.ref (B + 344 + 1), .ref (B + 344 + 2), .ref (B + 344 + 3), .ref (B + 344 + 4), .ref (B + 344 + 5), .ref (B + 344 + 6), .int (nI q.length), .int (-1)]) = w4 at z4 k4 ⊢
  have o4 : w4.1 B = some (pcO B) := by rw [k4.2 _ (by omega)]; exact o3
  have far : ∀ a, B + 352 ≤ a → w4.1 a = w.1 a := fun a ha => by rw [k4.2 _ (by omega), k3.2 _ (by omega), k2.2 _ (by omega), k1.2 _ (by omega)]
  have C4 : pcAt w4 B M inp l6 l7 (-1) := ⟨⟨o4, (((h1.kept k1 (by omega)).kept k2 (by omega)).kept k3 (by omega)).kept k4 (by omega), ((r1.kept k2 (by omega)).kept k3 (by omega)).kept k4 (by omega), ⟨fo2, (b2.kept k3 (by omega)).kept k4 (by omega), hfo2⟩, ⟨t3, y3.kept k4 (by omega)⟩, ⟨q, op, hq401, f1, f2, f3, f4, f5, z4, hF⟩, by rw [far _ (by omega)]; exact h6, by rw [far _ (by omega)]; exact h7⟩, ⟨l8, by rw [far _ (by omega)]; exact h8⟩, ⟨l9, by rw [far _ (by omega)]; exact h9⟩⟩
  have K4 : gx_kp w w4 B (B + 360) := (((k1.mono (by omega) (by omega)).trans (k2.mono (by omega) (by omega))).trans (k3.mono (by omega) (by omega))).trans (k4.mono (by omega) (by omega))
  refine gx_aload_n d_PC_startOver_48 rfl ?_
  refine gx_get fl_PC_49 d_PC_startOver_49 o4 rfl ?_
  refine gx_cV0 lk_PC_154 d_PC_startOver_52 (ct_Row_empty C4.1.2.2.2.2.2.2.1) (Or.inr ⟨_, _, C4.1.2.2.2.2.2.2.1⟩) (by omega) rfl rfl (Nat.le_of_ble_eq_true rfl) ?_
  have C5 := C4.laid []
  have K5 := K4.trans (gx_kp.st (w := w4) (a := B + 352) (x := gx_bx 1 60 []) (show B ≤ B + 352 by omega) (show B + 352 < B + 360 by omega))
  refine gx_aload_n d_PC_startOver_55 rfl ?_
  refine gx_get fl_PC_56 d_PC_startOver_56 C5.1.1 rfl ?_
  refine gx_cV0 lk_PC_157 d_PC_startOver_59 (ct_Word_empty C5.1.2.2.2.2.2.2.2) (Or.inr ⟨_, _, C5.1.2.2.2.2.2.2.2⟩) (by omega) rfl rfl (Nat.le_of_ble_eq_true rfl) ?_
  have C6 := C5.typed []
  have K6 := K5.trans (gx_kp.st (w := gx_st w4 (B + 352) (gx_bx 1 60 [])) (a := B + 354) (x := gx_bx 0 60 []) (show B ≤ B + 354 by omega) (show B + 354 < B + 360 by omega))
  refine gx_return rfl d_PC_startOver_62 ?_
  exact ⟨rfl, C6, K6⟩
