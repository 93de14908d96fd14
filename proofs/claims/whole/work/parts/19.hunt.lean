/-! Hunt: its methods -/
/-- a row in the queue: the row it goes on from, its last domino, its size, what its lower word has more -/
abbrev sp_E : Type := Int32 × Nat × Nat × List Nat
def sp_e0 : sp_E := (-1, 0, 0, [])
def hnR (w : gx_W) (z m : Nat) (lk : Int32) (op : List Nat) (f1 f2 f3 f4 f5 : Nat → Int32) : Prop := w.1 z = some (gx_ob 7 [.ref (z + 1), .ref (z + 2), .ref (z + 3), .ref (z + 4), .ref (z + 5), .ref (z + 6), .int (nI m), .int lk]) ∧ w.1 (z + 1) = some (gx_ai 0 401 f1) ∧ w.1 (z + 2) = some (gx_ai 0 401 f2) ∧ w.1 (z + 3) = some (gx_ai 0 401 f3) ∧ w.1 (z + 4) = some (gx_ai 0 401 f4) ∧ w.1 (z + 5) = some (gx_ai 1 4812 f5) ∧ w.1 (z + 6) = some (gx_bx 0 12 op)
def hnF (q : List sp_E) (f1 f2 f3 f4 f5 : Nat → Int32) : Prop := ∀ i, i < q.length → f1 i = (q.getD i sp_e0).1 ∧ f2 i = nI (q.getD i sp_e0).2.1 ∧ f3 i = nI (q.getD i sp_e0).2.2.1 ∧ f4 i = nI (q.getD i sp_e0).2.2.2.length ∧ ∀ j, j < (q.getD i sp_e0).2.2.2.length → j < 12 → f5 (i * 12 + j) = nI ((q.getD i sp_e0).2.2.2.getD j 0)
/-- the hunt's object at z, its arrays from z + 1 on, its open text at z + 6 -/
def hnAt (w : gx_W) (z : Nat) (q : List sp_E) (lk : Int32) (op : List Nat) : Prop := q.length ≤ 401 ∧ ∃ f1 f2 f3 f4 f5, hnR w z q.length lk op f1 f2 f3 f4 f5 ∧ hnF q f1 f2 f3 f4 f5
section HNR
variable {w w' : gx_W} {z m : Nat} {lk : Int32} {op : List Nat} {f1 f2 f3 f4 f5 : Nat → Int32}
theorem hnR.kept {lo hi : Nat} (h : hnR w z m lk op f1 f2 f3 f4 f5) (hk : gx_kp w w' lo hi) (hd : z + 8 ≤ lo ∨ hi ≤ z) : hnR w' z m lk op f1 f2 f3 f4 f5 := by
  obtain ⟨h0, h1, h2, h3, h4, h5, h6⟩ := h
  exact ⟨by rw [hk.2 _ (by omega)]; exact h0, by rw [hk.2 _ (by omega)]; exact h1, by rw [hk.2 _ (by omega)]; exact h2, by rw [hk.2 _ (by omega)]; exact h3, by rw [hk.2 _ (by omega)]; exact h4, by rw [hk.2 _ (by omega)]; exact h5, by rw [hk.2 _ (by omega)]; exact h6⟩
theorem hnAt.kept {q : List sp_E} {lo hi : Nat} (h : hnAt w z q lk op) (hk : gx_kp w w' lo hi) (hd : z + 8 ≤ lo ∨ hi ≤ z) : hnAt w' z q lk op := by
  obtain ⟨h0, f1, f2, f3, f4, f5, h1, h2⟩ := h
  exact ⟨h0, f1, f2, f3, f4, f5, h1.kept hk hd, h2⟩
theorem hnR.s1 (g : Nat → Int32) (h : hnR w z m lk op f1 f2 f3 f4 f5) : hnR (gx_st w (z + 1) (gx_ai 0 401 g)) z m lk op g f2 f3 f4 f5 := by
  obtain ⟨h0, h1, h2, h3, h4, h5, h6⟩ := h
  exact ⟨by rw [gx_st_ne (by omega)]; exact h0, gx_st_eq, by rw [gx_st_ne (by omega)]; exact h2, by rw [gx_st_ne (by omega)]; exact h3, by rw [gx_st_ne (by omega)]; exact h4, by rw [gx_st_ne (by omega)]; exact h5, by rw [gx_st_ne (by omega)]; exact h6⟩
theorem hnR.s2 (g : Nat → Int32) (h : hnR w z m lk op f1 f2 f3 f4 f5) : hnR (gx_st w (z + 2) (gx_ai 0 401 g)) z m lk op f1 g f3 f4 f5 := by
  obtain ⟨h0, h1, h2, h3, h4, h5, h6⟩ := h
  exact ⟨by rw [gx_st_ne (by omega)]; exact h0, by rw [gx_st_ne (by omega)]; exact h1, gx_st_eq, by rw [gx_st_ne (by omega)]; exact h3, by rw [gx_st_ne (by omega)]; exact h4, by rw [gx_st_ne (by omega)]; exact h5, by rw [gx_st_ne (by omega)]; exact h6⟩
theorem hnR.s3 (g : Nat → Int32) (h : hnR w z m lk op f1 f2 f3 f4 f5) : hnR (gx_st w (z + 3) (gx_ai 0 401 g)) z m lk op f1 f2 g f4 f5 := by
  obtain ⟨h0, h1, h2, h3, h4, h5, h6⟩ := h
  exact ⟨by rw [gx_st_ne (by omega)]; exact h0, by rw [gx_st_ne (by omega)]; exact h1, by rw [gx_st_ne (by omega)]; exact h2, gx_st_eq, by rw [gx_st_ne (by omega)]; exact h4, by rw [gx_st_ne (by omega)]; exact h5, by rw [gx_st_ne (by omega)]; exact h6⟩
theorem hnR.s4 (g : Nat → Int32) (h : hnR w z m lk op f1 f2 f3 f4 f5) : hnR (gx_st w (z + 4) (gx_ai 0 401 g)) z m lk op f1 f2 f3 g f5 := by
  obtain ⟨h0, h1, h2, h3, h4, h5, h6⟩ := h
  exact ⟨by rw [gx_st_ne (by omega)]; exact h0, by rw [gx_st_ne (by omega)]; exact h1, by rw [gx_st_ne (by omega)]; exact h2, by rw [gx_st_ne (by omega)]; exact h3, gx_st_eq, by rw [gx_st_ne (by omega)]; exact h5, by rw [gx_st_ne (by omega)]; exact h6⟩
theorem hnR.s5 (g : Nat → Int32) (h : hnR w z m lk op f1 f2 f3 f4 f5) : hnR (gx_st w (z + 5) (gx_ai 1 4812 g)) z m lk op f1 f2 f3 f4 g := by
  obtain ⟨h0, h1, h2, h3, h4, h5, h6⟩ := h
  exact ⟨by rw [gx_st_ne (by omega)]; exact h0, by rw [gx_st_ne (by omega)]; exact h1, by rw [gx_st_ne (by omega)]; exact h2, by rw [gx_st_ne (by omega)]; exact h3, by rw [gx_st_ne (by omega)]; exact h4, gx_st_eq, by rw [gx_st_ne (by omega)]; exact h6⟩
theorem hnR.so (op' : List Nat) (h : hnR w z m lk op f1 f2 f3 f4 f5) : hnR (gx_st w (z + 6) (gx_bx 0 12 op')) z m lk op' f1 f2 f3 f4 f5 := by
  obtain ⟨h0, h1, h2, h3, h4, h5, h6⟩ := h
  exact ⟨by rw [gx_st_ne (by omega)]; exact h0, by rw [gx_st_ne (by omega)]; exact h1, by rw [gx_st_ne (by omega)]; exact h2, by rw [gx_st_ne (by omega)]; exact h3, by rw [gx_st_ne (by omega)]; exact h4, by rw [gx_st_ne (by omega)]; exact h5, gx_st_eq⟩
theorem hnR.s0 (m' : Nat) (lk' : Int32) (h : hnR w z m lk op f1 f2 f3 f4 f5) : hnR (gx_st w z (gx_ob 7 [.ref (z + 1), .ref (z + 2), .ref (z + 3), .ref (z + 4), .ref (z + 5), .ref (z + 6), .int (nI m'), .int lk'])) z m' lk' op f1 f2 f3 f4 f5 := by
  obtain ⟨h0, h1, h2, h3, h4, h5, h6⟩ := h
  exact ⟨gx_st_eq, by rw [gx_st_ne (by omega)]; exact h1, by rw [gx_st_ne (by omega)]; exact h2, by rw [gx_st_ne (by omega)]; exact h3, by rw [gx_st_ne (by omega)]; exact h4, by rw [gx_st_ne (by omega)]; exact h5, by rw [gx_st_ne (by omega)]; exact h6⟩
end HNR
theorem d_Hunt_lookedAt_0 : decode prog_4_method_2_code 0 = .ok (.aload_n 0, 1) := by decide +kernel
theorem d_Hunt_lookedAt_1 : decode prog_4_method_2_code 1 = .ok (.getfield 37, 3) := by decide +kernel
theorem d_Hunt_lookedAt_4 : decode prog_4_method_2_code 4 = .ok (.ireturn, 1) := by decide +kernel
theorem ct_lookedAt {w : gx_W} {z m : Nat} {lk : Int32} {op : List Nat} {f1 f2 f3 f4 f5 : Nat → Int32} (hz : hnR w z m lk op f1 f2 f3 f4 f5)  : gx_Ct M_Hunt_lookedAt 1 0 0 [.ref z] w (gx_eq (some (.int lk)) w) := by
  refine gx_ct (L := [some (.ref z)]) (by decide) (Nat.le_of_ble_eq_true rfl) rfl ?_
  refine gx_aload_n d_Hunt_lookedAt_0 rfl ?_
  refine gx_get fl_Hunt_37 d_Hunt_lookedAt_1 hz.1 rfl ?_
  refine gx_ireturn rfl d_Hunt_lookedAt_4 ?_
  exact ⟨rfl, rfl⟩
theorem d_Hunt_forget_0 : decode prog_4_method_3_code 0 = .ok (.aload_n 0, 1) := by decide +kernel
theorem d_Hunt_forget_1 : decode prog_4_method_3_code 1 = .ok (.iconst (-1), 1) := by decide +kernel
theorem d_Hunt_forget_2 : decode prog_4_method_3_code 2 = .ok (.putfield 37, 3) := by decide +kernel
theorem d_Hunt_forget_5 : decode prog_4_method_3_code 5 = .ok (.return_, 1) := by decide +kernel
theorem ct_forget {w : gx_W} {z m : Nat} {lk : Int32} {op : List Nat} {f1 f2 f3 f4 f5 : Nat → Int32} (hz : hnR w z m lk op f1 f2 f3 f4 f5)  : gx_Ct M_Hunt_forget 1 0 0 [.ref z] w (gx_eq none (gx_st w z (gx_ob 7 [.ref (z + 1), .ref (z + 2), .ref (z + 3), .ref (z + 4), .ref (z + 5), .ref (z + 6), .int (nI m), .int (-1)]))) := by
  refine gx_ct (L := [some (.ref z)]) (by decide) (Nat.le_of_ble_eq_true rfl) rfl ?_
  refine gx_aload_n d_Hunt_forget_0 rfl ?_
  refine gx_iconst d_Hunt_forget_1 (-1) (by decide) ?_
  refine gx_put fp_Hunt_37 (fun h => by cases h) d_Hunt_forget_2 hz.1 rfl rfl (Nat.le_of_ble_eq_true rfl) ?_
  refine gx_return rfl d_Hunt_forget_5 ?_
  exact ⟨rfl, rfl⟩
theorem d_Hunt_openOr_0 : decode prog_4_method_10_code 0 = .ok (.iload_n 2, 1) := by decide +kernel
theorem d_Hunt_openOr_1 : decode prog_4_method_10_code 1 = .ok (.aload_n 0, 1) := by decide +kernel
theorem d_Hunt_openOr_2 : decode prog_4_method_10_code 2 = .ok (.getfield 33, 3) := by decide +kernel
theorem d_Hunt_openOr_5 : decode prog_4_method_10_code 5 = .ok (.invokevirtual 88, 3) := by decide +kernel
theorem d_Hunt_openOr_8 : decode prog_4_method_10_code 8 = .ok (.if_icmp .ge 14, 3) := by decide +kernel
theorem d_Hunt_openOr_11 : decode prog_4_method_10_code 11 = .ok (.aload_n 0, 1) := by decide +kernel
theorem d_Hunt_openOr_12 : decode prog_4_method_10_code 12 = .ok (.getfield 33, 3) := by decide +kernel
theorem d_Hunt_openOr_15 : decode prog_4_method_10_code 15 = .ok (.iload_n 2, 1) := by decide +kernel
theorem d_Hunt_openOr_16 : decode prog_4_method_10_code 16 = .ok (.invokevirtual 98, 3) := by decide +kernel
theorem d_Hunt_openOr_19 : decode prog_4_method_10_code 19 = .ok (.goto 16, 3) := by decide +kernel
theorem d_Hunt_openOr_22 : decode prog_4_method_10_code 22 = .ok (.aload_n 1, 1) := by decide +kernel
theorem d_Hunt_openOr_23 : decode prog_4_method_10_code 23 = .ok (.iload_n 2, 1) := by decide +kernel
theorem d_Hunt_openOr_24 : decode prog_4_method_10_code 24 = .ok (.aload_n 0, 1) := by decide +kernel
theorem d_Hunt_openOr_25 : decode prog_4_method_10_code 25 = .ok (.getfield 33, 3) := by decide +kernel
theorem d_Hunt_openOr_28 : decode prog_4_method_10_code 28 = .ok (.invokevirtual 88, 3) := by decide +kernel
theorem d_Hunt_openOr_31 : decode prog_4_method_10_code 31 = .ok (.isub, 1) := by decide +kernel
theorem d_Hunt_openOr_32 : decode prog_4_method_10_code 32 = .ok (.invokevirtual 98, 3) := by decide +kernel
theorem d_Hunt_openOr_35 : decode prog_4_method_10_code 35 = .ok (.ireturn, 1) := by decide +kernel
theorem ct_openOr {w : gx_W} {z m : Nat} {lk : Int32} {op : List Nat} {f1 f2 f3 f4 f5 : Nat → Int32} (hz : hnR w z m lk op f1 f2 f3 f4 f5) {dl i cap : Nat} {l : List Nat} (hl : w.1 dl = some (gx_bx 0 cap l)) (hi : i < 2 ^ 31) : gx_Ct M_Hunt_openOr 2 0 0 [.ref z, .ref dl, .int (nI i)] w (gx_eq (some (.int (nI ((op ++ l).getD i 0)))) w) := by
  refine gx_ct (L := [some (.ref z), some (.ref dl), some (.int (nI i))]) (by decide) (Nat.le_of_ble_eq_true rfl) rfl ?_
  obtain ⟨h0, -, -, -, -, -, h6⟩ := hz
  refine gx_bsz hl (fun hlen hcap hsm => ?_)
  refine gx_bsz h6 (fun hlen6 hcap6 hsm6 => ?_)
  refine gx_iload_n d_Hunt_openOr_0 rfl ?_
  refine gx_aload_n d_Hunt_openOr_1 rfl ?_
  refine gx_get fl_Hunt_33 d_Hunt_openOr_2 h0 rfl ?_
  refine gx_cV1 lk_Hunt_88 d_Hunt_openOr_5 (ct_Word_size h6) (Or.inr ⟨_, _, h6⟩) (by omega) rfl rfl (Nat.le_of_ble_eq_true rfl) ?_
  refine gx_icmp_geN (by omega) (by omega) (tgt := 22) d_Hunt_openOr_8 (by decide) (fun h8 => ?_) (fun h8 => ?_)
  · have e : (op ++ l).getD i 0 = l.getD (i - op.length) 0 := by
      have := gx_gd_app2 (l := op) (k := l) (i := i - op.length)
      rwa [show op.length + (i - op.length) = i by omega] at this
    refine gx_aload_n d_Hunt_openOr_22 rfl ?_
    refine gx_iload_n d_Hunt_openOr_23 rfl ?_
    refine gx_aload_n d_Hunt_openOr_24 rfl ?_
    refine gx_get fl_Hunt_33 d_Hunt_openOr_25 h0 rfl ?_
    refine gx_cV1 lk_Hunt_88 d_Hunt_openOr_28 (ct_Word_size h6) (Or.inr ⟨_, _, h6⟩) (by omega) rfl rfl (Nat.le_of_ble_eq_true rfl) ?_
    refine gx_isubN (by omega) d_Hunt_openOr_31 ?_
    refine gx_cV1 lk_Hunt_98 d_Hunt_openOr_32 (ct_Word_at (j := i - op.length) hl (by omega)) (Or.inr ⟨_, _, hl⟩) (by omega) rfl rfl (Nat.le_of_ble_eq_true rfl) ?_
    rw [← e]
    refine gx_zreturn rfl (gx_nc (gx_sm_at (gx_sm_app hsm6 hsm) i)) d_Hunt_openOr_35 ?_
    exact ⟨rfl, rfl⟩
  · have e : (op ++ l).getD i 0 = op.getD i 0 := gx_gd_app (by omega)
    refine gx_aload_n d_Hunt_openOr_11 rfl ?_
    refine gx_get fl_Hunt_33 d_Hunt_openOr_12 h0 rfl ?_
    refine gx_iload_n d_Hunt_openOr_15 rfl ?_
    refine gx_cV1 lk_Hunt_98 d_Hunt_openOr_16 (ct_Word_at h6 hi) (Or.inr ⟨_, _, h6⟩) (by omega) rfl rfl (Nat.le_of_ble_eq_true rfl) ?_
    refine gx_goto (tgt := 35) d_Hunt_openOr_19 (by decide) ?_
    rw [← e]
    refine gx_zreturn rfl (gx_nc (gx_sm_at (gx_sm_app hsm6 hsm) i)) d_Hunt_openOr_35 ?_
    exact ⟨rfl, rfl⟩
theorem d_Hunt_fits_0 : decode prog_4_method_8_code 0 = .ok (.aload_n 1, 1) := by decide +kernel
theorem d_Hunt_fits_1 : decode prog_4_method_8_code 1 = .ok (.getfield 83, 3) := by decide +kernel
theorem d_Hunt_fits_4 : decode prog_4_method_8_code 4 = .ok (.invokevirtual 88, 3) := by decide +kernel
theorem d_Hunt_fits_7 : decode prog_4_method_8_code 7 = .ok (.aload_n 0, 1) := by decide +kernel
theorem d_Hunt_fits_8 : decode prog_4_method_8_code 8 = .ok (.getfield 33, 3) := by decide +kernel
theorem d_Hunt_fits_11 : decode prog_4_method_8_code 11 = .ok (.invokevirtual 88, 3) := by decide +kernel
theorem d_Hunt_fits_14 : decode prog_4_method_8_code 14 = .ok (.aload_n 1, 1) := by decide +kernel
theorem d_Hunt_fits_15 : decode prog_4_method_8_code 15 = .ok (.getfield 89, 3) := by decide +kernel
theorem d_Hunt_fits_18 : decode prog_4_method_8_code 18 = .ok (.invokevirtual 88, 3) := by decide +kernel
theorem d_Hunt_fits_21 : decode prog_4_method_8_code 21 = .ok (.iadd, 1) := by decide +kernel
theorem d_Hunt_fits_22 : decode prog_4_method_8_code 22 = .ok (.invokestatic 92, 3) := by decide +kernel
theorem d_Hunt_fits_25 : decode prog_4_method_8_code 25 = .ok (.istore_n 2, 1) := by decide +kernel
theorem d_Hunt_fits_26 : decode prog_4_method_8_code 26 = .ok (.iconst 0, 1) := by decide +kernel
theorem d_Hunt_fits_27 : decode prog_4_method_8_code 27 = .ok (.istore_n 3, 1) := by decide +kernel
theorem d_Hunt_fits_28 : decode prog_4_method_8_code 28 = .ok (.iload_n 3, 1) := by decide +kernel
theorem d_Hunt_fits_29 : decode prog_4_method_8_code 29 = .ok (.iload_n 2, 1) := by decide +kernel
theorem d_Hunt_fits_30 : decode prog_4_method_8_code 30 = .ok (.if_icmp .ge 31, 3) := by decide +kernel
theorem d_Hunt_fits_33 : decode prog_4_method_8_code 33 = .ok (.aload_n 1, 1) := by decide +kernel
theorem d_Hunt_fits_34 : decode prog_4_method_8_code 34 = .ok (.getfield 83, 3) := by decide +kernel
theorem d_Hunt_fits_37 : decode prog_4_method_8_code 37 = .ok (.iload_n 3, 1) := by decide +kernel
theorem d_Hunt_fits_38 : decode prog_4_method_8_code 38 = .ok (.invokevirtual 98, 3) := by decide +kernel
theorem d_Hunt_fits_41 : decode prog_4_method_8_code 41 = .ok (.aload_n 0, 1) := by decide +kernel
theorem d_Hunt_fits_42 : decode prog_4_method_8_code 42 = .ok (.aload_n 1, 1) := by decide +kernel
theorem d_Hunt_fits_43 : decode prog_4_method_8_code 43 = .ok (.getfield 89, 3) := by decide +kernel
theorem d_Hunt_fits_46 : decode prog_4_method_8_code 46 = .ok (.iload_n 3, 1) := by decide +kernel
theorem d_Hunt_fits_47 : decode prog_4_method_8_code 47 = .ok (.invokevirtual 102, 3) := by decide +kernel
theorem d_Hunt_fits_50 : decode prog_4_method_8_code 50 = .ok (.if_icmp .eq 5, 3) := by decide +kernel
theorem d_Hunt_fits_53 : decode prog_4_method_8_code 53 = .ok (.iconst 0, 1) := by decide +kernel
theorem d_Hunt_fits_54 : decode prog_4_method_8_code 54 = .ok (.ireturn, 1) := by decide +kernel
theorem d_Hunt_fits_55 : decode prog_4_method_8_code 55 = .ok (.iinc 3 1, 3) := by decide +kernel
theorem d_Hunt_fits_58 : decode prog_4_method_8_code 58 = .ok (.goto (-30), 3) := by decide +kernel
theorem d_Hunt_fits_61 : decode prog_4_method_8_code 61 = .ok (.iconst 1, 1) := by decide +kernel
theorem d_Hunt_fits_62 : decode prog_4_method_8_code 62 = .ok (.ireturn, 1) := by decide +kernel
theorem lp_fits {Q : gx_P} {w : gx_W} {z m : Nat} {lk : Int32} {op : List Nat} {f1 f2 f3 f4 f5 : Nat → Int32} (hz : hnR w z m lk op f1 f2 f3 f4 f5) {D du dl : Nat} {u l : List Nat} (hD : w.1 D = some (gx_ob 4 [.ref du, .ref dl])) (hu : w.1 du = some (gx_bx 0 3 u)) (hl : w.1 dl = some (gx_bx 0 7 l))  : ∀ (fu : Nat) (i : Nat), u.length - i < fu → (i ≤ min u.length (op.length + l.length)) → (Q.1 (some (.int (nI (sp_agb (u.drop i) ((op ++ l).drop i)).toNat))) w) → gx_X (fun _ _ => True) M_Hunt_fits 3 Q 28 [some (.ref z), some (.ref D), some (.int (nI (min u.length (op.length + l.length)))), some (.int (nI i))] [] w (0, 0) := by
  intro fu
  induction fu with
  | zero => intro i hfu; exact absurd hfu (Nat.not_lt_zero _)
  | succ fu ih =>
    intro i hfu hi hQ
    refine gx_bsz hu (fun hlen hcap hsm => ?_)
    refine gx_bsz hl (fun hlen2 hcap2 hsm2 => ?_)
    refine gx_bsz hz.2.2.2.2.2.2 (fun hlen3 hcap3 hsm3 => ?_)
    have hs := gx_sm_at hsm i
    have hs2 := gx_sm_at (gx_sm_app hsm3 hsm2) i
    have hol : (op ++ l).length = op.length + l.length := List.length_append
    refine gx_iload_n d_Hunt_fits_28 rfl ?_
    refine gx_iload_n d_Hunt_fits_29 rfl ?_
    refine gx_icmp_geN (by omega) (by omega) (tgt := 61) d_Hunt_fits_30 (by decide) (fun h30 => ?_) (fun h30 => ?_)
    · refine gx_iconst d_Hunt_fits_61 (nI 1) (by decide) ?_
      refine gx_zreturn rfl gx_nz1 d_Hunt_fits_62 ?_
      have e : sp_agb (u.drop i) ((op ++ l).drop i) = true := by
        rcases (show u.length ≤ i ∨ (op ++ l).length ≤ i by omega) with g | g
        · rw [List.drop_eq_nil_of_le g]; exact sp_agb_nil
        · rw [List.drop_eq_nil_of_le g]; exact sp_agb_nil2
      rw [e] at hQ
      exact hQ
    · refine gx_aload_n d_Hunt_fits_33 rfl ?_
      refine gx_get fl_Hunt_83 d_Hunt_fits_34 hD rfl ?_
      refine gx_iload_n d_Hunt_fits_37 rfl ?_
      refine gx_cV1 lk_Hunt_98 d_Hunt_fits_38 (ct_Word_at hu (by omega)) (Or.inr ⟨_, _, hu⟩) (by omega) rfl rfl (Nat.le_of_ble_eq_true rfl) ?_
      refine gx_aload_n d_Hunt_fits_41 rfl ?_
      refine gx_aload_n d_Hunt_fits_42 rfl ?_
      refine gx_get fl_Hunt_89 d_Hunt_fits_43 hD rfl ?_
      refine gx_iload_n d_Hunt_fits_46 rfl ?_
      refine gx_cV1 lk_Hunt_102 d_Hunt_fits_47 (ct_openOr hz hl (by omega)) (Or.inl ⟨_, hz.1⟩) (by omega) rfl rfl (Nat.le_of_ble_eq_true rfl) ?_
      refine gx_icmp_eqN (by omega) (by omega) (tgt := 55) d_Hunt_fits_50 (by decide) (fun h50 => ?_) (fun h50 => ?_)
      · refine gx_iincN (n := 1) d_Hunt_fits_55 rfl (by decide) (Nat.le_of_ble_eq_true rfl) rfl ?_
        refine gx_goto (tgt := 28) d_Hunt_fits_58 (by decide) ?_
        refine ih (i + 1) (by omega) (by omega) ?_
        rw [gx_drop_cons (show i < u.length by omega), gx_drop_cons (show i < (op ++ l).length by omega)] at hQ
        simp only [sp_agb, beq_iff_eq.mpr h50, Bool.true_and] at hQ
        exact hQ
      · refine gx_iconst d_Hunt_fits_53 (nI 0) (by decide) ?_
        refine gx_zreturn rfl gx_nz0 d_Hunt_fits_54 ?_
        rw [gx_drop_cons (show i < u.length by omega), gx_drop_cons (show i < (op ++ l).length by omega)] at hQ
        simp only [sp_agb, beq_eq_false_iff_ne.mpr h50, Bool.false_and] at hQ
        exact hQ
theorem ct_fits {w : gx_W} {z m : Nat} {lk : Int32} {op : List Nat} {f1 f2 f3 f4 f5 : Nat → Int32} (hz : hnR w z m lk op f1 f2 f3 f4 f5) {D du dl : Nat} {u l : List Nat} (hD : w.1 D = some (gx_ob 4 [.ref du, .ref dl])) (hu : w.1 du = some (gx_bx 0 3 u)) (hl : w.1 dl = some (gx_bx 0 7 l))  : gx_Ct M_Hunt_fits 3 0 0 [.ref z, .ref D] w (gx_eq (some (.int (nI (sp_agb u (op ++ l)).toNat))) w) := by
  refine gx_ct (L := [some (.ref z), some (.ref D), none, none]) (by decide) (Nat.le_of_ble_eq_true rfl) rfl ?_
  refine gx_bsz hu (fun hlen hcap hsm => ?_)
  refine gx_bsz hl (fun hlen2 hcap2 hsm2 => ?_)
  refine gx_bsz hz.2.2.2.2.2.2 (fun hlen3 hcap3 hsm3 => ?_)
  refine gx_aload_n d_Hunt_fits_0 rfl ?_
  refine gx_get fl_Hunt_83 d_Hunt_fits_1 hD rfl ?_
  refine gx_cV1 lk_Hunt_88 d_Hunt_fits_4 (ct_Word_size hu) (Or.inr ⟨_, _, hu⟩) (by omega) rfl rfl (Nat.le_of_ble_eq_true rfl) ?_
  refine gx_aload_n d_Hunt_fits_7 rfl ?_
  refine gx_get fl_Hunt_33 d_Hunt_fits_8 hz.1 rfl ?_
  refine gx_cV1 lk_Hunt_88 d_Hunt_fits_11 (ct_Word_size hz.2.2.2.2.2.2) (Or.inr ⟨_, _, hz.2.2.2.2.2.2⟩) (by omega) rfl rfl (Nat.le_of_ble_eq_true rfl) ?_
  refine gx_aload_n d_Hunt_fits_14 rfl ?_
  refine gx_get fl_Hunt_89 d_Hunt_fits_15 hD rfl ?_
  refine gx_cV1 lk_Hunt_88 d_Hunt_fits_18 (ct_Word_size hl) (Or.inr ⟨_, _, hl⟩) (by omega) rfl rfl (Nat.le_of_ble_eq_true rfl) ?_
  refine gx_iaddN d_Hunt_fits_21 ?_
  refine gx_min lk_Hunt_92 (by omega) (Nat.le_of_ble_eq_true rfl) d_Hunt_fits_22 ?_
  refine gx_top (gx_mnI (by omega) (by omega)) ?_
  refine gx_istore_n d_Hunt_fits_25 (Nat.le_of_ble_eq_true rfl) rfl ?_
  refine gx_iconst d_Hunt_fits_26 (nI 0) (by decide) ?_
  refine gx_istore_n d_Hunt_fits_27 (Nat.le_of_ble_eq_true rfl) rfl ?_
  exact lp_fits hz hD hu hl (u.length + 1) 0 (by omega) (Nat.zero_le _) (by exact ⟨rfl, rfl⟩)
theorem hnF.snoc {q : List sp_E} {f1 f2 f3 f4 f5 g1 g2 g3 g4 g5 : Nat → Int32} {e : sp_E} (h : hnF q f1 f2 f3 f4 f5) (h1 : ∀ i, i < q.length → g1 i = f1 i ∧ g2 i = f2 i ∧ g3 i = f3 i ∧ g4 i = f4 i ∧ ∀ j, j < 12 → g5 (i * 12 + j) = f5 (i * 12 + j)) (h2 : g1 q.length = e.1 ∧ g2 q.length = nI e.2.1 ∧ g3 q.length = nI e.2.2.1 ∧ g4 q.length = nI e.2.2.2.length ∧ ∀ j, j < e.2.2.2.length → j < 12 → g5 (q.length * 12 + j) = nI (e.2.2.2.getD j 0)) : hnF (q ++ [e]) g1 g2 g3 g4 g5 := by
  intro i hi
  rw [List.length_append, List.length_singleton] at hi
  by_cases hq : i < q.length
  · have e1 : (q ++ [e]).getD i sp_e0 = q.getD i sp_e0 := by simp [List.getD_eq_getElem?_getD, List.getElem?_append_left hq]
    rw [e1]
    obtain ⟨a1, a2, a3, a4, a5⟩ := h i hq
    obtain ⟨b1, b2, b3, b4, b5⟩ := h1 i hq
    exact ⟨b1.trans a1, b2.trans a2, b3.trans a3, b4.trans a4, fun j hj hj2 => (b5 j hj2).trans (a5 j hj hj2)⟩
  · have e2 : i = q.length := by omega
    subst e2
    have e1 : (q ++ [e]).getD q.length sp_e0 = e := by simp [List.getD_eq_getElem?_getD]
    rw [e1]
    exact h2
theorem d_Hunt_keep_0 : decode prog_4_method_9_code 0 = .ok (.aload_n 3, 1) := by decide +kernel
theorem d_Hunt_keep_1 : decode prog_4_method_9_code 1 = .ok (.getfield 83, 3) := by decide +kernel
theorem d_Hunt_keep_4 : decode prog_4_method_9_code 4 = .ok (.invokevirtual 88, 3) := by decide +kernel
theorem d_Hunt_keep_7 : decode prog_4_method_9_code 7 = .ok (.istore 4, 2) := by decide +kernel
theorem d_Hunt_keep_9 : decode prog_4_method_9_code 9 = .ok (.aload_n 0, 1) := by decide +kernel
theorem d_Hunt_keep_10 : decode prog_4_method_9_code 10 = .ok (.getfield 11, 3) := by decide +kernel
theorem d_Hunt_keep_13 : decode prog_4_method_9_code 13 = .ok (.aload_n 0, 1) := by decide +kernel
theorem d_Hunt_keep_14 : decode prog_4_method_9_code 14 = .ok (.getfield 41, 3) := by decide +kernel
theorem d_Hunt_keep_17 : decode prog_4_method_9_code 17 = .ok (.iload_n 1, 1) := by decide +kernel
theorem d_Hunt_keep_18 : decode prog_4_method_9_code 18 = .ok (.iastore, 1) := by decide +kernel
theorem d_Hunt_keep_19 : decode prog_4_method_9_code 19 = .ok (.aload_n 0, 1) := by decide +kernel
theorem d_Hunt_keep_20 : decode prog_4_method_9_code 20 = .ok (.getfield 15, 3) := by decide +kernel
theorem d_Hunt_keep_23 : decode prog_4_method_9_code 23 = .ok (.aload_n 0, 1) := by decide +kernel
theorem d_Hunt_keep_24 : decode prog_4_method_9_code 24 = .ok (.getfield 41, 3) := by decide +kernel
theorem d_Hunt_keep_27 : decode prog_4_method_9_code 27 = .ok (.iload_n 2, 1) := by decide +kernel
theorem d_Hunt_keep_28 : decode prog_4_method_9_code 28 = .ok (.iastore, 1) := by decide +kernel
theorem d_Hunt_keep_29 : decode prog_4_method_9_code 29 = .ok (.aload_n 0, 1) := by decide +kernel
theorem d_Hunt_keep_30 : decode prog_4_method_9_code 30 = .ok (.getfield 18, 3) := by decide +kernel
theorem d_Hunt_keep_33 : decode prog_4_method_9_code 33 = .ok (.aload_n 0, 1) := by decide +kernel
theorem d_Hunt_keep_34 : decode prog_4_method_9_code 34 = .ok (.getfield 41, 3) := by decide +kernel
theorem d_Hunt_keep_37 : decode prog_4_method_9_code 37 = .ok (.iload_n 1, 1) := by decide +kernel
theorem d_Hunt_keep_38 : decode prog_4_method_9_code 38 = .ok (.iconst (-1), 1) := by decide +kernel
theorem d_Hunt_keep_39 : decode prog_4_method_9_code 39 = .ok (.if_icmp .ne 7, 3) := by decide +kernel
theorem d_Hunt_keep_42 : decode prog_4_method_9_code 42 = .ok (.iconst 1, 1) := by decide +kernel
theorem d_Hunt_keep_43 : decode prog_4_method_9_code 43 = .ok (.goto 11, 3) := by decide +kernel
theorem d_Hunt_keep_46 : decode prog_4_method_9_code 46 = .ok (.aload_n 0, 1) := by decide +kernel
theorem d_Hunt_keep_47 : decode prog_4_method_9_code 47 = .ok (.getfield 18, 3) := by decide +kernel
theorem d_Hunt_keep_50 : decode prog_4_method_9_code 50 = .ok (.iload_n 1, 1) := by decide +kernel
theorem d_Hunt_keep_51 : decode prog_4_method_9_code 51 = .ok (.iaload, 1) := by decide +kernel
theorem d_Hunt_keep_52 : decode prog_4_method_9_code 52 = .ok (.iconst 1, 1) := by decide +kernel
theorem d_Hunt_keep_53 : decode prog_4_method_9_code 53 = .ok (.iadd, 1) := by decide +kernel
theorem d_Hunt_keep_54 : decode prog_4_method_9_code 54 = .ok (.iastore, 1) := by decide +kernel
theorem d_Hunt_keep_55 : decode prog_4_method_9_code 55 = .ok (.aload_n 0, 1) := by decide +kernel
theorem d_Hunt_keep_56 : decode prog_4_method_9_code 56 = .ok (.getfield 21, 3) := by decide +kernel
theorem d_Hunt_keep_59 : decode prog_4_method_9_code 59 = .ok (.aload_n 0, 1) := by decide +kernel
theorem d_Hunt_keep_60 : decode prog_4_method_9_code 60 = .ok (.getfield 41, 3) := by decide +kernel
theorem d_Hunt_keep_63 : decode prog_4_method_9_code 63 = .ok (.aload_n 0, 1) := by decide +kernel
theorem d_Hunt_keep_64 : decode prog_4_method_9_code 64 = .ok (.getfield 33, 3) := by decide +kernel
theorem d_Hunt_keep_67 : decode prog_4_method_9_code 67 = .ok (.invokevirtual 88, 3) := by decide +kernel
theorem d_Hunt_keep_70 : decode prog_4_method_9_code 70 = .ok (.aload_n 3, 1) := by decide +kernel
theorem d_Hunt_keep_71 : decode prog_4_method_9_code 71 = .ok (.getfield 89, 3) := by decide +kernel
theorem d_Hunt_keep_74 : decode prog_4_method_9_code 74 = .ok (.invokevirtual 88, 3) := by decide +kernel
theorem d_Hunt_keep_77 : decode prog_4_method_9_code 77 = .ok (.iadd, 1) := by decide +kernel
theorem d_Hunt_keep_78 : decode prog_4_method_9_code 78 = .ok (.iload 4, 2) := by decide +kernel
theorem d_Hunt_keep_80 : decode prog_4_method_9_code 80 = .ok (.isub, 1) := by decide +kernel
theorem d_Hunt_keep_81 : decode prog_4_method_9_code 81 = .ok (.iastore, 1) := by decide +kernel
theorem d_Hunt_keep_82 : decode prog_4_method_9_code 82 = .ok (.aload_n 0, 1) := by decide +kernel
theorem d_Hunt_keep_83 : decode prog_4_method_9_code 83 = .ok (.getfield 21, 3) := by decide +kernel
theorem d_Hunt_keep_86 : decode prog_4_method_9_code 86 = .ok (.aload_n 0, 1) := by decide +kernel
theorem d_Hunt_keep_87 : decode prog_4_method_9_code 87 = .ok (.getfield 41, 3) := by decide +kernel
theorem d_Hunt_keep_90 : decode prog_4_method_9_code 90 = .ok (.iaload, 1) := by decide +kernel
theorem d_Hunt_keep_91 : decode prog_4_method_9_code 91 = .ok (.bipush 12, 2) := by decide +kernel
theorem d_Hunt_keep_93 : decode prog_4_method_9_code 93 = .ok (.invokestatic 92, 3) := by decide +kernel
theorem d_Hunt_keep_96 : decode prog_4_method_9_code 96 = .ok (.istore 5, 2) := by decide +kernel
theorem d_Hunt_keep_98 : decode prog_4_method_9_code 98 = .ok (.iconst 0, 1) := by decide +kernel
theorem d_Hunt_keep_99 : decode prog_4_method_9_code 99 = .ok (.istore 6, 2) := by decide +kernel
theorem d_Hunt_keep_101 : decode prog_4_method_9_code 101 = .ok (.iload 6, 2) := by decide +kernel
theorem d_Hunt_keep_103 : decode prog_4_method_9_code 103 = .ok (.iload 5, 2) := by decide +kernel
theorem d_Hunt_keep_105 : decode prog_4_method_9_code 105 = .ok (.if_icmp .ge 37, 3) := by decide +kernel
theorem d_Hunt_keep_108 : decode prog_4_method_9_code 108 = .ok (.aload_n 0, 1) := by decide +kernel
theorem d_Hunt_keep_109 : decode prog_4_method_9_code 109 = .ok (.getfield 24, 3) := by decide +kernel
theorem d_Hunt_keep_112 : decode prog_4_method_9_code 112 = .ok (.aload_n 0, 1) := by decide +kernel
theorem d_Hunt_keep_113 : decode prog_4_method_9_code 113 = .ok (.getfield 41, 3) := by decide +kernel
theorem d_Hunt_keep_116 : decode prog_4_method_9_code 116 = .ok (.bipush 12, 2) := by decide +kernel
theorem d_Hunt_keep_118 : decode prog_4_method_9_code 118 = .ok (.imul, 1) := by decide +kernel
theorem d_Hunt_keep_119 : decode prog_4_method_9_code 119 = .ok (.iload 6, 2) := by decide +kernel
theorem d_Hunt_keep_121 : decode prog_4_method_9_code 121 = .ok (.iadd, 1) := by decide +kernel
theorem d_Hunt_keep_122 : decode prog_4_method_9_code 122 = .ok (.aload_n 0, 1) := by decide +kernel
theorem d_Hunt_keep_123 : decode prog_4_method_9_code 123 = .ok (.aload_n 3, 1) := by decide +kernel
theorem d_Hunt_keep_124 : decode prog_4_method_9_code 124 = .ok (.getfield 89, 3) := by decide +kernel
theorem d_Hunt_keep_127 : decode prog_4_method_9_code 127 = .ok (.iload 4, 2) := by decide +kernel
theorem d_Hunt_keep_129 : decode prog_4_method_9_code 129 = .ok (.iload 6, 2) := by decide +kernel
theorem d_Hunt_keep_131 : decode prog_4_method_9_code 131 = .ok (.iadd, 1) := by decide +kernel
theorem d_Hunt_keep_132 : decode prog_4_method_9_code 132 = .ok (.invokevirtual 102, 3) := by decide +kernel
theorem d_Hunt_keep_135 : decode prog_4_method_9_code 135 = .ok (.castore, 1) := by decide +kernel
theorem d_Hunt_keep_136 : decode prog_4_method_9_code 136 = .ok (.iinc 6 1, 3) := by decide +kernel
theorem d_Hunt_keep_139 : decode prog_4_method_9_code 139 = .ok (.goto (-38), 3) := by decide +kernel
theorem d_Hunt_keep_142 : decode prog_4_method_9_code 142 = .ok (.aload_n 0, 1) := by decide +kernel
theorem d_Hunt_keep_143 : decode prog_4_method_9_code 143 = .ok (.dup, 1) := by decide +kernel
theorem d_Hunt_keep_144 : decode prog_4_method_9_code 144 = .ok (.getfield 41, 3) := by decide +kernel
theorem d_Hunt_keep_147 : decode prog_4_method_9_code 147 = .ok (.iconst 1, 1) := by decide +kernel
theorem d_Hunt_keep_148 : decode prog_4_method_9_code 148 = .ok (.iadd, 1) := by decide +kernel
theorem d_Hunt_keep_149 : decode prog_4_method_9_code 149 = .ok (.putfield 41, 3) := by decide +kernel
theorem d_Hunt_keep_152 : decode prog_4_method_9_code 152 = .ok (.return_, 1) := by decide +kernel
theorem lp_keep {Q : gx_P} {z m s k num D du dl : Nat} {bf lk : Int32} {op l : List Nat} {f1 f2 f3 f4 : Nat → Int32} (hm : m < 401) (hk : k ≤ 12) (hsk : s + k ≤ op.length + l.length) (hdz : dl < z ∧ D < z) : ∀ (fu : Nat) (i : Nat) (f5 : Nat → Int32) (w : gx_W), k - i < fu → (hnR w z m lk op f1 f2 f3 f4 f5) → (w.1 D = some (gx_ob 4 [.ref du, .ref dl])) → (w.1 dl = some (gx_bx 0 7 l)) → (i ≤ k) → (∀ w' g5, hnR w' z m lk op f1 f2 f3 f4 g5 → gx_kp w w' z (z + 8) → (∀ j, ¬ (m * 12 + i ≤ j ∧ j < m * 12 + k) → g5 j = f5 j) → (∀ j, i ≤ j → j < k → g5 (m * 12 + j) = nI ((op ++ l).getD (s + j) 0)) → gx_X (fun _ _ => True) M_Hunt_keep 3 Q 142 [some (.ref z), some (.int bf), some (.int (nI num)), some (.ref D), some (.int (nI s)), some (.int (nI k)), some (.int (nI k))] [] w' (0, 0)) → gx_X (fun _ _ => True) M_Hunt_keep 3 Q 101 [some (.ref z), some (.int bf), some (.int (nI num)), some (.ref D), some (.int (nI s)), some (.int (nI k)), some (.int (nI i))] [] w (0, 0) := by
  intro fu
  induction fu with
  | zero => intro i f5 w hfu; exact absurd hfu (Nat.not_lt_zero _)
  | succ fu ih =>
    intro i f5 w hfu hz hD hl hi hX
    refine gx_bsz hl (fun hlen2 hcap2 hsm2 => ?_)
    refine gx_bsz hz.2.2.2.2.2.2 (fun hlen3 hcap3 hsm3 => ?_)
    have hs2 := gx_sm_at (gx_sm_app hsm3 hsm2) (s + i)
    refine gx_iload d_Hunt_keep_101 rfl ?_
    refine gx_iload d_Hunt_keep_103 rfl ?_
    refine gx_icmp_geN (by omega) (by omega) (tgt := 142) d_Hunt_keep_105 (by decide) (fun h105 => ?_) (fun h105 => ?_)
    · have e : i = k := by omega
      subst e
      exact hX w f5 hz gx_kp.rf (fun j _ => rfl) (fun j h1 h2 => absurd h2 (by omega))
    · refine gx_aload_n d_Hunt_keep_108 rfl ?_
      refine gx_get fl_Hunt_24 d_Hunt_keep_109 hz.1 rfl ?_
      refine gx_aload_n d_Hunt_keep_112 rfl ?_
      refine gx_get fl_Hunt_41 d_Hunt_keep_113 hz.1 rfl ?_
      refine gx_bipush d_Hunt_keep_116 (nI 12) (by decide) ?_
      refine gx_imulN d_Hunt_keep_118 ?_
      refine gx_iload d_Hunt_keep_119 rfl ?_
      refine gx_iaddN d_Hunt_keep_121 ?_
      refine gx_aload_n d_Hunt_keep_122 rfl ?_
      refine gx_aload_n d_Hunt_keep_123 rfl ?_
      refine gx_get fl_Hunt_89 d_Hunt_keep_124 hD rfl ?_
      refine gx_iload d_Hunt_keep_127 rfl ?_
      refine gx_iload d_Hunt_keep_129 rfl ?_
      refine gx_iaddN d_Hunt_keep_131 ?_
      refine gx_cV1 lk_Hunt_102 d_Hunt_keep_132 (ct_openOr hz hl (by omega)) (Or.inl ⟨_, hz.1⟩) (by omega) rfl rfl (Nat.le_of_ble_eq_true rfl) ?_
      refine gx_cast d_Hunt_keep_135 hz.2.2.2.2.2.1 (by omega) (by omega) (gx_nc hs2) ?_
      refine gx_iincN (n := 1) d_Hunt_keep_136 rfl (by decide) (Nat.le_of_ble_eq_true rfl) rfl ?_
      refine gx_goto (tgt := 101) d_Hunt_keep_139 (by decide) ?_
      have kk : gx_kp w (gx_st w (z + 5) (gx_ai 1 4812 (upd f5 (m * 12 + i) (nI ((op ++ l).getD (s + i) 0))))) z (z + 8) := gx_kp.st (by omega) (by omega)
      refine ih (i + 1) _ _ (by omega) (hz.s5 _) (by rw [gx_st_ne (by omega)]; exact hD) (by rw [gx_st_ne (by omega)]; exact hl) (by omega) (fun w' g5 h1 h2 h3 h4 => hX w' g5 h1 (kk.trans h2) (fun j hj => ?_) (fun j hj1 hj2 => ?_))
      · rw [h3 j (by omega), pk_un (by omega)]
      · by_cases e : j = i
        · subst e
          rw [h3 _ (by omega), pk_us]
        · exact h4 j (by omega) hj2
theorem ct_keep_root {w : gx_W} {z num D du dl sz : Nat} {bf lk : Int32} {op u l : List Nat} {q : List sp_E} (hz0 : hnAt w z q lk op) (hD : w.1 D = some (gx_ob 4 [.ref du, .ref dl])) (hu : w.1 du = some (gx_bx 0 3 u)) (hl : w.1 dl = some (gx_bx 0 7 l)) (hDz : D < z ∧ du < z ∧ dl < z) (hq : q.length < 401) (hul : u.length ≤ op.length + l.length) (hbf : bf = -1) (hsz : sz = 1) : gx_Ct M_Hunt_keep 3 0 0 [.ref z, .int bf, .int (nI num), .ref D] w (fun v w' => v = none ∧ hnAt w' z (q ++ [(bf, num, sz, (op ++ l).drop u.length)]) lk op ∧ gx_kp w w' z (z + 8)) := by
  refine gx_ct (L := [some (.ref z), some (.int bf), some (.int (nI num)), some (.ref D), none, none, none]) (by decide) (Nat.le_of_ble_eq_true rfl) rfl ?_
  obtain ⟨hq0, f1, f2, f3, f4, f5, hz, hF⟩ := hz0
  refine gx_bsz hu (fun hlen hcap hsm => ?_)
  refine gx_bsz hl (fun hlen2 hcap2 hsm2 => ?_)
  refine gx_bsz hz.2.2.2.2.2.2 (fun hlen3 hcap3 hsm3 => ?_)
  refine gx_aload_n d_Hunt_keep_0 rfl ?_
  refine gx_get fl_Hunt_83 d_Hunt_keep_1 hD rfl ?_
  refine gx_cV1 lk_Hunt_88 d_Hunt_keep_4 (ct_Word_size hu) (Or.inr ⟨_, _, hu⟩) (by omega) rfl rfl (Nat.le_of_ble_eq_true rfl) ?_
  refine gx_istore d_Hunt_keep_7 (Nat.le_of_ble_eq_true rfl) rfl ?_
  refine gx_aload_n d_Hunt_keep_9 rfl ?_
  refine gx_get fl_Hunt_11 d_Hunt_keep_10 hz.1 rfl ?_
  refine gx_aload_n d_Hunt_keep_13 rfl ?_
  refine gx_get fl_Hunt_41 d_Hunt_keep_14 hz.1 rfl ?_
  refine gx_iload_n d_Hunt_keep_17 rfl ?_
  refine gx_iast d_Hunt_keep_18 hz.2.1 (by omega) (by omega) ?_
  have z1 := hz.s1 (upd f1 q.length bf)
  have k1 : gx_kp w _ z (z + 8) := gx_kp.st (a := z + 1) (x := gx_ai 0 401 (upd f1 q.length bf)) (by omega) (by omega)
  generalize hw1 : gx_st w (z + 1) (gx_ai 0 401 (upd f1 q.length bf)) = w1 at z1 k1 ⊢
  refine gx_aload_n d_Hunt_keep_19 rfl ?_
  refine gx_get fl_Hunt_15 d_Hunt_keep_20 z1.1 rfl ?_
  refine gx_aload_n d_Hunt_keep_23 rfl ?_
  refine gx_get fl_Hunt_41 d_Hunt_keep_24 z1.1 rfl ?_
  refine gx_iload_n d_Hunt_keep_27 rfl ?_
  refine gx_iast d_Hunt_keep_28 z1.2.2.1 (by omega) (by omega) ?_
  have z2 := z1.s2 (upd f2 q.length (nI num))
  have k2 : gx_kp w _ z (z + 8) := k1.trans (gx_kp.st (a := z + 2) (x := gx_ai 0 401 (upd f2 q.length (nI num))) (by omega) (by omega))
  generalize hw2 : gx_st w1 (z + 2) (gx_ai 0 401 (upd f2 q.length (nI num))) = w2 at z2 k2 ⊢
  refine gx_aload_n d_Hunt_keep_29 rfl ?_
  refine gx_get fl_Hunt_18 d_Hunt_keep_30 z2.1 rfl ?_
  refine gx_aload_n d_Hunt_keep_33 rfl ?_
  refine gx_get fl_Hunt_41 d_Hunt_keep_34 z2.1 rfl ?_
  refine gx_iload_n d_Hunt_keep_37 rfl ?_
  refine gx_iconst d_Hunt_keep_38 (-1) (by decide) ?_
  refine gx_icmp_ne (tgt := 46) d_Hunt_keep_39 (by decide) (fun h39 => ?_) (fun h39 => ?_)
  · exact absurd hbf h39
  · refine gx_iconst d_Hunt_keep_42 (nI sz) (by rw [hsz]; decide) ?_
    refine gx_goto (tgt := 54) d_Hunt_keep_43 (by decide) ?_
    refine gx_iast d_Hunt_keep_54 z2.2.2.2.1 (by omega) (by omega) ?_
    have z3 := z2.s3 (upd f3 q.length (nI sz))
    have k3 : gx_kp w _ z (z + 8) := k2.trans (gx_kp.st (a := z + 3) (x := gx_ai 0 401 (upd f3 q.length (nI sz))) (by omega) (by omega))
    generalize hw3 : gx_st w2 (z + 3) (gx_ai 0 401 (upd f3 q.length (nI sz))) = w3 at z3 k3 ⊢
    have hD3 : w3.1 D = some (gx_ob 4 [.ref du, .ref dl]) := by rw [k3.2 _ (by omega)]; exact hD
    have hl3 : w3.1 dl = some (gx_bx 0 7 l) := by rw [k3.2 _ (by omega)]; exact hl
    refine gx_aload_n d_Hunt_keep_55 rfl ?_
    refine gx_get fl_Hunt_21 d_Hunt_keep_56 z3.1 rfl ?_
    refine gx_aload_n d_Hunt_keep_59 rfl ?_
    refine gx_get fl_Hunt_41 d_Hunt_keep_60 z3.1 rfl ?_
    refine gx_aload_n d_Hunt_keep_63 rfl ?_
    refine gx_get fl_Hunt_33 d_Hunt_keep_64 z3.1 rfl ?_
    refine gx_cV1 lk_Hunt_88 d_Hunt_keep_67 (ct_Word_size z3.2.2.2.2.2.2) (Or.inr ⟨_, _, z3.2.2.2.2.2.2⟩) (by omega) rfl rfl (Nat.le_of_ble_eq_true rfl) ?_
    refine gx_aload_n d_Hunt_keep_70 rfl ?_
    refine gx_get fl_Hunt_89 d_Hunt_keep_71 hD3 rfl ?_
    refine gx_cV1 lk_Hunt_88 d_Hunt_keep_74 (ct_Word_size hl3) (Or.inr ⟨_, _, hl3⟩) (by omega) rfl rfl (Nat.le_of_ble_eq_true rfl) ?_
    refine gx_iaddN d_Hunt_keep_77 ?_
    refine gx_iload d_Hunt_keep_78 rfl ?_
    refine gx_isubN (by omega) d_Hunt_keep_80 ?_
    refine gx_iast d_Hunt_keep_81 z3.2.2.2.2.1 (by omega) (by omega) ?_
    have z4 := z3.s4 (upd f4 q.length (nI (op.length + l.length - u.length)))
    have k4 : gx_kp w _ z (z + 8) := k3.trans (gx_kp.st (a := z + 4) (x := gx_ai 0 401 (upd f4 q.length (nI (op.length + l.length - u.length)))) (by omega) (by omega))
    generalize hw4 : gx_st w3 (z + 4) (gx_ai 0 401 (upd f4 q.length (nI (op.length + l.length - u.length)))) = w4 at z4 k4 ⊢
    refine gx_aload_n d_Hunt_keep_82 rfl ?_
    refine gx_get fl_Hunt_21 d_Hunt_keep_83 z4.1 rfl ?_
    refine gx_aload_n d_Hunt_keep_86 rfl ?_
    refine gx_get fl_Hunt_41 d_Hunt_keep_87 z4.1 rfl ?_
    refine gx_iald d_Hunt_keep_90 z4.2.2.2.2.1 (by omega) (by omega) ?_
    refine gx_top pk_us ?_
    refine gx_bipush d_Hunt_keep_91 (nI 12) (by decide) ?_
    refine gx_min lk_Hunt_92 (by omega) (Nat.le_of_ble_eq_true rfl) d_Hunt_keep_93 ?_
    refine gx_top (gx_mnI (by omega) (by omega)) ?_
    refine gx_istore d_Hunt_keep_96 (Nat.le_of_ble_eq_true rfl) rfl ?_
    refine gx_iconst d_Hunt_keep_98 (nI 0) (by decide) ?_
    refine gx_istore d_Hunt_keep_99 (Nat.le_of_ble_eq_true rfl) rfl ?_
    have hD4 : w4.1 D = some (gx_ob 4 [.ref du, .ref dl]) := by rw [k4.2 _ (by omega)]; exact hD
    have hl4 : w4.1 dl = some (gx_bx 0 7 l) := by rw [k4.2 _ (by omega)]; exact hl
    refine lp_keep hq (Nat.min_le_right _ _) (by omega) ⟨by omega, by omega⟩ 13 0 f5 w4 (by omega) z4 hD4 hl4 (Nat.zero_le _) (fun w5 g5 z5 k5 hg1 hg2 => ?_)
    refine gx_aload_n d_Hunt_keep_142 rfl ?_
    refine gx_dup d_Hunt_keep_143 rfl ?_
    refine gx_get fl_Hunt_41 d_Hunt_keep_144 z5.1 rfl ?_
    refine gx_iconst d_Hunt_keep_147 (nI 1) (by decide) ?_
    refine gx_iaddN d_Hunt_keep_148 ?_
    refine gx_put fp_Hunt_41 (fun h => by cases h) d_Hunt_keep_149 z5.1 rfl rfl (Nat.le_of_ble_eq_true rfl) ?_
    refine gx_return rfl d_Hunt_keep_152 ?_
    have hdl : ((op ++ l).drop u.length).length = op.length + l.length - u.length := by rw [List.length_drop, List.length_append]
    refine ⟨rfl, ⟨by simp; omega, upd f1 q.length bf, upd f2 q.length (nI num), upd f3 q.length (nI sz), upd f4 q.length (nI (op.length + l.length - u.length)), g5, by simpa using z5.s0 (q.length + 1) lk, ?_⟩, (k4.trans k5).trans (gx_kp.st (by omega) (by omega))⟩
    refine hF.snoc (fun i hi => ⟨pk_un (by omega), pk_un (by omega), pk_un (by omega), pk_un (by omega), fun j hj => hg1 _ (by omega)⟩) ⟨pk_us, pk_us, pk_us, by rw [pk_us, hdl], fun j hj hj2 => ?_⟩
    simp only [hdl] at hj
    rw [hg2 j (Nat.zero_le _) (by omega)]
    congr 1
    simp [List.getD_eq_getElem?_getD, List.getElem?_drop]
theorem ct_keep {w : gx_W} {z num D du dl sz : Nat} {bf lk : Int32} {op u l : List Nat} {q : List sp_E} (hz0 : hnAt w z q lk op) (hD : w.1 D = some (gx_ob 4 [.ref du, .ref dl])) (hu : w.1 du = some (gx_bx 0 3 u)) (hl : w.1 dl = some (gx_bx 0 7 l)) (hDz : D < z ∧ du < z ∧ dl < z) (hq : q.length < 401) (hul : u.length ≤ op.length + l.length) {at0 : Nat} (hat : at0 < q.length) (hbf : bf = nI at0) (hsz0 : sz = (q.getD at0 sp_e0).2.2.1 + 1) : gx_Ct M_Hunt_keep 3 0 0 [.ref z, .int bf, .int (nI num), .ref D] w (fun v w' => v = none ∧ hnAt w' z (q ++ [(bf, num, sz, (op ++ l).drop u.length)]) lk op ∧ gx_kp w w' z (z + 8)) := by
  refine gx_ct (L := [some (.ref z), some (.int bf), some (.int (nI num)), some (.ref D), none, none, none]) (by decide) (Nat.le_of_ble_eq_true rfl) rfl ?_
  obtain ⟨hq0, f1, f2, f3, f4, f5, hz, hF⟩ := hz0
  refine gx_bsz hu (fun hlen hcap hsm => ?_)
  refine gx_bsz hl (fun hlen2 hcap2 hsm2 => ?_)
  refine gx_bsz hz.2.2.2.2.2.2 (fun hlen3 hcap3 hsm3 => ?_)
  have hsz : f3 at0 = nI (q.getD at0 sp_e0).2.2.1 := (hF at0 hat).2.2.1
  subst hbf
  subst hsz0
  refine gx_aload_n d_Hunt_keep_0 rfl ?_
  refine gx_get fl_Hunt_83 d_Hunt_keep_1 hD rfl ?_
  refine gx_cV1 lk_Hunt_88 d_Hunt_keep_4 (ct_Word_size hu) (Or.inr ⟨_, _, hu⟩) (by omega) rfl rfl (Nat.le_of_ble_eq_true rfl) ?_
  refine gx_istore d_Hunt_keep_7 (Nat.le_of_ble_eq_true rfl) rfl ?_
  refine gx_aload_n d_Hunt_keep_9 rfl ?_
  refine gx_get fl_Hunt_11 d_Hunt_keep_10 hz.1 rfl ?_
  refine gx_aload_n d_Hunt_keep_13 rfl ?_
  refine gx_get fl_Hunt_41 d_Hunt_keep_14 hz.1 rfl ?_
  refine gx_iload_n d_Hunt_keep_17 rfl ?_
  refine gx_iast d_Hunt_keep_18 hz.2.1 (by omega) (by omega) ?_
  have z1 := hz.s1 (upd f1 q.length (nI at0))
  have k1 : gx_kp w _ z (z + 8) := gx_kp.st (a := z + 1) (x := gx_ai 0 401 (upd f1 q.length (nI at0))) (by omega) (by omega)
  generalize hw1 : gx_st w (z + 1) (gx_ai 0 401 (upd f1 q.length (nI at0))) = w1 at z1 k1 ⊢
  refine gx_aload_n d_Hunt_keep_19 rfl ?_
  refine gx_get fl_Hunt_15 d_Hunt_keep_20 z1.1 rfl ?_
  refine gx_aload_n d_Hunt_keep_23 rfl ?_
  refine gx_get fl_Hunt_41 d_Hunt_keep_24 z1.1 rfl ?_
  refine gx_iload_n d_Hunt_keep_27 rfl ?_
  refine gx_iast d_Hunt_keep_28 z1.2.2.1 (by omega) (by omega) ?_
  have z2 := z1.s2 (upd f2 q.length (nI num))
  have k2 : gx_kp w _ z (z + 8) := k1.trans (gx_kp.st (a := z + 2) (x := gx_ai 0 401 (upd f2 q.length (nI num))) (by omega) (by omega))
  generalize hw2 : gx_st w1 (z + 2) (gx_ai 0 401 (upd f2 q.length (nI num))) = w2 at z2 k2 ⊢
  refine gx_aload_n d_Hunt_keep_29 rfl ?_
  refine gx_get fl_Hunt_18 d_Hunt_keep_30 z2.1 rfl ?_
  refine gx_aload_n d_Hunt_keep_33 rfl ?_
  refine gx_get fl_Hunt_41 d_Hunt_keep_34 z2.1 rfl ?_
  refine gx_iload_n d_Hunt_keep_37 rfl ?_
  refine gx_iconst d_Hunt_keep_38 (-1) (by decide) ?_
  refine gx_icmp_ne (tgt := 46) d_Hunt_keep_39 (by decide) (fun h39 => ?_) (fun h39 => ?_)
  · refine gx_aload_n d_Hunt_keep_46 rfl ?_
    refine gx_get fl_Hunt_18 d_Hunt_keep_47 z2.1 rfl ?_
    refine gx_iload_n d_Hunt_keep_50 rfl ?_
    refine gx_iald d_Hunt_keep_51 z2.2.2.2.1 (by omega) (by omega) ?_
    rw [hsz]
    refine gx_iconst d_Hunt_keep_52 (nI 1) (by decide) ?_
    refine gx_iaddN d_Hunt_keep_53 ?_
    refine gx_iast d_Hunt_keep_54 z2.2.2.2.1 (by omega) (by omega) ?_
    have z3 := z2.s3 (upd f3 q.length (nI ((q.getD at0 sp_e0).2.2.1 + 1)))
    have k3 : gx_kp w _ z (z + 8) := k2.trans (gx_kp.st (a := z + 3) (x := gx_ai 0 401 (upd f3 q.length (nI ((q.getD at0 sp_e0).2.2.1 + 1)))) (by omega) (by omega))
    generalize hw3 : gx_st w2 (z + 3) (gx_ai 0 401 (upd f3 q.length (nI ((q.getD at0 sp_e0).2.2.1 + 1)))) = w3 at z3 k3 ⊢
    have hD3 : w3.1 D = some (gx_ob 4 [.ref du, .ref dl]) := by rw [k3.2 _ (by omega)]; exact hD
    have hl3 : w3.1 dl = some (gx_bx 0 7 l) := by rw [k3.2 _ (by omega)]; exact hl
    refine gx_aload_n d_Hunt_keep_55 rfl ?_
    refine gx_get fl_Hunt_21 d_Hunt_keep_56 z3.1 rfl ?_
    refine gx_aload_n d_Hunt_keep_59 rfl ?_
    refine gx_get fl_Hunt_41 d_Hunt_keep_60 z3.1 rfl ?_
    refine gx_aload_n d_Hunt_keep_63 rfl ?_
    refine gx_get fl_Hunt_33 d_Hunt_keep_64 z3.1 rfl ?_
    refine gx_cV1 lk_Hunt_88 d_Hunt_keep_67 (ct_Word_size z3.2.2.2.2.2.2) (Or.inr ⟨_, _, z3.2.2.2.2.2.2⟩) (by omega) rfl rfl (Nat.le_of_ble_eq_true rfl) ?_
    refine gx_aload_n d_Hunt_keep_70 rfl ?_
    refine gx_get fl_Hunt_89 d_Hunt_keep_71 hD3 rfl ?_
    refine gx_cV1 lk_Hunt_88 d_Hunt_keep_74 (ct_Word_size hl3) (Or.inr ⟨_, _, hl3⟩) (by omega) rfl rfl (Nat.le_of_ble_eq_true rfl) ?_
    refine gx_iaddN d_Hunt_keep_77 ?_
    refine gx_iload d_Hunt_keep_78 rfl ?_
    refine gx_isubN (by omega) d_Hunt_keep_80 ?_
    refine gx_iast d_Hunt_keep_81 z3.2.2.2.2.1 (by omega) (by omega) ?_
    have z4 := z3.s4 (upd f4 q.length (nI (op.length + l.length - u.length)))
    have k4 : gx_kp w _ z (z + 8) := k3.trans (gx_kp.st (a := z + 4) (x := gx_ai 0 401 (upd f4 q.length (nI (op.length + l.length - u.length)))) (by omega) (by omega))
    generalize hw4 : gx_st w3 (z + 4) (gx_ai 0 401 (upd f4 q.length (nI (op.length + l.length - u.length)))) = w4 at z4 k4 ⊢
    refine gx_aload_n d_Hunt_keep_82 rfl ?_
    refine gx_get fl_Hunt_21 d_Hunt_keep_83 z4.1 rfl ?_
    refine gx_aload_n d_Hunt_keep_86 rfl ?_
    refine gx_get fl_Hunt_41 d_Hunt_keep_87 z4.1 rfl ?_
    refine gx_iald d_Hunt_keep_90 z4.2.2.2.2.1 (by omega) (by omega) ?_
    refine gx_top pk_us ?_
    refine gx_bipush d_Hunt_keep_91 (nI 12) (by decide) ?_
    refine gx_min lk_Hunt_92 (by omega) (Nat.le_of_ble_eq_true rfl) d_Hunt_keep_93 ?_
    refine gx_top (gx_mnI (by omega) (by omega)) ?_
    refine gx_istore d_Hunt_keep_96 (Nat.le_of_ble_eq_true rfl) rfl ?_
    refine gx_iconst d_Hunt_keep_98 (nI 0) (by decide) ?_
    refine gx_istore d_Hunt_keep_99 (Nat.le_of_ble_eq_true rfl) rfl ?_
    have hD4 : w4.1 D = some (gx_ob 4 [.ref du, .ref dl]) := by rw [k4.2 _ (by omega)]; exact hD
    have hl4 : w4.1 dl = some (gx_bx 0 7 l) := by rw [k4.2 _ (by omega)]; exact hl
    refine lp_keep hq (Nat.min_le_right _ _) (by omega) ⟨by omega, by omega⟩ 13 0 f5 w4 (by omega) z4 hD4 hl4 (Nat.zero_le _) (fun w5 g5 z5 k5 hg1 hg2 => ?_)
    refine gx_aload_n d_Hunt_keep_142 rfl ?_
    refine gx_dup d_Hunt_keep_143 rfl ?_
    refine gx_get fl_Hunt_41 d_Hunt_keep_144 z5.1 rfl ?_
    refine gx_iconst d_Hunt_keep_147 (nI 1) (by decide) ?_
    refine gx_iaddN d_Hunt_keep_148 ?_
    refine gx_put fp_Hunt_41 (fun h => by cases h) d_Hunt_keep_149 z5.1 rfl rfl (Nat.le_of_ble_eq_true rfl) ?_
    refine gx_return rfl d_Hunt_keep_152 ?_
    have hdl : ((op ++ l).drop u.length).length = op.length + l.length - u.length := by rw [List.length_drop, List.length_append]
    refine ⟨rfl, ⟨by simp; omega, upd f1 q.length (nI at0), upd f2 q.length (nI num), upd f3 q.length (nI ((q.getD at0 sp_e0).2.2.1 + 1)), upd f4 q.length (nI (op.length + l.length - u.length)), g5, by simpa using z5.s0 (q.length + 1) lk, ?_⟩, (k4.trans k5).trans (gx_kp.st (by omega) (by omega))⟩
    refine hF.snoc (fun i hi => ⟨pk_un (by omega), pk_un (by omega), pk_un (by omega), pk_un (by omega), fun j hj => hg1 _ (by omega)⟩) ⟨pk_us, pk_us, pk_us, by rw [pk_us, hdl], fun j hj hj2 => ?_⟩
    simp only [hdl] at hj
    rw [hg2 j (Nat.zero_le _) (by omega)]
    congr 1
    simp [List.getD_eq_getElem?_getD, List.getElem?_drop]
  · exact absurd h39 (gx_nm1 (by omega))
