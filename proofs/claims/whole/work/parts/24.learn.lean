/-! Machine: learning, forgetting, taking an input; a byte of a long -/
theorem wb_tb (n : Nat) : (lN n).toBitVec = BitVec.ofNat 64 n := rfl
theorem wb_inj {a b : Int64} (h : a.toBitVec = b.toBitVec) : a = b := Int64.toBitVec_inj.mp h
theorem wb_tn {n : Nat} (h : n < 2 ^ 64) : (lN n).toBitVec.toNat = n := by rw [wb_tb, BitVec.toNat_ofNat, Nat.mod_eq_of_lt h]
theorem wb_of (x : Int64) : ∃ n, n < 2 ^ 64 ∧ x = lN n := ⟨x.toBitVec.toNat, x.toBitVec.isLt, wb_inj (by rw [wb_tb]; simp)⟩
theorem wb_of32 (x : Int32) : ∃ n, n < 2 ^ 32 ∧ x = nI n := ⟨x.toBitVec.toNat, x.toBitVec.isLt, Int32.toBitVec_inj.mp (by show _ = BitVec.ofNat 32 _; simp)⟩
theorem wb_c : ∀ k, k < 64 → ((nI k).toInt64 &&& 63) = lN k := by decide +kernel
theorem wb_cu : ∀ k, k < 64 → ((nI k).toInt64.toUInt64 &&& Int64.toUInt64 63) = UInt64.ofNat k := by decide +kernel
theorem wb_sm : ∀ k, k < 64 → (BitVec.ofNat 64 k).smod 64 = BitVec.ofNat 64 k := by decide +kernel
theorem wb_pw {a b : Nat} (h : a ≤ b) : 2 ^ b = 2 ^ a * 2 ^ (b - a) := by rw [← Nat.pow_add]; congr 1; omega
theorem wb_lt2 {a b : Nat} (h : a < b) : 2 ^ a < 2 ^ b := Nat.pow_lt_pow_right (by decide) h
theorem wb_mod (n : Nat) : lN n = lN (n % 2 ^ 64) := wb_inj (by rw [wb_tb, wb_tb]; apply BitVec.eq_of_toNat_eq; rw [BitVec.toNat_ofNat, BitVec.toNat_ofNat, Nat.mod_mod])
theorem wb_shr {n k : Nat} (hn : n < 2 ^ 64) (hk : k < 64) : ((lN n).toUInt64 >>> ((nI k).toInt64.toUInt64 &&& Int64.toUInt64 63)).toInt64 = lN (n / 2 ^ k) := by
  rw [wb_cu k hk]
  apply wb_inj
  apply BitVec.eq_of_toNat_eq
  show ((lN n).toUInt64 >>> UInt64.ofNat k).toNat = (BitVec.ofNat 64 _).toNat
  have h1 : (UInt64.ofNat k).toNat = k := by
    show (BitVec.ofNat 64 k).toNat = k
    rw [BitVec.toNat_ofNat, Nat.mod_eq_of_lt (by omega)]
  have h2 : (lN n).toUInt64.toNat = n := wb_tn hn
  rw [UInt64.toNat_shiftRight, h1, h2, Nat.mod_eq_of_lt hk, Nat.shiftRight_eq_div_pow, BitVec.toNat_ofNat, Nat.mod_eq_of_lt (Nat.lt_of_le_of_lt (Nat.div_le_self _ _) hn)]
theorem wb_shl (n : Nat) {k : Nat} (hk : k < 64) : lN n <<< ((nI k).toInt64 &&& 63) = lN (n * 2 ^ k) := by
  rw [wb_c k hk]
  apply wb_inj
  rw [Int64.toBitVec_shiftLeft, wb_tb, wb_tb, wb_tb, wb_sm k hk]
  apply BitVec.eq_of_toNat_eq
  rw [BitVec.shiftLeft_eq', BitVec.toNat_shiftLeft, BitVec.toNat_ofNat, BitVec.toNat_ofNat, BitVec.toNat_ofNat, Nat.mod_eq_of_lt (show k < 2 ^ 64 by omega), Nat.shiftLeft_eq, Nat.mul_mod, Nat.mod_mod, ← Nat.mul_mod]
theorem wb_and {a b : Nat} (ha : a < 2 ^ 64) (hb : b < 2 ^ 64) : lN a &&& lN b = lN (a &&& b) := by
  apply wb_inj
  rw [Int64.toBitVec_and, wb_tb, wb_tb, wb_tb]
  apply BitVec.eq_of_toNat_eq
  rw [BitVec.toNat_and, BitVec.toNat_ofNat, BitVec.toNat_ofNat, BitVec.toNat_ofNat, Nat.mod_eq_of_lt ha, Nat.mod_eq_of_lt hb, Nat.mod_eq_of_lt (Nat.and_lt_two_pow _ hb)]
theorem wb_or {a b : Nat} (ha : a < 2 ^ 64) (hb : b < 2 ^ 64) : lN a ||| lN b = lN (a ||| b) := by
  apply wb_inj
  rw [Int64.toBitVec_or, wb_tb, wb_tb, wb_tb]
  apply BitVec.eq_of_toNat_eq
  rw [BitVec.toNat_or, BitVec.toNat_ofNat, BitVec.toNat_ofNat, BitVec.toNat_ofNat, Nat.mod_eq_of_lt ha, Nat.mod_eq_of_lt hb, Nat.mod_eq_of_lt (Nat.or_lt_two_pow ha hb)]
theorem wb_mask {n k : Nat} (hn : n < 2 ^ 64) (hk : k < 64) : lN n &&& lN (2 ^ k - 1) = lN (n % 2 ^ k) := by
  rw [wb_and hn (by have := wb_lt2 hk; omega), Nat.and_two_pow_sub_one_eq_mod]
theorem kl_PC_227 : Cond.constantLong "PostChain" 227 255 ∈ gx_T := gx_T_in (List.mem_append_right _ (show _ ∈ tables_1 from (List.mem_append_right _ (List.mem_append_right _ (List.mem_append_left _ (List.mem_of_getElem? (i := 19) (by decide +kernel))))))) (by decide +kernel)
theorem gx_upn {f : Nat → Nat} {r x : Nat} : upd (fun i => nI (f i)) r (nI x) = fun i => nI (if i = r then x else f i) := by
  funext i
  by_cases h : i = r
  · subst h; rw [pk_us, if_pos rfl]
  · rw [pk_un h, if_neg h]
section MCS
variable {w : gx_W} {a : Nat} {M : sp_M} {t : List Nat}
theorem mcAt.s1 (g : Nat → Nat) (h : mcAt w a M t) : mcAt (gx_st w (a + 1) (gx_ai 2 12 (fun r => nI (g r)))) a (g, M.2.1, M.2.2.1, M.2.2.2) t := by
  obtain ⟨h0, h1, h2, h3, h4, h5⟩ := h
  exact ⟨by rw [gx_st_ne (by omega)]; exact h0, gx_st_eq, by rw [gx_st_ne (by omega)]; exact h2, by rw [gx_st_ne (by omega)]; exact h3, by rw [gx_st_ne (by omega)]; exact h4, by rw [gx_st_ne (by omega)]; exact h5⟩
theorem mcAt.s2 (g : Nat → Nat) (h : mcAt w a M t) : mcAt (gx_st w (a + 2) (gx_ai 2 12 (fun r => nI (g r)))) a (M.1, g, M.2.2.1, M.2.2.2) t := by
  obtain ⟨h0, h1, h2, h3, h4, h5⟩ := h
  exact ⟨by rw [gx_st_ne (by omega)]; exact h0, by rw [gx_st_ne (by omega)]; exact h1, gx_st_eq, by rw [gx_st_ne (by omega)]; exact h3, by rw [gx_st_ne (by omega)]; exact h4, by rw [gx_st_ne (by omega)]; exact h5⟩
theorem mcAt.s3 (g : Nat → Nat) (h : mcAt w a M t) : mcAt (gx_st w (a + 3) (gx_ai 0 12 (fun r => nI (g r)))) a (M.1, M.2.1, g, M.2.2.2) t := by
  obtain ⟨h0, h1, h2, h3, h4, h5⟩ := h
  exact ⟨by rw [gx_st_ne (by omega)]; exact h0, by rw [gx_st_ne (by omega)]; exact h1, by rw [gx_st_ne (by omega)]; exact h2, gx_st_eq, by rw [gx_st_ne (by omega)]; exact h4, by rw [gx_st_ne (by omega)]; exact h5⟩
theorem mcAt.s4 (g : Nat → Nat) (h : mcAt w a M t) : mcAt (gx_st w (a + 4) (gx_ai 0 12 (fun r => nI (g r)))) a (M.1, M.2.1, M.2.2.1, g) t := by
  obtain ⟨h0, h1, h2, h3, h4, h5⟩ := h
  exact ⟨by rw [gx_st_ne (by omega)]; exact h0, by rw [gx_st_ne (by omega)]; exact h1, by rw [gx_st_ne (by omega)]; exact h2, by rw [gx_st_ne (by omega)]; exact h3, gx_st_eq, by rw [gx_st_ne (by omega)]; exact h5⟩
theorem mcAt.s5 (t' : List Nat) (h : mcAt w a M t) : mcAt (gx_st w (a + 5) (gx_bx 0 5 t')) a M t' := by
  obtain ⟨h0, h1, h2, h3, h4, h5⟩ := h
  exact ⟨by rw [gx_st_ne (by omega)]; exact h0, by rw [gx_st_ne (by omega)]; exact h1, by rw [gx_st_ne (by omega)]; exact h2, by rw [gx_st_ne (by omega)]; exact h3, by rw [gx_st_ne (by omega)]; exact h4, gx_st_eq⟩
end MCS
def sp_u (f : Nat → Nat) (r x : Nat) : Nat → Nat := fun i => if i = r then x else f i
def sp_lrn (M : sp_M) (r wr rt nx : Nat) : sp_M := (sp_u M.1 r 1, sp_u M.2.1 r rt, sp_u M.2.2.1 r wr, sp_u M.2.2.2 r nx)
def sp_fgt (M : sp_M) (r : Nat) : sp_M := (sp_u M.1 r 0, M.2.1, M.2.2.1, M.2.2.2)
def sp_same (M : sp_M) (r wr rt nx : Nat) : Prop := sp_kn M r = 1 ∧ sp_wr M r = wr ∧ sp_rt M r = rt ∧ sp_nx M r = nx
theorem sp_lrn_ok {M : sp_M} {r wr rt nx : Nat} (hM : sp_Mok M) (h1 : wr < 3) (h2 : rt ≤ 1) (h3 : nx ≤ 4) : sp_Mok (sp_lrn M r wr rt nx) := by
  intro i
  have := hM i
  show sp_u M.1 r 1 i ≤ 1 ∧ sp_u M.2.1 r rt i ≤ 1 ∧ sp_u M.2.2.1 r wr i < 3 ∧ sp_u M.2.2.2 r nx i ≤ 4
  unfold sp_u
  split
  · omega
  · exact this
theorem sp_fgt_ok {M : sp_M} {r : Nat} (hM : sp_Mok M) : sp_Mok (sp_fgt M r) := by
  intro i
  have := hM i
  show sp_u M.1 r 0 i ≤ 1 ∧ _
  unfold sp_u
  split
  · exact ⟨by omega, this.2⟩
  · exact this
theorem gx_nzb {x : Nat} (h : x ≤ 1) : narrow .boolean (.int (nI x)) = .int (nI x) := by
  rcases (show x = 0 ∨ x = 1 by omega) with rfl | rfl
  · exact gx_nz0
  · exact gx_nz1
theorem d_Machine_learn_0 : decode prog_5_method_2_code 0 = .ok (.aload_n 0, 1) := by decide +kernel
theorem d_Machine_learn_1 : decode prog_5_method_2_code 1 = .ok (.getfield 9, 3) := by decide +kernel
theorem d_Machine_learn_4 : decode prog_5_method_2_code 4 = .ok (.iload_n 1, 1) := by decide +kernel
theorem d_Machine_learn_5 : decode prog_5_method_2_code 5 = .ok (.baload, 1) := by decide +kernel
theorem d_Machine_learn_6 : decode prog_5_method_2_code 6 = .ok (.ifCond .eq 36, 3) := by decide +kernel
theorem d_Machine_learn_9 : decode prog_5_method_2_code 9 = .ok (.aload_n 0, 1) := by decide +kernel
theorem d_Machine_learn_10 : decode prog_5_method_2_code 10 = .ok (.getfield 18, 3) := by decide +kernel
theorem d_Machine_learn_13 : decode prog_5_method_2_code 13 = .ok (.iload_n 1, 1) := by decide +kernel
theorem d_Machine_learn_14 : decode prog_5_method_2_code 14 = .ok (.iaload, 1) := by decide +kernel
theorem d_Machine_learn_15 : decode prog_5_method_2_code 15 = .ok (.iload_n 2, 1) := by decide +kernel
theorem d_Machine_learn_16 : decode prog_5_method_2_code 16 = .ok (.if_icmp .ne 26, 3) := by decide +kernel
theorem d_Machine_learn_19 : decode prog_5_method_2_code 19 = .ok (.aload_n 0, 1) := by decide +kernel
theorem d_Machine_learn_20 : decode prog_5_method_2_code 20 = .ok (.getfield 15, 3) := by decide +kernel
theorem d_Machine_learn_23 : decode prog_5_method_2_code 23 = .ok (.iload_n 1, 1) := by decide +kernel
theorem d_Machine_learn_24 : decode prog_5_method_2_code 24 = .ok (.baload, 1) := by decide +kernel
theorem d_Machine_learn_25 : decode prog_5_method_2_code 25 = .ok (.iload_n 3, 1) := by decide +kernel
theorem d_Machine_learn_26 : decode prog_5_method_2_code 26 = .ok (.if_icmp .ne 16, 3) := by decide +kernel
theorem d_Machine_learn_29 : decode prog_5_method_2_code 29 = .ok (.aload_n 0, 1) := by decide +kernel
theorem d_Machine_learn_30 : decode prog_5_method_2_code 30 = .ok (.getfield 22, 3) := by decide +kernel
theorem d_Machine_learn_33 : decode prog_5_method_2_code 33 = .ok (.iload_n 1, 1) := by decide +kernel
theorem d_Machine_learn_34 : decode prog_5_method_2_code 34 = .ok (.iaload, 1) := by decide +kernel
theorem d_Machine_learn_35 : decode prog_5_method_2_code 35 = .ok (.iload 4, 2) := by decide +kernel
theorem d_Machine_learn_37 : decode prog_5_method_2_code 37 = .ok (.if_icmp .ne 5, 3) := by decide +kernel
theorem d_Machine_learn_40 : decode prog_5_method_2_code 40 = .ok (.iconst 0, 1) := by decide +kernel
theorem d_Machine_learn_41 : decode prog_5_method_2_code 41 = .ok (.ireturn, 1) := by decide +kernel
theorem d_Machine_learn_42 : decode prog_5_method_2_code 42 = .ok (.aload_n 0, 1) := by decide +kernel
theorem d_Machine_learn_43 : decode prog_5_method_2_code 43 = .ok (.getfield 9, 3) := by decide +kernel
theorem d_Machine_learn_46 : decode prog_5_method_2_code 46 = .ok (.iload_n 1, 1) := by decide +kernel
theorem d_Machine_learn_47 : decode prog_5_method_2_code 47 = .ok (.iconst 1, 1) := by decide +kernel
theorem d_Machine_learn_48 : decode prog_5_method_2_code 48 = .ok (.bastore, 1) := by decide +kernel
theorem d_Machine_learn_49 : decode prog_5_method_2_code 49 = .ok (.aload_n 0, 1) := by decide +kernel
theorem d_Machine_learn_50 : decode prog_5_method_2_code 50 = .ok (.getfield 18, 3) := by decide +kernel
theorem d_Machine_learn_53 : decode prog_5_method_2_code 53 = .ok (.iload_n 1, 1) := by decide +kernel
theorem d_Machine_learn_54 : decode prog_5_method_2_code 54 = .ok (.iload_n 2, 1) := by decide +kernel
theorem d_Machine_learn_55 : decode prog_5_method_2_code 55 = .ok (.iastore, 1) := by decide +kernel
theorem d_Machine_learn_56 : decode prog_5_method_2_code 56 = .ok (.aload_n 0, 1) := by decide +kernel
theorem d_Machine_learn_57 : decode prog_5_method_2_code 57 = .ok (.getfield 15, 3) := by decide +kernel
theorem d_Machine_learn_60 : decode prog_5_method_2_code 60 = .ok (.iload_n 1, 1) := by decide +kernel
theorem d_Machine_learn_61 : decode prog_5_method_2_code 61 = .ok (.iload_n 3, 1) := by decide +kernel
theorem d_Machine_learn_62 : decode prog_5_method_2_code 62 = .ok (.bastore, 1) := by decide +kernel
theorem d_Machine_learn_63 : decode prog_5_method_2_code 63 = .ok (.aload_n 0, 1) := by decide +kernel
theorem d_Machine_learn_64 : decode prog_5_method_2_code 64 = .ok (.getfield 22, 3) := by decide +kernel
theorem d_Machine_learn_67 : decode prog_5_method_2_code 67 = .ok (.iload_n 1, 1) := by decide +kernel
theorem d_Machine_learn_68 : decode prog_5_method_2_code 68 = .ok (.iload 4, 2) := by decide +kernel
theorem d_Machine_learn_70 : decode prog_5_method_2_code 70 = .ok (.iastore, 1) := by decide +kernel
theorem d_Machine_learn_71 : decode prog_5_method_2_code 71 = .ok (.iconst 1, 1) := by decide +kernel
theorem d_Machine_learn_72 : decode prog_5_method_2_code 72 = .ok (.ireturn, 1) := by decide +kernel
theorem ct_learn_same {w : gx_W} {a : Nat} {M : sp_M} {t : List Nat} (h : mcAt w a M t) (hM : sp_Mok M) {r wr rt nx : Nat} (hr : r < 12) (hwr : wr < 3) (hrt : rt ≤ 1) (hnx : nx ≤ 4) (hs : sp_same M r wr rt nx) : gx_Ct M_Machine_learn 1 0 0 [.ref a, .int (nI r), .int (nI wr), .int (nI rt), .int (nI nx)] w (gx_eq (some (.int (nI 0))) w) := by
  refine gx_ct (L := [some (.ref a), some (.int (nI r)), some (.int (nI wr)), some (.int (nI rt)), some (.int (nI nx))]) (by decide) (Nat.le_of_ble_eq_true rfl) rfl ?_
  have hMr := hM r
  obtain ⟨e1, e2, e3, e4⟩ := hs
  refine gx_aload_n d_Machine_learn_0 rfl ?_
  refine gx_get fl_Machine_9 d_Machine_learn_1 h.1 rfl ?_
  refine gx_iload_n d_Machine_learn_4 rfl ?_
  refine gx_zald d_Machine_learn_5 h.2.1 (by omega) (by omega) ?_
  refine gx_if_eqN (by omega) (tgt := 42) d_Machine_learn_6 (by decide) (fun h6 => ?_) (fun h6 => ?_)
  · exact absurd h6 (by omega)
  · refine gx_aload_n d_Machine_learn_9 rfl ?_
    refine gx_get fl_Machine_18 d_Machine_learn_10 h.1 rfl ?_
    refine gx_iload_n d_Machine_learn_13 rfl ?_
    refine gx_iald d_Machine_learn_14 h.2.2.2.1 (by omega) (by omega) ?_
    refine gx_iload_n d_Machine_learn_15 rfl ?_
    refine gx_icmp_neN (by omega) (by omega) (tgt := 42) d_Machine_learn_16 (by decide) (fun h16 => ?_) (fun h16 => ?_)
    · exact absurd h16 (by omega)
    · refine gx_aload_n d_Machine_learn_19 rfl ?_
      refine gx_get fl_Machine_15 d_Machine_learn_20 h.1 rfl ?_
      refine gx_iload_n d_Machine_learn_23 rfl ?_
      refine gx_zald d_Machine_learn_24 h.2.2.1 (by omega) (by omega) ?_
      refine gx_iload_n d_Machine_learn_25 rfl ?_
      refine gx_icmp_neN (by omega) (by omega) (tgt := 42) d_Machine_learn_26 (by decide) (fun h26 => ?_) (fun h26 => ?_)
      · exact absurd h26 (by omega)
      · refine gx_aload_n d_Machine_learn_29 rfl ?_
        refine gx_get fl_Machine_22 d_Machine_learn_30 h.1 rfl ?_
        refine gx_iload_n d_Machine_learn_33 rfl ?_
        refine gx_iald d_Machine_learn_34 h.2.2.2.2.1 (by omega) (by omega) ?_
        refine gx_iload d_Machine_learn_35 rfl ?_
        refine gx_icmp_neN (by omega) (by omega) (tgt := 42) d_Machine_learn_37 (by decide) (fun h37 => ?_) (fun h37 => ?_)
        · exact absurd h37 (by omega)
        · refine gx_iconst d_Machine_learn_40 (nI 0) (by decide) ?_
          refine gx_zreturn rfl gx_nz0 d_Machine_learn_41 ?_
          exact ⟨rfl, rfl⟩
theorem sg_learn {w : gx_W} {a : Nat} {M : sp_M} {t : List Nat} (h : mcAt w a M t) (hM : sp_Mok M) {r wr rt nx : Nat} (hr : r < 12) (hwr : wr < 3) (hrt : rt ≤ 1) (hnx : nx ≤ 4) : gx_X (fun _ _ => True) M_Machine_learn 1 (gx_nt (fun v w' => v = some (.int (nI 1)) ∧ mcAt w' a (sp_lrn M r wr rt nx) t ∧ gx_kp w w' a (a + 7))) 42 [some (.ref a), some (.int (nI r)), some (.int (nI wr)), some (.int (nI rt)), some (.int (nI nx))] [] w (0, 0) := by
  refine gx_aload_n d_Machine_learn_42 rfl ?_
  refine gx_get fl_Machine_9 d_Machine_learn_43 h.1 rfl ?_
  refine gx_iload_n d_Machine_learn_46 rfl ?_
  refine gx_iconst d_Machine_learn_47 (nI 1) (by decide) ?_
  refine gx_zast d_Machine_learn_48 h.2.1 (by omega) (by omega) gx_nz1 ?_
  rw [gx_upn]
  have m1 := h.s1 (sp_u M.1 r 1)
  refine gx_w (w' := gx_st w (a + 1) (gx_ai 2 12 (fun i => nI (sp_u M.1 r 1 i)))) rfl ?_
  generalize hw1 : gx_st w (a + 1) (gx_ai 2 12 (fun i => nI (sp_u M.1 r 1 i))) = w1 at m1 ⊢
  have k1 : gx_kp w w1 a (a + 7) := by rw [← hw1]; exact gx_kp.st (by omega) (by omega)
  refine gx_aload_n d_Machine_learn_49 rfl ?_
  refine gx_get fl_Machine_18 d_Machine_learn_50 m1.1 rfl ?_
  refine gx_iload_n d_Machine_learn_53 rfl ?_
  refine gx_iload_n d_Machine_learn_54 rfl ?_
  refine gx_iast d_Machine_learn_55 m1.2.2.2.1 (by omega) (by omega) ?_
  rw [gx_upn]
  have m2 := m1.s3 (sp_u M.2.2.1 r wr)
  refine gx_w (w' := gx_st w1 (a + 3) (gx_ai 0 12 (fun i => nI (sp_u M.2.2.1 r wr i)))) rfl ?_
  generalize hw2 : gx_st w1 (a + 3) (gx_ai 0 12 (fun i => nI (sp_u M.2.2.1 r wr i))) = w2 at m2 ⊢
  have k2 : gx_kp w1 w2 a (a + 7) := by rw [← hw2]; exact gx_kp.st (by omega) (by omega)
  refine gx_aload_n d_Machine_learn_56 rfl ?_
  refine gx_get fl_Machine_15 d_Machine_learn_57 m2.1 rfl ?_
  refine gx_iload_n d_Machine_learn_60 rfl ?_
  refine gx_iload_n d_Machine_learn_61 rfl ?_
  refine gx_zast d_Machine_learn_62 m2.2.2.1 (by omega) (by omega) (gx_nzb hrt) ?_
  rw [gx_upn]
  have m3 := m2.s2 (sp_u M.2.1 r rt)
  refine gx_w (w' := gx_st w2 (a + 2) (gx_ai 2 12 (fun i => nI (sp_u M.2.1 r rt i)))) rfl ?_
  generalize hw3 : gx_st w2 (a + 2) (gx_ai 2 12 (fun i => nI (sp_u M.2.1 r rt i))) = w3 at m3 ⊢
  have k3 : gx_kp w2 w3 a (a + 7) := by rw [← hw3]; exact gx_kp.st (by omega) (by omega)
  refine gx_aload_n d_Machine_learn_63 rfl ?_
  refine gx_get fl_Machine_22 d_Machine_learn_64 m3.1 rfl ?_
  refine gx_iload_n d_Machine_learn_67 rfl ?_
  refine gx_iload d_Machine_learn_68 rfl ?_
  refine gx_iast d_Machine_learn_70 m3.2.2.2.2.1 (by omega) (by omega) ?_
  rw [gx_upn]
  have m4 := m3.s4 (sp_u M.2.2.2 r nx)
  refine gx_iconst d_Machine_learn_71 (nI 1) (by decide) ?_
  refine gx_zreturn rfl gx_nz1 d_Machine_learn_72 ?_
  exact ⟨rfl, m4, ((k1.trans k2).trans k3).trans (gx_kp.st (by omega) (by omega))⟩
theorem ct_learn {w : gx_W} {a : Nat} {M : sp_M} {t : List Nat} (h : mcAt w a M t) (hM : sp_Mok M) {r wr rt nx : Nat} (hr : r < 12) (hwr : wr < 3) (hrt : rt ≤ 1) (hnx : nx ≤ 4) (hs : ¬ sp_same M r wr rt nx) : gx_Ct M_Machine_learn 1 0 0 [.ref a, .int (nI r), .int (nI wr), .int (nI rt), .int (nI nx)] w (fun v w' => v = some (.int (nI 1)) ∧ mcAt w' a (sp_lrn M r wr rt nx) t ∧ gx_kp w w' a (a + 7)) := by
  refine gx_ct (L := [some (.ref a), some (.int (nI r)), some (.int (nI wr)), some (.int (nI rt)), some (.int (nI nx))]) (by decide) (Nat.le_of_ble_eq_true rfl) rfl ?_
  have hMr := hM r
  refine gx_aload_n d_Machine_learn_0 rfl ?_
  refine gx_get fl_Machine_9 d_Machine_learn_1 h.1 rfl ?_
  refine gx_iload_n d_Machine_learn_4 rfl ?_
  refine gx_zald d_Machine_learn_5 h.2.1 (by omega) (by omega) ?_
  refine gx_if_eqN (by omega) (tgt := 42) d_Machine_learn_6 (by decide) (fun h6 => ?_) (fun h6 => ?_)
  · exact sg_learn h hM hr hwr hrt hnx
  · refine gx_aload_n d_Machine_learn_9 rfl ?_
    refine gx_get fl_Machine_18 d_Machine_learn_10 h.1 rfl ?_
    refine gx_iload_n d_Machine_learn_13 rfl ?_
    refine gx_iald d_Machine_learn_14 h.2.2.2.1 (by omega) (by omega) ?_
    refine gx_iload_n d_Machine_learn_15 rfl ?_
    refine gx_icmp_neN (by omega) (by omega) (tgt := 42) d_Machine_learn_16 (by decide) (fun h16 => ?_) (fun h16 => ?_)
    · exact sg_learn h hM hr hwr hrt hnx
    · refine gx_aload_n d_Machine_learn_19 rfl ?_
      refine gx_get fl_Machine_15 d_Machine_learn_20 h.1 rfl ?_
      refine gx_iload_n d_Machine_learn_23 rfl ?_
      refine gx_zald d_Machine_learn_24 h.2.2.1 (by omega) (by omega) ?_
      refine gx_iload_n d_Machine_learn_25 rfl ?_
      refine gx_icmp_neN (by omega) (by omega) (tgt := 42) d_Machine_learn_26 (by decide) (fun h26 => ?_) (fun h26 => ?_)
      · exact sg_learn h hM hr hwr hrt hnx
      · refine gx_aload_n d_Machine_learn_29 rfl ?_
        refine gx_get fl_Machine_22 d_Machine_learn_30 h.1 rfl ?_
        refine gx_iload_n d_Machine_learn_33 rfl ?_
        refine gx_iald d_Machine_learn_34 h.2.2.2.2.1 (by omega) (by omega) ?_
        refine gx_iload d_Machine_learn_35 rfl ?_
        refine gx_icmp_neN (by omega) (by omega) (tgt := 42) d_Machine_learn_37 (by decide) (fun h37 => ?_) (fun h37 => ?_)
        · exact sg_learn h hM hr hwr hrt hnx
        · exact absurd ⟨by omega, h16, h26, h37⟩ hs
theorem d_Machine_forget_0 : decode prog_5_method_3_code 0 = .ok (.aload_n 0, 1) := by decide +kernel
theorem d_Machine_forget_1 : decode prog_5_method_3_code 1 = .ok (.getfield 9, 3) := by decide +kernel
theorem d_Machine_forget_4 : decode prog_5_method_3_code 4 = .ok (.iload_n 1, 1) := by decide +kernel
theorem d_Machine_forget_5 : decode prog_5_method_3_code 5 = .ok (.baload, 1) := by decide +kernel
theorem d_Machine_forget_6 : decode prog_5_method_3_code 6 = .ok (.istore_n 2, 1) := by decide +kernel
theorem d_Machine_forget_7 : decode prog_5_method_3_code 7 = .ok (.aload_n 0, 1) := by decide +kernel
theorem d_Machine_forget_8 : decode prog_5_method_3_code 8 = .ok (.getfield 9, 3) := by decide +kernel
theorem d_Machine_forget_11 : decode prog_5_method_3_code 11 = .ok (.iload_n 1, 1) := by decide +kernel
theorem d_Machine_forget_12 : decode prog_5_method_3_code 12 = .ok (.iconst 0, 1) := by decide +kernel
theorem d_Machine_forget_13 : decode prog_5_method_3_code 13 = .ok (.bastore, 1) := by decide +kernel
theorem d_Machine_forget_14 : decode prog_5_method_3_code 14 = .ok (.iload_n 2, 1) := by decide +kernel
theorem d_Machine_forget_15 : decode prog_5_method_3_code 15 = .ok (.ireturn, 1) := by decide +kernel
theorem ct_forget_rule {w : gx_W} {a : Nat} {M : sp_M} {t : List Nat} (h : mcAt w a M t) (hM : sp_Mok M) {r : Nat} (hr : r < 12) : gx_Ct M_Machine_forget 1 0 0 [.ref a, .int (nI r)] w (fun v w' => v = some (.int (nI (sp_kn M r))) ∧ mcAt w' a (sp_fgt M r) t ∧ gx_kp w w' a (a + 7)) := by
  refine gx_ct (L := [some (.ref a), some (.int (nI r)), none]) (by decide) (Nat.le_of_ble_eq_true rfl) rfl ?_
  have hMr := hM r
  refine gx_aload_n d_Machine_forget_0 rfl ?_
  refine gx_get fl_Machine_9 d_Machine_forget_1 h.1 rfl ?_
  refine gx_iload_n d_Machine_forget_4 rfl ?_
  refine gx_zald d_Machine_forget_5 h.2.1 (by omega) (by omega) ?_
  refine gx_istore_n d_Machine_forget_6 (Nat.le_of_ble_eq_true rfl) rfl ?_
  refine gx_aload_n d_Machine_forget_7 rfl ?_
  refine gx_get fl_Machine_9 d_Machine_forget_8 h.1 rfl ?_
  refine gx_iload_n d_Machine_forget_11 rfl ?_
  refine gx_iconst d_Machine_forget_12 (nI 0) (by decide) ?_
  refine gx_zast d_Machine_forget_13 h.2.1 (by omega) (by omega) gx_nz0 ?_
  rw [gx_upn]
  have m1 := h.s1 (sp_u M.1 r 0)
  refine gx_iload_n d_Machine_forget_14 rfl ?_
  refine gx_zreturn rfl (gx_nzb hMr.1) d_Machine_forget_15 ?_
  exact ⟨rfl, m1, gx_kp.st (by omega) (by omega)⟩
def sp_dg (n word : Nat) : List Nat := (List.range n).map (fun i => word / 3 ^ (n - 1 - i) % 3)
theorem sp_dg_len (n word : Nat) : (sp_dg n word).length = n := by simp [sp_dg]
theorem sp_dg_at {n word i : Nat} (h : i < n) : (sp_dg n word).getD i 0 = word / 3 ^ (n - 1 - i) % 3 := by
  unfold sp_dg
  rw [List.getD_eq_getElem?_getD, List.getElem?_map, List.getElem?_range h]
  rfl
theorem sp_dg_ok {n word : Nat} (h : n ≤ 4) : sp_iok (sp_dg n word) := by
  refine ⟨by rw [sp_dg_len]; exact h, fun s hs => ?_⟩
  obtain ⟨i, -, rfl⟩ := List.mem_map.mp hs
  exact Nat.mod_lt _ (by decide)
theorem sp_ds_take {l : List Nat} {i : Nat} : sp_ds (l.take i) = (sp_ds l).take i := by unfold sp_ds; rw [List.map_take]
theorem tk_p {m : Nat} (h : m ≤ 3) : 0 < 3 ^ m ∧ 3 ^ m < 2 ^ 31 := by
  rcases (show m = 0 ∨ m = 1 ∨ m = 2 ∨ m = 3 by omega) with rfl | rfl | rfl | rfl <;> decide
theorem tk_w {n i : Nat} (h : n ≤ 4) : max 1 (3 ^ (n - 1 - i) / 3) = 3 ^ (n - 1 - (i + 1)) := by
  rw [← Nat.sub_sub]
  generalize hm : n - 1 - i = m
  rcases (show m = 0 ∨ m = 1 ∨ m = 2 ∨ m = 3 by omega) with rfl | rfl | rfl | rfl <;> decide
theorem d_Machine_take_0 : decode prog_5_method_4_code 0 = .ok (.iconst 1, 1) := by decide +kernel
theorem d_Machine_take_1 : decode prog_5_method_4_code 1 = .ok (.istore_n 3, 1) := by decide +kernel
theorem d_Machine_take_2 : decode prog_5_method_4_code 2 = .ok (.iconst 1, 1) := by decide +kernel
theorem d_Machine_take_3 : decode prog_5_method_4_code 3 = .ok (.istore 4, 2) := by decide +kernel
theorem d_Machine_take_5 : decode prog_5_method_4_code 5 = .ok (.iload 4, 2) := by decide +kernel
theorem d_Machine_take_7 : decode prog_5_method_4_code 7 = .ok (.iload_n 1, 1) := by decide +kernel
theorem d_Machine_take_8 : decode prog_5_method_4_code 8 = .ok (.if_icmp .ge 13, 3) := by decide +kernel
theorem d_Machine_take_11 : decode prog_5_method_4_code 11 = .ok (.iload_n 3, 1) := by decide +kernel
theorem d_Machine_take_12 : decode prog_5_method_4_code 12 = .ok (.iconst 3, 1) := by decide +kernel
theorem d_Machine_take_13 : decode prog_5_method_4_code 13 = .ok (.imul, 1) := by decide +kernel
theorem d_Machine_take_14 : decode prog_5_method_4_code 14 = .ok (.istore_n 3, 1) := by decide +kernel
theorem d_Machine_take_15 : decode prog_5_method_4_code 15 = .ok (.iinc 4 1, 3) := by decide +kernel
theorem d_Machine_take_18 : decode prog_5_method_4_code 18 = .ok (.goto (-13), 3) := by decide +kernel
theorem d_Machine_take_21 : decode prog_5_method_4_code 21 = .ok (.aload_n 0, 1) := by decide +kernel
theorem d_Machine_take_22 : decode prog_5_method_4_code 22 = .ok (.getfield 30, 3) := by decide +kernel
theorem d_Machine_take_25 : decode prog_5_method_4_code 25 = .ok (.invokevirtual 42, 3) := by decide +kernel
theorem d_Machine_take_28 : decode prog_5_method_4_code 28 = .ok (.aload_n 0, 1) := by decide +kernel
theorem d_Machine_take_29 : decode prog_5_method_4_code 29 = .ok (.getfield 30, 3) := by decide +kernel
theorem d_Machine_take_32 : decode prog_5_method_4_code 32 = .ok (.iconst 0, 1) := by decide +kernel
theorem d_Machine_take_33 : decode prog_5_method_4_code 33 = .ok (.invokestatic 34, 3) := by decide +kernel
theorem d_Machine_take_36 : decode prog_5_method_4_code 36 = .ok (.invokevirtual 38, 3) := by decide +kernel
theorem d_Machine_take_39 : decode prog_5_method_4_code 39 = .ok (.pop, 1) := by decide +kernel
theorem d_Machine_take_40 : decode prog_5_method_4_code 40 = .ok (.iconst 0, 1) := by decide +kernel
theorem d_Machine_take_41 : decode prog_5_method_4_code 41 = .ok (.istore 4, 2) := by decide +kernel
theorem d_Machine_take_43 : decode prog_5_method_4_code 43 = .ok (.iload 4, 2) := by decide +kernel
theorem d_Machine_take_45 : decode prog_5_method_4_code 45 = .ok (.iload_n 1, 1) := by decide +kernel
theorem d_Machine_take_46 : decode prog_5_method_4_code 46 = .ok (.if_icmp .ge 33, 3) := by decide +kernel
theorem d_Machine_take_49 : decode prog_5_method_4_code 49 = .ok (.aload_n 0, 1) := by decide +kernel
theorem d_Machine_take_50 : decode prog_5_method_4_code 50 = .ok (.getfield 30, 3) := by decide +kernel
theorem d_Machine_take_53 : decode prog_5_method_4_code 53 = .ok (.iload_n 2, 1) := by decide +kernel
theorem d_Machine_take_54 : decode prog_5_method_4_code 54 = .ok (.iload_n 3, 1) := by decide +kernel
theorem d_Machine_take_55 : decode prog_5_method_4_code 55 = .ok (.idiv, 1) := by decide +kernel
theorem d_Machine_take_56 : decode prog_5_method_4_code 56 = .ok (.iconst 3, 1) := by decide +kernel
theorem d_Machine_take_57 : decode prog_5_method_4_code 57 = .ok (.irem, 1) := by decide +kernel
theorem d_Machine_take_58 : decode prog_5_method_4_code 58 = .ok (.invokestatic 45, 3) := by decide +kernel
theorem d_Machine_take_61 : decode prog_5_method_4_code 61 = .ok (.invokevirtual 38, 3) := by decide +kernel
theorem d_Machine_take_64 : decode prog_5_method_4_code 64 = .ok (.pop, 1) := by decide +kernel
theorem d_Machine_take_65 : decode prog_5_method_4_code 65 = .ok (.iconst 1, 1) := by decide +kernel
theorem d_Machine_take_66 : decode prog_5_method_4_code 66 = .ok (.iload_n 3, 1) := by decide +kernel
theorem d_Machine_take_67 : decode prog_5_method_4_code 67 = .ok (.iconst 3, 1) := by decide +kernel
theorem d_Machine_take_68 : decode prog_5_method_4_code 68 = .ok (.idiv, 1) := by decide +kernel
theorem d_Machine_take_69 : decode prog_5_method_4_code 69 = .ok (.invokestatic 48, 3) := by decide +kernel
theorem d_Machine_take_72 : decode prog_5_method_4_code 72 = .ok (.istore_n 3, 1) := by decide +kernel
theorem d_Machine_take_73 : decode prog_5_method_4_code 73 = .ok (.iinc 4 1, 3) := by decide +kernel
theorem d_Machine_take_76 : decode prog_5_method_4_code 76 = .ok (.goto (-33), 3) := by decide +kernel
theorem d_Machine_take_79 : decode prog_5_method_4_code 79 = .ok (.return_, 1) := by decide +kernel
theorem lp_take1 {Q : gx_P} {w : gx_W} {a n word : Nat} (hn : n ≤ 4) (hX : ∀ i, gx_X (fun _ _ => True) M_Machine_take 2 Q 21 [some (.ref a), some (.int (nI n)), some (.int (nI word)), some (.int (nI (3 ^ (n - 1)))), some (.int i)] [] w (0, 0)) : ∀ (fu : Nat) (i : Nat), n - i < fu → (i = 0 ∨ i + 1 ≤ n) → gx_X (fun _ _ => True) M_Machine_take 2 Q 5 [some (.ref a), some (.int (nI n)), some (.int (nI word)), some (.int (nI (3 ^ i))), some (.int (nI (i + 1)))] [] w (0, 0) := by
  intro fu
  induction fu with
  | zero => intro i hfu; exact absurd hfu (Nat.not_lt_zero _)
  | succ fu ih =>
    intro i hfu hi
    refine gx_iload d_Machine_take_5 rfl ?_
    refine gx_iload_n d_Machine_take_7 rfl ?_
    refine gx_icmp_geN (by omega) (by omega) (tgt := 21) d_Machine_take_8 (by decide) (fun h8 => ?_) (fun h8 => ?_)
    · rw [show i = n - 1 by omega]
      exact hX _
    · refine gx_iload_n d_Machine_take_11 rfl ?_
      refine gx_iconst d_Machine_take_12 (nI 3) (by decide) ?_
      refine gx_imulN d_Machine_take_13 ?_
      refine gx_istore_n d_Machine_take_14 (Nat.le_of_ble_eq_true rfl) rfl ?_
      refine gx_iincN (n := 1) d_Machine_take_15 rfl (by decide) (Nat.le_of_ble_eq_true rfl) rfl ?_
      refine gx_goto (tgt := 5) d_Machine_take_18 (by decide) ?_
      exact ih (i + 1) (by omega) (by omega)
theorem lp_take2 {Q : gx_P} {w0 : gx_W} {a n word : Nat} {M : sp_M} (hn : n ≤ 4) (hword : word < 2 ^ 31) : ∀ (fu : Nat) (i : Nat) (w : gx_W), n - i < fu → (i ≤ n) → (mcAt w a M (97 :: sp_ds ((sp_dg n word).take i))) → (gx_kp w0 w a (a + 7)) → (∀ w', mcAt w' a M (97 :: sp_ds (sp_dg n word)) → gx_kp w0 w' a (a + 7) → Q.1 none w') → gx_X (fun _ _ => True) M_Machine_take 2 Q 43 [some (.ref a), some (.int (nI n)), some (.int (nI word)), some (.int (nI (3 ^ (n - 1 - i)))), some (.int (nI i))] [] w (0, 0) := by
  intro fu
  induction fu with
  | zero => intro i w hfu; exact absurd hfu (Nat.not_lt_zero _)
  | succ fu ih =>
    intro i w hfu hi h hk hQ
    have hp := tk_p (m := n - 1 - i) (by omega)
    have hl := sp_dg_len n word
    have hdv : word / 3 ^ (n - 1 - i) < 2 ^ 31 := Nat.lt_of_le_of_lt (Nat.div_le_self _ _) hword
    refine gx_iload d_Machine_take_43 rfl ?_
    refine gx_iload_n d_Machine_take_45 rfl ?_
    refine gx_icmp_geN (by omega) (by omega) (tgt := 79) d_Machine_take_46 (by decide) (fun h46 => ?_) (fun h46 => ?_)
    · refine gx_return rfl d_Machine_take_79 ?_
      have e : i = n := by omega
      subst e
      rw [List.take_of_length_le (by omega)] at h
      exact hQ w h hk
    · refine gx_aload_n d_Machine_take_49 rfl ?_
      refine gx_get fl_Machine_30 d_Machine_take_50 h.1 rfl ?_
      refine gx_iload_n d_Machine_take_53 rfl ?_
      refine gx_iload_n d_Machine_take_54 rfl ?_
      refine gx_idivN (by omega) (by omega) (by omega) d_Machine_take_55 ?_
      refine gx_iconst d_Machine_take_56 (nI 3) (by decide) ?_
      refine gx_iremN (by omega) (by omega) (by omega) d_Machine_take_57 ?_
      refine gx_cS1 lk_Machine_45 d_Machine_take_58 (ct_digit (by omega)) (by omega) rfl rfl (Nat.le_of_ble_eq_true rfl) ?_
      have hln : (97 :: sp_ds ((sp_dg n word).take i)).length < 5 := by rw [List.length_cons, sp_ds_len, List.length_take]; omega
      refine gx_cV1 lk_Machine_38 d_Machine_take_61 (ct_Word_add h.2.2.2.2.2 (by omega) hln) (Or.inr ⟨_, _, h.2.2.2.2.2⟩) (by omega) rfl rfl (Nat.le_of_ble_eq_true rfl) ?_
      refine gx_pop d_Machine_take_64 rfl ?_
      refine gx_iconst d_Machine_take_65 (nI 1) (by decide) ?_
      refine gx_iload_n d_Machine_take_66 rfl ?_
      refine gx_iconst d_Machine_take_67 (nI 3) (by decide) ?_
      refine gx_idivN (by omega) (by omega) (by omega) d_Machine_take_68 ?_
      refine gx_max lk_Machine_48 (by omega) (Nat.le_of_ble_eq_true rfl) d_Machine_take_69 ?_
      refine gx_top ((gx_mxI (by omega) (by omega)).trans (congrArg nI (tk_w hn))) ?_
      refine gx_istore_n d_Machine_take_72 (Nat.le_of_ble_eq_true rfl) rfl ?_
      refine gx_iincN (n := 1) d_Machine_take_73 rfl (by decide) (Nat.le_of_ble_eq_true rfl) rfl ?_
      refine gx_goto (tgt := 43) d_Machine_take_76 (by decide) ?_
      refine ih (i + 1) _ (by omega) (by omega) ?_ (hk.trans (gx_kp.st (by omega) (by omega))) hQ
      have m1 := h.s5 (97 :: sp_ds ((sp_dg n word).take i) ++ [48 + word / 3 ^ (n - 1 - i) % 3])
      rw [gx_take_succ (by omega), sp_dg_at (by omega)]
      have e2 : sp_ds ((sp_dg n word).take i ++ [word / 3 ^ (n - 1 - i) % 3]) = sp_ds ((sp_dg n word).take i) ++ [48 + word / 3 ^ (n - 1 - i) % 3] := by unfold sp_ds; rw [List.map_append]; rfl
      rw [e2]
      exact m1
theorem ct_take {w : gx_W} {a n word : Nat} {M : sp_M} {t : List Nat} (h : mcAt w a M t) (hn : n ≤ 4) (hword : word < 2 ^ 31) : gx_Ct M_Machine_take 2 0 0 [.ref a, .int (nI n), .int (nI word)] w (fun v w' => v = none ∧ mcAt w' a M (sp_txt (sp_c0 (sp_dg n word))) ∧ gx_kp w w' a (a + 7)) := by
  refine gx_ct (L := [some (.ref a), some (.int (nI n)), some (.int (nI word)), none, none]) (by decide) (Nat.le_of_ble_eq_true rfl) rfl ?_
  refine gx_iconst d_Machine_take_0 (nI 1) (by decide) ?_
  refine gx_istore_n d_Machine_take_1 (Nat.le_of_ble_eq_true rfl) rfl ?_
  refine gx_iconst d_Machine_take_2 (nI 1) (by decide) ?_
  refine gx_istore d_Machine_take_3 (Nat.le_of_ble_eq_true rfl) rfl ?_
  refine lp_take1 (i := 0) hn (fun i0 => ?_) (n + 1) (by omega) (Or.inl rfl)
  refine gx_aload_n d_Machine_take_21 rfl ?_
  refine gx_get fl_Machine_30 d_Machine_take_22 h.1 rfl ?_
  refine gx_cV0 lk_Machine_42 d_Machine_take_25 (ct_Word_empty h.2.2.2.2.2) (Or.inr ⟨_, _, h.2.2.2.2.2⟩) (by omega) rfl rfl (Nat.le_of_ble_eq_true rfl) ?_
  have m1 := h.s5 []
  refine gx_aload_n d_Machine_take_28 rfl ?_
  refine gx_get fl_Machine_30 d_Machine_take_29 m1.1 rfl ?_
  refine gx_iconst d_Machine_take_32 (nI 0) (by decide) ?_
  refine gx_cS1 lk_Machine_34 d_Machine_take_33 (ct_letter (q := 0) (by omega)) (by omega) rfl rfl (Nat.le_of_ble_eq_true rfl) ?_
  refine gx_top (show _ = nI 97 from rfl) ?_
  refine gx_cV1 lk_Machine_38 d_Machine_take_36 (ct_Word_add m1.2.2.2.2.2 (by omega) (by decide)) (Or.inr ⟨_, _, m1.2.2.2.2.2⟩) (by omega) rfl rfl (Nat.le_of_ble_eq_true rfl) ?_
  have m2 := m1.s5 ([] ++ [97])
  refine gx_pop d_Machine_take_39 rfl ?_
  refine gx_iconst d_Machine_take_40 (nI 0) (by decide) ?_
  refine gx_istore d_Machine_take_41 (Nat.le_of_ble_eq_true rfl) rfl ?_
  exact lp_take2 hn hword (n + 1) 0 _ (by omega) (Nat.zero_le _) m2 ((gx_kp.st (by omega) (by omega)).trans (gx_kp.st (by omega) (by omega))) (fun w' h1 h2 => ⟨rfl, h1, h2⟩)
def sp_by (x : Int64) (k : Nat) : Nat := x.toBitVec.toNat / 2 ^ (8 * k) % 256
theorem sp_by_lt (x : Int64) (k : Nat) : sp_by x k < 256 := Nat.mod_lt _ (by decide)
theorem sp_by_cl {x : Int64} {k : Nat} (hk : k < 8) : ((x.toUInt64 >>> ((nI (8 * k)).toInt64.toUInt64 &&& Int64.toUInt64 63)).toInt64 &&& 255).toInt32 = nI (sp_by x k) := by
  obtain ⟨m, hm, rfl⟩ := wb_of x
  rw [wb_shr hm (by omega), show (255 : Int64) = lN (2 ^ 8 - 1) from rfl, wb_mask (Nat.lt_of_le_of_lt (Nat.div_le_self _ _) hm) (by omega), lN_i]
  unfold sp_by
  rw [wb_tn hm]
theorem d_PC_byteOf_0 : decode prog_1_method_23_code 0 = .ok (.lload_n 0, 1) := by decide +kernel
theorem d_PC_byteOf_1 : decode prog_1_method_23_code 1 = .ok (.bipush 8, 2) := by decide +kernel
theorem d_PC_byteOf_3 : decode prog_1_method_23_code 3 = .ok (.bipush 7, 2) := by decide +kernel
theorem d_PC_byteOf_5 : decode prog_1_method_23_code 5 = .ok (.iload_n 2, 1) := by decide +kernel
theorem d_PC_byteOf_6 : decode prog_1_method_23_code 6 = .ok (.isub, 1) := by decide +kernel
theorem d_PC_byteOf_7 : decode prog_1_method_23_code 7 = .ok (.imul, 1) := by decide +kernel
theorem d_PC_byteOf_8 : decode prog_1_method_23_code 8 = .ok (.lushr, 1) := by decide +kernel
theorem d_PC_byteOf_9 : decode prog_1_method_23_code 9 = .ok (.ldc2_w 227, 3) := by decide +kernel
theorem d_PC_byteOf_12 : decode prog_1_method_23_code 12 = .ok (.land, 1) := by decide +kernel
theorem d_PC_byteOf_13 : decode prog_1_method_23_code 13 = .ok (.l2i, 1) := by decide +kernel
theorem d_PC_byteOf_14 : decode prog_1_method_23_code 14 = .ok (.i2c, 1) := by decide +kernel
theorem d_PC_byteOf_15 : decode prog_1_method_23_code 15 = .ok (.ireturn, 1) := by decide +kernel
theorem ct_byteOf {w : gx_W} {x : Int64} {i : Nat} (hi : i < 8) : gx_Ct M_PC_byteOf 1 0 0 [.long x, .int (nI i)] w (gx_eq (some (.int (nI (sp_by x (7 - i))))) w) := by
  refine gx_ct (L := [some (.long x), none, some (.int (nI i))]) (by decide) (Nat.le_of_ble_eq_true rfl) rfl ?_
  have hb := sp_by_lt x (7 - i)
  refine gx_lload_n d_PC_byteOf_0 rfl ?_
  refine gx_bipush d_PC_byteOf_1 (nI 8) (by decide) ?_
  refine gx_bipush d_PC_byteOf_3 (nI 7) (by decide) ?_
  refine gx_iload_n d_PC_byteOf_5 rfl ?_
  refine gx_isubN (by omega) d_PC_byteOf_6 ?_
  refine gx_imulN d_PC_byteOf_7 ?_
  refine gx_lushr d_PC_byteOf_8 ?_
  refine gx_ldc2 kl_PC_227 d_PC_byteOf_9 ?_
  refine gx_land d_PC_byteOf_12 ?_
  refine gx_l2i d_PC_byteOf_13 ?_
  refine gx_top (sp_by_cl (by omega)) ?_
  refine gx_i2cN (by omega) d_PC_byteOf_14 ?_
  refine gx_zreturn rfl (gx_nc (by omega)) d_PC_byteOf_15 ?_
  exact ⟨rfl, rfl⟩
