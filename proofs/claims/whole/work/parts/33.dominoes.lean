/-! the reference: the dominoes of a rule, all dominoes -/
theorem nz_p {x : Nat} (h : 0 < x) : nz x = [x] := if_neg (by omega)
theorem nz_0 : nz 0 = [] := rfl
theorem moFd.at {A A' : Nat → Nat → Nat} (h : moFd A A') {j : Nat} (hj : j ≠ 8 ∧ j ≠ 9 ∧ j ≠ 10 ∧ j ≠ 11) (i : Nat) : A' j i = A j i := congrFun (h j hj.1 hj.2.1 hj.2.2.1 hj.2.2.2) i
theorem nz_R {a b x y t : Nat} (ha : 0 < a) (hb : 0 < b) (hx : 0 < x) (hy : 0 < y) : (nz3 a b 0 3, nz4 x y t 0 4) = ([a, b], [x, y] ++ nz t) := by
  show (nz a ++ nz b ++ nz 0, nz x ++ nz y ++ nz t ++ nz 0) = _
  rw [nz_p ha, nz_p hb, nz_p hx, nz_p hy, nz_0, List.append_nil, List.append_nil]; rfl
theorem nz_L {a b c x y z t : Nat} (ha : 0 < a) (hb : 0 < b) (hc : 0 < c) (hx : 0 < x) (hy : 0 < y) (hz : 0 < z) : (nz3 a b c 3, nz4 x y z t 4) = ([a, b, c], [x, y, z] ++ nz t) := by
  show (nz a ++ nz b ++ nz c, nz x ++ nz y ++ nz z ++ nz t) = _
  rw [nz_p ha, nz_p hb, nz_p hc, nz_p hx, nz_p hy, nz_p hz]; rfl
theorem sp_re_R {M : sp_M} {q s beh t : Nat} (hs : s < 3) (hr : sp_rt M (3 * q + s) = 1) : sp_re M (3 * q + s) beh (nz t) = [([sp_let q, beh], [48 + sp_wr M (3 * q + s), sp_let (sp_nx M (3 * q + s))] ++ nz t)] := by
  unfold sp_re
  rw [if_pos hr, show (3 * q + s) / 3 = q by omega]
theorem sp_re_L {M : sp_M} {q s beh t : Nat} (hs : s < 3) (hr : sp_rt M (3 * q + s) = 0) : sp_re M (3 * q + s) beh (nz t) = [([48, sp_let q, beh], [sp_let (sp_nx M (3 * q + s)), 48, 48 + sp_wr M (3 * q + s)] ++ nz t), ([49, sp_let q, beh], [sp_let (sp_nx M (3 * q + s)), 49, 48 + sp_wr M (3 * q + s)] ++ nz t), ([50, sp_let q, beh], [sp_let (sp_nx M (3 * q + s)), 50, 48 + sp_wr M (3 * q + s)] ++ nz t)] := by
  unfold sp_re
  rw [if_neg (by omega), show (3 * q + s) / 3 = q by omega]; rfl
theorem d_Mo_makeRule_0 : decode prog_11_method_20_code 0 = .ok (.iconst 3, 1) := by decide +kernel
theorem d_Mo_makeRule_1 : decode prog_11_method_20_code 1 = .ok (.iload_n 1, 1) := by decide +kernel
theorem d_Mo_makeRule_2 : decode prog_11_method_20_code 2 = .ok (.imul, 1) := by decide +kernel
theorem d_Mo_makeRule_3 : decode prog_11_method_20_code 3 = .ok (.iload_n 2, 1) := by decide +kernel
theorem d_Mo_makeRule_4 : decode prog_11_method_20_code 4 = .ok (.iadd, 1) := by decide +kernel
theorem d_Mo_makeRule_5 : decode prog_11_method_20_code 5 = .ok (.istore_n 3, 1) := by decide +kernel
theorem d_Mo_makeRule_6 : decode prog_11_method_20_code 6 = .ok (.iload_n 1, 1) := by decide +kernel
theorem d_Mo_makeRule_7 : decode prog_11_method_20_code 7 = .ok (.invokestatic 104, 3) := by decide +kernel
theorem d_Mo_makeRule_10 : decode prog_11_method_20_code 10 = .ok (.istore 4, 2) := by decide +kernel
theorem d_Mo_makeRule_12 : decode prog_11_method_20_code 12 = .ok (.aload_n 0, 1) := by decide +kernel
theorem d_Mo_makeRule_13 : decode prog_11_method_20_code 13 = .ok (.getfield 20, 3) := by decide +kernel
theorem d_Mo_makeRule_16 : decode prog_11_method_20_code 16 = .ok (.iload_n 3, 1) := by decide +kernel
theorem d_Mo_makeRule_17 : decode prog_11_method_20_code 17 = .ok (.iaload, 1) := by decide +kernel
theorem d_Mo_makeRule_18 : decode prog_11_method_20_code 18 = .ok (.invokestatic 104, 3) := by decide +kernel
theorem d_Mo_makeRule_21 : decode prog_11_method_20_code 21 = .ok (.istore 5, 2) := by decide +kernel
theorem d_Mo_makeRule_23 : decode prog_11_method_20_code 23 = .ok (.bipush 48, 2) := by decide +kernel
theorem d_Mo_makeRule_25 : decode prog_11_method_20_code 25 = .ok (.aload_n 0, 1) := by decide +kernel
theorem d_Mo_makeRule_26 : decode prog_11_method_20_code 26 = .ok (.getfield 13, 3) := by decide +kernel
theorem d_Mo_makeRule_29 : decode prog_11_method_20_code 29 = .ok (.iload_n 3, 1) := by decide +kernel
theorem d_Mo_makeRule_30 : decode prog_11_method_20_code 30 = .ok (.iaload, 1) := by decide +kernel
theorem d_Mo_makeRule_31 : decode prog_11_method_20_code 31 = .ok (.iadd, 1) := by decide +kernel
theorem d_Mo_makeRule_32 : decode prog_11_method_20_code 32 = .ok (.istore 6, 2) := by decide +kernel
theorem d_Mo_makeRule_34 : decode prog_11_method_20_code 34 = .ok (.iconst 0, 1) := by decide +kernel
theorem d_Mo_makeRule_35 : decode prog_11_method_20_code 35 = .ok (.istore 7, 2) := by decide +kernel
theorem d_Mo_makeRule_37 : decode prog_11_method_20_code 37 = .ok (.iload 7, 2) := by decide +kernel
theorem d_Mo_makeRule_39 : decode prog_11_method_20_code 39 = .ok (.iload_n 2, 1) := by decide +kernel
theorem d_Mo_makeRule_40 : decode prog_11_method_20_code 40 = .ok (.ifCond .ne 7, 3) := by decide +kernel
theorem d_Mo_makeRule_43 : decode prog_11_method_20_code 43 = .ok (.iconst 2, 1) := by decide +kernel
theorem d_Mo_makeRule_44 : decode prog_11_method_20_code 44 = .ok (.goto 4, 3) := by decide +kernel
theorem d_Mo_makeRule_47 : decode prog_11_method_20_code 47 = .ok (.iconst 1, 1) := by decide +kernel
theorem d_Mo_makeRule_48 : decode prog_11_method_20_code 48 = .ok (.if_icmp .ge 107, 3) := by decide +kernel
theorem d_Mo_makeRule_51 : decode prog_11_method_20_code 51 = .ok (.iload 7, 2) := by decide +kernel
theorem d_Mo_makeRule_53 : decode prog_11_method_20_code 53 = .ok (.ifCond .ne 10, 3) := by decide +kernel
theorem d_Mo_makeRule_56 : decode prog_11_method_20_code 56 = .ok (.bipush 48, 2) := by decide +kernel
theorem d_Mo_makeRule_58 : decode prog_11_method_20_code 58 = .ok (.iload_n 2, 1) := by decide +kernel
theorem d_Mo_makeRule_59 : decode prog_11_method_20_code 59 = .ok (.iadd, 1) := by decide +kernel
theorem d_Mo_makeRule_60 : decode prog_11_method_20_code 60 = .ok (.goto 5, 3) := by decide +kernel
theorem d_Mo_makeRule_63 : decode prog_11_method_20_code 63 = .ok (.bipush 35, 2) := by decide +kernel
theorem d_Mo_makeRule_65 : decode prog_11_method_20_code 65 = .ok (.istore 8, 2) := by decide +kernel
theorem d_Mo_makeRule_67 : decode prog_11_method_20_code 67 = .ok (.iload 7, 2) := by decide +kernel
theorem d_Mo_makeRule_69 : decode prog_11_method_20_code 69 = .ok (.ifCond .ne 7, 3) := by decide +kernel
theorem d_Mo_makeRule_72 : decode prog_11_method_20_code 72 = .ok (.iconst 0, 1) := by decide +kernel
theorem d_Mo_makeRule_73 : decode prog_11_method_20_code 73 = .ok (.goto 5, 3) := by decide +kernel
theorem d_Mo_makeRule_76 : decode prog_11_method_20_code 76 = .ok (.bipush 35, 2) := by decide +kernel
theorem d_Mo_makeRule_78 : decode prog_11_method_20_code 78 = .ok (.istore 9, 2) := by decide +kernel
theorem d_Mo_makeRule_80 : decode prog_11_method_20_code 80 = .ok (.aload_n 0, 1) := by decide +kernel
theorem d_Mo_makeRule_81 : decode prog_11_method_20_code 81 = .ok (.getfield 17, 3) := by decide +kernel
theorem d_Mo_makeRule_84 : decode prog_11_method_20_code 84 = .ok (.iload_n 3, 1) := by decide +kernel
theorem d_Mo_makeRule_85 : decode prog_11_method_20_code 85 = .ok (.baload, 1) := by decide +kernel
theorem d_Mo_makeRule_86 : decode prog_11_method_20_code 86 = .ok (.ifCond .eq 19, 3) := by decide +kernel
theorem d_Mo_makeRule_89 : decode prog_11_method_20_code 89 = .ok (.aload_n 0, 1) := by decide +kernel
theorem d_Mo_makeRule_90 : decode prog_11_method_20_code 90 = .ok (.iload 4, 2) := by decide +kernel
theorem d_Mo_makeRule_92 : decode prog_11_method_20_code 92 = .ok (.iload 8, 2) := by decide +kernel
theorem d_Mo_makeRule_94 : decode prog_11_method_20_code 94 = .ok (.iconst 0, 1) := by decide +kernel
theorem d_Mo_makeRule_95 : decode prog_11_method_20_code 95 = .ok (.iload 6, 2) := by decide +kernel
theorem d_Mo_makeRule_97 : decode prog_11_method_20_code 97 = .ok (.iload 5, 2) := by decide +kernel
theorem d_Mo_makeRule_99 : decode prog_11_method_20_code 99 = .ok (.iload 9, 2) := by decide +kernel
theorem d_Mo_makeRule_101 : decode prog_11_method_20_code 101 = .ok (.iconst 0, 1) := by decide +kernel
theorem d_Mo_makeRule_102 : decode prog_11_method_20_code 102 = .ok (.invokevirtual 149, 3) := by decide +kernel
theorem d_Mo_makeRule_105 : decode prog_11_method_20_code 105 = .ok (.bipush 48, 2) := by decide +kernel
theorem d_Mo_makeRule_107 : decode prog_11_method_20_code 107 = .ok (.istore 10, 2) := by decide +kernel
theorem d_Mo_makeRule_109 : decode prog_11_method_20_code 109 = .ok (.iload 10, 2) := by decide +kernel
theorem d_Mo_makeRule_111 : decode prog_11_method_20_code 111 = .ok (.bipush 50, 2) := by decide +kernel
theorem d_Mo_makeRule_113 : decode prog_11_method_20_code 113 = .ok (.if_icmp .gt 36, 3) := by decide +kernel
theorem d_Mo_makeRule_116 : decode prog_11_method_20_code 116 = .ok (.aload_n 0, 1) := by decide +kernel
theorem d_Mo_makeRule_117 : decode prog_11_method_20_code 117 = .ok (.getfield 17, 3) := by decide +kernel
theorem d_Mo_makeRule_120 : decode prog_11_method_20_code 120 = .ok (.iload_n 3, 1) := by decide +kernel
theorem d_Mo_makeRule_121 : decode prog_11_method_20_code 121 = .ok (.baload, 1) := by decide +kernel
theorem d_Mo_makeRule_122 : decode prog_11_method_20_code 122 = .ok (.ifCond .ne 27, 3) := by decide +kernel
theorem d_Mo_makeRule_125 : decode prog_11_method_20_code 125 = .ok (.aload_n 0, 1) := by decide +kernel
theorem d_Mo_makeRule_126 : decode prog_11_method_20_code 126 = .ok (.iload 10, 2) := by decide +kernel
theorem d_Mo_makeRule_128 : decode prog_11_method_20_code 128 = .ok (.iload 4, 2) := by decide +kernel
theorem d_Mo_makeRule_130 : decode prog_11_method_20_code 130 = .ok (.iload 8, 2) := by decide +kernel
theorem d_Mo_makeRule_132 : decode prog_11_method_20_code 132 = .ok (.iload 5, 2) := by decide +kernel
theorem d_Mo_makeRule_134 : decode prog_11_method_20_code 134 = .ok (.iload 10, 2) := by decide +kernel
theorem d_Mo_makeRule_136 : decode prog_11_method_20_code 136 = .ok (.iload 6, 2) := by decide +kernel
theorem d_Mo_makeRule_138 : decode prog_11_method_20_code 138 = .ok (.iload 9, 2) := by decide +kernel
theorem d_Mo_makeRule_140 : decode prog_11_method_20_code 140 = .ok (.invokevirtual 149, 3) := by decide +kernel
theorem d_Mo_makeRule_143 : decode prog_11_method_20_code 143 = .ok (.iinc 10 1, 3) := by decide +kernel
theorem d_Mo_makeRule_146 : decode prog_11_method_20_code 146 = .ok (.goto (-37), 3) := by decide +kernel
theorem d_Mo_makeRule_149 : decode prog_11_method_20_code 149 = .ok (.iinc 7 1, 3) := by decide +kernel
theorem d_Mo_makeRule_152 : decode prog_11_method_20_code 152 = .ok (.goto (-115), 3) := by decide +kernel
theorem d_Mo_makeRule_155 : decode prog_11_method_20_code 155 = .ok (.return_, 1) := by decide +kernel
theorem sg_mrR {Q : gx_P} {w : gx_W} {m : Nat} {I I' : Nat → Nat} {A A' : Nat → Nat → Nat} {ds : List (List Nat × List Nat)} {q s en beh tail : Nat} {L10 : Option Value} (hq : q < 4) (hs : s < 3) (hM : sp_Mok (moM A)) (hb0 : 0 < beh) (hb : beh < 65536) (ht : tail < 65536) (h : moK I A I' A' ds) (hd : ds.length + 3 ≤ 60) (hr : A 3 (3 * q + s) = 1) (hX : ∀ I'' A'' L9, moK I A I'' A'' (ds ++ sp_re (moM A) (3 * q + s) beh (nz tail)) → gx_X (fun _ _ => True) M_Mo_makeRule 3 Q 149 [some (.ref m), some (.int (nI q)), some (.int (nI s)), some (.int (nI (3 * q + s))), some (.int (nI (sp_let q))), some (.int (nI (sp_let (A 4 (3 * q + s))))), some (.int (nI (48 + A 2 (3 * q + s)))), some (.int (nI en)), some (.int (nI beh)), some (.int (nI tail)), L9] [] (gx_mo w m I'' A'') (0, 0)) : gx_X (fun _ _ => True) M_Mo_makeRule 3 Q 80 [some (.ref m), some (.int (nI q)), some (.int (nI s)), some (.int (nI (3 * q + s))), some (.int (nI (sp_let q))), some (.int (nI (sp_let (A 4 (3 * q + s))))), some (.int (nI (48 + A 2 (3 * q + s)))), some (.int (nI en)), some (.int (nI beh)), some (.int (nI tail)), L10] [] (gx_mo w m I' A') (0, 0) := by
  have hMr := hM (3 * q + s)
  have e2 : A 2 (3 * q + s) < 3 := hMr.2.2.1
  have e4 : A 4 (3 * q + s) ≤ 4 := hMr.2.2.2
  have hl1 := sp_let_ge q
  have hl2 := sp_let_lt (show q ≤ 4 by omega)
  have hl3 := sp_let_ge (A 4 (3 * q + s))
  have hl4 := sp_let_lt e4
  refine gx_aload_n d_Mo_makeRule_80 rfl ?_
  refine gx_get fl_Mo_17 d_Mo_makeRule_81 mo_o rfl ?_
  refine gx_iload_n d_Mo_makeRule_84 rfl ?_
  refine gx_zald d_Mo_makeRule_85 mo_3 (by omega) (by omega) ?_
  rw [h.2.2.1.at (j := 3) (by decide), hr]
  refine gx_if_eqN (by omega) (tgt := 105) d_Mo_makeRule_86 (by decide) (fun h86 => ?_) (fun h86 => ?_)
  · exact absurd h86 (by decide)
  · refine gx_aload_n d_Mo_makeRule_89 rfl ?_
    refine gx_iload d_Mo_makeRule_90 rfl ?_
    refine gx_iload d_Mo_makeRule_92 rfl ?_
    refine gx_iconst d_Mo_makeRule_94 (nI 0) (by decide) ?_
    refine gx_iload d_Mo_makeRule_95 rfl ?_
    refine gx_iload d_Mo_makeRule_97 rfl ?_
    refine gx_iload d_Mo_makeRule_99 rfl ?_
    refine gx_iconst d_Mo_makeRule_101 (nI 0) (by decide) ?_
    refine gx_cVr lk_Mo_149 d_Mo_makeRule_102 (cm_make h (by omega) (by omega) (by omega) (by omega) (by omega) (by omega) (by omega) (by omega)) (Or.inl ⟨_, mo_o⟩) (by omega) rfl rfl (Nat.le_of_ble_eq_true rfl) (fun r2 w2 hq => ?_)
    obtain ⟨rfl, I1, A1, rfl, h1⟩ := hq
    refine gx_bipush d_Mo_makeRule_105 (nI 48) (by decide) ?_
    refine gx_istore d_Mo_makeRule_107 (Nat.le_of_ble_eq_true rfl) rfl ?_
    refine gx_iload d_Mo_makeRule_109 rfl ?_
    refine gx_bipush d_Mo_makeRule_111 (nI 50) (by decide) ?_
    refine gx_icmp_gtN (by omega) (by omega) (tgt := 149) d_Mo_makeRule_113 (by decide) (fun h113 => ?_) (fun h113 => ?_)
    · exact absurd h113 (by decide)
    · refine gx_aload_n d_Mo_makeRule_116 rfl ?_
      refine gx_get fl_Mo_17 d_Mo_makeRule_117 mo_o rfl ?_
      refine gx_iload_n d_Mo_makeRule_120 rfl ?_
      refine gx_zald d_Mo_makeRule_121 mo_3 (by omega) (by omega) ?_
      rw [h1.2.2.1.at (j := 3) (by decide), hr]
      refine gx_if_neN (by omega) (tgt := 149) d_Mo_makeRule_122 (by decide) (fun h122 => ?_) (fun h122 => ?_)
      · rw [nz_R (by omega) hb0 (by omega) (by omega)] at h1
        exact hX _ _ _ (by rw [sp_re_R (M := moM A) hs hr]; exact h1)
      · exact absurd h122 (by decide)
theorem sg_mrL {Q : gx_P} {w : gx_W} {m : Nat} {I I' : Nat → Nat} {A A' : Nat → Nat → Nat} {ds : List (List Nat × List Nat)} {q s en beh tail : Nat} {L10 : Option Value} (hq : q < 4) (hs : s < 3) (hM : sp_Mok (moM A)) (hb0 : 0 < beh) (hb : beh < 65536) (ht : tail < 65536) (h : moK I A I' A' ds) (hd : ds.length + 3 ≤ 60) (hr : A 3 (3 * q + s) = 0) (hX : ∀ I'' A'' L9, moK I A I'' A'' (ds ++ sp_re (moM A) (3 * q + s) beh (nz tail)) → gx_X (fun _ _ => True) M_Mo_makeRule 3 Q 149 [some (.ref m), some (.int (nI q)), some (.int (nI s)), some (.int (nI (3 * q + s))), some (.int (nI (sp_let q))), some (.int (nI (sp_let (A 4 (3 * q + s))))), some (.int (nI (48 + A 2 (3 * q + s)))), some (.int (nI en)), some (.int (nI beh)), some (.int (nI tail)), L9] [] (gx_mo w m I'' A'') (0, 0)) : gx_X (fun _ _ => True) M_Mo_makeRule 3 Q 80 [some (.ref m), some (.int (nI q)), some (.int (nI s)), some (.int (nI (3 * q + s))), some (.int (nI (sp_let q))), some (.int (nI (sp_let (A 4 (3 * q + s))))), some (.int (nI (48 + A 2 (3 * q + s)))), some (.int (nI en)), some (.int (nI beh)), some (.int (nI tail)), L10] [] (gx_mo w m I' A') (0, 0) := by
  have hMr := hM (3 * q + s)
  have e2 : A 2 (3 * q + s) < 3 := hMr.2.2.1
  have e4 : A 4 (3 * q + s) ≤ 4 := hMr.2.2.2
  have hl1 := sp_let_ge q
  have hl2 := sp_let_lt (show q ≤ 4 by omega)
  have hl3 := sp_let_ge (A 4 (3 * q + s))
  have hl4 := sp_let_lt e4
  refine gx_aload_n d_Mo_makeRule_80 rfl ?_
  refine gx_get fl_Mo_17 d_Mo_makeRule_81 mo_o rfl ?_
  refine gx_iload_n d_Mo_makeRule_84 rfl ?_
  refine gx_zald d_Mo_makeRule_85 mo_3 (by omega) (by omega) ?_
  rw [h.2.2.1.at (j := 3) (by decide), hr]
  refine gx_if_eqN (by omega) (tgt := 105) d_Mo_makeRule_86 (by decide) (fun h86 => ?_) (fun h86 => ?_)
  · refine gx_bipush d_Mo_makeRule_105 (nI 48) (by decide) ?_
    refine gx_istore d_Mo_makeRule_107 (Nat.le_of_ble_eq_true rfl) rfl ?_
    refine gx_iload d_Mo_makeRule_109 rfl ?_
    refine gx_bipush d_Mo_makeRule_111 (nI 50) (by decide) ?_
    refine gx_icmp_gtN (by omega) (by omega) (tgt := 149) d_Mo_makeRule_113 (by decide) (fun h113 => ?_) (fun h113 => ?_)
    · exact absurd h113 (by decide)
    · refine gx_aload_n d_Mo_makeRule_116 rfl ?_
      refine gx_get fl_Mo_17 d_Mo_makeRule_117 mo_o rfl ?_
      refine gx_iload_n d_Mo_makeRule_120 rfl ?_
      refine gx_zald d_Mo_makeRule_121 mo_3 (by omega) (by omega) ?_
      rw [h.2.2.1.at (j := 3) (by decide), hr]
      refine gx_if_neN (by omega) (tgt := 149) d_Mo_makeRule_122 (by decide) (fun h122 => ?_) (fun h122 => ?_)
      · exact absurd rfl h122
      · refine gx_aload_n d_Mo_makeRule_125 rfl ?_
        refine gx_iload d_Mo_makeRule_126 rfl ?_
        refine gx_iload d_Mo_makeRule_128 rfl ?_
        refine gx_iload d_Mo_makeRule_130 rfl ?_
        refine gx_iload d_Mo_makeRule_132 rfl ?_
        refine gx_iload d_Mo_makeRule_134 rfl ?_
        refine gx_iload d_Mo_makeRule_136 rfl ?_
        refine gx_iload d_Mo_makeRule_138 rfl ?_
        refine gx_cVr lk_Mo_149 d_Mo_makeRule_140 (cm_make h (by (try simp only [List.length_append, List.length_singleton]); omega) (by omega) (by omega) (by omega) (by omega) (by omega) (by omega) (by omega)) (Or.inl ⟨_, mo_o⟩) (by omega) rfl rfl (Nat.le_of_ble_eq_true rfl) (fun r2 w2 hq => ?_)
        obtain ⟨rfl, I1, A1, rfl, h1⟩ := hq
        refine gx_iincN (n := 1) d_Mo_makeRule_143 rfl (by decide) (Nat.le_of_ble_eq_true rfl) rfl ?_
        refine gx_goto (tgt := 109) d_Mo_makeRule_146 (by decide) ?_
        refine gx_iload d_Mo_makeRule_109 rfl ?_
        refine gx_bipush d_Mo_makeRule_111 (nI 50) (by decide) ?_
        refine gx_icmp_gtN (by omega) (by omega) (tgt := 149) d_Mo_makeRule_113 (by decide) (fun h113 => ?_) (fun h113 => ?_)
        · exact absurd h113 (by decide)
        · refine gx_aload_n d_Mo_makeRule_116 rfl ?_
          refine gx_get fl_Mo_17 d_Mo_makeRule_117 mo_o rfl ?_
          refine gx_iload_n d_Mo_makeRule_120 rfl ?_
          refine gx_zald d_Mo_makeRule_121 mo_3 (by omega) (by omega) ?_
          rw [h1.2.2.1.at (j := 3) (by decide), hr]
          refine gx_if_neN (by omega) (tgt := 149) d_Mo_makeRule_122 (by decide) (fun h122 => ?_) (fun h122 => ?_)
          · exact absurd rfl h122
          · refine gx_aload_n d_Mo_makeRule_125 rfl ?_
            refine gx_iload d_Mo_makeRule_126 rfl ?_
            refine gx_iload d_Mo_makeRule_128 rfl ?_
            refine gx_iload d_Mo_makeRule_130 rfl ?_
            refine gx_iload d_Mo_makeRule_132 rfl ?_
            refine gx_iload d_Mo_makeRule_134 rfl ?_
            refine gx_iload d_Mo_makeRule_136 rfl ?_
            refine gx_iload d_Mo_makeRule_138 rfl ?_
            refine gx_cVr lk_Mo_149 d_Mo_makeRule_140 (cm_make h1 (by (try simp only [List.length_append, List.length_singleton]); omega) (by omega) (by omega) (by omega) (by omega) (by omega) (by omega) (by omega)) (Or.inl ⟨_, mo_o⟩) (by omega) rfl rfl (Nat.le_of_ble_eq_true rfl) (fun r2 w2 hq => ?_)
            obtain ⟨rfl, I2, A2, rfl, h2⟩ := hq
            refine gx_iincN (n := 1) d_Mo_makeRule_143 rfl (by decide) (Nat.le_of_ble_eq_true rfl) rfl ?_
            refine gx_goto (tgt := 109) d_Mo_makeRule_146 (by decide) ?_
            refine gx_iload d_Mo_makeRule_109 rfl ?_
            refine gx_bipush d_Mo_makeRule_111 (nI 50) (by decide) ?_
            refine gx_icmp_gtN (by omega) (by omega) (tgt := 149) d_Mo_makeRule_113 (by decide) (fun h113 => ?_) (fun h113 => ?_)
            · exact absurd h113 (by decide)
            · refine gx_aload_n d_Mo_makeRule_116 rfl ?_
              refine gx_get fl_Mo_17 d_Mo_makeRule_117 mo_o rfl ?_
              refine gx_iload_n d_Mo_makeRule_120 rfl ?_
              refine gx_zald d_Mo_makeRule_121 mo_3 (by omega) (by omega) ?_
              rw [h2.2.2.1.at (j := 3) (by decide), hr]
              refine gx_if_neN (by omega) (tgt := 149) d_Mo_makeRule_122 (by decide) (fun h122 => ?_) (fun h122 => ?_)
              · exact absurd rfl h122
              · refine gx_aload_n d_Mo_makeRule_125 rfl ?_
                refine gx_iload d_Mo_makeRule_126 rfl ?_
                refine gx_iload d_Mo_makeRule_128 rfl ?_
                refine gx_iload d_Mo_makeRule_130 rfl ?_
                refine gx_iload d_Mo_makeRule_132 rfl ?_
                refine gx_iload d_Mo_makeRule_134 rfl ?_
                refine gx_iload d_Mo_makeRule_136 rfl ?_
                refine gx_iload d_Mo_makeRule_138 rfl ?_
                refine gx_cVr lk_Mo_149 d_Mo_makeRule_140 (cm_make h2 (by (try simp only [List.length_append, List.length_singleton]); omega) (by omega) (by omega) (by omega) (by omega) (by omega) (by omega) (by omega)) (Or.inl ⟨_, mo_o⟩) (by omega) rfl rfl (Nat.le_of_ble_eq_true rfl) (fun r2 w2 hq => ?_)
                obtain ⟨rfl, I3, A3, rfl, h3⟩ := hq
                refine gx_iincN (n := 1) d_Mo_makeRule_143 rfl (by decide) (Nat.le_of_ble_eq_true rfl) rfl ?_
                refine gx_goto (tgt := 109) d_Mo_makeRule_146 (by decide) ?_
                refine gx_iload d_Mo_makeRule_109 rfl ?_
                refine gx_bipush d_Mo_makeRule_111 (nI 50) (by decide) ?_
                refine gx_icmp_gtN (by omega) (by omega) (tgt := 149) d_Mo_makeRule_113 (by decide) (fun h113 => ?_) (fun h113 => ?_)
                · rw [nz_L (by decide) (by omega) hb0 (by omega) (by decide) (by omega), nz_L (by decide) (by omega) hb0 (by omega) (by decide) (by omega), nz_L (by decide) (by omega) hb0 (by omega) (by decide) (by omega), List.append_assoc, List.append_assoc] at h3
                  exact hX _ _ _ (by rw [sp_re_L (M := moM A) hs hr]; exact h3)
                · exact absurd (by decide) h113
  · exact absurd rfl h86
theorem sg_mr {Q : gx_P} {w : gx_W} {m : Nat} {I I' : Nat → Nat} {A A' : Nat → Nat → Nat} {ds : List (List Nat × List Nat)} {q s en beh tail : Nat} {L10 : Option Value} (hq : q < 4) (hs : s < 3) (hM : sp_Mok (moM A)) (hb0 : 0 < beh) (hb : beh < 65536) (ht : tail < 65536) (h : moK I A I' A' ds) (hd : ds.length + 3 ≤ 60) (hX : ∀ I'' A'' L9, moK I A I'' A'' (ds ++ sp_re (moM A) (3 * q + s) beh (nz tail)) → gx_X (fun _ _ => True) M_Mo_makeRule 3 Q 149 [some (.ref m), some (.int (nI q)), some (.int (nI s)), some (.int (nI (3 * q + s))), some (.int (nI (sp_let q))), some (.int (nI (sp_let (A 4 (3 * q + s))))), some (.int (nI (48 + A 2 (3 * q + s)))), some (.int (nI en)), some (.int (nI beh)), some (.int (nI tail)), L9] [] (gx_mo w m I'' A'') (0, 0)) : gx_X (fun _ _ => True) M_Mo_makeRule 3 Q 80 [some (.ref m), some (.int (nI q)), some (.int (nI s)), some (.int (nI (3 * q + s))), some (.int (nI (sp_let q))), some (.int (nI (sp_let (A 4 (3 * q + s))))), some (.int (nI (48 + A 2 (3 * q + s)))), some (.int (nI en)), some (.int (nI beh)), some (.int (nI tail)), L10] [] (gx_mo w m I' A') (0, 0) := by
  have h3 : A 3 (3 * q + s) ≤ 1 := (hM _).2.1
  by_cases e : A 3 (3 * q + s) = 1
  · exact sg_mrR hq hs hM hb0 hb ht h hd e hX
  · exact sg_mrL hq hs hM hb0 hb ht h hd (by omega) hX
theorem sp_rd_a {M : sp_M} {q s : Nat} (hs : s < 3) (h0 : ¬ s = 0) (hk : sp_kn M (3 * q + s) = 1) : sp_rd M (3 * q + s) = sp_re M (3 * q + s) (48 + s) (nz 0) := by
  unfold sp_rd
  rw [if_pos hk, show (3 * q + s) % 3 = s by omega, if_neg h0, List.append_nil]; rfl
theorem sp_rd_0 {M : sp_M} {q s : Nat} (h0 : s = 0) (hk : sp_kn M (3 * q + s) = 1) : sp_rd M (3 * q + s) = sp_re M (3 * q + s) (48 + s) (nz 0) ++ sp_re M (3 * q + s) 35 (nz 35) := by
  unfold sp_rd
  rw [if_pos hk, show (3 * q + s) % 3 = s by omega, if_pos h0]; rfl
theorem sp_re_len (M : sp_M) (r beh : Nat) (t : List Nat) : (sp_re M r beh t).length ≤ 3 := by
  unfold sp_re
  split <;> simp
theorem cm_makeRuleA {w : gx_W} {m : Nat} {I I' : Nat → Nat} {A A' : Nat → Nat → Nat} {ds : List (List Nat × List Nat)} {q s : Nat} (hq : q < 4) (hs : s < 3) (hM : sp_Mok (moM A)) (hk : A 1 (3 * q + s) = 1) (h : moK I A I' A' ds) (hd : ds.length + 6 ≤ 60) (h0 : ¬ s = 0) : gx_Ct M_Mo_makeRule 3 0 0 [.ref m, .int (nI q), .int (nI s)] (gx_mo w m I' A') (fun r w' => r = none ∧ ∃ I'' A'', w' = gx_mo w m I'' A'' ∧ moK I A I'' A'' (ds ++ sp_rd (moM A) (3 * q + s))) := by
  refine gx_ct (L := [some (.ref m), some (.int (nI q)), some (.int (nI s)), none, none, none, none, none, none, none, none]) (by decide) (Nat.le_of_ble_eq_true rfl) rfl ?_
  have hMr := hM (3 * q + s)
  have e2 : A 2 (3 * q + s) < 3 := hMr.2.2.1
  have e4 : A 4 (3 * q + s) ≤ 4 := hMr.2.2.2
  have hl1 := sp_let_ge q
  have hl2 := sp_let_lt (show q ≤ 4 by omega)
  have hl3 := sp_let_ge (A 4 (3 * q + s))
  have hl4 := sp_let_lt e4
  refine gx_iconst d_Mo_makeRule_0 (nI 3) (by decide) ?_
  refine gx_iload_n d_Mo_makeRule_1 rfl ?_
  refine gx_imulN d_Mo_makeRule_2 ?_
  refine gx_iload_n d_Mo_makeRule_3 rfl ?_
  refine gx_iaddN d_Mo_makeRule_4 ?_
  refine gx_istore_n d_Mo_makeRule_5 (Nat.le_of_ble_eq_true rfl) rfl ?_
  refine gx_iload_n d_Mo_makeRule_6 rfl ?_
  refine gx_cS1 lk_Mo_104 d_Mo_makeRule_7 (cm_letter (by omega)) (by omega) rfl rfl (Nat.le_of_ble_eq_true rfl) ?_
  refine gx_istore d_Mo_makeRule_10 (Nat.le_of_ble_eq_true rfl) rfl ?_
  refine gx_aload_n d_Mo_makeRule_12 rfl ?_
  refine gx_get fl_Mo_20 d_Mo_makeRule_13 mo_o rfl ?_
  refine gx_iload_n d_Mo_makeRule_16 rfl ?_
  refine gx_iald d_Mo_makeRule_17 mo_4 (by omega) (by omega) ?_
  rw [h.2.2.1.at (j := 4) (by decide)]
  refine gx_cS1 lk_Mo_104 d_Mo_makeRule_18 (cm_letter e4) (by omega) rfl rfl (Nat.le_of_ble_eq_true rfl) ?_
  refine gx_istore d_Mo_makeRule_21 (Nat.le_of_ble_eq_true rfl) rfl ?_
  refine gx_bipush d_Mo_makeRule_23 (nI 48) (by decide) ?_
  refine gx_aload_n d_Mo_makeRule_25 rfl ?_
  refine gx_get fl_Mo_13 d_Mo_makeRule_26 mo_o rfl ?_
  refine gx_iload_n d_Mo_makeRule_29 rfl ?_
  refine gx_iald d_Mo_makeRule_30 mo_2 (by omega) (by omega) ?_
  rw [h.2.2.1.at (j := 2) (by decide)]
  refine gx_iaddN d_Mo_makeRule_31 ?_
  refine gx_istore d_Mo_makeRule_32 (Nat.le_of_ble_eq_true rfl) rfl ?_
  refine gx_iconst d_Mo_makeRule_34 (nI 0) (by decide) ?_
  refine gx_istore d_Mo_makeRule_35 (Nat.le_of_ble_eq_true rfl) rfl ?_
  refine gx_iload d_Mo_makeRule_37 rfl ?_
  refine gx_iload_n d_Mo_makeRule_39 rfl ?_
  refine gx_if_neN (by omega) (tgt := 47) d_Mo_makeRule_40 (by decide) (fun h40 => ?_) (fun h40 => ?_)
  · refine gx_iconst d_Mo_makeRule_47 (nI 1) (by decide) ?_
    refine gx_icmp_geN (by omega) (by omega) (tgt := 155) d_Mo_makeRule_48 (by decide) (fun h48 => ?_) (fun h48 => ?_)
    · exact absurd h48 (by decide)
    · refine gx_iload d_Mo_makeRule_51 rfl ?_
      refine gx_if_neN (by omega) (tgt := 63) d_Mo_makeRule_53 (by decide) (fun h53 => ?_) (fun h53 => ?_)
      · exact absurd rfl h53
      · refine gx_bipush d_Mo_makeRule_56 (nI 48) (by decide) ?_
        refine gx_iload_n d_Mo_makeRule_58 rfl ?_
        refine gx_iaddN d_Mo_makeRule_59 ?_
        refine gx_goto (tgt := 65) d_Mo_makeRule_60 (by decide) ?_
        refine gx_istore d_Mo_makeRule_65 (Nat.le_of_ble_eq_true rfl) rfl ?_
        refine gx_iload d_Mo_makeRule_67 rfl ?_
        refine gx_if_neN (by omega) (tgt := 76) d_Mo_makeRule_69 (by decide) (fun h69 => ?_) (fun h69 => ?_)
        · exact absurd rfl h69
        · refine gx_iconst d_Mo_makeRule_72 (nI 0) (by decide) ?_
          refine gx_goto (tgt := 78) d_Mo_makeRule_73 (by decide) ?_
          refine gx_istore d_Mo_makeRule_78 (Nat.le_of_ble_eq_true rfl) rfl ?_
          refine sg_mr hq hs hM (by omega) (by omega) (by omega) h (by omega) (fun I1 A1 L1 h1 => ?_)
          refine gx_iincN (n := 1) d_Mo_makeRule_149 rfl (by decide) (Nat.le_of_ble_eq_true rfl) rfl ?_
          refine gx_goto (tgt := 37) d_Mo_makeRule_152 (by decide) ?_
          refine gx_iload d_Mo_makeRule_37 rfl ?_
          refine gx_iload_n d_Mo_makeRule_39 rfl ?_
          refine gx_if_neN (by omega) (tgt := 47) d_Mo_makeRule_40 (by decide) (fun h40 => ?_) (fun h40 => ?_)
          · refine gx_iconst d_Mo_makeRule_47 (nI 1) (by decide) ?_
            refine gx_icmp_geN (by omega) (by omega) (tgt := 155) d_Mo_makeRule_48 (by decide) (fun h48 => ?_) (fun h48 => ?_)
            · refine gx_return rfl d_Mo_makeRule_155 ?_
              exact ⟨rfl, _, _, rfl, by rw [sp_rd_a (M := moM A) hs h0 hk]; exact h1⟩
            · exact absurd (by decide) h48
          · exact absurd h40 h0
  · exact absurd h40 h0
theorem cm_makeRule0 {w : gx_W} {m : Nat} {I I' : Nat → Nat} {A A' : Nat → Nat → Nat} {ds : List (List Nat × List Nat)} {q s : Nat} (hq : q < 4) (hs : s < 3) (hM : sp_Mok (moM A)) (hk : A 1 (3 * q + s) = 1) (h : moK I A I' A' ds) (hd : ds.length + 6 ≤ 60) (h0 : s = 0) : gx_Ct M_Mo_makeRule 3 0 0 [.ref m, .int (nI q), .int (nI s)] (gx_mo w m I' A') (fun r w' => r = none ∧ ∃ I'' A'', w' = gx_mo w m I'' A'' ∧ moK I A I'' A'' (ds ++ sp_rd (moM A) (3 * q + s))) := by
  refine gx_ct (L := [some (.ref m), some (.int (nI q)), some (.int (nI s)), none, none, none, none, none, none, none, none]) (by decide) (Nat.le_of_ble_eq_true rfl) rfl ?_
  have hMr := hM (3 * q + s)
  have e2 : A 2 (3 * q + s) < 3 := hMr.2.2.1
  have e4 : A 4 (3 * q + s) ≤ 4 := hMr.2.2.2
  have hl1 := sp_let_ge q
  have hl2 := sp_let_lt (show q ≤ 4 by omega)
  have hl3 := sp_let_ge (A 4 (3 * q + s))
  have hl4 := sp_let_lt e4
  refine gx_iconst d_Mo_makeRule_0 (nI 3) (by decide) ?_
  refine gx_iload_n d_Mo_makeRule_1 rfl ?_
  refine gx_imulN d_Mo_makeRule_2 ?_
  refine gx_iload_n d_Mo_makeRule_3 rfl ?_
  refine gx_iaddN d_Mo_makeRule_4 ?_
  refine gx_istore_n d_Mo_makeRule_5 (Nat.le_of_ble_eq_true rfl) rfl ?_
  refine gx_iload_n d_Mo_makeRule_6 rfl ?_
  refine gx_cS1 lk_Mo_104 d_Mo_makeRule_7 (cm_letter (by omega)) (by omega) rfl rfl (Nat.le_of_ble_eq_true rfl) ?_
  refine gx_istore d_Mo_makeRule_10 (Nat.le_of_ble_eq_true rfl) rfl ?_
  refine gx_aload_n d_Mo_makeRule_12 rfl ?_
  refine gx_get fl_Mo_20 d_Mo_makeRule_13 mo_o rfl ?_
  refine gx_iload_n d_Mo_makeRule_16 rfl ?_
  refine gx_iald d_Mo_makeRule_17 mo_4 (by omega) (by omega) ?_
  rw [h.2.2.1.at (j := 4) (by decide)]
  refine gx_cS1 lk_Mo_104 d_Mo_makeRule_18 (cm_letter e4) (by omega) rfl rfl (Nat.le_of_ble_eq_true rfl) ?_
  refine gx_istore d_Mo_makeRule_21 (Nat.le_of_ble_eq_true rfl) rfl ?_
  refine gx_bipush d_Mo_makeRule_23 (nI 48) (by decide) ?_
  refine gx_aload_n d_Mo_makeRule_25 rfl ?_
  refine gx_get fl_Mo_13 d_Mo_makeRule_26 mo_o rfl ?_
  refine gx_iload_n d_Mo_makeRule_29 rfl ?_
  refine gx_iald d_Mo_makeRule_30 mo_2 (by omega) (by omega) ?_
  rw [h.2.2.1.at (j := 2) (by decide)]
  refine gx_iaddN d_Mo_makeRule_31 ?_
  refine gx_istore d_Mo_makeRule_32 (Nat.le_of_ble_eq_true rfl) rfl ?_
  refine gx_iconst d_Mo_makeRule_34 (nI 0) (by decide) ?_
  refine gx_istore d_Mo_makeRule_35 (Nat.le_of_ble_eq_true rfl) rfl ?_
  refine gx_iload d_Mo_makeRule_37 rfl ?_
  refine gx_iload_n d_Mo_makeRule_39 rfl ?_
  refine gx_if_neN (by omega) (tgt := 47) d_Mo_makeRule_40 (by decide) (fun h40 => ?_) (fun h40 => ?_)
  · exact absurd h0 h40
  · refine gx_iconst d_Mo_makeRule_43 (nI 2) (by decide) ?_
    refine gx_goto (tgt := 48) d_Mo_makeRule_44 (by decide) ?_
    refine gx_icmp_geN (by omega) (by omega) (tgt := 155) d_Mo_makeRule_48 (by decide) (fun h48 => ?_) (fun h48 => ?_)
    · exact absurd h48 (by decide)
    · refine gx_iload d_Mo_makeRule_51 rfl ?_
      refine gx_if_neN (by omega) (tgt := 63) d_Mo_makeRule_53 (by decide) (fun h53 => ?_) (fun h53 => ?_)
      · exact absurd rfl h53
      · refine gx_bipush d_Mo_makeRule_56 (nI 48) (by decide) ?_
        refine gx_iload_n d_Mo_makeRule_58 rfl ?_
        refine gx_iaddN d_Mo_makeRule_59 ?_
        refine gx_goto (tgt := 65) d_Mo_makeRule_60 (by decide) ?_
        refine gx_istore d_Mo_makeRule_65 (Nat.le_of_ble_eq_true rfl) rfl ?_
        refine gx_iload d_Mo_makeRule_67 rfl ?_
        refine gx_if_neN (by omega) (tgt := 76) d_Mo_makeRule_69 (by decide) (fun h69 => ?_) (fun h69 => ?_)
        · exact absurd rfl h69
        · refine gx_iconst d_Mo_makeRule_72 (nI 0) (by decide) ?_
          refine gx_goto (tgt := 78) d_Mo_makeRule_73 (by decide) ?_
          refine gx_istore d_Mo_makeRule_78 (Nat.le_of_ble_eq_true rfl) rfl ?_
          refine sg_mr hq hs hM (by omega) (by omega) (by omega) h (by omega) (fun I1 A1 L1 h1 => ?_)
          refine gx_iincN (n := 1) d_Mo_makeRule_149 rfl (by decide) (Nat.le_of_ble_eq_true rfl) rfl ?_
          refine gx_goto (tgt := 37) d_Mo_makeRule_152 (by decide) ?_
          refine gx_iload d_Mo_makeRule_37 rfl ?_
          refine gx_iload_n d_Mo_makeRule_39 rfl ?_
          refine gx_if_neN (by omega) (tgt := 47) d_Mo_makeRule_40 (by decide) (fun h40 => ?_) (fun h40 => ?_)
          · exact absurd h0 h40
          · refine gx_iconst d_Mo_makeRule_43 (nI 2) (by decide) ?_
            refine gx_goto (tgt := 48) d_Mo_makeRule_44 (by decide) ?_
            refine gx_icmp_geN (by omega) (by omega) (tgt := 155) d_Mo_makeRule_48 (by decide) (fun h48 => ?_) (fun h48 => ?_)
            · exact absurd h48 (by decide)
            · refine gx_iload d_Mo_makeRule_51 rfl ?_
              refine gx_if_neN (by omega) (tgt := 63) d_Mo_makeRule_53 (by decide) (fun h53 => ?_) (fun h53 => ?_)
              · refine gx_bipush d_Mo_makeRule_63 (nI 35) (by decide) ?_
                refine gx_istore d_Mo_makeRule_65 (Nat.le_of_ble_eq_true rfl) rfl ?_
                refine gx_iload d_Mo_makeRule_67 rfl ?_
                refine gx_if_neN (by omega) (tgt := 76) d_Mo_makeRule_69 (by decide) (fun h69 => ?_) (fun h69 => ?_)
                · refine gx_bipush d_Mo_makeRule_76 (nI 35) (by decide) ?_
                  refine gx_istore d_Mo_makeRule_78 (Nat.le_of_ble_eq_true rfl) rfl ?_
                  refine sg_mr hq hs hM (by omega) (by omega) (by omega) h1 (by have := sp_re_len (moM A) (3 * q + s) (48 + s) (nz 0); rw [List.length_append]; omega) (fun I2 A2 L2 h2 => ?_)
                  refine gx_iincN (n := 1) d_Mo_makeRule_149 rfl (by decide) (Nat.le_of_ble_eq_true rfl) rfl ?_
                  refine gx_goto (tgt := 37) d_Mo_makeRule_152 (by decide) ?_
                  refine gx_iload d_Mo_makeRule_37 rfl ?_
                  refine gx_iload_n d_Mo_makeRule_39 rfl ?_
                  refine gx_if_neN (by omega) (tgt := 47) d_Mo_makeRule_40 (by decide) (fun h40 => ?_) (fun h40 => ?_)
                  · exact absurd h0 h40
                  · refine gx_iconst d_Mo_makeRule_43 (nI 2) (by decide) ?_
                    refine gx_goto (tgt := 48) d_Mo_makeRule_44 (by decide) ?_
                    refine gx_icmp_geN (by omega) (by omega) (tgt := 155) d_Mo_makeRule_48 (by decide) (fun h48 => ?_) (fun h48 => ?_)
                    · refine gx_return rfl d_Mo_makeRule_155 ?_
                      exact ⟨rfl, _, _, rfl, by rw [sp_rd_0 (M := moM A) h0 hk, ← List.append_assoc]; exact h2⟩
                    · exact absurd (by decide) h48
                · exact absurd h69 (by decide)
              · exact absurd h53 (by decide)
theorem cm_makeRule {w : gx_W} {m : Nat} {I I' : Nat → Nat} {A A' : Nat → Nat → Nat} {ds : List (List Nat × List Nat)} {q s : Nat} (hq : q < 4) (hs : s < 3) (hM : sp_Mok (moM A)) (hk : A 1 (3 * q + s) = 1) (h : moK I A I' A' ds) (hd : ds.length + 6 ≤ 60) : gx_Ct M_Mo_makeRule 3 0 0 [.ref m, .int (nI q), .int (nI s)] (gx_mo w m I' A') (fun r w' => r = none ∧ ∃ I'' A'', w' = gx_mo w m I'' A'' ∧ moK I A I'' A'' (ds ++ sp_rd (moM A) (3 * q + s))) := by
  by_cases h0 : s = 0
  · exact cm_makeRule0 hq hs hM hk h hd h0
  · exact cm_makeRuleA hq hs hM hk h hd h0
theorem moK.nil {I : Nat → Nat} {A : Nat → Nat → Nat} : moK I A (sp_u I 3 0) A [] := ⟨ui_s, fun _ hk => ui_o hk, fun _ _ _ _ _ => rfl, fun _ hd => absurd hd (Nat.not_lt_zero _)⟩
theorem sp_rs_le (M : sp_M) {r : Nat} (h : r ≤ 12) : (sp_rs M r).length ≤ 48 := by
  have := sp_rs_len M r; omega
theorem sp_rs_le2 (M : sp_M) {r : Nat} (h : r < 12) : (sp_rs M r).length ≤ 45 := by
  have := sp_rs_len M r; omega
theorem sp_rd_no {M : sp_M} {r : Nat} (h : sp_kn M r = 0) : sp_rd M r = [] := by
  unfold sp_rd
  rw [if_neg (by omega)]
theorem d_Mo_makeDominoes_0 : decode prog_11_method_21_code 0 = .ok (.aload_n 0, 1) := by decide +kernel
theorem d_Mo_makeDominoes_1 : decode prog_11_method_21_code 1 = .ok (.iconst 0, 1) := by decide +kernel
theorem d_Mo_makeDominoes_2 : decode prog_11_method_21_code 2 = .ok (.putfield 139, 3) := by decide +kernel
theorem d_Mo_makeDominoes_5 : decode prog_11_method_21_code 5 = .ok (.aload_n 0, 1) := by decide +kernel
theorem d_Mo_makeDominoes_6 : decode prog_11_method_21_code 6 = .ok (.getfield 32, 3) := by decide +kernel
theorem d_Mo_makeDominoes_9 : decode prog_11_method_21_code 9 = .ok (.iconst 0, 1) := by decide +kernel
theorem d_Mo_makeDominoes_10 : decode prog_11_method_21_code 10 = .ok (.iconst 0, 1) := by decide +kernel
theorem d_Mo_makeDominoes_11 : decode prog_11_method_21_code 11 = .ok (.iastore, 1) := by decide +kernel
theorem d_Mo_makeDominoes_12 : decode prog_11_method_21_code 12 = .ok (.aload_n 0, 1) := by decide +kernel
theorem d_Mo_makeDominoes_13 : decode prog_11_method_21_code 13 = .ok (.getfield 38, 3) := by decide +kernel
theorem d_Mo_makeDominoes_16 : decode prog_11_method_21_code 16 = .ok (.iconst 0, 1) := by decide +kernel
theorem d_Mo_makeDominoes_17 : decode prog_11_method_21_code 17 = .ok (.iconst 0, 1) := by decide +kernel
theorem d_Mo_makeDominoes_18 : decode prog_11_method_21_code 18 = .ok (.iastore, 1) := by decide +kernel
theorem d_Mo_makeDominoes_19 : decode prog_11_method_21_code 19 = .ok (.aload_n 0, 1) := by decide +kernel
theorem d_Mo_makeDominoes_20 : decode prog_11_method_21_code 20 = .ok (.bipush 35, 2) := by decide +kernel
theorem d_Mo_makeDominoes_22 : decode prog_11_method_21_code 22 = .ok (.invokevirtual 142, 3) := by decide +kernel
theorem d_Mo_makeDominoes_25 : decode prog_11_method_21_code 25 = .ok (.aload_n 0, 1) := by decide +kernel
theorem d_Mo_makeDominoes_26 : decode prog_11_method_21_code 26 = .ok (.bipush 35, 2) := by decide +kernel
theorem d_Mo_makeDominoes_28 : decode prog_11_method_21_code 28 = .ok (.invokevirtual 146, 3) := by decide +kernel
theorem d_Mo_makeDominoes_31 : decode prog_11_method_21_code 31 = .ok (.iconst 0, 1) := by decide +kernel
theorem d_Mo_makeDominoes_32 : decode prog_11_method_21_code 32 = .ok (.istore_n 1, 1) := by decide +kernel
theorem d_Mo_makeDominoes_33 : decode prog_11_method_21_code 33 = .ok (.iload_n 1, 1) := by decide +kernel
theorem d_Mo_makeDominoes_34 : decode prog_11_method_21_code 34 = .ok (.aload_n 0, 1) := by decide +kernel
theorem d_Mo_makeDominoes_35 : decode prog_11_method_21_code 35 = .ok (.getfield 26, 3) := by decide +kernel
theorem d_Mo_makeDominoes_38 : decode prog_11_method_21_code 38 = .ok (.iconst 0, 1) := by decide +kernel
theorem d_Mo_makeDominoes_39 : decode prog_11_method_21_code 39 = .ok (.iaload, 1) := by decide +kernel
theorem d_Mo_makeDominoes_40 : decode prog_11_method_21_code 40 = .ok (.if_icmp .ge 19, 3) := by decide +kernel
theorem d_Mo_makeDominoes_43 : decode prog_11_method_21_code 43 = .ok (.aload_n 0, 1) := by decide +kernel
theorem d_Mo_makeDominoes_44 : decode prog_11_method_21_code 44 = .ok (.aload_n 0, 1) := by decide +kernel
theorem d_Mo_makeDominoes_45 : decode prog_11_method_21_code 45 = .ok (.getfield 29, 3) := by decide +kernel
theorem d_Mo_makeDominoes_48 : decode prog_11_method_21_code 48 = .ok (.iload_n 1, 1) := by decide +kernel
theorem d_Mo_makeDominoes_49 : decode prog_11_method_21_code 49 = .ok (.iaload, 1) := by decide +kernel
theorem d_Mo_makeDominoes_50 : decode prog_11_method_21_code 50 = .ok (.invokevirtual 146, 3) := by decide +kernel
theorem d_Mo_makeDominoes_53 : decode prog_11_method_21_code 53 = .ok (.iinc 1 1, 3) := by decide +kernel
theorem d_Mo_makeDominoes_56 : decode prog_11_method_21_code 56 = .ok (.goto (-23), 3) := by decide +kernel
theorem d_Mo_makeDominoes_59 : decode prog_11_method_21_code 59 = .ok (.aload_n 0, 1) := by decide +kernel
theorem d_Mo_makeDominoes_60 : decode prog_11_method_21_code 60 = .ok (.bipush 35, 2) := by decide +kernel
theorem d_Mo_makeDominoes_62 : decode prog_11_method_21_code 62 = .ok (.invokevirtual 146, 3) := by decide +kernel
theorem d_Mo_makeDominoes_65 : decode prog_11_method_21_code 65 = .ok (.aload_n 0, 1) := by decide +kernel
theorem d_Mo_makeDominoes_66 : decode prog_11_method_21_code 66 = .ok (.iconst 1, 1) := by decide +kernel
theorem d_Mo_makeDominoes_67 : decode prog_11_method_21_code 67 = .ok (.putfield 139, 3) := by decide +kernel
theorem d_Mo_makeDominoes_70 : decode prog_11_method_21_code 70 = .ok (.aload_n 0, 1) := by decide +kernel
theorem d_Mo_makeDominoes_71 : decode prog_11_method_21_code 71 = .ok (.bipush 35, 2) := by decide +kernel
theorem d_Mo_makeDominoes_73 : decode prog_11_method_21_code 73 = .ok (.iconst 0, 1) := by decide +kernel
theorem d_Mo_makeDominoes_74 : decode prog_11_method_21_code 74 = .ok (.iconst 0, 1) := by decide +kernel
theorem d_Mo_makeDominoes_75 : decode prog_11_method_21_code 75 = .ok (.bipush 35, 2) := by decide +kernel
theorem d_Mo_makeDominoes_77 : decode prog_11_method_21_code 77 = .ok (.iconst 0, 1) := by decide +kernel
theorem d_Mo_makeDominoes_78 : decode prog_11_method_21_code 78 = .ok (.iconst 0, 1) := by decide +kernel
theorem d_Mo_makeDominoes_79 : decode prog_11_method_21_code 79 = .ok (.iconst 0, 1) := by decide +kernel
theorem d_Mo_makeDominoes_80 : decode prog_11_method_21_code 80 = .ok (.invokevirtual 149, 3) := by decide +kernel
theorem d_Mo_makeDominoes_83 : decode prog_11_method_21_code 83 = .ok (.bipush 48, 2) := by decide +kernel
theorem d_Mo_makeDominoes_85 : decode prog_11_method_21_code 85 = .ok (.istore_n 1, 1) := by decide +kernel
theorem d_Mo_makeDominoes_86 : decode prog_11_method_21_code 86 = .ok (.iload_n 1, 1) := by decide +kernel
theorem d_Mo_makeDominoes_87 : decode prog_11_method_21_code 87 = .ok (.bipush 50, 2) := by decide +kernel
theorem d_Mo_makeDominoes_89 : decode prog_11_method_21_code 89 = .ok (.if_icmp .gt 20, 3) := by decide +kernel
theorem d_Mo_makeDominoes_92 : decode prog_11_method_21_code 92 = .ok (.aload_n 0, 1) := by decide +kernel
theorem d_Mo_makeDominoes_93 : decode prog_11_method_21_code 93 = .ok (.iload_n 1, 1) := by decide +kernel
theorem d_Mo_makeDominoes_94 : decode prog_11_method_21_code 94 = .ok (.iconst 0, 1) := by decide +kernel
theorem d_Mo_makeDominoes_95 : decode prog_11_method_21_code 95 = .ok (.iconst 0, 1) := by decide +kernel
theorem d_Mo_makeDominoes_96 : decode prog_11_method_21_code 96 = .ok (.iload_n 1, 1) := by decide +kernel
theorem d_Mo_makeDominoes_97 : decode prog_11_method_21_code 97 = .ok (.iconst 0, 1) := by decide +kernel
theorem d_Mo_makeDominoes_98 : decode prog_11_method_21_code 98 = .ok (.iconst 0, 1) := by decide +kernel
theorem d_Mo_makeDominoes_99 : decode prog_11_method_21_code 99 = .ok (.iconst 0, 1) := by decide +kernel
theorem d_Mo_makeDominoes_100 : decode prog_11_method_21_code 100 = .ok (.invokevirtual 149, 3) := by decide +kernel
theorem d_Mo_makeDominoes_103 : decode prog_11_method_21_code 103 = .ok (.iinc 1 1, 3) := by decide +kernel
theorem d_Mo_makeDominoes_106 : decode prog_11_method_21_code 106 = .ok (.goto (-20), 3) := by decide +kernel
theorem d_Mo_makeDominoes_109 : decode prog_11_method_21_code 109 = .ok (.iconst 0, 1) := by decide +kernel
theorem d_Mo_makeDominoes_110 : decode prog_11_method_21_code 110 = .ok (.istore_n 1, 1) := by decide +kernel
theorem d_Mo_makeDominoes_111 : decode prog_11_method_21_code 111 = .ok (.iload_n 1, 1) := by decide +kernel
theorem d_Mo_makeDominoes_112 : decode prog_11_method_21_code 112 = .ok (.iconst 4, 1) := by decide +kernel
theorem d_Mo_makeDominoes_113 : decode prog_11_method_21_code 113 = .ok (.if_icmp .ge 41, 3) := by decide +kernel
theorem d_Mo_makeDominoes_116 : decode prog_11_method_21_code 116 = .ok (.iconst 0, 1) := by decide +kernel
theorem d_Mo_makeDominoes_117 : decode prog_11_method_21_code 117 = .ok (.istore_n 2, 1) := by decide +kernel
theorem d_Mo_makeDominoes_118 : decode prog_11_method_21_code 118 = .ok (.iload_n 2, 1) := by decide +kernel
theorem d_Mo_makeDominoes_119 : decode prog_11_method_21_code 119 = .ok (.iconst 3, 1) := by decide +kernel
theorem d_Mo_makeDominoes_120 : decode prog_11_method_21_code 120 = .ok (.if_icmp .ge 28, 3) := by decide +kernel
theorem d_Mo_makeDominoes_123 : decode prog_11_method_21_code 123 = .ok (.aload_n 0, 1) := by decide +kernel
theorem d_Mo_makeDominoes_124 : decode prog_11_method_21_code 124 = .ok (.getfield 7, 3) := by decide +kernel
theorem d_Mo_makeDominoes_127 : decode prog_11_method_21_code 127 = .ok (.iconst 3, 1) := by decide +kernel
theorem d_Mo_makeDominoes_128 : decode prog_11_method_21_code 128 = .ok (.iload_n 1, 1) := by decide +kernel
theorem d_Mo_makeDominoes_129 : decode prog_11_method_21_code 129 = .ok (.imul, 1) := by decide +kernel
theorem d_Mo_makeDominoes_130 : decode prog_11_method_21_code 130 = .ok (.iload_n 2, 1) := by decide +kernel
theorem d_Mo_makeDominoes_131 : decode prog_11_method_21_code 131 = .ok (.iadd, 1) := by decide +kernel
theorem d_Mo_makeDominoes_132 : decode prog_11_method_21_code 132 = .ok (.baload, 1) := by decide +kernel
theorem d_Mo_makeDominoes_133 : decode prog_11_method_21_code 133 = .ok (.ifCond .eq 9, 3) := by decide +kernel
theorem d_Mo_makeDominoes_136 : decode prog_11_method_21_code 136 = .ok (.aload_n 0, 1) := by decide +kernel
theorem d_Mo_makeDominoes_137 : decode prog_11_method_21_code 137 = .ok (.iload_n 1, 1) := by decide +kernel
theorem d_Mo_makeDominoes_138 : decode prog_11_method_21_code 138 = .ok (.iload_n 2, 1) := by decide +kernel
theorem d_Mo_makeDominoes_139 : decode prog_11_method_21_code 139 = .ok (.invokevirtual 153, 3) := by decide +kernel
theorem d_Mo_makeDominoes_142 : decode prog_11_method_21_code 142 = .ok (.iinc 2 1, 3) := by decide +kernel
theorem d_Mo_makeDominoes_145 : decode prog_11_method_21_code 145 = .ok (.goto (-27), 3) := by decide +kernel
theorem d_Mo_makeDominoes_148 : decode prog_11_method_21_code 148 = .ok (.iinc 1 1, 3) := by decide +kernel
theorem d_Mo_makeDominoes_151 : decode prog_11_method_21_code 151 = .ok (.goto (-40), 3) := by decide +kernel
theorem d_Mo_makeDominoes_154 : decode prog_11_method_21_code 154 = .ok (.bipush 48, 2) := by decide +kernel
theorem d_Mo_makeDominoes_156 : decode prog_11_method_21_code 156 = .ok (.istore_n 1, 1) := by decide +kernel
theorem d_Mo_makeDominoes_157 : decode prog_11_method_21_code 157 = .ok (.iload_n 1, 1) := by decide +kernel
theorem d_Mo_makeDominoes_158 : decode prog_11_method_21_code 158 = .ok (.bipush 50, 2) := by decide +kernel
theorem d_Mo_makeDominoes_160 : decode prog_11_method_21_code 160 = .ok (.if_icmp .gt 22, 3) := by decide +kernel
theorem d_Mo_makeDominoes_163 : decode prog_11_method_21_code 163 = .ok (.aload_n 0, 1) := by decide +kernel
theorem d_Mo_makeDominoes_164 : decode prog_11_method_21_code 164 = .ok (.iload_n 1, 1) := by decide +kernel
theorem d_Mo_makeDominoes_165 : decode prog_11_method_21_code 165 = .ok (.bipush 104, 2) := by decide +kernel
theorem d_Mo_makeDominoes_167 : decode prog_11_method_21_code 167 = .ok (.iconst 0, 1) := by decide +kernel
theorem d_Mo_makeDominoes_168 : decode prog_11_method_21_code 168 = .ok (.bipush 104, 2) := by decide +kernel
theorem d_Mo_makeDominoes_170 : decode prog_11_method_21_code 170 = .ok (.iconst 0, 1) := by decide +kernel
theorem d_Mo_makeDominoes_171 : decode prog_11_method_21_code 171 = .ok (.iconst 0, 1) := by decide +kernel
theorem d_Mo_makeDominoes_172 : decode prog_11_method_21_code 172 = .ok (.iconst 0, 1) := by decide +kernel
theorem d_Mo_makeDominoes_173 : decode prog_11_method_21_code 173 = .ok (.invokevirtual 149, 3) := by decide +kernel
theorem d_Mo_makeDominoes_176 : decode prog_11_method_21_code 176 = .ok (.iinc 1 1, 3) := by decide +kernel
theorem d_Mo_makeDominoes_179 : decode prog_11_method_21_code 179 = .ok (.goto (-22), 3) := by decide +kernel
theorem d_Mo_makeDominoes_182 : decode prog_11_method_21_code 182 = .ok (.bipush 48, 2) := by decide +kernel
theorem d_Mo_makeDominoes_184 : decode prog_11_method_21_code 184 = .ok (.istore_n 1, 1) := by decide +kernel
theorem d_Mo_makeDominoes_185 : decode prog_11_method_21_code 185 = .ok (.iload_n 1, 1) := by decide +kernel
theorem d_Mo_makeDominoes_186 : decode prog_11_method_21_code 186 = .ok (.bipush 50, 2) := by decide +kernel
theorem d_Mo_makeDominoes_188 : decode prog_11_method_21_code 188 = .ok (.if_icmp .gt 22, 3) := by decide +kernel
theorem d_Mo_makeDominoes_191 : decode prog_11_method_21_code 191 = .ok (.aload_n 0, 1) := by decide +kernel
theorem d_Mo_makeDominoes_192 : decode prog_11_method_21_code 192 = .ok (.bipush 104, 2) := by decide +kernel
theorem d_Mo_makeDominoes_194 : decode prog_11_method_21_code 194 = .ok (.iload_n 1, 1) := by decide +kernel
theorem d_Mo_makeDominoes_195 : decode prog_11_method_21_code 195 = .ok (.iconst 0, 1) := by decide +kernel
theorem d_Mo_makeDominoes_196 : decode prog_11_method_21_code 196 = .ok (.bipush 104, 2) := by decide +kernel
theorem d_Mo_makeDominoes_198 : decode prog_11_method_21_code 198 = .ok (.iconst 0, 1) := by decide +kernel
theorem d_Mo_makeDominoes_199 : decode prog_11_method_21_code 199 = .ok (.iconst 0, 1) := by decide +kernel
theorem d_Mo_makeDominoes_200 : decode prog_11_method_21_code 200 = .ok (.iconst 0, 1) := by decide +kernel
theorem d_Mo_makeDominoes_201 : decode prog_11_method_21_code 201 = .ok (.invokevirtual 149, 3) := by decide +kernel
theorem d_Mo_makeDominoes_204 : decode prog_11_method_21_code 204 = .ok (.iinc 1 1, 3) := by decide +kernel
theorem d_Mo_makeDominoes_207 : decode prog_11_method_21_code 207 = .ok (.goto (-22), 3) := by decide +kernel
theorem d_Mo_makeDominoes_210 : decode prog_11_method_21_code 210 = .ok (.aload_n 0, 1) := by decide +kernel
theorem d_Mo_makeDominoes_211 : decode prog_11_method_21_code 211 = .ok (.bipush 104, 2) := by decide +kernel
theorem d_Mo_makeDominoes_213 : decode prog_11_method_21_code 213 = .ok (.bipush 35, 2) := by decide +kernel
theorem d_Mo_makeDominoes_215 : decode prog_11_method_21_code 215 = .ok (.bipush 35, 2) := by decide +kernel
theorem d_Mo_makeDominoes_217 : decode prog_11_method_21_code 217 = .ok (.bipush 35, 2) := by decide +kernel
theorem d_Mo_makeDominoes_219 : decode prog_11_method_21_code 219 = .ok (.iconst 0, 1) := by decide +kernel
theorem d_Mo_makeDominoes_220 : decode prog_11_method_21_code 220 = .ok (.iconst 0, 1) := by decide +kernel
theorem d_Mo_makeDominoes_221 : decode prog_11_method_21_code 221 = .ok (.iconst 0, 1) := by decide +kernel
theorem d_Mo_makeDominoes_222 : decode prog_11_method_21_code 222 = .ok (.invokevirtual 149, 3) := by decide +kernel
theorem d_Mo_makeDominoes_225 : decode prog_11_method_21_code 225 = .ok (.return_, 1) := by decide +kernel
theorem lm_md1 {Q : gx_P} {w : gx_W} {m : Nat} {I : Nat → Nat} {A : Nat → Nat → Nat} {I' : Nat → Nat} {c : sp_C} {L2 : Option Value} (hI : I' 3 = 0) (hc : sp_ok c) (hl : sp_len c ≤ 5) (hT : moT A 0 c) : ∀ (fu : Nat) (i : Nat) (A' : Nat → Nat → Nat), sp_len c - i < fu → (i ≤ sp_len c) → (moJ A A' [] [35] (35 :: (sp_txt c).take i)) → (∀ A'' L1, moJ A A'' [] [35] (35 :: sp_txt c) → gx_X (fun _ _ => True) M_Mo_makeDominoes 4 Q 59 [some (.ref m), L1, L2] [] (gx_mo w m I' A'') (0, 0)) → gx_X (fun _ _ => True) M_Mo_makeDominoes 4 Q 33 [some (.ref m), some (.int (nI i)), L2] [] (gx_mo w m I' A') (0, 0) := by
  intro fu
  induction fu with
  | zero => intro i A' hfu; exact absurd hfu (Nat.not_lt_zero _)
  | succ fu ih =>
    intro i A' hfu hi h hX
    have hsz := sp_txt_len c
    have hsm := gx_sm_at (sp_txt_sm hc) i
    have htk : ((sp_txt c).take i).length = i := by rw [List.length_take]; omega
    refine gx_iload_n d_Mo_makeDominoes_33 rfl ?_
    refine gx_aload_n d_Mo_makeDominoes_34 rfl ?_
    refine gx_get fl_Mo_26 d_Mo_makeDominoes_35 mo_o rfl ?_
    refine gx_iconst d_Mo_makeDominoes_38 (nI 0) (by decide) ?_
    refine gx_iald d_Mo_makeDominoes_39 mo_6 (by omega) (by omega) ?_
    rw [h.1.at (j := 6) (by decide), hT.1]
    refine gx_icmp_geN (by omega) (by omega) (tgt := 59) d_Mo_makeDominoes_40 (by decide) (fun h40 => ?_) (fun h40 => ?_)
    · rw [show i = (sp_txt c).length by omega, List.take_of_length_le (Nat.le_refl _)] at h
      exact hX _ _ h
    · refine gx_aload_n d_Mo_makeDominoes_43 rfl ?_
      refine gx_aload_n d_Mo_makeDominoes_44 rfl ?_
      refine gx_get fl_Mo_29 d_Mo_makeDominoes_45 mo_o rfl ?_
      refine gx_iload_n d_Mo_makeDominoes_48 rfl ?_
      refine gx_iald d_Mo_makeDominoes_49 mo_7 (by omega) (by omega) ?_
      rw [h.1.at (j := 7) (by decide), show i = 12 * 0 + i by omega, hT.2 i (by omega), ← show i = 12 * 0 + i by omega]
      refine gx_cVr lk_Mo_146 d_Mo_makeDominoes_50 (cm_addLower (ds := []) hI (by decide) h (by rw [List.length_cons, htk]; omega)) (Or.inl ⟨_, mo_o⟩) (by omega) rfl rfl (Nat.le_of_ble_eq_true rfl) (fun r2 w2 hq => ?_)
      obtain ⟨rfl, A2, rfl, h2⟩ := hq
      refine gx_iincN (n := 1) d_Mo_makeDominoes_53 rfl (by decide) (Nat.le_of_ble_eq_true rfl) rfl ?_
      refine gx_goto (tgt := 33) d_Mo_makeDominoes_56 (by decide) ?_
      refine ih (i + 1) _ (by omega) (by omega) ?_ hX
      rw [gx_take_succ (by omega), ← List.cons_append]
      exact h2
theorem lm_md2 {Q : gx_P} {w : gx_W} {m : Nat} {I : Nat → Nat} {A : Nat → Nat → Nat} {t : List Nat} (hM : sp_Mok (moM A))  : ∀ (fu : Nat) (q : Nat) (s : Nat) (I' : Nat → Nat) (A' : Nat → Nat → Nat), 16 - (4 * q + s) < fu → (q < 4) → (s ≤ 3) → (moK I A I' A' (sp_hd t ++ sp_rs (moM A) (3 * q + s))) → (∀ I'' A'' L1 L2, moK I A I'' A'' (sp_hd t ++ sp_rs (moM A) 12) → gx_X (fun _ _ => True) M_Mo_makeDominoes 4 Q 154 [some (.ref m), L1, L2] [] (gx_mo w m I'' A'') (0, 0)) → gx_X (fun _ _ => True) M_Mo_makeDominoes 4 Q 118 [some (.ref m), some (.int (nI q)), some (.int (nI s))] [] (gx_mo w m I' A') (0, 0) := by
  intro fu
  induction fu with
  | zero => intro q s I' A' hfu; exact absurd hfu (Nat.not_lt_zero _)
  | succ fu ih =>
    intro q s I' A' hfu hq hs h hX
    have hk1 : A 1 (3 * q + s) ≤ 1 := (hM _).1
    refine gx_iload_n d_Mo_makeDominoes_118 rfl ?_
    refine gx_iconst d_Mo_makeDominoes_119 (nI 3) (by decide) ?_
    refine gx_icmp_geN (by omega) (by omega) (tgt := 148) d_Mo_makeDominoes_120 (by decide) (fun h120 => ?_) (fun h120 => ?_)
    · refine gx_iincN (n := 1) d_Mo_makeDominoes_148 rfl (by decide) (Nat.le_of_ble_eq_true rfl) rfl ?_
      refine gx_goto (tgt := 111) d_Mo_makeDominoes_151 (by decide) ?_
      refine gx_iload_n d_Mo_makeDominoes_111 rfl ?_
      refine gx_iconst d_Mo_makeDominoes_112 (nI 4) (by decide) ?_
      refine gx_icmp_geN (by omega) (by omega) (tgt := 154) d_Mo_makeDominoes_113 (by decide) (fun h113 => ?_) (fun h113 => ?_)
      · obtain rfl : s = 3 := by omega
        obtain rfl : q = 3 := by omega
        exact hX _ _ _ _ h
      · refine gx_iconst d_Mo_makeDominoes_116 (nI 0) (by decide) ?_
        refine gx_istore_n d_Mo_makeDominoes_117 (Nat.le_of_ble_eq_true rfl) rfl ?_
        obtain rfl : s = 3 := by omega
        exact ih (q + 1) 0 _ _ (by omega) (by omega) (by omega) h hX
    · refine gx_aload_n d_Mo_makeDominoes_123 rfl ?_
      refine gx_get fl_Mo_7 d_Mo_makeDominoes_124 mo_o rfl ?_
      refine gx_iconst d_Mo_makeDominoes_127 (nI 3) (by decide) ?_
      refine gx_iload_n d_Mo_makeDominoes_128 rfl ?_
      refine gx_imulN d_Mo_makeDominoes_129 ?_
      refine gx_iload_n d_Mo_makeDominoes_130 rfl ?_
      refine gx_iaddN d_Mo_makeDominoes_131 ?_
      refine gx_zald d_Mo_makeDominoes_132 mo_1 (by omega) (by omega) ?_
      rw [h.2.2.1.at (j := 1) (by decide)]
      refine gx_if_eqN (by omega) (tgt := 142) d_Mo_makeDominoes_133 (by decide) (fun h133 => ?_) (fun h133 => ?_)
      · refine gx_iincN (n := 1) d_Mo_makeDominoes_142 rfl (by decide) (Nat.le_of_ble_eq_true rfl) rfl ?_
        refine gx_goto (tgt := 118) d_Mo_makeDominoes_145 (by decide) ?_
        refine ih q (s + 1) _ _ (by omega) hq (by omega) ?_ hX
        rw [show 3 * q + (s + 1) = 3 * q + s + 1 by omega, sp_rs_succ, sp_rd_no (M := moM A) h133, List.append_nil]
        exact h
      · refine gx_aload_n d_Mo_makeDominoes_136 rfl ?_
        refine gx_iload_n d_Mo_makeDominoes_137 rfl ?_
        refine gx_iload_n d_Mo_makeDominoes_138 rfl ?_
        refine gx_cVr lk_Mo_153 d_Mo_makeDominoes_139 (cm_makeRule hq (by omega) hM (by omega) h (by have := sp_rs_le2 (moM A) (show 3 * q + s < 12 by omega); rw [List.length_append]; show 5 + _ + 6 ≤ 60; omega)) (Or.inl ⟨_, mo_o⟩) (by omega) rfl rfl (Nat.le_of_ble_eq_true rfl) (fun r2 w2 hq => ?_)
        obtain ⟨rfl, I2, A2, rfl, h2⟩ := hq
        refine gx_iincN (n := 1) d_Mo_makeDominoes_142 rfl (by decide) (Nat.le_of_ble_eq_true rfl) rfl ?_
        refine gx_goto (tgt := 118) d_Mo_makeDominoes_145 (by decide) ?_
        refine ih q (s + 1) _ _ (by omega) hq (by omega) ?_ hX
        rw [show 3 * q + (s + 1) = 3 * q + s + 1 by omega, sp_rs_succ, ← List.append_assoc]
        exact h2
theorem cm_makeDominoes {w : gx_W} {m : Nat} {I : Nat → Nat} {A : Nat → Nat → Nat} {c : sp_C} (hM : sp_Mok (moM A)) (hc : sp_ok c) (hl : sp_len c ≤ 5) (hT : moT A 0 c) : gx_Ct M_Mo_makeDominoes 4 0 0 [.ref m] (gx_mo w m I A) (fun r w' => r = none ∧ ∃ I'' A'', w' = gx_mo w m I'' A'' ∧ moK I A I'' A'' (sp_dom (moM A) (sp_txt c))) := by
  refine gx_ct (L := [some (.ref m), none, none]) (by decide) (Nat.le_of_ble_eq_true rfl) rfl ?_
  refine gx_aload_n d_Mo_makeDominoes_0 rfl ?_
  refine gx_iconst d_Mo_makeDominoes_1 (nI 0) (by decide) ?_
  refine gx_put fp_Mo_139 (fun h => by cases h) d_Mo_makeDominoes_2 mo_o rfl rfl (Nat.le_of_ble_eq_true rfl) ?_
  refine gx_w mo_p3 ?_
  refine gx_aload_n d_Mo_makeDominoes_5 rfl ?_
  refine gx_get fl_Mo_32 d_Mo_makeDominoes_6 mo_o rfl ?_
  refine gx_iconst d_Mo_makeDominoes_9 (nI 0) (by decide) ?_
  refine gx_iconst d_Mo_makeDominoes_10 (nI 0) (by decide) ?_
  refine gx_iast d_Mo_makeDominoes_11 mo_8 (by omega) (by omega) ?_
  refine gx_w mo_s8 ?_
  refine gx_aload_n d_Mo_makeDominoes_12 rfl ?_
  refine gx_get fl_Mo_38 d_Mo_makeDominoes_13 mo_o rfl ?_
  refine gx_iconst d_Mo_makeDominoes_16 (nI 0) (by decide) ?_
  refine gx_iconst d_Mo_makeDominoes_17 (nI 0) (by decide) ?_
  refine gx_iast d_Mo_makeDominoes_18 mo_10 (by omega) (by omega) ?_
  refine gx_w mo_s10 ?_
  have hj0 := (moK.nil (I := I) (A := A)).start
  refine gx_aload_n d_Mo_makeDominoes_19 rfl ?_
  refine gx_bipush d_Mo_makeDominoes_20 (nI 35) (by decide) ?_
  refine gx_cVr lk_Mo_142 d_Mo_makeDominoes_22 (cm_addUpper ui_s (by decide) hj0 (by decide)) (Or.inl ⟨_, mo_o⟩) (by omega) rfl rfl (Nat.le_of_ble_eq_true rfl) (fun r2 w2 hq => ?_)
  obtain ⟨rfl, A1, rfl, hj1⟩ := hq
  refine gx_aload_n d_Mo_makeDominoes_25 rfl ?_
  refine gx_bipush d_Mo_makeDominoes_26 (nI 35) (by decide) ?_
  refine gx_cVr lk_Mo_146 d_Mo_makeDominoes_28 (cm_addLower ui_s (by decide) hj1 (by decide)) (Or.inl ⟨_, mo_o⟩) (by omega) rfl rfl (Nat.le_of_ble_eq_true rfl) (fun r2 w2 hq => ?_)
  obtain ⟨rfl, A2, rfl, hj2⟩ := hq
  refine gx_iconst d_Mo_makeDominoes_31 (nI 0) (by decide) ?_
  refine gx_istore_n d_Mo_makeDominoes_32 (Nat.le_of_ble_eq_true rfl) rfl ?_
  refine lm_md1 (I := I) ui_s hc hl hT (sp_len c + 1) 0 _ (by omega) (Nat.zero_le _) hj2 (fun A3 L1 hj3 => ?_)
  refine gx_aload_n d_Mo_makeDominoes_59 rfl ?_
  refine gx_bipush d_Mo_makeDominoes_60 (nI 35) (by decide) ?_
  refine gx_cVr lk_Mo_146 d_Mo_makeDominoes_62 (cm_addLower ui_s (by decide) hj3 (by rw [List.length_cons, sp_txt_len]; omega)) (Or.inl ⟨_, mo_o⟩) (by omega) rfl rfl (Nat.le_of_ble_eq_true rfl) (fun r2 w2 hq => ?_)
  obtain ⟨rfl, A4, rfl, hj4⟩ := hq
  refine gx_aload_n d_Mo_makeDominoes_65 rfl ?_
  refine gx_iconst d_Mo_makeDominoes_66 (nI 1) (by decide) ?_
  refine gx_put fp_Mo_139 (fun h => by cases h) d_Mo_makeDominoes_67 mo_o rfl rfl (Nat.le_of_ble_eq_true rfl) ?_
  refine gx_w mo_p3 ?_
  have h5 := moJ.done (I := I) (A := A) moK.nil hj4 (by decide) (by rw [List.length_append, List.length_cons, sp_txt_len]; show _ + 1 + 1 ≤ 7; omega)
  refine gx_aload_n d_Mo_makeDominoes_70 rfl ?_
  refine gx_bipush d_Mo_makeDominoes_71 (nI 35) (by decide) ?_
  refine gx_iconst d_Mo_makeDominoes_73 (nI 0) (by decide) ?_
  refine gx_iconst d_Mo_makeDominoes_74 (nI 0) (by decide) ?_
  refine gx_bipush d_Mo_makeDominoes_75 (nI 35) (by decide) ?_
  refine gx_iconst d_Mo_makeDominoes_77 (nI 0) (by decide) ?_
  refine gx_iconst d_Mo_makeDominoes_78 (nI 0) (by decide) ?_
  refine gx_iconst d_Mo_makeDominoes_79 (nI 0) (by decide) ?_
  refine gx_cVr lk_Mo_149 d_Mo_makeDominoes_80 (cm_make h5 (by simp) (by omega) (by omega) (by omega) (by omega) (by omega) (by omega) (by omega)) (Or.inl ⟨_, mo_o⟩) (by omega) rfl rfl (Nat.le_of_ble_eq_true rfl) (fun r2 w2 hq => ?_)
  obtain ⟨rfl, I6, A6, rfl, h6⟩ := hq
  refine gx_bipush d_Mo_makeDominoes_83 (nI 48) (by decide) ?_
  refine gx_istore_n d_Mo_makeDominoes_85 (Nat.le_of_ble_eq_true rfl) rfl ?_
  refine gx_iload_n d_Mo_makeDominoes_86 rfl ?_
  refine gx_bipush d_Mo_makeDominoes_87 (nI 50) (by decide) ?_
  refine gx_icmp_gtN (by omega) (by omega) (tgt := 109) d_Mo_makeDominoes_89 (by decide) (fun h89 => ?_) (fun h89 => ?_)
  · exact absurd h89 (by decide)
  · refine gx_aload_n d_Mo_makeDominoes_92 rfl ?_
    refine gx_iload_n d_Mo_makeDominoes_93 rfl ?_
    refine gx_iconst d_Mo_makeDominoes_94 (nI 0) (by decide) ?_
    refine gx_iconst d_Mo_makeDominoes_95 (nI 0) (by decide) ?_
    refine gx_iload_n d_Mo_makeDominoes_96 rfl ?_
    refine gx_iconst d_Mo_makeDominoes_97 (nI 0) (by decide) ?_
    refine gx_iconst d_Mo_makeDominoes_98 (nI 0) (by decide) ?_
    refine gx_iconst d_Mo_makeDominoes_99 (nI 0) (by decide) ?_
    refine gx_cVr lk_Mo_149 d_Mo_makeDominoes_100 (cm_make h6 (by simp) (by omega) (by omega) (by omega) (by omega) (by omega) (by omega) (by omega)) (Or.inl ⟨_, mo_o⟩) (by omega) rfl rfl (Nat.le_of_ble_eq_true rfl) (fun r2 w2 hq => ?_)
    obtain ⟨rfl, I7, A7, rfl, h7⟩ := hq
    refine gx_iincN (n := 1) d_Mo_makeDominoes_103 rfl (by decide) (Nat.le_of_ble_eq_true rfl) rfl ?_
    refine gx_goto (tgt := 86) d_Mo_makeDominoes_106 (by decide) ?_
    refine gx_iload_n d_Mo_makeDominoes_86 rfl ?_
    refine gx_bipush d_Mo_makeDominoes_87 (nI 50) (by decide) ?_
    refine gx_icmp_gtN (by omega) (by omega) (tgt := 109) d_Mo_makeDominoes_89 (by decide) (fun h89 => ?_) (fun h89 => ?_)
    · exact absurd h89 (by decide)
    · refine gx_aload_n d_Mo_makeDominoes_92 rfl ?_
      refine gx_iload_n d_Mo_makeDominoes_93 rfl ?_
      refine gx_iconst d_Mo_makeDominoes_94 (nI 0) (by decide) ?_
      refine gx_iconst d_Mo_makeDominoes_95 (nI 0) (by decide) ?_
      refine gx_iload_n d_Mo_makeDominoes_96 rfl ?_
      refine gx_iconst d_Mo_makeDominoes_97 (nI 0) (by decide) ?_
      refine gx_iconst d_Mo_makeDominoes_98 (nI 0) (by decide) ?_
      refine gx_iconst d_Mo_makeDominoes_99 (nI 0) (by decide) ?_
      refine gx_cVr lk_Mo_149 d_Mo_makeDominoes_100 (cm_make h7 (by simp) (by omega) (by omega) (by omega) (by omega) (by omega) (by omega) (by omega)) (Or.inl ⟨_, mo_o⟩) (by omega) rfl rfl (Nat.le_of_ble_eq_true rfl) (fun r2 w2 hq => ?_)
      obtain ⟨rfl, I8, A8, rfl, h8⟩ := hq
      refine gx_iincN (n := 1) d_Mo_makeDominoes_103 rfl (by decide) (Nat.le_of_ble_eq_true rfl) rfl ?_
      refine gx_goto (tgt := 86) d_Mo_makeDominoes_106 (by decide) ?_
      refine gx_iload_n d_Mo_makeDominoes_86 rfl ?_
      refine gx_bipush d_Mo_makeDominoes_87 (nI 50) (by decide) ?_
      refine gx_icmp_gtN (by omega) (by omega) (tgt := 109) d_Mo_makeDominoes_89 (by decide) (fun h89 => ?_) (fun h89 => ?_)
      · exact absurd h89 (by decide)
      · refine gx_aload_n d_Mo_makeDominoes_92 rfl ?_
        refine gx_iload_n d_Mo_makeDominoes_93 rfl ?_
        refine gx_iconst d_Mo_makeDominoes_94 (nI 0) (by decide) ?_
        refine gx_iconst d_Mo_makeDominoes_95 (nI 0) (by decide) ?_
        refine gx_iload_n d_Mo_makeDominoes_96 rfl ?_
        refine gx_iconst d_Mo_makeDominoes_97 (nI 0) (by decide) ?_
        refine gx_iconst d_Mo_makeDominoes_98 (nI 0) (by decide) ?_
        refine gx_iconst d_Mo_makeDominoes_99 (nI 0) (by decide) ?_
        refine gx_cVr lk_Mo_149 d_Mo_makeDominoes_100 (cm_make h8 (by simp) (by omega) (by omega) (by omega) (by omega) (by omega) (by omega) (by omega)) (Or.inl ⟨_, mo_o⟩) (by omega) rfl rfl (Nat.le_of_ble_eq_true rfl) (fun r2 w2 hq => ?_)
        obtain ⟨rfl, I9, A9, rfl, h9⟩ := hq
        refine gx_iincN (n := 1) d_Mo_makeDominoes_103 rfl (by decide) (Nat.le_of_ble_eq_true rfl) rfl ?_
        refine gx_goto (tgt := 86) d_Mo_makeDominoes_106 (by decide) ?_
        refine gx_iload_n d_Mo_makeDominoes_86 rfl ?_
        refine gx_bipush d_Mo_makeDominoes_87 (nI 50) (by decide) ?_
        refine gx_icmp_gtN (by omega) (by omega) (tgt := 109) d_Mo_makeDominoes_89 (by decide) (fun h89 => ?_) (fun h89 => ?_)
        · refine gx_iconst d_Mo_makeDominoes_109 (nI 0) (by decide) ?_
          refine gx_istore_n d_Mo_makeDominoes_110 (Nat.le_of_ble_eq_true rfl) rfl ?_
          refine gx_iload_n d_Mo_makeDominoes_111 rfl ?_
          refine gx_iconst d_Mo_makeDominoes_112 (nI 4) (by decide) ?_
          refine gx_icmp_geN (by omega) (by omega) (tgt := 154) d_Mo_makeDominoes_113 (by decide) (fun h113 => ?_) (fun h113 => ?_)
          · exact absurd h113 (by decide)
          · refine gx_iconst d_Mo_makeDominoes_116 (nI 0) (by decide) ?_
            refine gx_istore_n d_Mo_makeDominoes_117 (Nat.le_of_ble_eq_true rfl) rfl ?_
            refine lm_md2 hM 17 0 0 _ _ (by decide) (by decide) (by decide) (show moK I A I9 A9 (sp_hd (sp_txt c) ++ sp_rs (moM A) (3 * 0 + 0)) from h9) (fun I10 A10 L1 L2 h10 => ?_)
            refine gx_bipush d_Mo_makeDominoes_154 (nI 48) (by decide) ?_
            refine gx_istore_n d_Mo_makeDominoes_156 (Nat.le_of_ble_eq_true rfl) rfl ?_
            refine gx_iload_n d_Mo_makeDominoes_157 rfl ?_
            refine gx_bipush d_Mo_makeDominoes_158 (nI 50) (by decide) ?_
            refine gx_icmp_gtN (by omega) (by omega) (tgt := 182) d_Mo_makeDominoes_160 (by decide) (fun h160 => ?_) (fun h160 => ?_)
            · exact absurd h160 (by decide)
            · refine gx_aload_n d_Mo_makeDominoes_163 rfl ?_
              refine gx_iload_n d_Mo_makeDominoes_164 rfl ?_
              refine gx_bipush d_Mo_makeDominoes_165 (nI 104) (by decide) ?_
              refine gx_iconst d_Mo_makeDominoes_167 (nI 0) (by decide) ?_
              refine gx_bipush d_Mo_makeDominoes_168 (nI 104) (by decide) ?_
              refine gx_iconst d_Mo_makeDominoes_170 (nI 0) (by decide) ?_
              refine gx_iconst d_Mo_makeDominoes_171 (nI 0) (by decide) ?_
              refine gx_iconst d_Mo_makeDominoes_172 (nI 0) (by decide) ?_
              refine gx_cVr lk_Mo_149 d_Mo_makeDominoes_173 (cm_make h10 (by have := sp_rs_le (moM A) (Nat.le_refl 12); simp only [List.length_append, List.length_singleton]; show 5 + _ < 60; omega) (by omega) (by omega) (by omega) (by omega) (by omega) (by omega) (by omega)) (Or.inl ⟨_, mo_o⟩) (by omega) rfl rfl (Nat.le_of_ble_eq_true rfl) (fun r2 w2 hq => ?_)
              obtain ⟨rfl, I11, A11, rfl, h11⟩ := hq
              refine gx_iincN (n := 1) d_Mo_makeDominoes_176 rfl (by decide) (Nat.le_of_ble_eq_true rfl) rfl ?_
              refine gx_goto (tgt := 157) d_Mo_makeDominoes_179 (by decide) ?_
              refine gx_iload_n d_Mo_makeDominoes_157 rfl ?_
              refine gx_bipush d_Mo_makeDominoes_158 (nI 50) (by decide) ?_
              refine gx_icmp_gtN (by omega) (by omega) (tgt := 182) d_Mo_makeDominoes_160 (by decide) (fun h160 => ?_) (fun h160 => ?_)
              · exact absurd h160 (by decide)
              · refine gx_aload_n d_Mo_makeDominoes_163 rfl ?_
                refine gx_iload_n d_Mo_makeDominoes_164 rfl ?_
                refine gx_bipush d_Mo_makeDominoes_165 (nI 104) (by decide) ?_
                refine gx_iconst d_Mo_makeDominoes_167 (nI 0) (by decide) ?_
                refine gx_bipush d_Mo_makeDominoes_168 (nI 104) (by decide) ?_
                refine gx_iconst d_Mo_makeDominoes_170 (nI 0) (by decide) ?_
                refine gx_iconst d_Mo_makeDominoes_171 (nI 0) (by decide) ?_
                refine gx_iconst d_Mo_makeDominoes_172 (nI 0) (by decide) ?_
                refine gx_cVr lk_Mo_149 d_Mo_makeDominoes_173 (cm_make h11 (by have := sp_rs_le (moM A) (Nat.le_refl 12); simp only [List.length_append, List.length_singleton]; show 5 + _ + 1 < 60; omega) (by omega) (by omega) (by omega) (by omega) (by omega) (by omega) (by omega)) (Or.inl ⟨_, mo_o⟩) (by omega) rfl rfl (Nat.le_of_ble_eq_true rfl) (fun r2 w2 hq => ?_)
                obtain ⟨rfl, I12, A12, rfl, h12⟩ := hq
                refine gx_iincN (n := 1) d_Mo_makeDominoes_176 rfl (by decide) (Nat.le_of_ble_eq_true rfl) rfl ?_
                refine gx_goto (tgt := 157) d_Mo_makeDominoes_179 (by decide) ?_
                refine gx_iload_n d_Mo_makeDominoes_157 rfl ?_
                refine gx_bipush d_Mo_makeDominoes_158 (nI 50) (by decide) ?_
                refine gx_icmp_gtN (by omega) (by omega) (tgt := 182) d_Mo_makeDominoes_160 (by decide) (fun h160 => ?_) (fun h160 => ?_)
                · exact absurd h160 (by decide)
                · refine gx_aload_n d_Mo_makeDominoes_163 rfl ?_
                  refine gx_iload_n d_Mo_makeDominoes_164 rfl ?_
                  refine gx_bipush d_Mo_makeDominoes_165 (nI 104) (by decide) ?_
                  refine gx_iconst d_Mo_makeDominoes_167 (nI 0) (by decide) ?_
                  refine gx_bipush d_Mo_makeDominoes_168 (nI 104) (by decide) ?_
                  refine gx_iconst d_Mo_makeDominoes_170 (nI 0) (by decide) ?_
                  refine gx_iconst d_Mo_makeDominoes_171 (nI 0) (by decide) ?_
                  refine gx_iconst d_Mo_makeDominoes_172 (nI 0) (by decide) ?_
                  refine gx_cVr lk_Mo_149 d_Mo_makeDominoes_173 (cm_make h12 (by have := sp_rs_le (moM A) (Nat.le_refl 12); simp only [List.length_append, List.length_singleton]; show 5 + _ + 1 + 1 < 60; omega) (by omega) (by omega) (by omega) (by omega) (by omega) (by omega) (by omega)) (Or.inl ⟨_, mo_o⟩) (by omega) rfl rfl (Nat.le_of_ble_eq_true rfl) (fun r2 w2 hq => ?_)
                  obtain ⟨rfl, I13, A13, rfl, h13⟩ := hq
                  refine gx_iincN (n := 1) d_Mo_makeDominoes_176 rfl (by decide) (Nat.le_of_ble_eq_true rfl) rfl ?_
                  refine gx_goto (tgt := 157) d_Mo_makeDominoes_179 (by decide) ?_
                  refine gx_iload_n d_Mo_makeDominoes_157 rfl ?_
                  refine gx_bipush d_Mo_makeDominoes_158 (nI 50) (by decide) ?_
                  refine gx_icmp_gtN (by omega) (by omega) (tgt := 182) d_Mo_makeDominoes_160 (by decide) (fun h160 => ?_) (fun h160 => ?_)
                  · refine gx_bipush d_Mo_makeDominoes_182 (nI 48) (by decide) ?_
                    refine gx_istore_n d_Mo_makeDominoes_184 (Nat.le_of_ble_eq_true rfl) rfl ?_
                    refine gx_iload_n d_Mo_makeDominoes_185 rfl ?_
                    refine gx_bipush d_Mo_makeDominoes_186 (nI 50) (by decide) ?_
                    refine gx_icmp_gtN (by omega) (by omega) (tgt := 210) d_Mo_makeDominoes_188 (by decide) (fun h188 => ?_) (fun h188 => ?_)
                    · exact absurd h188 (by decide)
                    · refine gx_aload_n d_Mo_makeDominoes_191 rfl ?_
                      refine gx_bipush d_Mo_makeDominoes_192 (nI 104) (by decide) ?_
                      refine gx_iload_n d_Mo_makeDominoes_194 rfl ?_
                      refine gx_iconst d_Mo_makeDominoes_195 (nI 0) (by decide) ?_
                      refine gx_bipush d_Mo_makeDominoes_196 (nI 104) (by decide) ?_
                      refine gx_iconst d_Mo_makeDominoes_198 (nI 0) (by decide) ?_
                      refine gx_iconst d_Mo_makeDominoes_199 (nI 0) (by decide) ?_
                      refine gx_iconst d_Mo_makeDominoes_200 (nI 0) (by decide) ?_
                      refine gx_cVr lk_Mo_149 d_Mo_makeDominoes_201 (cm_make h13 (by have := sp_rs_le (moM A) (Nat.le_refl 12); simp only [List.length_append, List.length_singleton]; show 5 + _ + 1 + 1 + 1 < 60; omega) (by omega) (by omega) (by omega) (by omega) (by omega) (by omega) (by omega)) (Or.inl ⟨_, mo_o⟩) (by omega) rfl rfl (Nat.le_of_ble_eq_true rfl) (fun r2 w2 hq => ?_)
                      obtain ⟨rfl, I14, A14, rfl, h14⟩ := hq
                      refine gx_iincN (n := 1) d_Mo_makeDominoes_204 rfl (by decide) (Nat.le_of_ble_eq_true rfl) rfl ?_
                      refine gx_goto (tgt := 185) d_Mo_makeDominoes_207 (by decide) ?_
                      refine gx_iload_n d_Mo_makeDominoes_185 rfl ?_
                      refine gx_bipush d_Mo_makeDominoes_186 (nI 50) (by decide) ?_
                      refine gx_icmp_gtN (by omega) (by omega) (tgt := 210) d_Mo_makeDominoes_188 (by decide) (fun h188 => ?_) (fun h188 => ?_)
                      · exact absurd h188 (by decide)
                      · refine gx_aload_n d_Mo_makeDominoes_191 rfl ?_
                        refine gx_bipush d_Mo_makeDominoes_192 (nI 104) (by decide) ?_
                        refine gx_iload_n d_Mo_makeDominoes_194 rfl ?_
                        refine gx_iconst d_Mo_makeDominoes_195 (nI 0) (by decide) ?_
                        refine gx_bipush d_Mo_makeDominoes_196 (nI 104) (by decide) ?_
                        refine gx_iconst d_Mo_makeDominoes_198 (nI 0) (by decide) ?_
                        refine gx_iconst d_Mo_makeDominoes_199 (nI 0) (by decide) ?_
                        refine gx_iconst d_Mo_makeDominoes_200 (nI 0) (by decide) ?_
                        refine gx_cVr lk_Mo_149 d_Mo_makeDominoes_201 (cm_make h14 (by have := sp_rs_le (moM A) (Nat.le_refl 12); simp only [List.length_append, List.length_singleton]; show 5 + _ + 1 + 1 + 1 + 1 < 60; omega) (by omega) (by omega) (by omega) (by omega) (by omega) (by omega) (by omega)) (Or.inl ⟨_, mo_o⟩) (by omega) rfl rfl (Nat.le_of_ble_eq_true rfl) (fun r2 w2 hq => ?_)
                        obtain ⟨rfl, I15, A15, rfl, h15⟩ := hq
                        refine gx_iincN (n := 1) d_Mo_makeDominoes_204 rfl (by decide) (Nat.le_of_ble_eq_true rfl) rfl ?_
                        refine gx_goto (tgt := 185) d_Mo_makeDominoes_207 (by decide) ?_
                        refine gx_iload_n d_Mo_makeDominoes_185 rfl ?_
                        refine gx_bipush d_Mo_makeDominoes_186 (nI 50) (by decide) ?_
                        refine gx_icmp_gtN (by omega) (by omega) (tgt := 210) d_Mo_makeDominoes_188 (by decide) (fun h188 => ?_) (fun h188 => ?_)
                        · exact absurd h188 (by decide)
                        · refine gx_aload_n d_Mo_makeDominoes_191 rfl ?_
                          refine gx_bipush d_Mo_makeDominoes_192 (nI 104) (by decide) ?_
                          refine gx_iload_n d_Mo_makeDominoes_194 rfl ?_
                          refine gx_iconst d_Mo_makeDominoes_195 (nI 0) (by decide) ?_
                          refine gx_bipush d_Mo_makeDominoes_196 (nI 104) (by decide) ?_
                          refine gx_iconst d_Mo_makeDominoes_198 (nI 0) (by decide) ?_
                          refine gx_iconst d_Mo_makeDominoes_199 (nI 0) (by decide) ?_
                          refine gx_iconst d_Mo_makeDominoes_200 (nI 0) (by decide) ?_
                          refine gx_cVr lk_Mo_149 d_Mo_makeDominoes_201 (cm_make h15 (by have := sp_rs_le (moM A) (Nat.le_refl 12); simp only [List.length_append, List.length_singleton]; show 5 + _ + 1 + 1 + 1 + 1 + 1 < 60; omega) (by omega) (by omega) (by omega) (by omega) (by omega) (by omega) (by omega)) (Or.inl ⟨_, mo_o⟩) (by omega) rfl rfl (Nat.le_of_ble_eq_true rfl) (fun r2 w2 hq => ?_)
                          obtain ⟨rfl, I16, A16, rfl, h16⟩ := hq
                          refine gx_iincN (n := 1) d_Mo_makeDominoes_204 rfl (by decide) (Nat.le_of_ble_eq_true rfl) rfl ?_
                          refine gx_goto (tgt := 185) d_Mo_makeDominoes_207 (by decide) ?_
                          refine gx_iload_n d_Mo_makeDominoes_185 rfl ?_
                          refine gx_bipush d_Mo_makeDominoes_186 (nI 50) (by decide) ?_
                          refine gx_icmp_gtN (by omega) (by omega) (tgt := 210) d_Mo_makeDominoes_188 (by decide) (fun h188 => ?_) (fun h188 => ?_)
                          · refine gx_aload_n d_Mo_makeDominoes_210 rfl ?_
                            refine gx_bipush d_Mo_makeDominoes_211 (nI 104) (by decide) ?_
                            refine gx_bipush d_Mo_makeDominoes_213 (nI 35) (by decide) ?_
                            refine gx_bipush d_Mo_makeDominoes_215 (nI 35) (by decide) ?_
                            refine gx_bipush d_Mo_makeDominoes_217 (nI 35) (by decide) ?_
                            refine gx_iconst d_Mo_makeDominoes_219 (nI 0) (by decide) ?_
                            refine gx_iconst d_Mo_makeDominoes_220 (nI 0) (by decide) ?_
                            refine gx_iconst d_Mo_makeDominoes_221 (nI 0) (by decide) ?_
                            refine gx_cVr lk_Mo_149 d_Mo_makeDominoes_222 (cm_make h16 (by have := sp_rs_le (moM A) (Nat.le_refl 12); simp only [List.length_append, List.length_singleton]; show 5 + _ + 1 + 1 + 1 + 1 + 1 + 1 < 60; omega) (by omega) (by omega) (by omega) (by omega) (by omega) (by omega) (by omega)) (Or.inl ⟨_, mo_o⟩) (by omega) rfl rfl (Nat.le_of_ble_eq_true rfl) (fun r2 w2 hq => ?_)
                            obtain ⟨rfl, I17, A17, rfl, h17⟩ := hq
                            refine gx_return rfl d_Mo_makeDominoes_225 ?_
                            refine ⟨rfl, _, _, rfl, ?_⟩
                            simp only [List.append_assoc] at h17
                            unfold sp_dom
                            rw [List.append_assoc]
                            exact h17
                          · exact absurd (by decide) h188
                  · exact absurd (by decide) h160
        · exact absurd (by decide) h89
