/-! the reference: makeWay, halted -/
theorem gx_takeC {rs : List sp_C} {k : Nat} (h : k < rs.length) : rs.take (k + 1) = rs.take k ++ [rs.getD k ([], 0, [])] := by
  rw [List.take_succ, List.getElem?_eq_getElem h, List.getD_eq_getElem?_getD, List.getElem?_eq_getElem h]; rfl
theorem hw_A {e n b : Nat} {l r : List Nat} (h : b < l.length) : sp_hw e (n + 1) (l.take (b + 1)) r = sp_cp (l.take b) ++ [e + l.getD b 0] ++ sp_cp r ++ [1] ++ sp_hw e n (l.take b) r := by
  have h1 : (l.take (b + 1)).length = b + 1 := by rw [List.length_take]; omega
  have h2 : (l.take (b + 1)).dropLast = l.take b := by rw [gx_take_succ h, List.dropLast_concat]
  have h3 : sp_lst (l.take (b + 1)) = l.getD b 0 := by unfold sp_lst; rw [h1]; exact gx_gd_take (by omega)
  conv => lhs; unfold sp_hw
  rw [if_neg (by omega), h2, h3]
  simp
theorem hw_B {e n t : Nat} {l r : List Nat} (h : t < r.length) : sp_hw e (n + 1) (l.take 0) (r.drop t) = [e + 3 + r.getD t 0] ++ sp_cp (r.drop (t + 1)) ++ [1] ++ sp_hw e n (l.take 0) (r.drop (t + 1)) := by
  rw [gx_drop_cons h, List.take_zero]
  conv => lhs; unfold sp_hw
  rw [if_pos (show ([] : List Nat).length = 0 from rfl)]
  simp
theorem moW.ln {I I' : Nat → Nat} {A A' : Nat → Nat → Nat} {p : List Nat} (h : moW I A I' A' p) : I' 4 = p.length := h.1
theorem d_Mo_makeWay_0 : decode prog_11_method_27_code 0 = .ok (.aload_n 0, 1) := by decide +kernel
theorem d_Mo_makeWay_1 : decode prog_11_method_27_code 1 = .ok (.iconst 0, 1) := by decide +kernel
theorem d_Mo_makeWay_2 : decode prog_11_method_27_code 2 = .ok (.invokevirtual 157, 3) := by decide +kernel
theorem d_Mo_makeWay_5 : decode prog_11_method_27_code 5 = .ok (.iconst 0, 1) := by decide +kernel
theorem d_Mo_makeWay_6 : decode prog_11_method_27_code 6 = .ok (.istore_n 1, 1) := by decide +kernel
theorem d_Mo_makeWay_7 : decode prog_11_method_27_code 7 = .ok (.iload_n 1, 1) := by decide +kernel
theorem d_Mo_makeWay_8 : decode prog_11_method_27_code 8 = .ok (.aload_n 0, 1) := by decide +kernel
theorem d_Mo_makeWay_9 : decode prog_11_method_27_code 9 = .ok (.getfield 110, 3) := by decide +kernel
theorem d_Mo_makeWay_12 : decode prog_11_method_27_code 12 = .ok (.if_icmp .ge 14, 3) := by decide +kernel
theorem d_Mo_makeWay_15 : decode prog_11_method_27_code 15 = .ok (.aload_n 0, 1) := by decide +kernel
theorem d_Mo_makeWay_16 : decode prog_11_method_27_code 16 = .ok (.iload_n 1, 1) := by decide +kernel
theorem d_Mo_makeWay_17 : decode prog_11_method_27_code 17 = .ok (.invokevirtual 164, 3) := by decide +kernel
theorem d_Mo_makeWay_20 : decode prog_11_method_27_code 20 = .ok (.iinc 1 1, 3) := by decide +kernel
theorem d_Mo_makeWay_23 : decode prog_11_method_27_code 23 = .ok (.goto (-16), 3) := by decide +kernel
theorem d_Mo_makeWay_26 : decode prog_11_method_27_code 26 = .ok (.aload_n 0, 1) := by decide +kernel
theorem d_Mo_makeWay_27 : decode prog_11_method_27_code 27 = .ok (.aload_n 0, 1) := by decide +kernel
theorem d_Mo_makeWay_28 : decode prog_11_method_27_code 28 = .ok (.getfield 110, 3) := by decide +kernel
theorem d_Mo_makeWay_31 : decode prog_11_method_27_code 31 = .ok (.invokevirtual 97, 3) := by decide +kernel
theorem d_Mo_makeWay_34 : decode prog_11_method_27_code 34 = .ok (.istore_n 1, 1) := by decide +kernel
theorem d_Mo_makeWay_35 : decode prog_11_method_27_code 35 = .ok (.bipush 12, 2) := by decide +kernel
theorem d_Mo_makeWay_37 : decode prog_11_method_27_code 37 = .ok (.aload_n 0, 1) := by decide +kernel
theorem d_Mo_makeWay_38 : decode prog_11_method_27_code 38 = .ok (.getfield 110, 3) := by decide +kernel
theorem d_Mo_makeWay_41 : decode prog_11_method_27_code 41 = .ok (.imul, 1) := by decide +kernel
theorem d_Mo_makeWay_42 : decode prog_11_method_27_code 42 = .ok (.istore_n 2, 1) := by decide +kernel
theorem d_Mo_makeWay_43 : decode prog_11_method_27_code 43 = .ok (.iload_n 1, 1) := by decide +kernel
theorem d_Mo_makeWay_44 : decode prog_11_method_27_code 44 = .ok (.iconst 1, 1) := by decide +kernel
theorem d_Mo_makeWay_45 : decode prog_11_method_27_code 45 = .ok (.iadd, 1) := by decide +kernel
theorem d_Mo_makeWay_46 : decode prog_11_method_27_code 46 = .ok (.istore_n 3, 1) := by decide +kernel
theorem d_Mo_makeWay_47 : decode prog_11_method_27_code 47 = .ok (.iload_n 1, 1) := by decide +kernel
theorem d_Mo_makeWay_48 : decode prog_11_method_27_code 48 = .ok (.ifCond .gt 16, 3) := by decide +kernel
theorem d_Mo_makeWay_51 : decode prog_11_method_27_code 51 = .ok (.iload_n 3, 1) := by decide +kernel
theorem d_Mo_makeWay_52 : decode prog_11_method_27_code 52 = .ok (.aload_n 0, 1) := by decide +kernel
theorem d_Mo_makeWay_53 : decode prog_11_method_27_code 53 = .ok (.getfield 26, 3) := by decide +kernel
theorem d_Mo_makeWay_56 : decode prog_11_method_27_code 56 = .ok (.aload_n 0, 1) := by decide +kernel
theorem d_Mo_makeWay_57 : decode prog_11_method_27_code 57 = .ok (.getfield 110, 3) := by decide +kernel
theorem d_Mo_makeWay_60 : decode prog_11_method_27_code 60 = .ok (.iaload, 1) := by decide +kernel
theorem d_Mo_makeWay_61 : decode prog_11_method_27_code 61 = .ok (.if_icmp .ge 152, 3) := by decide +kernel
theorem d_Mo_makeWay_64 : decode prog_11_method_27_code 64 = .ok (.iload_n 1, 1) := by decide +kernel
theorem d_Mo_makeWay_65 : decode prog_11_method_27_code 65 = .ok (.ifCond .le 9, 3) := by decide +kernel
theorem d_Mo_makeWay_68 : decode prog_11_method_27_code 68 = .ok (.iload_n 1, 1) := by decide +kernel
theorem d_Mo_makeWay_69 : decode prog_11_method_27_code 69 = .ok (.iconst 1, 1) := by decide +kernel
theorem d_Mo_makeWay_70 : decode prog_11_method_27_code 70 = .ok (.isub, 1) := by decide +kernel
theorem d_Mo_makeWay_71 : decode prog_11_method_27_code 71 = .ok (.goto 4, 3) := by decide +kernel
theorem d_Mo_makeWay_74 : decode prog_11_method_27_code 74 = .ok (.iconst 0, 1) := by decide +kernel
theorem d_Mo_makeWay_75 : decode prog_11_method_27_code 75 = .ok (.istore 4, 2) := by decide +kernel
theorem d_Mo_makeWay_77 : decode prog_11_method_27_code 77 = .ok (.iconst 0, 1) := by decide +kernel
theorem d_Mo_makeWay_78 : decode prog_11_method_27_code 78 = .ok (.istore 5, 2) := by decide +kernel
theorem d_Mo_makeWay_80 : decode prog_11_method_27_code 80 = .ok (.iload 5, 2) := by decide +kernel
theorem d_Mo_makeWay_82 : decode prog_11_method_27_code 82 = .ok (.iload 4, 2) := by decide +kernel
theorem d_Mo_makeWay_84 : decode prog_11_method_27_code 84 = .ok (.if_icmp .ge 27, 3) := by decide +kernel
theorem d_Mo_makeWay_87 : decode prog_11_method_27_code 87 = .ok (.aload_n 0, 1) := by decide +kernel
theorem d_Mo_makeWay_88 : decode prog_11_method_27_code 88 = .ok (.iconst 2, 1) := by decide +kernel
theorem d_Mo_makeWay_89 : decode prog_11_method_27_code 89 = .ok (.aload_n 0, 1) := by decide +kernel
theorem d_Mo_makeWay_90 : decode prog_11_method_27_code 90 = .ok (.getfield 29, 3) := by decide +kernel
theorem d_Mo_makeWay_93 : decode prog_11_method_27_code 93 = .ok (.iload_n 2, 1) := by decide +kernel
theorem d_Mo_makeWay_94 : decode prog_11_method_27_code 94 = .ok (.iload 5, 2) := by decide +kernel
theorem d_Mo_makeWay_96 : decode prog_11_method_27_code 96 = .ok (.iadd, 1) := by decide +kernel
theorem d_Mo_makeWay_97 : decode prog_11_method_27_code 97 = .ok (.iaload, 1) := by decide +kernel
theorem d_Mo_makeWay_98 : decode prog_11_method_27_code 98 = .ok (.iadd, 1) := by decide +kernel
theorem d_Mo_makeWay_99 : decode prog_11_method_27_code 99 = .ok (.bipush 48, 2) := by decide +kernel
theorem d_Mo_makeWay_101 : decode prog_11_method_27_code 101 = .ok (.isub, 1) := by decide +kernel
theorem d_Mo_makeWay_102 : decode prog_11_method_27_code 102 = .ok (.invokevirtual 157, 3) := by decide +kernel
theorem d_Mo_makeWay_105 : decode prog_11_method_27_code 105 = .ok (.iinc 5 1, 3) := by decide +kernel
theorem d_Mo_makeWay_108 : decode prog_11_method_27_code 108 = .ok (.goto (-28), 3) := by decide +kernel
theorem d_Mo_makeWay_111 : decode prog_11_method_27_code 111 = .ok (.iload_n 1, 1) := by decide +kernel
theorem d_Mo_makeWay_112 : decode prog_11_method_27_code 112 = .ok (.ifCond .le 30, 3) := by decide +kernel
theorem d_Mo_makeWay_115 : decode prog_11_method_27_code 115 = .ok (.aload_n 0, 1) := by decide +kernel
theorem d_Mo_makeWay_116 : decode prog_11_method_27_code 116 = .ok (.aload_n 0, 1) := by decide +kernel
theorem d_Mo_makeWay_117 : decode prog_11_method_27_code 117 = .ok (.aload_n 0, 1) := by decide +kernel
theorem d_Mo_makeWay_118 : decode prog_11_method_27_code 118 = .ok (.getfield 29, 3) := by decide +kernel
theorem d_Mo_makeWay_121 : decode prog_11_method_27_code 121 = .ok (.iload_n 2, 1) := by decide +kernel
theorem d_Mo_makeWay_122 : decode prog_11_method_27_code 122 = .ok (.iload_n 1, 1) := by decide +kernel
theorem d_Mo_makeWay_123 : decode prog_11_method_27_code 123 = .ok (.iadd, 1) := by decide +kernel
theorem d_Mo_makeWay_124 : decode prog_11_method_27_code 124 = .ok (.iconst 1, 1) := by decide +kernel
theorem d_Mo_makeWay_125 : decode prog_11_method_27_code 125 = .ok (.isub, 1) := by decide +kernel
theorem d_Mo_makeWay_126 : decode prog_11_method_27_code 126 = .ok (.iaload, 1) := by decide +kernel
theorem d_Mo_makeWay_127 : decode prog_11_method_27_code 127 = .ok (.bipush 104, 2) := by decide +kernel
theorem d_Mo_makeWay_129 : decode prog_11_method_27_code 129 = .ok (.iconst 0, 1) := by decide +kernel
theorem d_Mo_makeWay_130 : decode prog_11_method_27_code 130 = .ok (.invokevirtual 160, 3) := by decide +kernel
theorem d_Mo_makeWay_133 : decode prog_11_method_27_code 133 = .ok (.invokevirtual 157, 3) := by decide +kernel
theorem d_Mo_makeWay_136 : decode prog_11_method_27_code 136 = .ok (.iinc 1 (-1), 3) := by decide +kernel
theorem d_Mo_makeWay_139 : decode prog_11_method_27_code 139 = .ok (.goto 25, 3) := by decide +kernel
theorem d_Mo_makeWay_142 : decode prog_11_method_27_code 142 = .ok (.aload_n 0, 1) := by decide +kernel
theorem d_Mo_makeWay_143 : decode prog_11_method_27_code 143 = .ok (.aload_n 0, 1) := by decide +kernel
theorem d_Mo_makeWay_144 : decode prog_11_method_27_code 144 = .ok (.bipush 104, 2) := by decide +kernel
theorem d_Mo_makeWay_146 : decode prog_11_method_27_code 146 = .ok (.aload_n 0, 1) := by decide +kernel
theorem d_Mo_makeWay_147 : decode prog_11_method_27_code 147 = .ok (.getfield 29, 3) := by decide +kernel
theorem d_Mo_makeWay_150 : decode prog_11_method_27_code 150 = .ok (.iload_n 2, 1) := by decide +kernel
theorem d_Mo_makeWay_151 : decode prog_11_method_27_code 151 = .ok (.iload_n 3, 1) := by decide +kernel
theorem d_Mo_makeWay_152 : decode prog_11_method_27_code 152 = .ok (.iadd, 1) := by decide +kernel
theorem d_Mo_makeWay_153 : decode prog_11_method_27_code 153 = .ok (.iaload, 1) := by decide +kernel
theorem d_Mo_makeWay_154 : decode prog_11_method_27_code 154 = .ok (.iconst 0, 1) := by decide +kernel
theorem d_Mo_makeWay_155 : decode prog_11_method_27_code 155 = .ok (.invokevirtual 160, 3) := by decide +kernel
theorem d_Mo_makeWay_158 : decode prog_11_method_27_code 158 = .ok (.invokevirtual 157, 3) := by decide +kernel
theorem d_Mo_makeWay_161 : decode prog_11_method_27_code 161 = .ok (.iinc 3 1, 3) := by decide +kernel
theorem d_Mo_makeWay_164 : decode prog_11_method_27_code 164 = .ok (.iload_n 3, 1) := by decide +kernel
theorem d_Mo_makeWay_165 : decode prog_11_method_27_code 165 = .ok (.istore 5, 2) := by decide +kernel
theorem d_Mo_makeWay_167 : decode prog_11_method_27_code 167 = .ok (.iload 5, 2) := by decide +kernel
theorem d_Mo_makeWay_169 : decode prog_11_method_27_code 169 = .ok (.aload_n 0, 1) := by decide +kernel
theorem d_Mo_makeWay_170 : decode prog_11_method_27_code 170 = .ok (.getfield 26, 3) := by decide +kernel
theorem d_Mo_makeWay_173 : decode prog_11_method_27_code 173 = .ok (.aload_n 0, 1) := by decide +kernel
theorem d_Mo_makeWay_174 : decode prog_11_method_27_code 174 = .ok (.getfield 110, 3) := by decide +kernel
theorem d_Mo_makeWay_177 : decode prog_11_method_27_code 177 = .ok (.iaload, 1) := by decide +kernel
theorem d_Mo_makeWay_178 : decode prog_11_method_27_code 178 = .ok (.if_icmp .ge 27, 3) := by decide +kernel
theorem d_Mo_makeWay_181 : decode prog_11_method_27_code 181 = .ok (.aload_n 0, 1) := by decide +kernel
theorem d_Mo_makeWay_182 : decode prog_11_method_27_code 182 = .ok (.iconst 2, 1) := by decide +kernel
theorem d_Mo_makeWay_183 : decode prog_11_method_27_code 183 = .ok (.aload_n 0, 1) := by decide +kernel
theorem d_Mo_makeWay_184 : decode prog_11_method_27_code 184 = .ok (.getfield 29, 3) := by decide +kernel
theorem d_Mo_makeWay_187 : decode prog_11_method_27_code 187 = .ok (.iload_n 2, 1) := by decide +kernel
theorem d_Mo_makeWay_188 : decode prog_11_method_27_code 188 = .ok (.iload 5, 2) := by decide +kernel
theorem d_Mo_makeWay_190 : decode prog_11_method_27_code 190 = .ok (.iadd, 1) := by decide +kernel
theorem d_Mo_makeWay_191 : decode prog_11_method_27_code 191 = .ok (.iaload, 1) := by decide +kernel
theorem d_Mo_makeWay_192 : decode prog_11_method_27_code 192 = .ok (.iadd, 1) := by decide +kernel
theorem d_Mo_makeWay_193 : decode prog_11_method_27_code 193 = .ok (.bipush 48, 2) := by decide +kernel
theorem d_Mo_makeWay_195 : decode prog_11_method_27_code 195 = .ok (.isub, 1) := by decide +kernel
theorem d_Mo_makeWay_196 : decode prog_11_method_27_code 196 = .ok (.invokevirtual 157, 3) := by decide +kernel
theorem d_Mo_makeWay_199 : decode prog_11_method_27_code 199 = .ok (.iinc 5 1, 3) := by decide +kernel
theorem d_Mo_makeWay_202 : decode prog_11_method_27_code 202 = .ok (.goto (-35), 3) := by decide +kernel
theorem d_Mo_makeWay_205 : decode prog_11_method_27_code 205 = .ok (.aload_n 0, 1) := by decide +kernel
theorem d_Mo_makeWay_206 : decode prog_11_method_27_code 206 = .ok (.iconst 1, 1) := by decide +kernel
theorem d_Mo_makeWay_207 : decode prog_11_method_27_code 207 = .ok (.invokevirtual 157, 3) := by decide +kernel
theorem d_Mo_makeWay_210 : decode prog_11_method_27_code 210 = .ok (.goto (-163), 3) := by decide +kernel
theorem d_Mo_makeWay_213 : decode prog_11_method_27_code 213 = .ok (.aload_n 0, 1) := by decide +kernel
theorem d_Mo_makeWay_214 : decode prog_11_method_27_code 214 = .ok (.aload_n 0, 1) := by decide +kernel
theorem d_Mo_makeWay_215 : decode prog_11_method_27_code 215 = .ok (.bipush 104, 2) := by decide +kernel
theorem d_Mo_makeWay_217 : decode prog_11_method_27_code 217 = .ok (.bipush 35, 2) := by decide +kernel
theorem d_Mo_makeWay_219 : decode prog_11_method_27_code 219 = .ok (.bipush 35, 2) := by decide +kernel
theorem d_Mo_makeWay_221 : decode prog_11_method_27_code 221 = .ok (.invokevirtual 160, 3) := by decide +kernel
theorem d_Mo_makeWay_224 : decode prog_11_method_27_code 224 = .ok (.invokevirtual 157, 3) := by decide +kernel
theorem d_Mo_makeWay_227 : decode prog_11_method_27_code 227 = .ok (.return_, 1) := by decide +kernel
theorem lm_mw1 {Q : gx_P} {w : gx_W} {m : Nat} {I : Nat → Nat} {A : Nat → Nat → Nat} {k bf f1 cut : Nat} {c : sp_C} (hk : k ≤ 13) (hc : sp_ok c) (hl : sp_len c ≤ 10) (hT : moT A k c) {p0 : List Nat} (hcut : cut ≤ c.1.length)  : ∀ (fu : Nat) (i : Nat) (p : List Nat) (I' : Nat → Nat) (A' : Nat → Nat → Nat), cut - i < fu → (i ≤ cut) → (p = p0 ++ sp_cp (c.1.take i)) → (p0.length + cut < 300) → (moW I A I' A' p) → (∀ I'' A'', moW I A I'' A'' (p0 ++ sp_cp (c.1.take cut)) → gx_X (fun _ _ => True) M_Mo_makeWay 5 Q 111 [some (.ref m), some (.int (nI bf)), some (.int (nI (12 * k))), some (.int (nI f1)), some (.int (nI cut)), some (.int (nI cut))] [] (gx_mo w m I'' A'') (0, 0)) → gx_X (fun _ _ => True) M_Mo_makeWay 5 Q 80 [some (.ref m), some (.int (nI bf)), some (.int (nI (12 * k))), some (.int (nI f1)), some (.int (nI cut)), some (.int (nI i))] [] (gx_mo w m I' A') (0, 0) := by
  intro fu
  induction fu with
  | zero => intro i p I' A' hfu; exact absurd hfu (Nat.not_lt_zero _)
  | succ fu ih =>
    intro i p I' A' hfu hi hp hb hW hX
    have hlen : sp_len c = c.1.length + 1 + c.2.2.length := rfl
    have hsz := sp_txt_len c
    have hpl : p.length = p0.length + i := by rw [hp, List.length_append, sp_cp_len, List.length_take]; omega
    refine gx_iload d_Mo_makeWay_80 rfl ?_
    refine gx_iload d_Mo_makeWay_82 rfl ?_
    refine gx_icmp_geN (by omega) (by omega) (tgt := 111) d_Mo_makeWay_84 (by decide) (fun h84 => ?_) (fun h84 => ?_)
    · rw [hp, show i = cut by omega] at hW
      rw [show i = cut by omega]
      exact hX _ _ hW
    · refine gx_aload_n d_Mo_makeWay_87 rfl ?_
      refine gx_iconst d_Mo_makeWay_88 (nI 2) (by decide) ?_
      refine gx_aload_n d_Mo_makeWay_89 rfl ?_
      refine gx_get fl_Mo_29 d_Mo_makeWay_90 mo_o rfl ?_
      refine gx_iload_n d_Mo_makeWay_93 rfl ?_
      refine gx_iload d_Mo_makeWay_94 rfl ?_
      refine gx_iaddN d_Mo_makeWay_96 ?_
      refine gx_iald d_Mo_makeWay_97 mo_7 (by omega) (by omega) ?_
      rw [hW.at (j := 7) (by decide), hT.2 i (by omega), sp_txt_lo (by omega)]
      refine gx_iaddN d_Mo_makeWay_98 ?_
      refine gx_bipush d_Mo_makeWay_99 (nI 48) (by decide) ?_
      refine gx_isubN (by omega) d_Mo_makeWay_101 ?_
      refine gx_top (congrArg nI (show 2 + (48 + c.1.getD i 0) - 48 = 2 + c.1.getD i 0 by omega)) ?_
      refine gx_cVr lk_Mo_157 d_Mo_makeWay_102 (cm_goOn hW (by omega)) (Or.inl ⟨_, mo_o⟩) (by omega) rfl rfl (Nat.le_of_ble_eq_true rfl) (fun r2 w2 hq => ?_)
      obtain ⟨rfl, I1, A1, rfl, hW1⟩ := hq
      refine gx_iincN (n := 1) d_Mo_makeWay_105 rfl (by decide) (Nat.le_of_ble_eq_true rfl) rfl ?_
      refine gx_goto (tgt := 80) d_Mo_makeWay_108 (by decide) ?_
      refine ih (i + 1) _ _ _ (by omega) (by omega) ?_ hb hW1 hX
      rw [hp, gx_take_succ (by omega), sp_cp_app, List.append_assoc]; rfl
theorem lm_mw2 {Q : gx_P} {w : gx_W} {m : Nat} {I : Nat → Nat} {A : Nat → Nat → Nat} {k bf f1 cut : Nat} (hI2 : I 2 = k) {c : sp_C} (hk : k ≤ 13) (hc : sp_ok c) (hl : sp_len c ≤ 10) (hT : moT A k c)  : ∀ (fu : Nat) (t : Nat) (p : List Nat) (I' : Nat → Nat) (A' : Nat → Nat → Nat), c.2.2.length + 1 - t < fu → (p.length + c.2.2.length < 300 + t) → (t ≤ c.2.2.length + 1) → (moW I A I' A' p) → (∀ I'' A'' L9, moW I A I'' A'' (p ++ sp_cp (c.2.2.drop t)) → gx_X (fun _ _ => True) M_Mo_makeWay 5 Q 205 [some (.ref m), some (.int (nI bf)), some (.int (nI (12 * k))), some (.int (nI f1)), some (.int (nI cut)), L9] [] (gx_mo w m I'' A'') (0, 0)) → gx_X (fun _ _ => True) M_Mo_makeWay 5 Q 167 [some (.ref m), some (.int (nI bf)), some (.int (nI (12 * k))), some (.int (nI f1)), some (.int (nI cut)), some (.int (nI (c.1.length + 1 + t)))] [] (gx_mo w m I' A') (0, 0) := by
  intro fu
  induction fu with
  | zero => intro t p I' A' hfu; exact absurd hfu (Nat.not_lt_zero _)
  | succ fu ih =>
    intro t p I' A' hfu hb ht hW hX
    have hlen : sp_len c = c.1.length + 1 + c.2.2.length := rfl
    have hsz := sp_txt_len c
    refine gx_iload d_Mo_makeWay_167 rfl ?_
    refine gx_aload_n d_Mo_makeWay_169 rfl ?_
    refine gx_get fl_Mo_26 d_Mo_makeWay_170 mo_o rfl ?_
    refine gx_aload_n d_Mo_makeWay_173 rfl ?_
    refine gx_get fl_Mo_110 d_Mo_makeWay_174 mo_o rfl ?_
    rw [hW.2.1 2 (by decide), hI2]
    refine gx_iald d_Mo_makeWay_177 mo_6 (by omega) (by omega) ?_
    rw [hW.at (j := 6) (by decide), hT.1]
    refine gx_icmp_geN (by omega) (by omega) (tgt := 205) d_Mo_makeWay_178 (by decide) (fun h178 => ?_) (fun h178 => ?_)
    · rw [List.drop_eq_nil_of_le (by omega), show sp_cp [] = [] from rfl, List.append_nil] at hX
      exact hX _ _ _ hW
    · refine gx_aload_n d_Mo_makeWay_181 rfl ?_
      refine gx_iconst d_Mo_makeWay_182 (nI 2) (by decide) ?_
      refine gx_aload_n d_Mo_makeWay_183 rfl ?_
      refine gx_get fl_Mo_29 d_Mo_makeWay_184 mo_o rfl ?_
      refine gx_iload_n d_Mo_makeWay_187 rfl ?_
      refine gx_iload d_Mo_makeWay_188 rfl ?_
      refine gx_iaddN d_Mo_makeWay_190 ?_
      refine gx_iald d_Mo_makeWay_191 mo_7 (by omega) (by omega) ?_
      rw [hW.at (j := 7) (by decide), hT.2 _ (by omega), sp_txt_hi (by omega)]
      refine gx_iaddN d_Mo_makeWay_192 ?_
      refine gx_bipush d_Mo_makeWay_193 (nI 48) (by decide) ?_
      refine gx_isubN (by omega) d_Mo_makeWay_195 ?_
      refine gx_top (congrArg nI (show 2 + (48 + c.2.2.getD t 0) - 48 = 2 + c.2.2.getD t 0 by omega)) ?_
      refine gx_cVr lk_Mo_157 d_Mo_makeWay_196 (cm_goOn hW (by omega)) (Or.inl ⟨_, mo_o⟩) (by omega) rfl rfl (Nat.le_of_ble_eq_true rfl) (fun r2 w2 hq => ?_)
      obtain ⟨rfl, I1, A1, rfl, hW1⟩ := hq
      refine gx_iincN (n := 1) d_Mo_makeWay_199 rfl (by decide) (Nat.le_of_ble_eq_true rfl) rfl ?_
      refine gx_goto (tgt := 167) d_Mo_makeWay_202 (by decide) ?_
      refine ih (t + 1) _ _ _ (by omega) (by rw [List.length_append, List.length_singleton]; omega) (by omega) hW1 ?_
      rw [gx_drop_cons (show t < c.2.2.length by omega)] at hX
      rw [List.append_assoc]
      exact hX
theorem lm_mw3 {Q : gx_P} {w : gx_W} {m : Nat} {I : Nat → Nat} {A : Nat → Nat → Nat} {k : Nat} {tx : List Nat} {c : sp_C} (hk : k ≤ 13) (hc : sp_ok c) (hl : sp_len c ≤ 10) (hT : moT A k c) (hI2 : I 2 = k) (hM : sp_Mok (moM A)) (hI : I 3 = (sp_dom (moM A) tx).length) (hds : moDs A (sp_dom (moM A) tx)) (hd : (sp_dom (moM A) tx).length ≤ 60) (hdk : ∀ p ∈ sp_dom (moM A) tx, sp_dk p)  : ∀ (fu : Nat) (bf : Nat) (t : Nat) (p : List Nat) (I' : Nat → Nat) (A' : Nat → Nat → Nat) (L4 : Option Value) (L5 : Option Value), bf + (c.2.2.length - t) < fu → (bf ≤ c.1.length) → (t ≤ c.2.2.length) → (p.length + 12 * (bf + (c.2.2.length - t)) ≤ 288) → (moW I A I' A' p) → (∀ I'' A'' M1 M3 M4 M5, moW I A I'' A'' (p ++ sp_hw ((sp_dom (moM A) tx).length - 7) (bf + (c.2.2.length - t)) (c.1.take bf) (c.2.2.drop t)) → gx_X (fun _ _ => True) M_Mo_makeWay 5 Q 213 [some (.ref m), M1, some (.int (nI (12 * k))), M3, M4, M5] [] (gx_mo w m I'' A'') (0, 0)) → gx_X (fun _ _ => True) M_Mo_makeWay 5 Q 47 [some (.ref m), some (.int (nI bf)), some (.int (nI (12 * k))), some (.int (nI (c.1.length + 1 + t))), L4, L5] [] (gx_mo w m I' A') (0, 0) := by
  intro fu
  induction fu with
  | zero => intro bf t p I' A' L4 L5 hfu; exact absurd hfu (Nat.not_lt_zero _)
  | succ fu ih =>
    intro bf t p I' A' L4 L5 hfu hbf ht hb hW hX
    have hlen : sp_len c = c.1.length + 1 + c.2.2.length := rfl
    have hsz := sp_txt_len c
    have hgb := sp_gd_lt hc.1 (bf - 1)
    have hgt := sp_gd_lt hc.2.2 t
    refine gx_iload_n d_Mo_makeWay_47 rfl ?_
    refine gx_if_gtN (by omega) (tgt := 64) d_Mo_makeWay_48 (by decide) (fun h48 => ?_) (fun h48 => ?_)
    · obtain ⟨b2, rfl⟩ : ∃ b2, bf = b2 + 1 := ⟨bf - 1, by omega⟩
      rw [Nat.add_sub_cancel] at hgb
      refine gx_iload_n d_Mo_makeWay_64 rfl ?_
      refine gx_if_leN (by omega) (tgt := 74) d_Mo_makeWay_65 (by decide) (fun h65 => ?_) (fun h65 => ?_)
      · exact absurd h65 (by omega)
      · refine gx_iload_n d_Mo_makeWay_68 rfl ?_
        refine gx_iconst d_Mo_makeWay_69 (nI 1) (by decide) ?_
        refine gx_isubN (by omega) d_Mo_makeWay_70 ?_
        refine gx_goto (tgt := 75) d_Mo_makeWay_71 (by decide) ?_
        refine gx_istore d_Mo_makeWay_75 (Nat.le_of_ble_eq_true rfl) rfl ?_
        refine gx_iconst d_Mo_makeWay_77 (nI 0) (by decide) ?_
        refine gx_istore d_Mo_makeWay_78 (Nat.le_of_ble_eq_true rfl) rfl ?_
        refine lm_mw1 (cut := b2) (p0 := p) hk hc hl hT (by omega) 14 0 _ _ _ (by omega) (Nat.zero_le _) (by rw [List.take_zero]; exact (List.append_nil p).symm) (by omega) hW (fun I1 A1 hW1 => ?_)
        have hT1 := hW1.T hT
        refine gx_iload_n d_Mo_makeWay_111 rfl ?_
        refine gx_if_leN (by omega) (tgt := 142) d_Mo_makeWay_112 (by decide) (fun h112 => ?_) (fun h112 => ?_)
        · exact absurd h112 (by omega)
        · refine gx_aload_n d_Mo_makeWay_115 rfl ?_
          refine gx_aload_n d_Mo_makeWay_116 rfl ?_
          refine gx_aload_n d_Mo_makeWay_117 rfl ?_
          refine gx_get fl_Mo_29 d_Mo_makeWay_118 mo_o rfl ?_
          refine gx_iload_n d_Mo_makeWay_121 rfl ?_
          refine gx_iload_n d_Mo_makeWay_122 rfl ?_
          refine gx_iaddN d_Mo_makeWay_123 ?_
          refine gx_iconst d_Mo_makeWay_124 (nI 1) (by decide) ?_
          refine gx_isubN (by omega) d_Mo_makeWay_125 ?_
          refine gx_iald d_Mo_makeWay_126 mo_7 (by omega) (by omega) ?_
          rw [show 12 * k + (b2 + 1) - 1 = 12 * k + b2 by omega, hT1.2 _ (by omega), sp_txt_lo (by omega)]
          refine gx_bipush d_Mo_makeWay_127 (nI 104) (by decide) ?_
          refine gx_iconst d_Mo_makeWay_129 (nI 0) (by decide) ?_
          refine gx_cV1 lk_Mo_160 d_Mo_makeWay_130 (cm_find ((hW1.2.1 3 (by decide)).trans hI) (hW1.D hds) hd hdk (by omega) (by omega) (by omega) (fs_h1 (sp_gd_lt hc.1 b2))) (Or.inl ⟨_, mo_o⟩) (by omega) rfl rfl (Nat.le_of_ble_eq_true rfl) ?_
          refine gx_cVr lk_Mo_157 d_Mo_makeWay_133 (cm_goOn hW1 (by simp only [List.length_append, List.length_singleton, sp_cp_len, List.length_take, List.length_drop]; omega)) (Or.inl ⟨_, mo_o⟩) (by omega) rfl rfl (Nat.le_of_ble_eq_true rfl) (fun r2 w2 hq => ?_)
          obtain ⟨rfl, I2, A2, rfl, hW2⟩ := hq
          refine gx_iincM d_Mo_makeWay_136 rfl (by decide) (Nat.le_of_ble_eq_true rfl) rfl ?_
          refine gx_goto (tgt := 164) d_Mo_makeWay_139 (by decide) ?_
          refine gx_iload_n d_Mo_makeWay_164 rfl ?_
          refine gx_istore d_Mo_makeWay_165 (Nat.le_of_ble_eq_true rfl) rfl ?_
          refine lm_mw2 hI2 hk hc hl hT 14 t _ _ _ (by omega) (by simp only [List.length_append, List.length_singleton, sp_cp_len, List.length_take, List.length_drop]; omega) (by omega) hW2 (fun I3 A3 L9 hW3 => ?_)
          refine gx_aload_n d_Mo_makeWay_205 rfl ?_
          refine gx_iconst d_Mo_makeWay_206 (nI 1) (by decide) ?_
          refine gx_cVr lk_Mo_157 d_Mo_makeWay_207 (cm_goOn hW3 (by simp only [List.length_append, List.length_singleton, sp_cp_len, List.length_take, List.length_drop]; omega)) (Or.inl ⟨_, mo_o⟩) (by omega) rfl rfl (Nat.le_of_ble_eq_true rfl) (fun r2 w2 hq => ?_)
          obtain ⟨rfl, I4, A4, rfl, hW4⟩ := hq
          refine gx_goto (tgt := 47) d_Mo_makeWay_210 (by decide) ?_
          refine ih b2 t _ _ _ _ _ (by omega) (by omega) (by omega) (by simp only [List.length_append, List.length_singleton, sp_cp_len, List.length_take, List.length_drop]; omega) hW4 (fun I5 A5 M1 M3 M4 M5 hW5 => hX _ _ _ _ _ _ ?_)
          rw [show b2 + 1 + (c.2.2.length - t) = b2 + (c.2.2.length - t) + 1 by omega, hw_A (by omega)]
          simp only [List.append_assoc] at hW5 ⊢
          exact hW5
    · obtain rfl : bf = 0 := h48
      refine gx_iload_n d_Mo_makeWay_51 rfl ?_
      refine gx_aload_n d_Mo_makeWay_52 rfl ?_
      refine gx_get fl_Mo_26 d_Mo_makeWay_53 mo_o rfl ?_
      refine gx_aload_n d_Mo_makeWay_56 rfl ?_
      refine gx_get fl_Mo_110 d_Mo_makeWay_57 mo_o rfl ?_
      rw [hW.2.1 2 (by decide), hI2]
      refine gx_iald d_Mo_makeWay_60 mo_6 (by omega) (by omega) ?_
      rw [hW.at (j := 6) (by decide), hT.1]
      refine gx_icmp_geN (by omega) (by omega) (tgt := 213) d_Mo_makeWay_61 (by decide) (fun h61 => ?_) (fun h61 => ?_)
      · obtain rfl : t = c.2.2.length := by omega
        refine hX _ _ _ _ _ _ ?_
        rw [Nat.sub_self]
        unfold sp_hw
        rw [List.append_nil]
        exact hW
      · refine gx_iload_n d_Mo_makeWay_64 rfl ?_
        refine gx_if_leN (by omega) (tgt := 74) d_Mo_makeWay_65 (by decide) (fun h65 => ?_) (fun h65 => ?_)
        · refine gx_iconst d_Mo_makeWay_74 (nI 0) (by decide) ?_
          refine gx_istore d_Mo_makeWay_75 (Nat.le_of_ble_eq_true rfl) rfl ?_
          refine gx_iconst d_Mo_makeWay_77 (nI 0) (by decide) ?_
          refine gx_istore d_Mo_makeWay_78 (Nat.le_of_ble_eq_true rfl) rfl ?_
          refine lm_mw1 (cut := 0) (p0 := p) hk hc hl hT (by omega) 14 0 _ _ _ (by omega) (Nat.zero_le _) (by rw [List.take_zero]; exact (List.append_nil p).symm) (by omega) hW (fun I1 A1 hW1 => ?_)
          have hT1 := hW1.T hT
          refine gx_iload_n d_Mo_makeWay_111 rfl ?_
          refine gx_if_leN (by omega) (tgt := 142) d_Mo_makeWay_112 (by decide) (fun h112 => ?_) (fun h112 => ?_)
          · refine gx_aload_n d_Mo_makeWay_142 rfl ?_
            refine gx_aload_n d_Mo_makeWay_143 rfl ?_
            refine gx_bipush d_Mo_makeWay_144 (nI 104) (by decide) ?_
            refine gx_aload_n d_Mo_makeWay_146 rfl ?_
            refine gx_get fl_Mo_29 d_Mo_makeWay_147 mo_o rfl ?_
            refine gx_iload_n d_Mo_makeWay_150 rfl ?_
            refine gx_iload_n d_Mo_makeWay_151 rfl ?_
            refine gx_iaddN d_Mo_makeWay_152 ?_
            refine gx_iald d_Mo_makeWay_153 mo_7 (by omega) (by omega) ?_
            rw [hT1.2 _ (by omega), sp_txt_hi (by omega)]
            refine gx_iconst d_Mo_makeWay_154 (nI 0) (by decide) ?_
            refine gx_cV1 lk_Mo_160 d_Mo_makeWay_155 (cm_find ((hW1.2.1 3 (by decide)).trans hI) (hW1.D hds) hd hdk (by omega) (by omega) (by omega) (fs_h2 (sp_gd_lt hc.2.2 t))) (Or.inl ⟨_, mo_o⟩) (by omega) rfl rfl (Nat.le_of_ble_eq_true rfl) ?_
            refine gx_cVr lk_Mo_157 d_Mo_makeWay_158 (cm_goOn hW1 (by simp only [List.length_append, List.length_singleton, sp_cp_len, List.length_take, List.length_drop]; omega)) (Or.inl ⟨_, mo_o⟩) (by omega) rfl rfl (Nat.le_of_ble_eq_true rfl) (fun r2 w2 hq => ?_)
            obtain ⟨rfl, I2, A2, rfl, hW2⟩ := hq
            refine gx_iincN (n := 1) d_Mo_makeWay_161 rfl (by decide) (Nat.le_of_ble_eq_true rfl) rfl ?_
            refine gx_iload_n d_Mo_makeWay_164 rfl ?_
            refine gx_istore d_Mo_makeWay_165 (Nat.le_of_ble_eq_true rfl) rfl ?_
            refine lm_mw2 hI2 hk hc hl hT 14 (t + 1) _ _ _ (by omega) (by simp only [List.length_append, List.length_singleton, sp_cp_len, List.length_take, List.length_drop]; omega) (by omega) hW2 (fun I3 A3 L9 hW3 => ?_)
            refine gx_aload_n d_Mo_makeWay_205 rfl ?_
            refine gx_iconst d_Mo_makeWay_206 (nI 1) (by decide) ?_
            refine gx_cVr lk_Mo_157 d_Mo_makeWay_207 (cm_goOn hW3 (by simp only [List.length_append, List.length_singleton, sp_cp_len, List.length_take, List.length_drop]; omega)) (Or.inl ⟨_, mo_o⟩) (by omega) rfl rfl (Nat.le_of_ble_eq_true rfl) (fun r2 w2 hq => ?_)
            obtain ⟨rfl, I4, A4, rfl, hW4⟩ := hq
            refine gx_goto (tgt := 47) d_Mo_makeWay_210 (by decide) ?_
            refine ih 0 (t + 1) _ _ _ _ _ (by omega) (by omega) (by omega) (by simp only [List.length_append, List.length_singleton, sp_cp_len, List.length_take, List.length_drop]; omega) hW4 (fun I5 A5 M1 M3 M4 M5 hW5 => hX _ _ _ _ _ _ ?_)
            rw [show 0 + (c.2.2.length - t) = 0 + (c.2.2.length - (t + 1)) + 1 by omega, hw_B (by omega)]
            rw [List.take_zero, show sp_cp [] = [] from rfl, List.append_nil] at hW5
            simp only [List.append_assoc] at hW5 ⊢
            exact hW5
          · exact absurd h112 (by decide)
        · exact absurd h65 (by decide)
theorem lm_mw0 {Q : gx_P} {w : gx_W} {m : Nat} {I : Nat → Nat} {A : Nat → Nat → Nat} {tx : List Nat} {rs : List sp_C} (hr0 : rs ≠ []) (hr13 : rs.length ≤ 13) (hrs : ∀ i, i < rs.length → moT A i (rs.getD i ([], 0, [])) ∧ sp_ok (rs.getD i ([], 0, [])) ∧ sp_len (rs.getD i ([], 0, [])) ≤ 10) (hst : ∀ i, i + 1 < rs.length → sp_step (moM A) (rs.getD i ([], 0, [])) ≠ none) (hI2 : I 2 = rs.length - 1) (hM : sp_Mok (moM A)) (hI : I 3 = (sp_dom (moM A) tx).length) (hds : moDs A (sp_dom (moM A) tx)) (hd : (sp_dom (moM A) tx).length ≤ 60) (hdk : ∀ p ∈ sp_dom (moM A) tx, sp_dk p) {L2 L3 L4 L5 : Option Value} : ∀ (fu : Nat) (i : Nat) (p : List Nat) (I' : Nat → Nat) (A' : Nat → Nat → Nat), rs.length - 1 - i < fu → (i ≤ rs.length - 1) → (p = 0 :: (rs.take i).flatMap (sp_ws (moM A))) → (p.length ≤ 1 + 10 * i) → (moW I A I' A' p) → (∀ I'' A'' L1, moW I A I'' A'' (0 :: (rs.take (rs.length - 1)).flatMap (sp_ws (moM A))) → ((0 :: (rs.take (rs.length - 1)).flatMap (sp_ws (moM A))).length ≤ 121) → gx_X (fun _ _ => True) M_Mo_makeWay 5 Q 26 [some (.ref m), L1, L2, L3, L4, L5] [] (gx_mo w m I'' A'') (0, 0)) → gx_X (fun _ _ => True) M_Mo_makeWay 5 Q 7 [some (.ref m), some (.int (nI i)), L2, L3, L4, L5] [] (gx_mo w m I' A') (0, 0) := by
  intro fu
  induction fu with
  | zero => intro i p I' A' hfu; exact absurd hfu (Nat.not_lt_zero _)
  | succ fu ih =>
    intro i p I' A' hfu hi hp hpl hW hX
    refine gx_iload_n d_Mo_makeWay_7 rfl ?_
    refine gx_aload_n d_Mo_makeWay_8 rfl ?_
    refine gx_get fl_Mo_110 d_Mo_makeWay_9 mo_o rfl ?_
    rw [hW.2.1 2 (by decide), hI2]
    refine gx_icmp_geN (by omega) (by omega) (tgt := 26) d_Mo_makeWay_12 (by decide) (fun h12 => ?_) (fun h12 => ?_)
    · obtain rfl : i = rs.length - 1 := by omega
      rw [hp] at hW hpl
      exact hX _ _ _ hW (by omega)
    · refine gx_aload_n d_Mo_makeWay_15 rfl ?_
      refine gx_iload_n d_Mo_makeWay_16 rfl ?_
      refine gx_cVr lk_Mo_164 d_Mo_makeWay_17 (cm_wayStep (by omega) (hrs i (by omega)).2.1 (hrs i (by omega)).2.2 (hrs i (by omega)).1 hM hI hds hd hdk hW (by omega) (hst i (by omega))) (Or.inl ⟨_, mo_o⟩) (by omega) rfl rfl (Nat.le_of_ble_eq_true rfl) (fun r2 w2 hq => ?_)
      obtain ⟨rfl, I1, A1, rfl, hW1⟩ := hq
      refine gx_iincN (n := 1) d_Mo_makeWay_20 rfl (by decide) (Nat.le_of_ble_eq_true rfl) rfl ?_
      refine gx_goto (tgt := 7) d_Mo_makeWay_23 (by decide) ?_
      have hwl := sp_ws_len (hst i (by omega))
      have hl10 := (hrs i (by omega)).2.2
      refine ih (i + 1) _ _ _ (by omega) (by omega) ?_ (by rw [List.length_append]; omega) hW1 hX
      rw [hp, gx_takeC (by omega), List.flatMap_append, List.cons_append]
      simp
theorem cm_makeWay {w : gx_W} {m : Nat} {I : Nat → Nat} {A : Nat → Nat → Nat} {tx : List Nat} {rs : List sp_C} (hr0 : rs ≠ []) (hr13 : rs.length ≤ 13) (hrs : ∀ i, i < rs.length → moT A i (rs.getD i ([], 0, [])) ∧ sp_ok (rs.getD i ([], 0, [])) ∧ sp_len (rs.getD i ([], 0, [])) ≤ 10) (hst : ∀ i, i + 1 < rs.length → sp_step (moM A) (rs.getD i ([], 0, [])) ≠ none) (hI2 : I 2 = rs.length - 1) (hM : sp_Mok (moM A)) (hI : I 3 = (sp_dom (moM A) tx).length) (hds : moDs A (sp_dom (moM A) tx)) (hd : (sp_dom (moM A) tx).length ≤ 60) (hdk : ∀ p ∈ sp_dom (moM A) tx, sp_dk p) (hI4 : I 4 = 0) : gx_Ct M_Mo_makeWay 5 0 0 [.ref m] (gx_mo w m I A) (fun r w' => r = none ∧ ∃ I'' A'', w' = gx_mo w m I'' A'' ∧ moW I A I'' A'' (sp_wy (moM A) rs (sp_dom (moM A) tx).length)) := by
  refine gx_ct (L := [some (.ref m), none, none, none, none, none]) (by decide) (Nat.le_of_ble_eq_true rfl) rfl ?_
  have hpos : 0 < rs.length := List.length_pos_iff.mpr hr0
  have hW0 : moW I A I A [] := ⟨hI4, fun _ _ => rfl, fun _ _ => rfl, fun i hi => absurd hi (Nat.not_lt_zero _)⟩
  obtain ⟨c, hc0⟩ : ∃ c, rs.getD (rs.length - 1) ([], 0, []) = c := ⟨_, rfl⟩
  have hlast := hrs (rs.length - 1) (by omega)
  rw [hc0] at hlast
  obtain ⟨hcT, hc1, hcl10⟩ := hlast
  have hlen : sp_len c = c.1.length + 1 + c.2.2.length := rfl
  refine gx_aload_n d_Mo_makeWay_0 rfl ?_
  refine gx_iconst d_Mo_makeWay_1 (nI 0) (by decide) ?_
  refine gx_cVr lk_Mo_157 d_Mo_makeWay_2 (cm_goOn hW0 (by decide)) (Or.inl ⟨_, mo_o⟩) (by omega) rfl rfl (Nat.le_of_ble_eq_true rfl) (fun r2 w2 hq => ?_)
  obtain ⟨rfl, I1, A1, rfl, hW1⟩ := hq
  refine gx_iconst d_Mo_makeWay_5 (nI 0) (by decide) ?_
  refine gx_istore_n d_Mo_makeWay_6 (Nat.le_of_ble_eq_true rfl) rfl ?_
  refine lm_mw0 hr0 hr13 hrs hst hI2 hM hI hds hd hdk 14 0 [0] _ _ (by omega) (Nat.zero_le _) (by rw [List.take_zero]; rfl) (by decide) hW1 (fun I2 A2 L1 hW2 hpl => ?_)
  refine gx_aload_n d_Mo_makeWay_26 rfl ?_
  refine gx_aload_n d_Mo_makeWay_27 rfl ?_
  refine gx_get fl_Mo_110 d_Mo_makeWay_28 mo_o rfl ?_
  rw [hW2.2.1 2 (by decide), hI2]
  refine gx_cV1 lk_Mo_97 d_Mo_makeWay_31 (cm_head (by omega) hc1 (by omega) (hW2.T hcT)) (Or.inl ⟨_, mo_o⟩) (by omega) rfl rfl (Nat.le_of_ble_eq_true rfl) ?_
  refine gx_istore_n d_Mo_makeWay_34 (Nat.le_of_ble_eq_true rfl) rfl ?_
  refine gx_bipush d_Mo_makeWay_35 (nI 12) (by decide) ?_
  refine gx_aload_n d_Mo_makeWay_37 rfl ?_
  refine gx_get fl_Mo_110 d_Mo_makeWay_38 mo_o rfl ?_
  rw [hW2.2.1 2 (by decide), hI2]
  refine gx_imulN d_Mo_makeWay_41 ?_
  refine gx_istore_n d_Mo_makeWay_42 (Nat.le_of_ble_eq_true rfl) rfl ?_
  refine gx_iload_n d_Mo_makeWay_43 rfl ?_
  refine gx_iconst d_Mo_makeWay_44 (nI 1) (by decide) ?_
  refine gx_iaddN d_Mo_makeWay_45 ?_
  refine gx_istore_n d_Mo_makeWay_46 (Nat.le_of_ble_eq_true rfl) rfl ?_
  refine lm_mw3 (k := rs.length - 1) (tx := tx) (by omega) hc1 hcl10 hcT hI2 hM hI hds hd hdk 14 c.1.length 0 _ _ _ _ _ (by omega) (Nat.le_refl _) (Nat.zero_le _) (by omega) hW2 (fun I3 A3 M1 M3 M4 M5 hW3 => ?_)
  have hcl : sp_hw ((sp_dom (moM A) tx).length - 7) (c.1.length + (c.2.2.length - 0)) (c.1.take c.1.length) (c.2.2.drop 0) = sp_hw ((sp_dom (moM A) tx).length - 7) (c.1.length + c.2.2.length) c.1 c.2.2 := by rw [Nat.sub_zero, List.take_of_length_le (Nat.le_refl _), List.drop_zero]
  refine gx_aload_n d_Mo_makeWay_213 rfl ?_
  refine gx_aload_n d_Mo_makeWay_214 rfl ?_
  refine gx_bipush d_Mo_makeWay_215 (nI 104) (by decide) ?_
  refine gx_bipush d_Mo_makeWay_217 (nI 35) (by decide) ?_
  refine gx_bipush d_Mo_makeWay_219 (nI 35) (by decide) ?_
  refine gx_cV1 lk_Mo_160 d_Mo_makeWay_221 (cm_find ((hW3.2.1 3 (by decide)).trans hI) (hW3.D hds) hd hdk (by omega) (by omega) (by omega) fs_h3) (Or.inl ⟨_, mo_o⟩) (by omega) rfl rfl (Nat.le_of_ble_eq_true rfl) ?_
  refine gx_cVr lk_Mo_157 d_Mo_makeWay_224 (cm_goOn hW3 (by have hh := sp_hw_len ((sp_dom (moM A) tx).length - 7) (c.1.length + c.2.2.length) c rfl; have hq := Nat.mul_le_mul (show c.1.length + c.2.2.length ≤ 9 by omega) (show c.1.length + c.2.2.length + 2 ≤ 11 by omega); rw [List.length_append, hcl]; omega)) (Or.inl ⟨_, mo_o⟩) (by omega) rfl rfl (Nat.le_of_ble_eq_true rfl) (fun r2 w2 hq => ?_)
  obtain ⟨rfl, I4, A4, rfl, hW4⟩ := hq
  refine gx_return rfl d_Mo_makeWay_227 ?_
  refine ⟨rfl, _, _, rfl, ?_⟩
  rw [hcl] at hW4
  unfold sp_wy
  rw [hc0]
  exact hW4
theorem d_Mo_halted_0 : decode prog_11_method_9_code 0 = .ok (.aload_n 0, 1) := by decide +kernel
theorem d_Mo_halted_1 : decode prog_11_method_9_code 1 = .ok (.getfield 29, 3) := by decide +kernel
theorem d_Mo_halted_4 : decode prog_11_method_9_code 4 = .ok (.bipush 12, 2) := by decide +kernel
theorem d_Mo_halted_6 : decode prog_11_method_9_code 6 = .ok (.aload_n 0, 1) := by decide +kernel
theorem d_Mo_halted_7 : decode prog_11_method_9_code 7 = .ok (.getfield 110, 3) := by decide +kernel
theorem d_Mo_halted_10 : decode prog_11_method_9_code 10 = .ok (.imul, 1) := by decide +kernel
theorem d_Mo_halted_11 : decode prog_11_method_9_code 11 = .ok (.aload_n 0, 1) := by decide +kernel
theorem d_Mo_halted_12 : decode prog_11_method_9_code 12 = .ok (.aload_n 0, 1) := by decide +kernel
theorem d_Mo_halted_13 : decode prog_11_method_9_code 13 = .ok (.getfield 110, 3) := by decide +kernel
theorem d_Mo_halted_16 : decode prog_11_method_9_code 16 = .ok (.invokevirtual 97, 3) := by decide +kernel
theorem d_Mo_halted_19 : decode prog_11_method_9_code 19 = .ok (.iadd, 1) := by decide +kernel
theorem d_Mo_halted_20 : decode prog_11_method_9_code 20 = .ok (.iaload, 1) := by decide +kernel
theorem d_Mo_halted_21 : decode prog_11_method_9_code 21 = .ok (.bipush 104, 2) := by decide +kernel
theorem d_Mo_halted_23 : decode prog_11_method_9_code 23 = .ok (.if_icmp .ne 7, 3) := by decide +kernel
theorem d_Mo_halted_26 : decode prog_11_method_9_code 26 = .ok (.iconst 1, 1) := by decide +kernel
theorem d_Mo_halted_27 : decode prog_11_method_9_code 27 = .ok (.goto 4, 3) := by decide +kernel
theorem d_Mo_halted_30 : decode prog_11_method_9_code 30 = .ok (.iconst 0, 1) := by decide +kernel
theorem d_Mo_halted_31 : decode prog_11_method_9_code 31 = .ok (.ireturn, 1) := by decide +kernel
theorem cm_halted {w : gx_W} {m : Nat} {I : Nat → Nat} {A : Nat → Nat → Nat} {k : Nat} {c : sp_C} (hk : k ≤ 13) (hc : sp_ok c) (hl : sp_len c ≤ 12) (hT : moT A k c) (hI2 : I 2 = k) : gx_Ct M_Mo_halted 3 0 0 [.ref m] (gx_mo w m I A) (gx_eq (some (.int (nI (decide (c.2.1 = 4)).toNat))) (gx_mo w m I A)) := by
  refine gx_ct (L := [some (.ref m)]) (by decide) (Nat.le_of_ble_eq_true rfl) rfl ?_
  have hlen : sp_len c = c.1.length + 1 + c.2.2.length := rfl
  have hsz := sp_txt_len c
  have hq := hc.2.1
  have hl2 := sp_let_lt hq
  refine gx_aload_n d_Mo_halted_0 rfl ?_
  refine gx_get fl_Mo_29 d_Mo_halted_1 mo_o rfl ?_
  refine gx_bipush d_Mo_halted_4 (nI 12) (by decide) ?_
  refine gx_aload_n d_Mo_halted_6 rfl ?_
  refine gx_get fl_Mo_110 d_Mo_halted_7 mo_o rfl ?_
  rw [hI2]
  refine gx_imulN d_Mo_halted_10 ?_
  refine gx_aload_n d_Mo_halted_11 rfl ?_
  refine gx_aload_n d_Mo_halted_12 rfl ?_
  refine gx_get fl_Mo_110 d_Mo_halted_13 mo_o rfl ?_
  rw [hI2]
  refine gx_cV1 lk_Mo_97 d_Mo_halted_16 (cm_head hk hc hl hT) (Or.inl ⟨_, mo_o⟩) (by omega) rfl rfl (Nat.le_of_ble_eq_true rfl) ?_
  refine gx_iaddN d_Mo_halted_19 ?_
  refine gx_iald d_Mo_halted_20 mo_7 (by omega) (by omega) ?_
  rw [hT.2 _ (by omega), sp_txt_mid]
  refine gx_bipush d_Mo_halted_21 (nI 104) (by decide) ?_
  refine gx_icmp_neN (by omega) (by omega) (tgt := 30) d_Mo_halted_23 (by decide) (fun h23 => ?_) (fun h23 => ?_)
  · refine gx_iconst d_Mo_halted_30 (nI 0) (by decide) ?_
    refine gx_zreturn rfl (by decide) d_Mo_halted_31 ?_
    exact ⟨by rw [decide_eq_false (fun g => h23 ((sp_let_eq hq).mpr g))]; rfl, rfl⟩
  · refine gx_iconst d_Mo_halted_26 (nI 1) (by decide) ?_
    refine gx_goto (tgt := 31) d_Mo_halted_27 (by decide) ?_
    refine gx_zreturn rfl (by decide) d_Mo_halted_31 ?_
    exact ⟨by rw [decide_eq_true ((sp_let_eq hq).mp h23)]; rfl, rfl⟩
