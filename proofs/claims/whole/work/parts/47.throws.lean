/-! the law: its cases, those that may throw -/
theorem lg_same (x : Int64) : lg_cmp x x = 0 := by unfold lg_cmp; simp
theorem vp_u0 {f : Nat → Int64} {x : Int64} : vp_updL f 0 x 0 = x := by unfold vp_updL; simp
theorem lw_rule_bad0 {Q : gx_P} {sb L0 B i b1 b2 : Nat} {xs : Nat → Int32} {L5 L6 : Option Value} (hL : L0 ≤ 3072) (hi : i + 6 ≤ L0) {w : gx_W} {S : sp_St} (h : lwI B w S) (hX : ∀ w' S' L5 L6, lwI B w' S' → gx_X (gx_cF sb L0 xs) M_Law_law 10 Q 816 [some (.ref sb), some (.ref B), some (.ref (B + 360)), some (.ref (B + 385)), some (.int (nI i)), L5, L6] [] w' (b1, b2)) (hbad : ¬ (sp_in (xs (i + 1)) 4 = true ∧ sp_in (xs (i + 2)) 3 = true ∧ sp_in (xs (i + 3)) 3 = true ∧ sp_in (xs (i + 5)) 5 = true)) (hz : xs (i + 4) = 0) : gx_X (gx_cF sb L0 xs) M_Law_law 10 Q 128 [some (.ref sb), some (.ref B), some (.ref (B + 360)), some (.ref (B + 385)), some (.int (nI i)), L5, L6] [] w (b1 + 1, b2 + 6) := by
  obtain ⟨hP, ⟨I, A, hmo, hm⟩, ⟨f, hO⟩, hS, hT⟩ := h
  have hB := hP.1.1
  refine gx_aload_n d_Law_law_128 rfl ?_
  refine gx_aload_n d_Law_law_129 rfl ?_
  refine gx_iload d_Law_law_130 rfl ?_
  refine gx_iconst d_Law_law_132 (nI 1) (by decide) ?_
  refine gx_iaddN d_Law_law_133 ?_
  refine gx_cld (by omega) (by omega) d_Law_law_134 ?_
  refine gx_aload_n d_Law_law_135 rfl ?_
  refine gx_iload d_Law_law_136 rfl ?_
  refine gx_iconst d_Law_law_138 (nI 2) (by decide) ?_
  refine gx_iaddN d_Law_law_139 ?_
  refine gx_cld (by omega) (by omega) d_Law_law_140 ?_
  refine gx_aload_n d_Law_law_141 rfl ?_
  refine gx_iload d_Law_law_142 rfl ?_
  refine gx_iconst d_Law_law_144 (nI 3) (by decide) ?_
  refine gx_iaddN d_Law_law_145 ?_
  refine gx_cld (by omega) (by omega) d_Law_law_146 ?_
  refine gx_aload_n d_Law_law_147 rfl ?_
  refine gx_iload d_Law_law_148 rfl ?_
  refine gx_iconst d_Law_law_150 (nI 4) (by decide) ?_
  refine gx_iaddN d_Law_law_151 ?_
  refine gx_cld (by omega) (by omega) d_Law_law_152 ?_
  refine gx_if_eq (tgt := 160) d_Law_law_153 (by decide) (fun h153 => ?_) (fun h153 => ?_)
  · refine gx_iconst d_Law_law_160 (nI 0) (by decide) ?_
    refine gx_aload_n d_Law_law_161 rfl ?_
    refine gx_iload d_Law_law_162 rfl ?_
    refine gx_iconst d_Law_law_164 (nI 5) (by decide) ?_
    refine gx_iaddN d_Law_law_165 ?_
    refine gx_cld (by omega) (by omega) d_Law_law_166 ?_
    refine gx_aload_n d_Law_law_167 rfl ?_
    refine gx_callW (n := 7) (as := [.ref B, .int (xs (i + 1)), .int (xs (i + 2)), .int (xs (i + 3)), .int (nI 0), .int (xs (i + 5)), .ref (B + 385)]) cw_Law_rule ml_Law_36 sn_Law_rule in_Law ⟨by decide, by decide⟩ (by decide) (by unfold gx_np; decide +kernel) d_Law_law_168 (by decide) (bd_Law_rule (p3 := (nI 0)) hbad hB) (Nat.le_of_ble_eq_true rfl) (by omega) rfl rfl (Nat.le_of_ble_eq_true rfl) ⟨by show 0 + 1 ≤ b1 + 1; omega, by show 0 + 6 ≤ b2 + 6; omega⟩ (fun r1 w1 hq => ?_)
    obtain ⟨rfl, rfl⟩ := hq
    refine gx_bud b1 b2 (by show b1 ≤ b1 + 1 - (0 + 1); omega) (by show b2 ≤ b2 + 6 - (0 + 6); omega) ?_
    refine gx_istore d_Law_law_171 (Nat.le_of_ble_eq_true rfl) rfl ?_
    refine gx_aload_n d_Law_law_173 rfl ?_
    refine gx_aload_n d_Law_law_174 rfl ?_
    refine gx_iload d_Law_law_175 rfl ?_
    refine gx_iconst d_Law_law_177 (nI 1) (by decide) ?_
    refine gx_iaddN d_Law_law_178 ?_
    refine gx_cld (by omega) (by omega) d_Law_law_179 ?_
    refine gx_aload_n d_Law_law_180 rfl ?_
    refine gx_iload d_Law_law_181 rfl ?_
    refine gx_iconst d_Law_law_183 (nI 2) (by decide) ?_
    refine gx_iaddN d_Law_law_184 ?_
    refine gx_cld (by omega) (by omega) d_Law_law_185 ?_
    refine gx_aload_n d_Law_law_186 rfl ?_
    refine gx_iload d_Law_law_187 rfl ?_
    refine gx_iconst d_Law_law_189 (nI 3) (by decide) ?_
    refine gx_iaddN d_Law_law_190 ?_
    refine gx_cld (by omega) (by omega) d_Law_law_191 ?_
    refine gx_aload_n d_Law_law_192 rfl ?_
    refine gx_iload d_Law_law_193 rfl ?_
    refine gx_iconst d_Law_law_195 (nI 4) (by decide) ?_
    refine gx_iaddN d_Law_law_196 ?_
    refine gx_cld (by omega) (by omega) d_Law_law_197 ?_
    refine gx_if_eq (tgt := 205) d_Law_law_198 (by decide) (fun h198 => ?_) (fun h198 => ?_)
    · refine gx_iconst d_Law_law_205 (nI 0) (by decide) ?_
      refine gx_aload_n d_Law_law_206 rfl ?_
      refine gx_iload d_Law_law_207 rfl ?_
      refine gx_iconst d_Law_law_209 (nI 5) (by decide) ?_
      refine gx_iaddN d_Law_law_210 ?_
      refine gx_cld (by omega) (by omega) d_Law_law_211 ?_
      refine gx_w (mo_gr hmo) ?_
      refine gx_cV1 lk_Law_41 d_Law_law_212 (bm_rule hbad) (Or.inl ⟨_, mo_o⟩) (by omega) rfl rfl (Nat.le_of_ble_eq_true rfl) ?_
      refine gx_istore d_Law_law_215 (Nat.le_of_ble_eq_true rfl) rfl ?_
      refine gx_aload_n d_Law_law_217 rfl ?_
      refine gx_cV1 lk_Law_42 d_Law_law_218 (cm_thrown) (Or.inl ⟨_, mo_o⟩) (by omega) rfl rfl (Nat.le_of_ble_eq_true rfl) ?_
      rw [ui_s]
      refine gx_iload d_Law_law_221 rfl ?_
      refine gx_icmp_eq (tgt := 228) d_Law_law_223 (by decide) (fun h223 => ?_) (fun h223 => ?_)
      · refine gx_iload d_Law_law_228 rfl ?_
        refine gx_if_neN (by omega) (tgt := 252) d_Law_law_230 (by decide) (fun h230 => ?_) (fun h230 => ?_)
        · refine gx_goto (tgt := 816) d_Law_law_252 (by decide) ?_
          exact hX _ S _ _ (lwI.mo (w := gx_gr w 1) hP hO hm.t hS hT)
        · exact absurd h230 (by decide)
      · exact absurd rfl h223
    · exact absurd hz h198
  · exact absurd hz h153
theorem lw_rule_ok0 {Q : gx_P} {sb L0 B i b1 b2 : Nat} {xs : Nat → Int32} {L5 L6 : Option Value} (hL : L0 ≤ 3072) (hi : i + 6 ≤ L0) {w : gx_W} {S : sp_St} (h : lwI B w S) (hX : ∀ w' S' L5 L6, lwI B w' S' → gx_X (gx_cF sb L0 xs) M_Law_law 10 Q 816 [some (.ref sb), some (.ref B), some (.ref (B + 360)), some (.ref (B + 385)), some (.int (nI i)), L5, L6] [] w' (b1, b2)) {q s wr nx : Nat} (e1 : xs (i + 1) = nI q) (e2 : xs (i + 2) = nI s) (e3 : xs (i + 3) = nI wr) (e5 : xs (i + 5) = nI nx) (hq : q < 4) (hs : s < 3) (hwr : wr < 3) (hnx : nx ≤ 4) (hz : xs (i + 4) = 0) : gx_X (gx_cF sb L0 xs) M_Law_law 10 Q 128 [some (.ref sb), some (.ref B), some (.ref (B + 360)), some (.ref (B + 385)), some (.int (nI i)), L5, L6] [] w (b1 + 1, b2 + 6) := by
  obtain ⟨hP, ⟨I, A, hmo, hm⟩, ⟨f, hO⟩, hS, hT⟩ := h
  have hB := hP.1.1
  have hb1 := op_rule_1 S q s wr 0 nx
  refine gx_aload_n d_Law_law_128 rfl ?_
  refine gx_aload_n d_Law_law_129 rfl ?_
  refine gx_iload d_Law_law_130 rfl ?_
  refine gx_iconst d_Law_law_132 (nI 1) (by decide) ?_
  refine gx_iaddN d_Law_law_133 ?_
  refine gx_cld (by omega) (by omega) d_Law_law_134 ?_
  rw [e1]
  refine gx_aload_n d_Law_law_135 rfl ?_
  refine gx_iload d_Law_law_136 rfl ?_
  refine gx_iconst d_Law_law_138 (nI 2) (by decide) ?_
  refine gx_iaddN d_Law_law_139 ?_
  refine gx_cld (by omega) (by omega) d_Law_law_140 ?_
  rw [e2]
  refine gx_aload_n d_Law_law_141 rfl ?_
  refine gx_iload d_Law_law_142 rfl ?_
  refine gx_iconst d_Law_law_144 (nI 3) (by decide) ?_
  refine gx_iaddN d_Law_law_145 ?_
  refine gx_cld (by omega) (by omega) d_Law_law_146 ?_
  rw [e3]
  refine gx_aload_n d_Law_law_147 rfl ?_
  refine gx_iload d_Law_law_148 rfl ?_
  refine gx_iconst d_Law_law_150 (nI 4) (by decide) ?_
  refine gx_iaddN d_Law_law_151 ?_
  refine gx_cld (by omega) (by omega) d_Law_law_152 ?_
  refine gx_if_eq (tgt := 160) d_Law_law_153 (by decide) (fun h153 => ?_) (fun h153 => ?_)
  · refine gx_iconst d_Law_law_160 (nI 0) (by decide) ?_
    refine gx_aload_n d_Law_law_161 rfl ?_
    refine gx_iload d_Law_law_162 rfl ?_
    refine gx_iconst d_Law_law_164 (nI 5) (by decide) ?_
    refine gx_iaddN d_Law_law_165 ?_
    refine gx_cld (by omega) (by omega) d_Law_law_166 ?_
    rw [e5]
    refine gx_aload_n d_Law_law_167 rfl ?_
    refine gx_callW (n := 7) (as := [.ref B, .int (nI q), .int (nI s), .int (nI wr), .int (nI 0), .int (nI nx), .ref (B + 385)]) cw_Law_rule ml_Law_36 sn_Law_rule in_Law ⟨by decide, by decide⟩ (by decide) (by unfold gx_np; decide +kernel) d_Law_law_168 (by decide) (ok_Law_rule (rt := 0) hP hS hO (by omega) hq hs hwr (by decide) hnx) (Nat.le_of_ble_eq_true rfl) (by omega) rfl rfl (Nat.le_of_ble_eq_true rfl) ⟨by show 0 + 1 ≤ b1 + 1; omega, by show 0 + 6 ≤ b2 + 6; omega⟩ (fun r1 w1 hq => ?_)
    obtain ⟨rfl, w2, p2, k2, rfl⟩ := hq
    refine gx_bud b1 b2 (by show b1 ≤ b1 + 1 - (0 + 1); omega) (by show b2 ≤ b2 + 6 - (0 + 6); omega) ?_
    refine gx_istore d_Law_law_171 (Nat.le_of_ble_eq_true rfl) rfl ?_
    refine gx_aload_n d_Law_law_173 rfl ?_
    refine gx_aload_n d_Law_law_174 rfl ?_
    refine gx_iload d_Law_law_175 rfl ?_
    refine gx_iconst d_Law_law_177 (nI 1) (by decide) ?_
    refine gx_iaddN d_Law_law_178 ?_
    refine gx_cld (by omega) (by omega) d_Law_law_179 ?_
    rw [e1]
    refine gx_aload_n d_Law_law_180 rfl ?_
    refine gx_iload d_Law_law_181 rfl ?_
    refine gx_iconst d_Law_law_183 (nI 2) (by decide) ?_
    refine gx_iaddN d_Law_law_184 ?_
    refine gx_cld (by omega) (by omega) d_Law_law_185 ?_
    rw [e2]
    refine gx_aload_n d_Law_law_186 rfl ?_
    refine gx_iload d_Law_law_187 rfl ?_
    refine gx_iconst d_Law_law_189 (nI 3) (by decide) ?_
    refine gx_iaddN d_Law_law_190 ?_
    refine gx_cld (by omega) (by omega) d_Law_law_191 ?_
    rw [e3]
    refine gx_aload_n d_Law_law_192 rfl ?_
    refine gx_iload d_Law_law_193 rfl ?_
    refine gx_iconst d_Law_law_195 (nI 4) (by decide) ?_
    refine gx_iaddN d_Law_law_196 ?_
    refine gx_cld (by omega) (by omega) d_Law_law_197 ?_
    refine gx_if_eq (tgt := 205) d_Law_law_198 (by decide) (fun h198 => ?_) (fun h198 => ?_)
    · refine gx_iconst d_Law_law_205 (nI 0) (by decide) ?_
      refine gx_aload_n d_Law_law_206 rfl ?_
      refine gx_iload d_Law_law_207 rfl ?_
      refine gx_iconst d_Law_law_209 (nI 5) (by decide) ?_
      refine gx_iaddN d_Law_law_210 ?_
      refine gx_cld (by omega) (by omega) d_Law_law_211 ?_
      rw [e5]
      refine gx_w (mo_sto (mo_kp hmo k2) (by omega)) ?_
      refine gx_cVr lk_Law_41 d_Law_law_212 (cm_rule (rt := 0) hm hS hq hs hwr (by decide) hnx) (Or.inl ⟨_, mo_o⟩) (by omega) rfl rfl (Nat.le_of_ble_eq_true rfl) (fun r1 w3 hq => ?_)
      obtain ⟨rfl, I2, A2, rfl, hm2, ht2⟩ := hq
      refine gx_istore d_Law_law_215 (Nat.le_of_ble_eq_true rfl) rfl ?_
      refine gx_aload_n d_Law_law_217 rfl ?_
      refine gx_cV1 lk_Law_42 d_Law_law_218 (cm_thrown) (Or.inl ⟨_, mo_o⟩) (by omega) rfl rfl (Nat.le_of_ble_eq_true rfl) ?_
      rw [ht2]
      refine gx_iload d_Law_law_221 rfl ?_
      refine gx_icmp_eq (tgt := 228) d_Law_law_223 (by decide) (fun h223 => ?_) (fun h223 => ?_)
      · refine gx_iload d_Law_law_228 rfl ?_
        refine gx_if_neN (by omega) (tgt := 252) d_Law_law_230 (by decide) (fun h230 => ?_) (fun h230 => ?_)
        · exact absurd rfl h230
        · refine gx_aload_n d_Law_law_233 rfl ?_
          refine gx_iconst d_Law_law_234 (nI 0) (by decide) ?_
          refine gx_lald d_Law_law_235 ((mo_out (by omega)).trans gx_st_eq) (by omega) (by omega) ?_
          rw [vp_u0]
          refine gx_iload d_Law_law_236 rfl ?_
          refine gx_if_eqN (by omega) (tgt := 245) d_Law_law_238 (by decide) (fun h238 => ?_) (fun h238 => ?_)
          · refine gx_lconst d_Law_law_245 (lN 0) rfl ?_
            refine gx_lcmp d_Law_law_246 ?_
            rw [h238, lg_same]
            refine gx_if_eq (tgt := 252) d_Law_law_247 (by decide) (fun h247 => ?_) (fun h247 => ?_)
            · refine gx_goto (tgt := 816) d_Law_law_252 (by decide) ?_
              exact hX _ _ _ _ (lwI.mo (p2.inn (fun q x y => gx_st_ne (by omega))) gx_st_eq hm2 (sok_rule (q := q) (s := s) (rt := 0) hS hT hwr (by decide) hnx).1 (sok_rule (q := q) (s := s) (rt := 0) hS hT hwr (by decide) hnx).2)
            · exact absurd rfl h247
          · refine gx_lconst d_Law_law_241 (lN 1) rfl ?_
            refine gx_goto (tgt := 246) d_Law_law_242 (by decide) ?_
            refine gx_lcmp d_Law_law_246 ?_
            rw [show (op_rule S q s wr 0 nx).1 = 1 by omega, lg_same]
            refine gx_if_eq (tgt := 252) d_Law_law_247 (by decide) (fun h247 => ?_) (fun h247 => ?_)
            · refine gx_goto (tgt := 816) d_Law_law_252 (by decide) ?_
              exact hX _ _ _ _ (lwI.mo (p2.inn (fun q x y => gx_st_ne (by omega))) gx_st_eq hm2 (sok_rule (q := q) (s := s) (rt := 0) hS hT hwr (by decide) hnx).1 (sok_rule (q := q) (s := s) (rt := 0) hS hT hwr (by decide) hnx).2)
            · exact absurd rfl h247
      · exact absurd rfl h223
    · exact absurd hz h198
  · exact absurd hz h153
theorem lw_rule_bad1 {Q : gx_P} {sb L0 B i b1 b2 : Nat} {xs : Nat → Int32} {L5 L6 : Option Value} (hL : L0 ≤ 3072) (hi : i + 6 ≤ L0) {w : gx_W} {S : sp_St} (h : lwI B w S) (hX : ∀ w' S' L5 L6, lwI B w' S' → gx_X (gx_cF sb L0 xs) M_Law_law 10 Q 816 [some (.ref sb), some (.ref B), some (.ref (B + 360)), some (.ref (B + 385)), some (.int (nI i)), L5, L6] [] w' (b1, b2)) (hbad : ¬ (sp_in (xs (i + 1)) 4 = true ∧ sp_in (xs (i + 2)) 3 = true ∧ sp_in (xs (i + 3)) 3 = true ∧ sp_in (xs (i + 5)) 5 = true)) (hz : ¬ xs (i + 4) = 0) : gx_X (gx_cF sb L0 xs) M_Law_law 10 Q 128 [some (.ref sb), some (.ref B), some (.ref (B + 360)), some (.ref (B + 385)), some (.int (nI i)), L5, L6] [] w (b1 + 1, b2 + 6) := by
  obtain ⟨hP, ⟨I, A, hmo, hm⟩, ⟨f, hO⟩, hS, hT⟩ := h
  have hB := hP.1.1
  refine gx_aload_n d_Law_law_128 rfl ?_
  refine gx_aload_n d_Law_law_129 rfl ?_
  refine gx_iload d_Law_law_130 rfl ?_
  refine gx_iconst d_Law_law_132 (nI 1) (by decide) ?_
  refine gx_iaddN d_Law_law_133 ?_
  refine gx_cld (by omega) (by omega) d_Law_law_134 ?_
  refine gx_aload_n d_Law_law_135 rfl ?_
  refine gx_iload d_Law_law_136 rfl ?_
  refine gx_iconst d_Law_law_138 (nI 2) (by decide) ?_
  refine gx_iaddN d_Law_law_139 ?_
  refine gx_cld (by omega) (by omega) d_Law_law_140 ?_
  refine gx_aload_n d_Law_law_141 rfl ?_
  refine gx_iload d_Law_law_142 rfl ?_
  refine gx_iconst d_Law_law_144 (nI 3) (by decide) ?_
  refine gx_iaddN d_Law_law_145 ?_
  refine gx_cld (by omega) (by omega) d_Law_law_146 ?_
  refine gx_aload_n d_Law_law_147 rfl ?_
  refine gx_iload d_Law_law_148 rfl ?_
  refine gx_iconst d_Law_law_150 (nI 4) (by decide) ?_
  refine gx_iaddN d_Law_law_151 ?_
  refine gx_cld (by omega) (by omega) d_Law_law_152 ?_
  refine gx_if_eq (tgt := 160) d_Law_law_153 (by decide) (fun h153 => ?_) (fun h153 => ?_)
  · exact absurd h153 hz
  · refine gx_iconst d_Law_law_156 (nI 1) (by decide) ?_
    refine gx_goto (tgt := 161) d_Law_law_157 (by decide) ?_
    refine gx_aload_n d_Law_law_161 rfl ?_
    refine gx_iload d_Law_law_162 rfl ?_
    refine gx_iconst d_Law_law_164 (nI 5) (by decide) ?_
    refine gx_iaddN d_Law_law_165 ?_
    refine gx_cld (by omega) (by omega) d_Law_law_166 ?_
    refine gx_aload_n d_Law_law_167 rfl ?_
    refine gx_callW (n := 7) (as := [.ref B, .int (xs (i + 1)), .int (xs (i + 2)), .int (xs (i + 3)), .int (nI 1), .int (xs (i + 5)), .ref (B + 385)]) cw_Law_rule ml_Law_36 sn_Law_rule in_Law ⟨by decide, by decide⟩ (by decide) (by unfold gx_np; decide +kernel) d_Law_law_168 (by decide) (bd_Law_rule (p3 := (nI 1)) hbad hB) (Nat.le_of_ble_eq_true rfl) (by omega) rfl rfl (Nat.le_of_ble_eq_true rfl) ⟨by show 0 + 1 ≤ b1 + 1; omega, by show 0 + 6 ≤ b2 + 6; omega⟩ (fun r1 w1 hq => ?_)
    obtain ⟨rfl, rfl⟩ := hq
    refine gx_bud b1 b2 (by show b1 ≤ b1 + 1 - (0 + 1); omega) (by show b2 ≤ b2 + 6 - (0 + 6); omega) ?_
    refine gx_istore d_Law_law_171 (Nat.le_of_ble_eq_true rfl) rfl ?_
    refine gx_aload_n d_Law_law_173 rfl ?_
    refine gx_aload_n d_Law_law_174 rfl ?_
    refine gx_iload d_Law_law_175 rfl ?_
    refine gx_iconst d_Law_law_177 (nI 1) (by decide) ?_
    refine gx_iaddN d_Law_law_178 ?_
    refine gx_cld (by omega) (by omega) d_Law_law_179 ?_
    refine gx_aload_n d_Law_law_180 rfl ?_
    refine gx_iload d_Law_law_181 rfl ?_
    refine gx_iconst d_Law_law_183 (nI 2) (by decide) ?_
    refine gx_iaddN d_Law_law_184 ?_
    refine gx_cld (by omega) (by omega) d_Law_law_185 ?_
    refine gx_aload_n d_Law_law_186 rfl ?_
    refine gx_iload d_Law_law_187 rfl ?_
    refine gx_iconst d_Law_law_189 (nI 3) (by decide) ?_
    refine gx_iaddN d_Law_law_190 ?_
    refine gx_cld (by omega) (by omega) d_Law_law_191 ?_
    refine gx_aload_n d_Law_law_192 rfl ?_
    refine gx_iload d_Law_law_193 rfl ?_
    refine gx_iconst d_Law_law_195 (nI 4) (by decide) ?_
    refine gx_iaddN d_Law_law_196 ?_
    refine gx_cld (by omega) (by omega) d_Law_law_197 ?_
    refine gx_if_eq (tgt := 205) d_Law_law_198 (by decide) (fun h198 => ?_) (fun h198 => ?_)
    · exact absurd h198 hz
    · refine gx_iconst d_Law_law_201 (nI 1) (by decide) ?_
      refine gx_goto (tgt := 206) d_Law_law_202 (by decide) ?_
      refine gx_aload_n d_Law_law_206 rfl ?_
      refine gx_iload d_Law_law_207 rfl ?_
      refine gx_iconst d_Law_law_209 (nI 5) (by decide) ?_
      refine gx_iaddN d_Law_law_210 ?_
      refine gx_cld (by omega) (by omega) d_Law_law_211 ?_
      refine gx_w (mo_gr hmo) ?_
      refine gx_cV1 lk_Law_41 d_Law_law_212 (bm_rule hbad) (Or.inl ⟨_, mo_o⟩) (by omega) rfl rfl (Nat.le_of_ble_eq_true rfl) ?_
      refine gx_istore d_Law_law_215 (Nat.le_of_ble_eq_true rfl) rfl ?_
      refine gx_aload_n d_Law_law_217 rfl ?_
      refine gx_cV1 lk_Law_42 d_Law_law_218 (cm_thrown) (Or.inl ⟨_, mo_o⟩) (by omega) rfl rfl (Nat.le_of_ble_eq_true rfl) ?_
      rw [ui_s]
      refine gx_iload d_Law_law_221 rfl ?_
      refine gx_icmp_eq (tgt := 228) d_Law_law_223 (by decide) (fun h223 => ?_) (fun h223 => ?_)
      · refine gx_iload d_Law_law_228 rfl ?_
        refine gx_if_neN (by omega) (tgt := 252) d_Law_law_230 (by decide) (fun h230 => ?_) (fun h230 => ?_)
        · refine gx_goto (tgt := 816) d_Law_law_252 (by decide) ?_
          exact hX _ S _ _ (lwI.mo (w := gx_gr w 1) hP hO hm.t hS hT)
        · exact absurd h230 (by decide)
      · exact absurd rfl h223
theorem lw_rule_ok1 {Q : gx_P} {sb L0 B i b1 b2 : Nat} {xs : Nat → Int32} {L5 L6 : Option Value} (hL : L0 ≤ 3072) (hi : i + 6 ≤ L0) {w : gx_W} {S : sp_St} (h : lwI B w S) (hX : ∀ w' S' L5 L6, lwI B w' S' → gx_X (gx_cF sb L0 xs) M_Law_law 10 Q 816 [some (.ref sb), some (.ref B), some (.ref (B + 360)), some (.ref (B + 385)), some (.int (nI i)), L5, L6] [] w' (b1, b2)) {q s wr nx : Nat} (e1 : xs (i + 1) = nI q) (e2 : xs (i + 2) = nI s) (e3 : xs (i + 3) = nI wr) (e5 : xs (i + 5) = nI nx) (hq : q < 4) (hs : s < 3) (hwr : wr < 3) (hnx : nx ≤ 4) (hz : ¬ xs (i + 4) = 0) : gx_X (gx_cF sb L0 xs) M_Law_law 10 Q 128 [some (.ref sb), some (.ref B), some (.ref (B + 360)), some (.ref (B + 385)), some (.int (nI i)), L5, L6] [] w (b1 + 1, b2 + 6) := by
  obtain ⟨hP, ⟨I, A, hmo, hm⟩, ⟨f, hO⟩, hS, hT⟩ := h
  have hB := hP.1.1
  have hb1 := op_rule_1 S q s wr 1 nx
  refine gx_aload_n d_Law_law_128 rfl ?_
  refine gx_aload_n d_Law_law_129 rfl ?_
  refine gx_iload d_Law_law_130 rfl ?_
  refine gx_iconst d_Law_law_132 (nI 1) (by decide) ?_
  refine gx_iaddN d_Law_law_133 ?_
  refine gx_cld (by omega) (by omega) d_Law_law_134 ?_
  rw [e1]
  refine gx_aload_n d_Law_law_135 rfl ?_
  refine gx_iload d_Law_law_136 rfl ?_
  refine gx_iconst d_Law_law_138 (nI 2) (by decide) ?_
  refine gx_iaddN d_Law_law_139 ?_
  refine gx_cld (by omega) (by omega) d_Law_law_140 ?_
  rw [e2]
  refine gx_aload_n d_Law_law_141 rfl ?_
  refine gx_iload d_Law_law_142 rfl ?_
  refine gx_iconst d_Law_law_144 (nI 3) (by decide) ?_
  refine gx_iaddN d_Law_law_145 ?_
  refine gx_cld (by omega) (by omega) d_Law_law_146 ?_
  rw [e3]
  refine gx_aload_n d_Law_law_147 rfl ?_
  refine gx_iload d_Law_law_148 rfl ?_
  refine gx_iconst d_Law_law_150 (nI 4) (by decide) ?_
  refine gx_iaddN d_Law_law_151 ?_
  refine gx_cld (by omega) (by omega) d_Law_law_152 ?_
  refine gx_if_eq (tgt := 160) d_Law_law_153 (by decide) (fun h153 => ?_) (fun h153 => ?_)
  · exact absurd h153 hz
  · refine gx_iconst d_Law_law_156 (nI 1) (by decide) ?_
    refine gx_goto (tgt := 161) d_Law_law_157 (by decide) ?_
    refine gx_aload_n d_Law_law_161 rfl ?_
    refine gx_iload d_Law_law_162 rfl ?_
    refine gx_iconst d_Law_law_164 (nI 5) (by decide) ?_
    refine gx_iaddN d_Law_law_165 ?_
    refine gx_cld (by omega) (by omega) d_Law_law_166 ?_
    rw [e5]
    refine gx_aload_n d_Law_law_167 rfl ?_
    refine gx_callW (n := 7) (as := [.ref B, .int (nI q), .int (nI s), .int (nI wr), .int (nI 1), .int (nI nx), .ref (B + 385)]) cw_Law_rule ml_Law_36 sn_Law_rule in_Law ⟨by decide, by decide⟩ (by decide) (by unfold gx_np; decide +kernel) d_Law_law_168 (by decide) (ok_Law_rule (rt := 1) hP hS hO (by omega) hq hs hwr (by decide) hnx) (Nat.le_of_ble_eq_true rfl) (by omega) rfl rfl (Nat.le_of_ble_eq_true rfl) ⟨by show 0 + 1 ≤ b1 + 1; omega, by show 0 + 6 ≤ b2 + 6; omega⟩ (fun r1 w1 hq => ?_)
    obtain ⟨rfl, w2, p2, k2, rfl⟩ := hq
    refine gx_bud b1 b2 (by show b1 ≤ b1 + 1 - (0 + 1); omega) (by show b2 ≤ b2 + 6 - (0 + 6); omega) ?_
    refine gx_istore d_Law_law_171 (Nat.le_of_ble_eq_true rfl) rfl ?_
    refine gx_aload_n d_Law_law_173 rfl ?_
    refine gx_aload_n d_Law_law_174 rfl ?_
    refine gx_iload d_Law_law_175 rfl ?_
    refine gx_iconst d_Law_law_177 (nI 1) (by decide) ?_
    refine gx_iaddN d_Law_law_178 ?_
    refine gx_cld (by omega) (by omega) d_Law_law_179 ?_
    rw [e1]
    refine gx_aload_n d_Law_law_180 rfl ?_
    refine gx_iload d_Law_law_181 rfl ?_
    refine gx_iconst d_Law_law_183 (nI 2) (by decide) ?_
    refine gx_iaddN d_Law_law_184 ?_
    refine gx_cld (by omega) (by omega) d_Law_law_185 ?_
    rw [e2]
    refine gx_aload_n d_Law_law_186 rfl ?_
    refine gx_iload d_Law_law_187 rfl ?_
    refine gx_iconst d_Law_law_189 (nI 3) (by decide) ?_
    refine gx_iaddN d_Law_law_190 ?_
    refine gx_cld (by omega) (by omega) d_Law_law_191 ?_
    rw [e3]
    refine gx_aload_n d_Law_law_192 rfl ?_
    refine gx_iload d_Law_law_193 rfl ?_
    refine gx_iconst d_Law_law_195 (nI 4) (by decide) ?_
    refine gx_iaddN d_Law_law_196 ?_
    refine gx_cld (by omega) (by omega) d_Law_law_197 ?_
    refine gx_if_eq (tgt := 205) d_Law_law_198 (by decide) (fun h198 => ?_) (fun h198 => ?_)
    · exact absurd h198 hz
    · refine gx_iconst d_Law_law_201 (nI 1) (by decide) ?_
      refine gx_goto (tgt := 206) d_Law_law_202 (by decide) ?_
      refine gx_aload_n d_Law_law_206 rfl ?_
      refine gx_iload d_Law_law_207 rfl ?_
      refine gx_iconst d_Law_law_209 (nI 5) (by decide) ?_
      refine gx_iaddN d_Law_law_210 ?_
      refine gx_cld (by omega) (by omega) d_Law_law_211 ?_
      rw [e5]
      refine gx_w (mo_sto (mo_kp hmo k2) (by omega)) ?_
      refine gx_cVr lk_Law_41 d_Law_law_212 (cm_rule (rt := 1) hm hS hq hs hwr (by decide) hnx) (Or.inl ⟨_, mo_o⟩) (by omega) rfl rfl (Nat.le_of_ble_eq_true rfl) (fun r1 w3 hq => ?_)
      obtain ⟨rfl, I2, A2, rfl, hm2, ht2⟩ := hq
      refine gx_istore d_Law_law_215 (Nat.le_of_ble_eq_true rfl) rfl ?_
      refine gx_aload_n d_Law_law_217 rfl ?_
      refine gx_cV1 lk_Law_42 d_Law_law_218 (cm_thrown) (Or.inl ⟨_, mo_o⟩) (by omega) rfl rfl (Nat.le_of_ble_eq_true rfl) ?_
      rw [ht2]
      refine gx_iload d_Law_law_221 rfl ?_
      refine gx_icmp_eq (tgt := 228) d_Law_law_223 (by decide) (fun h223 => ?_) (fun h223 => ?_)
      · refine gx_iload d_Law_law_228 rfl ?_
        refine gx_if_neN (by omega) (tgt := 252) d_Law_law_230 (by decide) (fun h230 => ?_) (fun h230 => ?_)
        · exact absurd rfl h230
        · refine gx_aload_n d_Law_law_233 rfl ?_
          refine gx_iconst d_Law_law_234 (nI 0) (by decide) ?_
          refine gx_lald d_Law_law_235 ((mo_out (by omega)).trans gx_st_eq) (by omega) (by omega) ?_
          rw [vp_u0]
          refine gx_iload d_Law_law_236 rfl ?_
          refine gx_if_eqN (by omega) (tgt := 245) d_Law_law_238 (by decide) (fun h238 => ?_) (fun h238 => ?_)
          · refine gx_lconst d_Law_law_245 (lN 0) rfl ?_
            refine gx_lcmp d_Law_law_246 ?_
            rw [h238, lg_same]
            refine gx_if_eq (tgt := 252) d_Law_law_247 (by decide) (fun h247 => ?_) (fun h247 => ?_)
            · refine gx_goto (tgt := 816) d_Law_law_252 (by decide) ?_
              exact hX _ _ _ _ (lwI.mo (p2.inn (fun q x y => gx_st_ne (by omega))) gx_st_eq hm2 (sok_rule (q := q) (s := s) (rt := 1) hS hT hwr (by decide) hnx).1 (sok_rule (q := q) (s := s) (rt := 1) hS hT hwr (by decide) hnx).2)
            · exact absurd rfl h247
          · refine gx_lconst d_Law_law_241 (lN 1) rfl ?_
            refine gx_goto (tgt := 246) d_Law_law_242 (by decide) ?_
            refine gx_lcmp d_Law_law_246 ?_
            rw [show (op_rule S q s wr 1 nx).1 = 1 by omega, lg_same]
            refine gx_if_eq (tgt := 252) d_Law_law_247 (by decide) (fun h247 => ?_) (fun h247 => ?_)
            · refine gx_goto (tgt := 816) d_Law_law_252 (by decide) ?_
              exact hX _ _ _ _ (lwI.mo (p2.inn (fun q x y => gx_st_ne (by omega))) gx_st_eq hm2 (sok_rule (q := q) (s := s) (rt := 1) hS hT hwr (by decide) hnx).1 (sok_rule (q := q) (s := s) (rt := 1) hS hT hwr (by decide) hnx).2)
            · exact absurd rfl h247
      · exact absurd rfl h223
theorem lw_drop_bad {Q : gx_P} {sb L0 B i b1 b2 : Nat} {xs : Nat → Int32} {L5 L6 : Option Value} (hL : L0 ≤ 3072) (hi : i + 6 ≤ L0) {w : gx_W} {S : sp_St} (h : lwI B w S) (hX : ∀ w' S' L5 L6, lwI B w' S' → gx_X (gx_cF sb L0 xs) M_Law_law 10 Q 816 [some (.ref sb), some (.ref B), some (.ref (B + 360)), some (.ref (B + 385)), some (.int (nI i)), L5, L6] [] w' (b1, b2)) (hbad : ¬ (sp_in (xs (i + 1)) 4 = true ∧ sp_in (xs (i + 2)) 3 = true)) : gx_X (gx_cF sb L0 xs) M_Law_law 10 Q 255 [some (.ref sb), some (.ref B), some (.ref (B + 360)), some (.ref (B + 385)), some (.int (nI i)), L5, L6] [] w (b1 + 1, b2 + 6) := by
  obtain ⟨hP, ⟨I, A, hmo, hm⟩, ⟨f, hO⟩, hS, hT⟩ := h
  have hB := hP.1.1
  refine gx_aload_n d_Law_law_255 rfl ?_
  refine gx_aload_n d_Law_law_256 rfl ?_
  refine gx_iload d_Law_law_257 rfl ?_
  refine gx_iconst d_Law_law_259 (nI 1) (by decide) ?_
  refine gx_iaddN d_Law_law_260 ?_
  refine gx_cld (by omega) (by omega) d_Law_law_261 ?_
  refine gx_aload_n d_Law_law_262 rfl ?_
  refine gx_iload d_Law_law_263 rfl ?_
  refine gx_iconst d_Law_law_265 (nI 2) (by decide) ?_
  refine gx_iaddN d_Law_law_266 ?_
  refine gx_cld (by omega) (by omega) d_Law_law_267 ?_
  refine gx_aload_n d_Law_law_268 rfl ?_
  refine gx_callW (n := 4) (as := [.ref B, .int (xs (i + 1)), .int (xs (i + 2)), .ref (B + 385)]) cw_Law_drop ml_Law_45 sn_Law_drop in_Law ⟨by decide, by decide⟩ (by decide) (by unfold gx_np; decide +kernel) d_Law_law_269 (by decide) (bd_Law_drop hbad hB) (Nat.le_of_ble_eq_true rfl) (by omega) rfl rfl (Nat.le_of_ble_eq_true rfl) ⟨by show 0 + 1 ≤ b1 + 1; omega, by show 0 + 6 ≤ b2 + 6; omega⟩ (fun r1 w1 hq => ?_)
  obtain ⟨rfl, rfl⟩ := hq
  refine gx_bud b1 b2 (by show b1 ≤ b1 + 1 - (0 + 1); omega) (by show b2 ≤ b2 + 6 - (0 + 6); omega) ?_
  refine gx_istore d_Law_law_272 (Nat.le_of_ble_eq_true rfl) rfl ?_
  refine gx_aload_n d_Law_law_274 rfl ?_
  refine gx_aload_n d_Law_law_275 rfl ?_
  refine gx_iload d_Law_law_276 rfl ?_
  refine gx_iconst d_Law_law_278 (nI 1) (by decide) ?_
  refine gx_iaddN d_Law_law_279 ?_
  refine gx_cld (by omega) (by omega) d_Law_law_280 ?_
  refine gx_aload_n d_Law_law_281 rfl ?_
  refine gx_iload d_Law_law_282 rfl ?_
  refine gx_iconst d_Law_law_284 (nI 2) (by decide) ?_
  refine gx_iaddN d_Law_law_285 ?_
  refine gx_cld (by omega) (by omega) d_Law_law_286 ?_
  refine gx_w (mo_gr hmo) ?_
  refine gx_cV1 lk_Law_48 d_Law_law_287 (bm_drop hbad) (Or.inl ⟨_, mo_o⟩) (by omega) rfl rfl (Nat.le_of_ble_eq_true rfl) ?_
  refine gx_istore d_Law_law_290 (Nat.le_of_ble_eq_true rfl) rfl ?_
  refine gx_aload_n d_Law_law_292 rfl ?_
  refine gx_cV1 lk_Law_42 d_Law_law_293 (cm_thrown) (Or.inl ⟨_, mo_o⟩) (by omega) rfl rfl (Nat.le_of_ble_eq_true rfl) ?_
  rw [ui_s]
  refine gx_iload d_Law_law_296 rfl ?_
  refine gx_icmp_eq (tgt := 303) d_Law_law_298 (by decide) (fun h298 => ?_) (fun h298 => ?_)
  · refine gx_iload d_Law_law_303 rfl ?_
    refine gx_if_neN (by omega) (tgt := 327) d_Law_law_305 (by decide) (fun h305 => ?_) (fun h305 => ?_)
    · refine gx_goto (tgt := 816) d_Law_law_327 (by decide) ?_
      exact hX _ S _ _ (lwI.mo (w := gx_gr w 1) hP hO hm.t hS hT)
    · exact absurd h305 (by decide)
  · exact absurd rfl h298
theorem lw_drop_ok {Q : gx_P} {sb L0 B i b1 b2 : Nat} {xs : Nat → Int32} {L5 L6 : Option Value} (hL : L0 ≤ 3072) (hi : i + 6 ≤ L0) {w : gx_W} {S : sp_St} (h : lwI B w S) (hX : ∀ w' S' L5 L6, lwI B w' S' → gx_X (gx_cF sb L0 xs) M_Law_law 10 Q 816 [some (.ref sb), some (.ref B), some (.ref (B + 360)), some (.ref (B + 385)), some (.int (nI i)), L5, L6] [] w' (b1, b2)) {q s : Nat} (e1 : xs (i + 1) = nI q) (e2 : xs (i + 2) = nI s) (hq : q < 4) (hs : s < 3) : gx_X (gx_cF sb L0 xs) M_Law_law 10 Q 255 [some (.ref sb), some (.ref B), some (.ref (B + 360)), some (.ref (B + 385)), some (.int (nI i)), L5, L6] [] w (b1 + 1, b2 + 6) := by
  obtain ⟨hP, ⟨I, A, hmo, hm⟩, ⟨f, hO⟩, hS, hT⟩ := h
  have hB := hP.1.1
  have hb1 := op_drop_1 S q s
  refine gx_aload_n d_Law_law_255 rfl ?_
  refine gx_aload_n d_Law_law_256 rfl ?_
  refine gx_iload d_Law_law_257 rfl ?_
  refine gx_iconst d_Law_law_259 (nI 1) (by decide) ?_
  refine gx_iaddN d_Law_law_260 ?_
  refine gx_cld (by omega) (by omega) d_Law_law_261 ?_
  rw [e1]
  refine gx_aload_n d_Law_law_262 rfl ?_
  refine gx_iload d_Law_law_263 rfl ?_
  refine gx_iconst d_Law_law_265 (nI 2) (by decide) ?_
  refine gx_iaddN d_Law_law_266 ?_
  refine gx_cld (by omega) (by omega) d_Law_law_267 ?_
  rw [e2]
  refine gx_aload_n d_Law_law_268 rfl ?_
  refine gx_callW (n := 4) (as := [.ref B, .int (nI q), .int (nI s), .ref (B + 385)]) cw_Law_drop ml_Law_45 sn_Law_drop in_Law ⟨by decide, by decide⟩ (by decide) (by unfold gx_np; decide +kernel) d_Law_law_269 (by decide) (ok_Law_drop hP hS hO (by omega) hq hs) (Nat.le_of_ble_eq_true rfl) (by omega) rfl rfl (Nat.le_of_ble_eq_true rfl) ⟨by show 0 + 1 ≤ b1 + 1; omega, by show 0 + 6 ≤ b2 + 6; omega⟩ (fun r1 w1 hq => ?_)
  obtain ⟨rfl, w2, p2, k2, rfl⟩ := hq
  refine gx_bud b1 b2 (by show b1 ≤ b1 + 1 - (0 + 1); omega) (by show b2 ≤ b2 + 6 - (0 + 6); omega) ?_
  refine gx_istore d_Law_law_272 (Nat.le_of_ble_eq_true rfl) rfl ?_
  refine gx_aload_n d_Law_law_274 rfl ?_
  refine gx_aload_n d_Law_law_275 rfl ?_
  refine gx_iload d_Law_law_276 rfl ?_
  refine gx_iconst d_Law_law_278 (nI 1) (by decide) ?_
  refine gx_iaddN d_Law_law_279 ?_
  refine gx_cld (by omega) (by omega) d_Law_law_280 ?_
  rw [e1]
  refine gx_aload_n d_Law_law_281 rfl ?_
  refine gx_iload d_Law_law_282 rfl ?_
  refine gx_iconst d_Law_law_284 (nI 2) (by decide) ?_
  refine gx_iaddN d_Law_law_285 ?_
  refine gx_cld (by omega) (by omega) d_Law_law_286 ?_
  rw [e2]
  refine gx_w (mo_sto (mo_kp hmo k2) (by omega)) ?_
  refine gx_cVr lk_Law_48 d_Law_law_287 (cm_drop hm hS hq hs) (Or.inl ⟨_, mo_o⟩) (by omega) rfl rfl (Nat.le_of_ble_eq_true rfl) (fun r1 w3 hq => ?_)
  obtain ⟨rfl, I2, A2, rfl, hm2, ht2⟩ := hq
  refine gx_istore d_Law_law_290 (Nat.le_of_ble_eq_true rfl) rfl ?_
  refine gx_aload_n d_Law_law_292 rfl ?_
  refine gx_cV1 lk_Law_42 d_Law_law_293 (cm_thrown) (Or.inl ⟨_, mo_o⟩) (by omega) rfl rfl (Nat.le_of_ble_eq_true rfl) ?_
  rw [ht2]
  refine gx_iload d_Law_law_296 rfl ?_
  refine gx_icmp_eq (tgt := 303) d_Law_law_298 (by decide) (fun h298 => ?_) (fun h298 => ?_)
  · refine gx_iload d_Law_law_303 rfl ?_
    refine gx_if_neN (by omega) (tgt := 327) d_Law_law_305 (by decide) (fun h305 => ?_) (fun h305 => ?_)
    · exact absurd rfl h305
    · refine gx_aload_n d_Law_law_308 rfl ?_
      refine gx_iconst d_Law_law_309 (nI 0) (by decide) ?_
      refine gx_lald d_Law_law_310 ((mo_out (by omega)).trans gx_st_eq) (by omega) (by omega) ?_
      rw [vp_u0]
      refine gx_iload d_Law_law_311 rfl ?_
      refine gx_if_eqN (by omega) (tgt := 320) d_Law_law_313 (by decide) (fun h313 => ?_) (fun h313 => ?_)
      · refine gx_lconst d_Law_law_320 (lN 0) rfl ?_
        refine gx_lcmp d_Law_law_321 ?_
        rw [h313, lg_same]
        refine gx_if_eq (tgt := 327) d_Law_law_322 (by decide) (fun h322 => ?_) (fun h322 => ?_)
        · refine gx_goto (tgt := 816) d_Law_law_327 (by decide) ?_
          exact hX _ _ _ _ (lwI.mo (p2.inn (fun q x y => gx_st_ne (by omega))) gx_st_eq hm2 (sok_drop (q := q) (s := s) hS hT).1 (sok_drop (q := q) (s := s) hS hT).2)
        · exact absurd rfl h322
      · refine gx_lconst d_Law_law_316 (lN 1) rfl ?_
        refine gx_goto (tgt := 321) d_Law_law_317 (by decide) ?_
        refine gx_lcmp d_Law_law_321 ?_
        rw [show (op_drop S q s).1 = 1 by omega, lg_same]
        refine gx_if_eq (tgt := 327) d_Law_law_322 (by decide) (fun h322 => ?_) (fun h322 => ?_)
        · refine gx_goto (tgt := 816) d_Law_law_327 (by decide) ?_
          exact hX _ _ _ _ (lwI.mo (p2.inn (fun q x y => gx_st_ne (by omega))) gx_st_eq hm2 (sok_drop (q := q) (s := s) hS hT).1 (sok_drop (q := q) (s := s) hS hT).2)
        · exact absurd rfl h322
  · exact absurd rfl h298
theorem lw_input_bad {Q : gx_P} {sb L0 B i b1 b2 : Nat} {xs : Nat → Int32} {L5 L6 : Option Value} (hL : L0 ≤ 3072) (hi : i + 6 ≤ L0) {w : gx_W} {S : sp_St} (h : lwI B w S) (hX : ∀ w' S' L5 L6, lwI B w' S' → gx_X (gx_cF sb L0 xs) M_Law_law 10 Q 816 [some (.ref sb), some (.ref B), some (.ref (B + 360)), some (.ref (B + 385)), some (.int (nI i)), L5, L6] [] w' (b1, b2)) (hbad : ¬ (sp_in (xs (i + 1)) 5 = true ∧ ¬ xs (i + 2) < 0)) : gx_X (gx_cF sb L0 xs) M_Law_law 10 Q 330 [some (.ref sb), some (.ref B), some (.ref (B + 360)), some (.ref (B + 385)), some (.int (nI i)), L5, L6] [] w (b1 + 1, b2 + 6) := by
  obtain ⟨hP, ⟨I, A, hmo, hm⟩, ⟨f, hO⟩, hS, hT⟩ := h
  have hB := hP.1.1
  refine gx_aload_n d_Law_law_330 rfl ?_
  refine gx_aload_n d_Law_law_331 rfl ?_
  refine gx_iload d_Law_law_332 rfl ?_
  refine gx_iconst d_Law_law_334 (nI 1) (by decide) ?_
  refine gx_iaddN d_Law_law_335 ?_
  refine gx_cld (by omega) (by omega) d_Law_law_336 ?_
  refine gx_aload_n d_Law_law_337 rfl ?_
  refine gx_iload d_Law_law_338 rfl ?_
  refine gx_iconst d_Law_law_340 (nI 2) (by decide) ?_
  refine gx_iaddN d_Law_law_341 ?_
  refine gx_cld (by omega) (by omega) d_Law_law_342 ?_
  refine gx_aload_n d_Law_law_343 rfl ?_
  refine gx_callW (n := 4) (as := [.ref B, .int (xs (i + 1)), .int (xs (i + 2)), .ref (B + 385)]) cw_Law_input ml_Law_49 sn_Law_input in_Law ⟨by decide, by decide⟩ (by decide) (by unfold gx_np; decide +kernel) d_Law_law_344 (by decide) (bd_Law_input hbad hB) (Nat.le_of_ble_eq_true rfl) (by omega) rfl rfl (Nat.le_of_ble_eq_true rfl) ⟨by show 0 + 1 ≤ b1 + 1; omega, by show 0 + 6 ≤ b2 + 6; omega⟩ (fun r1 w1 hq => ?_)
  obtain ⟨rfl, rfl⟩ := hq
  refine gx_bud b1 b2 (by show b1 ≤ b1 + 1 - (0 + 1); omega) (by show b2 ≤ b2 + 6 - (0 + 6); omega) ?_
  refine gx_istore d_Law_law_347 (Nat.le_of_ble_eq_true rfl) rfl ?_
  refine gx_aload_n d_Law_law_349 rfl ?_
  refine gx_aload_n d_Law_law_350 rfl ?_
  refine gx_iload d_Law_law_351 rfl ?_
  refine gx_iconst d_Law_law_353 (nI 1) (by decide) ?_
  refine gx_iaddN d_Law_law_354 ?_
  refine gx_cld (by omega) (by omega) d_Law_law_355 ?_
  refine gx_aload_n d_Law_law_356 rfl ?_
  refine gx_iload d_Law_law_357 rfl ?_
  refine gx_iconst d_Law_law_359 (nI 2) (by decide) ?_
  refine gx_iaddN d_Law_law_360 ?_
  refine gx_cld (by omega) (by omega) d_Law_law_361 ?_
  refine gx_w (mo_gr hmo) ?_
  refine gx_cV1 lk_Law_51 d_Law_law_362 (bm_input hbad) (Or.inl ⟨_, mo_o⟩) (by omega) rfl rfl (Nat.le_of_ble_eq_true rfl) ?_
  refine gx_istore d_Law_law_365 (Nat.le_of_ble_eq_true rfl) rfl ?_
  refine gx_aload_n d_Law_law_367 rfl ?_
  refine gx_cV1 lk_Law_42 d_Law_law_368 (cm_thrown) (Or.inl ⟨_, mo_o⟩) (by omega) rfl rfl (Nat.le_of_ble_eq_true rfl) ?_
  rw [ui_s]
  refine gx_iload d_Law_law_371 rfl ?_
  refine gx_icmp_eq (tgt := 378) d_Law_law_373 (by decide) (fun h373 => ?_) (fun h373 => ?_)
  · refine gx_iload d_Law_law_378 rfl ?_
    refine gx_if_neN (by omega) (tgt := 402) d_Law_law_380 (by decide) (fun h380 => ?_) (fun h380 => ?_)
    · refine gx_goto (tgt := 816) d_Law_law_402 (by decide) ?_
      exact hX _ S _ _ (lwI.mo (w := gx_gr w 1) hP hO hm.t hS hT)
    · exact absurd h380 (by decide)
  · exact absurd rfl h373
theorem lw_input_ok {Q : gx_P} {sb L0 B i b1 b2 : Nat} {xs : Nat → Int32} {L5 L6 : Option Value} (hL : L0 ≤ 3072) (hi : i + 6 ≤ L0) {w : gx_W} {S : sp_St} (h : lwI B w S) (hX : ∀ w' S' L5 L6, lwI B w' S' → gx_X (gx_cF sb L0 xs) M_Law_law 10 Q 816 [some (.ref sb), some (.ref B), some (.ref (B + 360)), some (.ref (B + 385)), some (.int (nI i)), L5, L6] [] w' (b1, b2)) {k word : Nat} (e1 : xs (i + 1) = nI k) (e2 : xs (i + 2) = nI word) (hk : k ≤ 4) (hword : word < 2 ^ 31) : gx_X (gx_cF sb L0 xs) M_Law_law 10 Q 330 [some (.ref sb), some (.ref B), some (.ref (B + 360)), some (.ref (B + 385)), some (.int (nI i)), L5, L6] [] w (b1 + 1, b2 + 6) := by
  obtain ⟨hP, ⟨I, A, hmo, hm⟩, ⟨f, hO⟩, hS, hT⟩ := h
  have hB := hP.1.1
  have hb1 := op_input_1 S k word
  refine gx_aload_n d_Law_law_330 rfl ?_
  refine gx_aload_n d_Law_law_331 rfl ?_
  refine gx_iload d_Law_law_332 rfl ?_
  refine gx_iconst d_Law_law_334 (nI 1) (by decide) ?_
  refine gx_iaddN d_Law_law_335 ?_
  refine gx_cld (by omega) (by omega) d_Law_law_336 ?_
  rw [e1]
  refine gx_aload_n d_Law_law_337 rfl ?_
  refine gx_iload d_Law_law_338 rfl ?_
  refine gx_iconst d_Law_law_340 (nI 2) (by decide) ?_
  refine gx_iaddN d_Law_law_341 ?_
  refine gx_cld (by omega) (by omega) d_Law_law_342 ?_
  rw [e2]
  refine gx_aload_n d_Law_law_343 rfl ?_
  refine gx_callW (n := 4) (as := [.ref B, .int (nI k), .int (nI word), .ref (B + 385)]) cw_Law_input ml_Law_49 sn_Law_input in_Law ⟨by decide, by decide⟩ (by decide) (by unfold gx_np; decide +kernel) d_Law_law_344 (by decide) (ok_Law_input hP hS hO (by omega) hk hword) (Nat.le_of_ble_eq_true rfl) (by omega) rfl rfl (Nat.le_of_ble_eq_true rfl) ⟨by show 0 + 1 ≤ b1 + 1; omega, by show 0 + 6 ≤ b2 + 6; omega⟩ (fun r1 w1 hq => ?_)
  obtain ⟨rfl, w2, p2, k2, rfl⟩ := hq
  refine gx_bud b1 b2 (by show b1 ≤ b1 + 1 - (0 + 1); omega) (by show b2 ≤ b2 + 6 - (0 + 6); omega) ?_
  refine gx_istore d_Law_law_347 (Nat.le_of_ble_eq_true rfl) rfl ?_
  refine gx_aload_n d_Law_law_349 rfl ?_
  refine gx_aload_n d_Law_law_350 rfl ?_
  refine gx_iload d_Law_law_351 rfl ?_
  refine gx_iconst d_Law_law_353 (nI 1) (by decide) ?_
  refine gx_iaddN d_Law_law_354 ?_
  refine gx_cld (by omega) (by omega) d_Law_law_355 ?_
  rw [e1]
  refine gx_aload_n d_Law_law_356 rfl ?_
  refine gx_iload d_Law_law_357 rfl ?_
  refine gx_iconst d_Law_law_359 (nI 2) (by decide) ?_
  refine gx_iaddN d_Law_law_360 ?_
  refine gx_cld (by omega) (by omega) d_Law_law_361 ?_
  rw [e2]
  refine gx_w (mo_sto (mo_kp hmo k2) (by omega)) ?_
  refine gx_cVr lk_Law_51 d_Law_law_362 (cm_input hm hS hk hword) (Or.inl ⟨_, mo_o⟩) (by omega) rfl rfl (Nat.le_of_ble_eq_true rfl) (fun r1 w3 hq => ?_)
  obtain ⟨rfl, I2, A2, rfl, hm2, ht2⟩ := hq
  refine gx_istore d_Law_law_365 (Nat.le_of_ble_eq_true rfl) rfl ?_
  refine gx_aload_n d_Law_law_367 rfl ?_
  refine gx_cV1 lk_Law_42 d_Law_law_368 (cm_thrown) (Or.inl ⟨_, mo_o⟩) (by omega) rfl rfl (Nat.le_of_ble_eq_true rfl) ?_
  rw [ht2]
  refine gx_iload d_Law_law_371 rfl ?_
  refine gx_icmp_eq (tgt := 378) d_Law_law_373 (by decide) (fun h373 => ?_) (fun h373 => ?_)
  · refine gx_iload d_Law_law_378 rfl ?_
    refine gx_if_neN (by omega) (tgt := 402) d_Law_law_380 (by decide) (fun h380 => ?_) (fun h380 => ?_)
    · exact absurd rfl h380
    · refine gx_aload_n d_Law_law_383 rfl ?_
      refine gx_iconst d_Law_law_384 (nI 0) (by decide) ?_
      refine gx_lald d_Law_law_385 ((mo_out (by omega)).trans gx_st_eq) (by omega) (by omega) ?_
      rw [vp_u0]
      refine gx_iload d_Law_law_386 rfl ?_
      refine gx_if_eqN (by omega) (tgt := 395) d_Law_law_388 (by decide) (fun h388 => ?_) (fun h388 => ?_)
      · refine gx_lconst d_Law_law_395 (lN 0) rfl ?_
        refine gx_lcmp d_Law_law_396 ?_
        rw [h388, lg_same]
        refine gx_if_eq (tgt := 402) d_Law_law_397 (by decide) (fun h397 => ?_) (fun h397 => ?_)
        · refine gx_goto (tgt := 816) d_Law_law_402 (by decide) ?_
          exact hX _ _ _ _ (lwI.mo (p2.inn (fun q x y => gx_st_ne (by omega))) gx_st_eq hm2 (sok_input (k := k) (word := word) hS hk).1 (sok_input (k := k) (word := word) hS hk).2)
        · exact absurd rfl h397
      · refine gx_lconst d_Law_law_391 (lN 1) rfl ?_
        refine gx_goto (tgt := 396) d_Law_law_392 (by decide) ?_
        refine gx_lcmp d_Law_law_396 ?_
        rw [show (op_input S k word).1 = 1 by omega, lg_same]
        refine gx_if_eq (tgt := 402) d_Law_law_397 (by decide) (fun h397 => ?_) (fun h397 => ?_)
        · refine gx_goto (tgt := 816) d_Law_law_402 (by decide) ?_
          exact hX _ _ _ _ (lwI.mo (p2.inn (fun q x y => gx_st_ne (by omega))) gx_st_eq hm2 (sok_input (k := k) (word := word) hS hk).1 (sok_input (k := k) (word := word) hS hk).2)
        · exact absurd rfl h397
  · exact absurd rfl h373
theorem lw_way_bad {Q : gx_P} {sb L0 B i b1 b2 : Nat} {xs : Nat → Int32} {L5 L6 : Option Value} (hL : L0 ≤ 3072) (hi : i + 6 ≤ L0) {w : gx_W} {S : sp_St} (h : lwI B w S) (hX : ∀ w' S' L5 L6, lwI B w' S' → gx_X (gx_cF sb L0 xs) M_Law_law 10 Q 816 [some (.ref sb), some (.ref B), some (.ref (B + 360)), some (.ref (B + 385)), some (.int (nI i)), L5, L6] [] w' (b1, b2)) (hH : sp_hal S = false) : gx_X (gx_cF sb L0 xs) M_Law_law 10 Q 546 [some (.ref sb), some (.ref B), some (.ref (B + 360)), some (.ref (B + 385)), some (.int (nI i)), L5, L6] [] w (b1 + 1, b2 + 6) := by
  obtain ⟨hP, ⟨I, A, hmo, hm⟩, ⟨f, hO⟩, hS, hT⟩ := h
  have hB := hP.1.1
  refine gx_aload_n d_Law_law_546 rfl ?_
  refine gx_aload_n d_Law_law_547 rfl ?_
  refine gx_iload d_Law_law_548 rfl ?_
  refine gx_iconst d_Law_law_550 (nI 1) (by decide) ?_
  refine gx_iaddN d_Law_law_551 ?_
  refine gx_cld (by omega) (by omega) d_Law_law_552 ?_
  refine gx_aload_n d_Law_law_553 rfl ?_
  refine gx_callW (n := 3) (as := [.ref B, .int (xs (i + 1)), .ref (B + 385)]) cw_Law_way ml_Law_75 sn_Law_way in_Law ⟨by decide, by decide⟩ (by decide) (by unfold gx_np; decide +kernel) d_Law_law_554 (by decide) (bd_Law_way hP hS hH hB) (Nat.le_of_ble_eq_true rfl) (by omega) rfl rfl (Nat.le_of_ble_eq_true rfl) ⟨by show 0 + 1 ≤ b1 + 1; omega, by show 0 + 6 ≤ b2 + 6; omega⟩ (fun r1 w1 hq => ?_)
  obtain ⟨rfl, rfl⟩ := hq
  refine gx_bud b1 b2 (by show b1 ≤ b1 + 1 - (0 + 1); omega) (by show b2 ≤ b2 + 6 - (0 + 6); omega) ?_
  refine gx_istore d_Law_law_557 (Nat.le_of_ble_eq_true rfl) rfl ?_
  refine gx_aload_n d_Law_law_559 rfl ?_
  refine gx_aload_n d_Law_law_560 rfl ?_
  refine gx_iload d_Law_law_561 rfl ?_
  refine gx_iconst d_Law_law_563 (nI 1) (by decide) ?_
  refine gx_iaddN d_Law_law_564 ?_
  refine gx_cld (by omega) (by omega) d_Law_law_565 ?_
  refine gx_w (mo_gr hmo) ?_
  refine gx_cV1 lk_Law_78 d_Law_law_566 (bm_way hm hS hH) (Or.inl ⟨_, mo_o⟩) (by omega) rfl rfl (Nat.le_of_ble_eq_true rfl) ?_
  refine gx_istore d_Law_law_569 (Nat.le_of_ble_eq_true rfl) rfl ?_
  refine gx_aload_n d_Law_law_571 rfl ?_
  refine gx_cV1 lk_Law_42 d_Law_law_572 (cm_thrown) (Or.inl ⟨_, mo_o⟩) (by omega) rfl rfl (Nat.le_of_ble_eq_true rfl) ?_
  rw [ui_s]
  refine gx_iload d_Law_law_575 rfl ?_
  refine gx_icmp_eq (tgt := 582) d_Law_law_577 (by decide) (fun h577 => ?_) (fun h577 => ?_)
  · refine gx_iload d_Law_law_582 rfl ?_
    refine gx_if_neN (by omega) (tgt := 599) d_Law_law_584 (by decide) (fun h584 => ?_) (fun h584 => ?_)
    · refine gx_goto (tgt := 816) d_Law_law_599 (by decide) ?_
      exact hX _ S _ _ (lwI.mo (w := gx_gr w 1) hP hO hm.t hS hT)
    · exact absurd h584 (by decide)
  · exact absurd rfl h577
theorem lw_way_ok {Q : gx_P} {sb L0 B i b1 b2 : Nat} {xs : Nat → Int32} {L5 L6 : Option Value} (hL : L0 ≤ 3072) (hi : i + 6 ≤ L0) {w : gx_W} {S : sp_St} (h : lwI B w S) (hX : ∀ w' S' L5 L6, lwI B w' S' → gx_X (gx_cF sb L0 xs) M_Law_law 10 Q 816 [some (.ref sb), some (.ref B), some (.ref (B + 360)), some (.ref (B + 385)), some (.int (nI i)), L5, L6] [] w' (b1, b2)) (hH : sp_hal S = true) : gx_X (gx_cF sb L0 xs) M_Law_law 10 Q 546 [some (.ref sb), some (.ref B), some (.ref (B + 360)), some (.ref (B + 385)), some (.int (nI i)), L5, L6] [] w (b1 + 1, b2 + 6) := by
  obtain ⟨hP, ⟨I, A, hmo, hm⟩, ⟨f, hO⟩, hS, hT⟩ := h
  have hB := hP.1.1
  refine gx_aload_n d_Law_law_546 rfl ?_
  refine gx_aload_n d_Law_law_547 rfl ?_
  refine gx_iload d_Law_law_548 rfl ?_
  refine gx_iconst d_Law_law_550 (nI 1) (by decide) ?_
  refine gx_iaddN d_Law_law_551 ?_
  refine gx_cld (by omega) (by omega) d_Law_law_552 ?_
  refine gx_aload_n d_Law_law_553 rfl ?_
  refine gx_callW (n := 3) (as := [.ref B, .int (xs (i + 1)), .ref (B + 385)]) cw_Law_way ml_Law_75 sn_Law_way in_Law ⟨by decide, by decide⟩ (by decide) (by unfold gx_np; decide +kernel) d_Law_law_554 (by decide) (ok_Law_way hP hS hO (by omega) hH) (Nat.le_of_ble_eq_true rfl) (by omega) rfl rfl (Nat.le_of_ble_eq_true rfl) ⟨by show 0 + 1 ≤ b1 + 1; omega, by show 0 + 6 ≤ b2 + 6; omega⟩ (fun r1 w1 hq => ?_)
  obtain ⟨rfl, rfl⟩ := hq
  refine gx_bud b1 b2 (by show b1 ≤ b1 + 1 - (0 + 1); omega) (by show b2 ≤ b2 + 6 - (0 + 6); omega) ?_
  refine gx_istore d_Law_law_557 (Nat.le_of_ble_eq_true rfl) rfl ?_
  refine gx_aload_n d_Law_law_559 rfl ?_
  refine gx_aload_n d_Law_law_560 rfl ?_
  refine gx_iload d_Law_law_561 rfl ?_
  refine gx_iconst d_Law_law_563 (nI 1) (by decide) ?_
  refine gx_iaddN d_Law_law_564 ?_
  refine gx_cld (by omega) (by omega) d_Law_law_565 ?_
  refine gx_w (mo_sto hmo (by omega)) ?_
  refine gx_cV1 lk_Law_78 d_Law_law_566 (cm_way hm hS hH) (Or.inl ⟨_, mo_o⟩) (by omega) rfl rfl (Nat.le_of_ble_eq_true rfl) ?_
  refine gx_istore d_Law_law_569 (Nat.le_of_ble_eq_true rfl) rfl ?_
  refine gx_aload_n d_Law_law_571 rfl ?_
  refine gx_cV1 lk_Law_42 d_Law_law_572 (cm_thrown) (Or.inl ⟨_, mo_o⟩) (by omega) rfl rfl (Nat.le_of_ble_eq_true rfl) ?_
  rw [ui_s]
  refine gx_iload d_Law_law_575 rfl ?_
  refine gx_icmp_eq (tgt := 582) d_Law_law_577 (by decide) (fun h577 => ?_) (fun h577 => ?_)
  · refine gx_iload d_Law_law_582 rfl ?_
    refine gx_if_neN (by omega) (tgt := 599) d_Law_law_584 (by decide) (fun h584 => ?_) (fun h584 => ?_)
    · exact absurd rfl h584
    · refine gx_aload_n d_Law_law_587 rfl ?_
      refine gx_iconst d_Law_law_588 (nI 0) (by decide) ?_
      refine gx_lald d_Law_law_589 ((mo_out (by omega)).trans gx_st_eq) (by omega) (by omega) ?_
      rw [vp_u0]
      refine gx_iload d_Law_law_590 rfl ?_
      refine gx_i2l d_Law_law_592 ?_
      refine gx_lcmp d_Law_law_593 ?_
      rw [lg_same]
      refine gx_if_eq (tgt := 599) d_Law_law_594 (by decide) (fun h594 => ?_) (fun h594 => ?_)
      · refine gx_goto (tgt := 816) d_Law_law_599 (by decide) ?_
        exact hX _ S _ _ (lwI.mo (hP.inn (fun q x y => gx_st_ne (by omega))) gx_st_eq hm.t hS hT)
      · exact absurd rfl h594
  · exact absurd rfl h577
theorem lw_layWay_bad {Q : gx_P} {sb L0 B i b1 b2 : Nat} {xs : Nat → Int32} {L5 L6 : Option Value} (hL : L0 ≤ 3072) (hi : i + 6 ≤ L0) {w : gx_W} {S : sp_St} (h : lwI B w S) (hX : ∀ w' S' L5 L6, lwI B w' S' → gx_X (gx_cF sb L0 xs) M_Law_law 10 Q 816 [some (.ref sb), some (.ref B), some (.ref (B + 360)), some (.ref (B + 385)), some (.int (nI i)), L5, L6] [] w' (b1, b2)) (hH : sp_hal S = false) : gx_X (gx_cF sb L0 xs) M_Law_law 10 Q 627 [some (.ref sb), some (.ref B), some (.ref (B + 360)), some (.ref (B + 385)), some (.int (nI i)), L5, L6] [] w (b1 + 1, b2 + 6) := by
  obtain ⟨hP, ⟨I, A, hmo, hm⟩, ⟨f, hO⟩, hS, hT⟩ := h
  have hB := hP.1.1
  refine gx_aload_n d_Law_law_627 rfl ?_
  refine gx_aload_n d_Law_law_628 rfl ?_
  refine gx_callW (n := 2) (as := [.ref B, .ref (B + 385)]) cw_Law_layWay ml_Law_83 sn_Law_layWay in_Law ⟨by decide, by decide⟩ (by decide) (by unfold gx_np; decide +kernel) d_Law_law_629 (by decide) (bd_Law_layWay hP hS hH hB) (Nat.le_of_ble_eq_true rfl) (by omega) rfl rfl (Nat.le_of_ble_eq_true rfl) ⟨by show 0 + 1 ≤ b1 + 1; omega, by show 0 + 6 ≤ b2 + 6; omega⟩ (fun r1 w1 hq => ?_)
  obtain ⟨rfl, rfl⟩ := hq
  refine gx_bud b1 b2 (by show b1 ≤ b1 + 1 - (0 + 1); omega) (by show b2 ≤ b2 + 6 - (0 + 6); omega) ?_
  refine gx_istore d_Law_law_632 (Nat.le_of_ble_eq_true rfl) rfl ?_
  refine gx_aload_n d_Law_law_634 rfl ?_
  refine gx_w (mo_gr hmo) ?_
  refine gx_cV1 lk_Law_86 d_Law_law_635 (bm_layWay hm hS hH) (Or.inl ⟨_, mo_o⟩) (by omega) rfl rfl (Nat.le_of_ble_eq_true rfl) ?_
  refine gx_istore d_Law_law_638 (Nat.le_of_ble_eq_true rfl) rfl ?_
  refine gx_aload_n d_Law_law_640 rfl ?_
  refine gx_cV1 lk_Law_42 d_Law_law_641 (cm_thrown) (Or.inl ⟨_, mo_o⟩) (by omega) rfl rfl (Nat.le_of_ble_eq_true rfl) ?_
  rw [ui_s]
  refine gx_iload d_Law_law_644 rfl ?_
  refine gx_icmp_eq (tgt := 651) d_Law_law_646 (by decide) (fun h646 => ?_) (fun h646 => ?_)
  · refine gx_iload d_Law_law_651 rfl ?_
    refine gx_if_neN (by omega) (tgt := 668) d_Law_law_653 (by decide) (fun h653 => ?_) (fun h653 => ?_)
    · refine gx_goto (tgt := 816) d_Law_law_668 (by decide) ?_
      exact hX _ S _ _ (lwI.mo (w := gx_gr w 1) hP hO hm.t hS hT)
    · exact absurd h653 (by decide)
  · exact absurd rfl h646
theorem lw_layWay_ok {Q : gx_P} {sb L0 B i b1 b2 : Nat} {xs : Nat → Int32} {L5 L6 : Option Value} (hL : L0 ≤ 3072) (hi : i + 6 ≤ L0) {w : gx_W} {S : sp_St} (h : lwI B w S) (hX : ∀ w' S' L5 L6, lwI B w' S' → gx_X (gx_cF sb L0 xs) M_Law_law 10 Q 816 [some (.ref sb), some (.ref B), some (.ref (B + 360)), some (.ref (B + 385)), some (.int (nI i)), L5, L6] [] w' (b1, b2)) (hH : sp_hal S = true) : gx_X (gx_cF sb L0 xs) M_Law_law 10 Q 627 [some (.ref sb), some (.ref B), some (.ref (B + 360)), some (.ref (B + 385)), some (.int (nI i)), L5, L6] [] w (b1 + 1, b2 + 6) := by
  obtain ⟨hP, ⟨I, A, hmo, hm⟩, ⟨f, hO⟩, hS, hT⟩ := h
  have hB := hP.1.1
  refine gx_aload_n d_Law_law_627 rfl ?_
  refine gx_aload_n d_Law_law_628 rfl ?_
  refine gx_callW (n := 2) (as := [.ref B, .ref (B + 385)]) cw_Law_layWay ml_Law_83 sn_Law_layWay in_Law ⟨by decide, by decide⟩ (by decide) (by unfold gx_np; decide +kernel) d_Law_law_629 (by decide) (ok_Law_layWay hP hS hO (by omega) hH) (Nat.le_of_ble_eq_true rfl) (by omega) rfl rfl (Nat.le_of_ble_eq_true rfl) ⟨by show 0 + 1 ≤ b1 + 1; omega, by show 0 + 6 ≤ b2 + 6; omega⟩ (fun r1 w1 hq => ?_)
  obtain ⟨rfl, w2, p2, k2, rfl⟩ := hq
  refine gx_bud b1 b2 (by show b1 ≤ b1 + 1 - (0 + 1); omega) (by show b2 ≤ b2 + 6 - (0 + 6); omega) ?_
  refine gx_istore d_Law_law_632 (Nat.le_of_ble_eq_true rfl) rfl ?_
  refine gx_aload_n d_Law_law_634 rfl ?_
  refine gx_w (mo_sto (mo_kp hmo k2) (by omega)) ?_
  refine gx_cVr lk_Law_86 d_Law_law_635 (cm_layWay hm hS hH) (Or.inl ⟨_, mo_o⟩) (by omega) rfl rfl (Nat.le_of_ble_eq_true rfl) (fun r1 w3 hq => ?_)
  obtain ⟨rfl, I2, A2, rfl, hm2, ht2⟩ := hq
  refine gx_istore d_Law_law_638 (Nat.le_of_ble_eq_true rfl) rfl ?_
  refine gx_aload_n d_Law_law_640 rfl ?_
  refine gx_cV1 lk_Law_42 d_Law_law_641 (cm_thrown) (Or.inl ⟨_, mo_o⟩) (by omega) rfl rfl (Nat.le_of_ble_eq_true rfl) ?_
  rw [ht2]
  refine gx_iload d_Law_law_644 rfl ?_
  refine gx_icmp_eq (tgt := 651) d_Law_law_646 (by decide) (fun h646 => ?_) (fun h646 => ?_)
  · refine gx_iload d_Law_law_651 rfl ?_
    refine gx_if_neN (by omega) (tgt := 668) d_Law_law_653 (by decide) (fun h653 => ?_) (fun h653 => ?_)
    · exact absurd rfl h653
    · refine gx_aload_n d_Law_law_656 rfl ?_
      refine gx_iconst d_Law_law_657 (nI 0) (by decide) ?_
      refine gx_lald d_Law_law_658 ((mo_out (by omega)).trans gx_st_eq) (by omega) (by omega) ?_
      rw [vp_u0]
      refine gx_iload d_Law_law_659 rfl ?_
      refine gx_i2l d_Law_law_661 ?_
      refine gx_lcmp d_Law_law_662 ?_
      rw [lg_same]
      refine gx_if_eq (tgt := 668) d_Law_law_663 (by decide) (fun h663 => ?_) (fun h663 => ?_)
      · refine gx_goto (tgt := 816) d_Law_law_668 (by decide) ?_
        exact hX _ _ _ _ (lwI.mo (p2.inn (fun q x y => gx_st_ne (by omega))) gx_st_eq hm2 (sok_layWay hS hT).1 (sok_layWay hS hT).2)
      · exact absurd rfl h663
  · exact absurd rfl h646
