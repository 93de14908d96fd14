/-! the reference: its queue, join -/
def mE (A : Nat → Nat → Nat) (i : Nat) (e : sp_E) : Prop := nI (A 17 i) = e.1 ∧ A 18 i = e.2.1 ∧ A 19 i = e.2.2.1 ∧ A 20 i = (if e.2.2.2.length = 0 then 0 else 1) ∧ A 21 i = e.2.2.2.length ∧ e.2.2.2.length ≤ 24 ∧ ∀ j, j < e.2.2.2.length → A 22 (24 * i + j) = e.2.2.2.getD j 0
def mQ (I : Nat → Nat) (A : Nat → Nat → Nat) (q : List sp_E) : Prop := I 8 = q.length ∧ q.length ≤ 402 ∧ ∀ i, i < q.length → mE A i (q.getD i sp_e0)
/-- the two words of a join stand in their arrays, all else is as it was -/
def moP (A A' : Nat → Nat → Nat) (u v : List Nat) : Prop := (∀ q, q ≠ 23 → q ≠ 24 → A' q = A q) ∧ (∀ i, i < u.length → A' 23 i = u.getD i 0) ∧ ∀ i, i < v.length → A' 24 i = v.getD i 0
theorem moP.nil {A : Nat → Nat → Nat} : moP A A [] [] := ⟨fun _ _ _ => rfl, fun i hi => absurd hi (Nat.not_lt_zero _), fun i hi => absurd hi (Nat.not_lt_zero _)⟩
theorem moP.pu {A A' : Nat → Nat → Nat} {u v : List Nat} {x : Nat} (h : moP A A' u v) : moP A (uA A' 23 u.length x) (u ++ [x]) v := by
  refine ⟨fun q h3 h4 => by rw [uA_oj h3]; exact h.1 q h3 h4, fun i hi => ?_, fun i hi => by rw [uA_o (by decide)]; exact h.2.2 i hi⟩
  rw [List.length_append, List.length_singleton] at hi
  by_cases e : i = u.length
  · subst e; rw [uA_s, gx_gd_mid]
  · rw [uA_i e, h.2.1 i (by omega), gx_gd_app (by omega)]
theorem moP.pv {A A' : Nat → Nat → Nat} {u v : List Nat} {x : Nat} (h : moP A A' u v) : moP A (uA A' 24 v.length x) u (v ++ [x]) := by
  refine ⟨fun q h3 h4 => by rw [uA_oj h4]; exact h.1 q h3 h4, fun i hi => by rw [uA_o (by decide)]; exact h.2.1 i hi, fun i hi => ?_⟩
  rw [List.length_append, List.length_singleton] at hi
  by_cases e : i = v.length
  · subst e; rw [uA_s, gx_gd_mid]
  · rw [uA_i e, h.2.2 i (by omega), gx_gd_app (by omega)]
theorem moP.at {A A' : Nat → Nat → Nat} {u v : List Nat} (h : moP A A' u v) {q : Nat} (h5 : q ≠ 23 ∧ q ≠ 24) (i : Nat) : A' q i = A q i := congrFun (h.1 q h5.1 h5.2) i
theorem mE.P {A A' : Nat → Nat → Nat} {i : Nat} {e : sp_E} (h : mE A i e) (hA : ∀ q, 17 ≤ q → q ≤ 22 → A' q = A q) : mE A' i e := by
  unfold mE at h ⊢
  rw [hA 17 (by decide) (by decide), hA 18 (by decide) (by decide), hA 19 (by decide) (by decide), hA 20 (by decide) (by decide), hA 21 (by decide) (by decide), hA 22 (by decide) (by decide)]
  exact h
/-- the rest that is laid down at row y -/
def moY (A A' : Nat → Nat → Nat) (y : Nat) (l : List Nat) : Prop := (∀ k, k < l.length → A' 22 (24 * y + k) = l.getD k 0) ∧ ∀ j i, (j = 22 ∧ 24 * y ≤ i ∧ i < 24 * y + 24) ∨ A' j i = A j i
theorem moY.nil {A : Nat → Nat → Nat} {y : Nat} : moY A A y [] := ⟨fun i hi => absurd hi (Nat.not_lt_zero _), fun _ _ => Or.inr rfl⟩
theorem moY.push {A A' : Nat → Nat → Nat} {y x : Nat} {l : List Nat} (h : moY A A' y l) (hl : l.length < 24) : moY A (uA A' 22 (24 * y + l.length) x) y (l ++ [x]) := by
  refine ⟨fun i hi => ?_, fun j i => ?_⟩
  · rw [List.length_append, List.length_singleton] at hi
    by_cases e : i = l.length
    · subst e; rw [uA_s, gx_gd_mid]
    · rw [uA_i (by omega), h.1 i (by omega), gx_gd_app (by omega)]
  · by_cases e : j = 22 ∧ i = 24 * y + l.length
    · exact Or.inl ⟨e.1, by omega, by omega⟩
    · rcases h.2 j i with g | g
      · exact Or.inl g
      · exact Or.inr ((if_neg e).trans g)
theorem moY.oj {A A' : Nat → Nat → Nat} {y j : Nat} {l : List Nat} (h : moY A A' y l) (hj : j ≠ 22) (i : Nat) : A' j i = A j i := by
  rcases h.2 j i with g | g
  · exact absurd g.1 hj
  · exact g
theorem gx_qd {q : List sp_E} {e : sp_E} {i : Nat} (h : i < q.length) : (q ++ [e]).getD i sp_e0 = q.getD i sp_e0 := by
  simp [List.getD_eq_getElem?_getD, List.getElem?_append_left h]
theorem gx_qmid {q : List sp_E} {e : sp_E} : (q ++ [e]).getD q.length sp_e0 = e := by
  simp [List.getD_eq_getElem?_getD]
def moG (A : Nat → Nat → Nat) (y xv d sz sd ov : Nat) : Nat → Nat → Nat := uA (uA (uA (uA (uA A 17 y xv) 18 y d) 19 y sz) 20 y sd) 21 y ov
theorem moG_j {A : Nat → Nat → Nat} {y xv d sz sd ov j : Nat} (h : j < 17 ∨ 21 < j) : moG A y xv d sz sd ov j = A j := by
  unfold moG
  rw [uA_oj (by omega), uA_oj (by omega), uA_oj (by omega), uA_oj (by omega), uA_oj (by omega)]
theorem moG_i {A : Nat → Nat → Nat} {y xv d sz sd ov j i : Nat} (h : i ≠ y) : moG A y xv d sz sd ov j i = A j i := by
  unfold moG
  rw [uA_i h, uA_i h, uA_i h, uA_i h, uA_i h]
theorem mQ.push {I I' : Nat → Nat} {A A' : Nat → Nat → Nat} {q : List sp_E} {xv d sz : Nat} {r : List Nat} (h : mQ I A q) (hq : q.length < 402) (hI : I' 8 = q.length + 1) (hr : r.length ≤ 24) (hY : moY (moG A q.length xv d sz (if r.length = 0 then 0 else 1) r.length) A' q.length r) : mQ I' A' (q ++ [(nI xv, d, sz, r)]) := by
  refine ⟨by rw [hI, List.length_append]; rfl, by rw [List.length_append, List.length_singleton]; omega, fun i hi => ?_⟩
  rw [List.length_append, List.length_singleton] at hi
  by_cases e : i = q.length
  · subst e
    rw [gx_qmid]
    unfold mE
    rw [hY.oj (by decide), hY.oj (by decide), hY.oj (by decide), hY.oj (by decide), hY.oj (by decide)]
    refine ⟨?_, ?_, ?_, ?_, ?_, hr, hY.1⟩
    · unfold moG; rw [uA_o (by decide), uA_o (by decide), uA_o (by decide), uA_o (by decide), uA_s]
    · unfold moG; rw [uA_o (by decide), uA_o (by decide), uA_o (by decide), uA_s]
    · unfold moG; rw [uA_o (by decide), uA_o (by decide), uA_s]
    · unfold moG; rw [uA_o (by decide), uA_s]
    · unfold moG; rw [uA_s]
  · rw [gx_qd (by omega)]
    obtain ⟨a1, a2, a3, a4, a5, a6, a7⟩ := h.2.2 i (by omega)
    unfold mE
    rw [hY.oj (by decide), hY.oj (by decide), hY.oj (by decide), hY.oj (by decide), hY.oj (by decide), moG_i e, moG_i e, moG_i e, moG_i e, moG_i e]
    refine ⟨a1, a2, a3, a4, a5, a6, fun j hj => ?_⟩
    rcases hY.2 22 (24 * i + j) with g | g
    · omega
    · rw [g, moG_j (by omega)]; exact a7 j hj
theorem d_Mo_join_0 : decode prog_11_method_38_code 0 = .ok (.iconst 0, 1) := by decide +kernel
theorem d_Mo_join_1 : decode prog_11_method_38_code 1 = .ok (.istore_n 3, 1) := by decide +kernel
theorem d_Mo_join_2 : decode prog_11_method_38_code 2 = .ok (.iconst 0, 1) := by decide +kernel
theorem d_Mo_join_3 : decode prog_11_method_38_code 3 = .ok (.istore 4, 2) := by decide +kernel
theorem d_Mo_join_5 : decode prog_11_method_38_code 5 = .ok (.iconst 0, 1) := by decide +kernel
theorem d_Mo_join_6 : decode prog_11_method_38_code 6 = .ok (.istore 5, 2) := by decide +kernel
theorem d_Mo_join_8 : decode prog_11_method_38_code 8 = .ok (.iload_n 1, 1) := by decide +kernel
theorem d_Mo_join_9 : decode prog_11_method_38_code 9 = .ok (.ifCond .lt 78, 3) := by decide +kernel
theorem d_Mo_join_12 : decode prog_11_method_38_code 12 = .ok (.iload 5, 2) := by decide +kernel
theorem d_Mo_join_14 : decode prog_11_method_38_code 14 = .ok (.aload_n 0, 1) := by decide +kernel
theorem d_Mo_join_15 : decode prog_11_method_38_code 15 = .ok (.getfield 75, 3) := by decide +kernel
theorem d_Mo_join_18 : decode prog_11_method_38_code 18 = .ok (.iload_n 1, 1) := by decide +kernel
theorem d_Mo_join_19 : decode prog_11_method_38_code 19 = .ok (.ifCond .ge 7, 3) := by decide +kernel
theorem d_Mo_join_22 : decode prog_11_method_38_code 22 = .ok (.iconst 0, 1) := by decide +kernel
theorem d_Mo_join_23 : decode prog_11_method_38_code 23 = .ok (.goto 4, 3) := by decide +kernel
theorem d_Mo_join_26 : decode prog_11_method_38_code 26 = .ok (.iload_n 1, 1) := by decide +kernel
theorem d_Mo_join_27 : decode prog_11_method_38_code 27 = .ok (.iaload, 1) := by decide +kernel
theorem d_Mo_join_28 : decode prog_11_method_38_code 28 = .ok (.if_icmp .ge 59, 3) := by decide +kernel
theorem d_Mo_join_31 : decode prog_11_method_38_code 31 = .ok (.aload_n 0, 1) := by decide +kernel
theorem d_Mo_join_32 : decode prog_11_method_38_code 32 = .ok (.getfield 78, 3) := by decide +kernel
theorem d_Mo_join_35 : decode prog_11_method_38_code 35 = .ok (.bipush 24, 2) := by decide +kernel
theorem d_Mo_join_37 : decode prog_11_method_38_code 37 = .ok (.iload_n 1, 1) := by decide +kernel
theorem d_Mo_join_38 : decode prog_11_method_38_code 38 = .ok (.imul, 1) := by decide +kernel
theorem d_Mo_join_39 : decode prog_11_method_38_code 39 = .ok (.iload 5, 2) := by decide +kernel
theorem d_Mo_join_41 : decode prog_11_method_38_code 41 = .ok (.iadd, 1) := by decide +kernel
theorem d_Mo_join_42 : decode prog_11_method_38_code 42 = .ok (.iaload, 1) := by decide +kernel
theorem d_Mo_join_43 : decode prog_11_method_38_code 43 = .ok (.istore 6, 2) := by decide +kernel
theorem d_Mo_join_45 : decode prog_11_method_38_code 45 = .ok (.aload_n 0, 1) := by decide +kernel
theorem d_Mo_join_46 : decode prog_11_method_38_code 46 = .ok (.getfield 72, 3) := by decide +kernel
theorem d_Mo_join_49 : decode prog_11_method_38_code 49 = .ok (.iload_n 1, 1) := by decide +kernel
theorem d_Mo_join_50 : decode prog_11_method_38_code 50 = .ok (.iaload, 1) := by decide +kernel
theorem d_Mo_join_51 : decode prog_11_method_38_code 51 = .ok (.iconst 1, 1) := by decide +kernel
theorem d_Mo_join_52 : decode prog_11_method_38_code 52 = .ok (.if_icmp .ne 18, 3) := by decide +kernel
theorem d_Mo_join_55 : decode prog_11_method_38_code 55 = .ok (.aload_n 0, 1) := by decide +kernel
theorem d_Mo_join_56 : decode prog_11_method_38_code 56 = .ok (.getfield 84, 3) := by decide +kernel
theorem d_Mo_join_59 : decode prog_11_method_38_code 59 = .ok (.iload 4, 2) := by decide +kernel
theorem d_Mo_join_61 : decode prog_11_method_38_code 61 = .ok (.iload 6, 2) := by decide +kernel
theorem d_Mo_join_63 : decode prog_11_method_38_code 63 = .ok (.iastore, 1) := by decide +kernel
theorem d_Mo_join_64 : decode prog_11_method_38_code 64 = .ok (.iinc 4 1, 3) := by decide +kernel
theorem d_Mo_join_67 : decode prog_11_method_38_code 67 = .ok (.goto 14, 3) := by decide +kernel
theorem d_Mo_join_70 : decode prog_11_method_38_code 70 = .ok (.aload_n 0, 1) := by decide +kernel
theorem d_Mo_join_71 : decode prog_11_method_38_code 71 = .ok (.getfield 81, 3) := by decide +kernel
theorem d_Mo_join_74 : decode prog_11_method_38_code 74 = .ok (.iload_n 3, 1) := by decide +kernel
theorem d_Mo_join_75 : decode prog_11_method_38_code 75 = .ok (.iload 6, 2) := by decide +kernel
theorem d_Mo_join_77 : decode prog_11_method_38_code 77 = .ok (.iastore, 1) := by decide +kernel
theorem d_Mo_join_78 : decode prog_11_method_38_code 78 = .ok (.iinc 3 1, 3) := by decide +kernel
theorem d_Mo_join_81 : decode prog_11_method_38_code 81 = .ok (.iinc 5 1, 3) := by decide +kernel
theorem d_Mo_join_84 : decode prog_11_method_38_code 84 = .ok (.goto (-76), 3) := by decide +kernel
theorem d_Mo_join_87 : decode prog_11_method_38_code 87 = .ok (.iconst 0, 1) := by decide +kernel
theorem d_Mo_join_88 : decode prog_11_method_38_code 88 = .ok (.istore 5, 2) := by decide +kernel
theorem d_Mo_join_90 : decode prog_11_method_38_code 90 = .ok (.iload 5, 2) := by decide +kernel
theorem d_Mo_join_92 : decode prog_11_method_38_code 92 = .ok (.aload_n 0, 1) := by decide +kernel
theorem d_Mo_join_93 : decode prog_11_method_38_code 93 = .ok (.getfield 32, 3) := by decide +kernel
theorem d_Mo_join_96 : decode prog_11_method_38_code 96 = .ok (.iload_n 2, 1) := by decide +kernel
theorem d_Mo_join_97 : decode prog_11_method_38_code 97 = .ok (.iaload, 1) := by decide +kernel
theorem d_Mo_join_98 : decode prog_11_method_38_code 98 = .ok (.if_icmp .ge 29, 3) := by decide +kernel
theorem d_Mo_join_101 : decode prog_11_method_38_code 101 = .ok (.aload_n 0, 1) := by decide +kernel
theorem d_Mo_join_102 : decode prog_11_method_38_code 102 = .ok (.getfield 81, 3) := by decide +kernel
theorem d_Mo_join_105 : decode prog_11_method_38_code 105 = .ok (.iload_n 3, 1) := by decide +kernel
theorem d_Mo_join_106 : decode prog_11_method_38_code 106 = .ok (.aload_n 0, 1) := by decide +kernel
theorem d_Mo_join_107 : decode prog_11_method_38_code 107 = .ok (.getfield 35, 3) := by decide +kernel
theorem d_Mo_join_110 : decode prog_11_method_38_code 110 = .ok (.iconst 4, 1) := by decide +kernel
theorem d_Mo_join_111 : decode prog_11_method_38_code 111 = .ok (.iload_n 2, 1) := by decide +kernel
theorem d_Mo_join_112 : decode prog_11_method_38_code 112 = .ok (.imul, 1) := by decide +kernel
theorem d_Mo_join_113 : decode prog_11_method_38_code 113 = .ok (.iload 5, 2) := by decide +kernel
theorem d_Mo_join_115 : decode prog_11_method_38_code 115 = .ok (.iadd, 1) := by decide +kernel
theorem d_Mo_join_116 : decode prog_11_method_38_code 116 = .ok (.iaload, 1) := by decide +kernel
theorem d_Mo_join_117 : decode prog_11_method_38_code 117 = .ok (.iastore, 1) := by decide +kernel
theorem d_Mo_join_118 : decode prog_11_method_38_code 118 = .ok (.iinc 3 1, 3) := by decide +kernel
theorem d_Mo_join_121 : decode prog_11_method_38_code 121 = .ok (.iinc 5 1, 3) := by decide +kernel
theorem d_Mo_join_124 : decode prog_11_method_38_code 124 = .ok (.goto (-34), 3) := by decide +kernel
theorem d_Mo_join_127 : decode prog_11_method_38_code 127 = .ok (.iconst 0, 1) := by decide +kernel
theorem d_Mo_join_128 : decode prog_11_method_38_code 128 = .ok (.istore 5, 2) := by decide +kernel
theorem d_Mo_join_130 : decode prog_11_method_38_code 130 = .ok (.iload 5, 2) := by decide +kernel
theorem d_Mo_join_132 : decode prog_11_method_38_code 132 = .ok (.aload_n 0, 1) := by decide +kernel
theorem d_Mo_join_133 : decode prog_11_method_38_code 133 = .ok (.getfield 38, 3) := by decide +kernel
theorem d_Mo_join_136 : decode prog_11_method_38_code 136 = .ok (.iload_n 2, 1) := by decide +kernel
theorem d_Mo_join_137 : decode prog_11_method_38_code 137 = .ok (.iaload, 1) := by decide +kernel
theorem d_Mo_join_138 : decode prog_11_method_38_code 138 = .ok (.if_icmp .ge 31, 3) := by decide +kernel
theorem d_Mo_join_141 : decode prog_11_method_38_code 141 = .ok (.aload_n 0, 1) := by decide +kernel
theorem d_Mo_join_142 : decode prog_11_method_38_code 142 = .ok (.getfield 84, 3) := by decide +kernel
theorem d_Mo_join_145 : decode prog_11_method_38_code 145 = .ok (.iload 4, 2) := by decide +kernel
theorem d_Mo_join_147 : decode prog_11_method_38_code 147 = .ok (.aload_n 0, 1) := by decide +kernel
theorem d_Mo_join_148 : decode prog_11_method_38_code 148 = .ok (.getfield 41, 3) := by decide +kernel
theorem d_Mo_join_151 : decode prog_11_method_38_code 151 = .ok (.bipush 8, 2) := by decide +kernel
theorem d_Mo_join_153 : decode prog_11_method_38_code 153 = .ok (.iload_n 2, 1) := by decide +kernel
theorem d_Mo_join_154 : decode prog_11_method_38_code 154 = .ok (.imul, 1) := by decide +kernel
theorem d_Mo_join_155 : decode prog_11_method_38_code 155 = .ok (.iload 5, 2) := by decide +kernel
theorem d_Mo_join_157 : decode prog_11_method_38_code 157 = .ok (.iadd, 1) := by decide +kernel
theorem d_Mo_join_158 : decode prog_11_method_38_code 158 = .ok (.iaload, 1) := by decide +kernel
theorem d_Mo_join_159 : decode prog_11_method_38_code 159 = .ok (.iastore, 1) := by decide +kernel
theorem d_Mo_join_160 : decode prog_11_method_38_code 160 = .ok (.iinc 4 1, 3) := by decide +kernel
theorem d_Mo_join_163 : decode prog_11_method_38_code 163 = .ok (.iinc 5 1, 3) := by decide +kernel
theorem d_Mo_join_166 : decode prog_11_method_38_code 166 = .ok (.goto (-36), 3) := by decide +kernel
theorem d_Mo_join_169 : decode prog_11_method_38_code 169 = .ok (.iload_n 3, 1) := by decide +kernel
theorem d_Mo_join_170 : decode prog_11_method_38_code 170 = .ok (.iload 4, 2) := by decide +kernel
theorem d_Mo_join_172 : decode prog_11_method_38_code 172 = .ok (.if_icmp .ge 7, 3) := by decide +kernel
theorem d_Mo_join_175 : decode prog_11_method_38_code 175 = .ok (.iload_n 3, 1) := by decide +kernel
theorem d_Mo_join_176 : decode prog_11_method_38_code 176 = .ok (.goto 5, 3) := by decide +kernel
theorem d_Mo_join_179 : decode prog_11_method_38_code 179 = .ok (.iload 4, 2) := by decide +kernel
theorem d_Mo_join_181 : decode prog_11_method_38_code 181 = .ok (.istore 5, 2) := by decide +kernel
theorem d_Mo_join_183 : decode prog_11_method_38_code 183 = .ok (.iconst 0, 1) := by decide +kernel
theorem d_Mo_join_184 : decode prog_11_method_38_code 184 = .ok (.istore 6, 2) := by decide +kernel
theorem d_Mo_join_186 : decode prog_11_method_38_code 186 = .ok (.iload 6, 2) := by decide +kernel
theorem d_Mo_join_188 : decode prog_11_method_38_code 188 = .ok (.iload 5, 2) := by decide +kernel
theorem d_Mo_join_190 : decode prog_11_method_38_code 190 = .ok (.if_icmp .ge 27, 3) := by decide +kernel
theorem d_Mo_join_193 : decode prog_11_method_38_code 193 = .ok (.aload_n 0, 1) := by decide +kernel
theorem d_Mo_join_194 : decode prog_11_method_38_code 194 = .ok (.getfield 81, 3) := by decide +kernel
theorem d_Mo_join_197 : decode prog_11_method_38_code 197 = .ok (.iload 6, 2) := by decide +kernel
theorem d_Mo_join_199 : decode prog_11_method_38_code 199 = .ok (.iaload, 1) := by decide +kernel
theorem d_Mo_join_200 : decode prog_11_method_38_code 200 = .ok (.aload_n 0, 1) := by decide +kernel
theorem d_Mo_join_201 : decode prog_11_method_38_code 201 = .ok (.getfield 84, 3) := by decide +kernel
theorem d_Mo_join_204 : decode prog_11_method_38_code 204 = .ok (.iload 6, 2) := by decide +kernel
theorem d_Mo_join_206 : decode prog_11_method_38_code 206 = .ok (.iaload, 1) := by decide +kernel
theorem d_Mo_join_207 : decode prog_11_method_38_code 207 = .ok (.if_icmp .eq 4, 3) := by decide +kernel
theorem d_Mo_join_210 : decode prog_11_method_38_code 210 = .ok (.return_, 1) := by decide +kernel
theorem d_Mo_join_211 : decode prog_11_method_38_code 211 = .ok (.iinc 6 1, 3) := by decide +kernel
theorem d_Mo_join_214 : decode prog_11_method_38_code 214 = .ok (.goto (-28), 3) := by decide +kernel
theorem d_Mo_join_217 : decode prog_11_method_38_code 217 = .ok (.aload_n 0, 1) := by decide +kernel
theorem d_Mo_join_218 : decode prog_11_method_38_code 218 = .ok (.getfield 175, 3) := by decide +kernel
theorem d_Mo_join_221 : decode prog_11_method_38_code 221 = .ok (.sipush 402, 3) := by decide +kernel
theorem d_Mo_join_224 : decode prog_11_method_38_code 224 = .ok (.if_icmp .ne 4, 3) := by decide +kernel
theorem d_Mo_join_227 : decode prog_11_method_38_code 227 = .ok (.return_, 1) := by decide +kernel
theorem d_Mo_join_228 : decode prog_11_method_38_code 228 = .ok (.aload_n 0, 1) := by decide +kernel
theorem d_Mo_join_229 : decode prog_11_method_38_code 229 = .ok (.getfield 175, 3) := by decide +kernel
theorem d_Mo_join_232 : decode prog_11_method_38_code 232 = .ok (.istore 6, 2) := by decide +kernel
theorem d_Mo_join_234 : decode prog_11_method_38_code 234 = .ok (.aload_n 0, 1) := by decide +kernel
theorem d_Mo_join_235 : decode prog_11_method_38_code 235 = .ok (.getfield 63, 3) := by decide +kernel
theorem d_Mo_join_238 : decode prog_11_method_38_code 238 = .ok (.iload 6, 2) := by decide +kernel
theorem d_Mo_join_240 : decode prog_11_method_38_code 240 = .ok (.iload_n 1, 1) := by decide +kernel
theorem d_Mo_join_241 : decode prog_11_method_38_code 241 = .ok (.iastore, 1) := by decide +kernel
theorem d_Mo_join_242 : decode prog_11_method_38_code 242 = .ok (.aload_n 0, 1) := by decide +kernel
theorem d_Mo_join_243 : decode prog_11_method_38_code 243 = .ok (.getfield 66, 3) := by decide +kernel
theorem d_Mo_join_246 : decode prog_11_method_38_code 246 = .ok (.iload 6, 2) := by decide +kernel
theorem d_Mo_join_248 : decode prog_11_method_38_code 248 = .ok (.iload_n 2, 1) := by decide +kernel
theorem d_Mo_join_249 : decode prog_11_method_38_code 249 = .ok (.iastore, 1) := by decide +kernel
theorem d_Mo_join_250 : decode prog_11_method_38_code 250 = .ok (.aload_n 0, 1) := by decide +kernel
theorem d_Mo_join_251 : decode prog_11_method_38_code 251 = .ok (.getfield 69, 3) := by decide +kernel
theorem d_Mo_join_254 : decode prog_11_method_38_code 254 = .ok (.iload 6, 2) := by decide +kernel
theorem d_Mo_join_256 : decode prog_11_method_38_code 256 = .ok (.iload_n 1, 1) := by decide +kernel
theorem d_Mo_join_257 : decode prog_11_method_38_code 257 = .ok (.ifCond .ge 7, 3) := by decide +kernel
theorem d_Mo_join_260 : decode prog_11_method_38_code 260 = .ok (.iconst 1, 1) := by decide +kernel
theorem d_Mo_join_261 : decode prog_11_method_38_code 261 = .ok (.goto 11, 3) := by decide +kernel
theorem d_Mo_join_264 : decode prog_11_method_38_code 264 = .ok (.aload_n 0, 1) := by decide +kernel
theorem d_Mo_join_265 : decode prog_11_method_38_code 265 = .ok (.getfield 69, 3) := by decide +kernel
theorem d_Mo_join_268 : decode prog_11_method_38_code 268 = .ok (.iload_n 1, 1) := by decide +kernel
theorem d_Mo_join_269 : decode prog_11_method_38_code 269 = .ok (.iaload, 1) := by decide +kernel
theorem d_Mo_join_270 : decode prog_11_method_38_code 270 = .ok (.iconst 1, 1) := by decide +kernel
theorem d_Mo_join_271 : decode prog_11_method_38_code 271 = .ok (.iadd, 1) := by decide +kernel
theorem d_Mo_join_272 : decode prog_11_method_38_code 272 = .ok (.iastore, 1) := by decide +kernel
theorem d_Mo_join_273 : decode prog_11_method_38_code 273 = .ok (.aload_n 0, 1) := by decide +kernel
theorem d_Mo_join_274 : decode prog_11_method_38_code 274 = .ok (.getfield 72, 3) := by decide +kernel
theorem d_Mo_join_277 : decode prog_11_method_38_code 277 = .ok (.iload 6, 2) := by decide +kernel
theorem d_Mo_join_279 : decode prog_11_method_38_code 279 = .ok (.iload 4, 2) := by decide +kernel
theorem d_Mo_join_281 : decode prog_11_method_38_code 281 = .ok (.iload_n 3, 1) := by decide +kernel
theorem d_Mo_join_282 : decode prog_11_method_38_code 282 = .ok (.if_icmp .le 7, 3) := by decide +kernel
theorem d_Mo_join_285 : decode prog_11_method_38_code 285 = .ok (.iconst 1, 1) := by decide +kernel
theorem d_Mo_join_286 : decode prog_11_method_38_code 286 = .ok (.goto 4, 3) := by decide +kernel
theorem d_Mo_join_289 : decode prog_11_method_38_code 289 = .ok (.iconst 0, 1) := by decide +kernel
theorem d_Mo_join_290 : decode prog_11_method_38_code 290 = .ok (.iastore, 1) := by decide +kernel
theorem d_Mo_join_291 : decode prog_11_method_38_code 291 = .ok (.aload_n 0, 1) := by decide +kernel
theorem d_Mo_join_292 : decode prog_11_method_38_code 292 = .ok (.getfield 75, 3) := by decide +kernel
theorem d_Mo_join_295 : decode prog_11_method_38_code 295 = .ok (.iload 6, 2) := by decide +kernel
theorem d_Mo_join_297 : decode prog_11_method_38_code 297 = .ok (.iload 4, 2) := by decide +kernel
theorem d_Mo_join_299 : decode prog_11_method_38_code 299 = .ok (.iload_n 3, 1) := by decide +kernel
theorem d_Mo_join_300 : decode prog_11_method_38_code 300 = .ok (.if_icmp .le 10, 3) := by decide +kernel
theorem d_Mo_join_303 : decode prog_11_method_38_code 303 = .ok (.iload 4, 2) := by decide +kernel
theorem d_Mo_join_305 : decode prog_11_method_38_code 305 = .ok (.iload_n 3, 1) := by decide +kernel
theorem d_Mo_join_306 : decode prog_11_method_38_code 306 = .ok (.isub, 1) := by decide +kernel
theorem d_Mo_join_307 : decode prog_11_method_38_code 307 = .ok (.goto 7, 3) := by decide +kernel
theorem d_Mo_join_310 : decode prog_11_method_38_code 310 = .ok (.iload_n 3, 1) := by decide +kernel
theorem d_Mo_join_311 : decode prog_11_method_38_code 311 = .ok (.iload 4, 2) := by decide +kernel
theorem d_Mo_join_313 : decode prog_11_method_38_code 313 = .ok (.isub, 1) := by decide +kernel
theorem d_Mo_join_314 : decode prog_11_method_38_code 314 = .ok (.iastore, 1) := by decide +kernel
theorem d_Mo_join_315 : decode prog_11_method_38_code 315 = .ok (.iconst 0, 1) := by decide +kernel
theorem d_Mo_join_316 : decode prog_11_method_38_code 316 = .ok (.istore 7, 2) := by decide +kernel
theorem d_Mo_join_318 : decode prog_11_method_38_code 318 = .ok (.iload 7, 2) := by decide +kernel
theorem d_Mo_join_320 : decode prog_11_method_38_code 320 = .ok (.aload_n 0, 1) := by decide +kernel
theorem d_Mo_join_321 : decode prog_11_method_38_code 321 = .ok (.getfield 75, 3) := by decide +kernel
theorem d_Mo_join_324 : decode prog_11_method_38_code 324 = .ok (.iload 6, 2) := by decide +kernel
theorem d_Mo_join_326 : decode prog_11_method_38_code 326 = .ok (.iaload, 1) := by decide +kernel
theorem d_Mo_join_327 : decode prog_11_method_38_code 327 = .ok (.if_icmp .ge 51, 3) := by decide +kernel
theorem d_Mo_join_330 : decode prog_11_method_38_code 330 = .ok (.aload_n 0, 1) := by decide +kernel
theorem d_Mo_join_331 : decode prog_11_method_38_code 331 = .ok (.getfield 78, 3) := by decide +kernel
theorem d_Mo_join_334 : decode prog_11_method_38_code 334 = .ok (.bipush 24, 2) := by decide +kernel
theorem d_Mo_join_336 : decode prog_11_method_38_code 336 = .ok (.iload 6, 2) := by decide +kernel
theorem d_Mo_join_338 : decode prog_11_method_38_code 338 = .ok (.imul, 1) := by decide +kernel
theorem d_Mo_join_339 : decode prog_11_method_38_code 339 = .ok (.iload 7, 2) := by decide +kernel
theorem d_Mo_join_341 : decode prog_11_method_38_code 341 = .ok (.iadd, 1) := by decide +kernel
theorem d_Mo_join_342 : decode prog_11_method_38_code 342 = .ok (.iload 4, 2) := by decide +kernel
theorem d_Mo_join_344 : decode prog_11_method_38_code 344 = .ok (.iload_n 3, 1) := by decide +kernel
theorem d_Mo_join_345 : decode prog_11_method_38_code 345 = .ok (.if_icmp .le 16, 3) := by decide +kernel
theorem d_Mo_join_348 : decode prog_11_method_38_code 348 = .ok (.aload_n 0, 1) := by decide +kernel
theorem d_Mo_join_349 : decode prog_11_method_38_code 349 = .ok (.getfield 84, 3) := by decide +kernel
theorem d_Mo_join_352 : decode prog_11_method_38_code 352 = .ok (.iload 5, 2) := by decide +kernel
theorem d_Mo_join_354 : decode prog_11_method_38_code 354 = .ok (.iload 7, 2) := by decide +kernel
theorem d_Mo_join_356 : decode prog_11_method_38_code 356 = .ok (.iadd, 1) := by decide +kernel
theorem d_Mo_join_357 : decode prog_11_method_38_code 357 = .ok (.iaload, 1) := by decide +kernel
theorem d_Mo_join_358 : decode prog_11_method_38_code 358 = .ok (.goto 13, 3) := by decide +kernel
theorem d_Mo_join_361 : decode prog_11_method_38_code 361 = .ok (.aload_n 0, 1) := by decide +kernel
theorem d_Mo_join_362 : decode prog_11_method_38_code 362 = .ok (.getfield 81, 3) := by decide +kernel
theorem d_Mo_join_365 : decode prog_11_method_38_code 365 = .ok (.iload 5, 2) := by decide +kernel
theorem d_Mo_join_367 : decode prog_11_method_38_code 367 = .ok (.iload 7, 2) := by decide +kernel
theorem d_Mo_join_369 : decode prog_11_method_38_code 369 = .ok (.iadd, 1) := by decide +kernel
theorem d_Mo_join_370 : decode prog_11_method_38_code 370 = .ok (.iaload, 1) := by decide +kernel
theorem d_Mo_join_371 : decode prog_11_method_38_code 371 = .ok (.iastore, 1) := by decide +kernel
theorem d_Mo_join_372 : decode prog_11_method_38_code 372 = .ok (.iinc 7 1, 3) := by decide +kernel
theorem d_Mo_join_375 : decode prog_11_method_38_code 375 = .ok (.goto (-57), 3) := by decide +kernel
theorem d_Mo_join_378 : decode prog_11_method_38_code 378 = .ok (.aload_n 0, 1) := by decide +kernel
theorem d_Mo_join_379 : decode prog_11_method_38_code 379 = .ok (.dup, 1) := by decide +kernel
theorem d_Mo_join_380 : decode prog_11_method_38_code 380 = .ok (.getfield 175, 3) := by decide +kernel
theorem d_Mo_join_383 : decode prog_11_method_38_code 383 = .ok (.iconst 1, 1) := by decide +kernel
theorem d_Mo_join_384 : decode prog_11_method_38_code 384 = .ok (.iadd, 1) := by decide +kernel
theorem d_Mo_join_385 : decode prog_11_method_38_code 385 = .ok (.putfield 175, 3) := by decide +kernel
theorem d_Mo_join_388 : decode prog_11_method_38_code 388 = .ok (.return_, 1) := by decide +kernel
theorem lm_j1 {Q : gx_P} {w : gx_W} {m : Nat} {I : Nat → Nat} {A : Nat → Nat → Nat} {xv d : Nat} {e : sp_E} {L7 : Option Value} (hx : xv < 402) (hE : mE A xv e) (hs : gx_sm e.2.2.2) (h0 : 0 < e.2.2.2.length) : ∀ (fu : Nat) (i : Nat) (A' : Nat → Nat → Nat) (L6 : Option Value), e.2.2.2.length - i < fu → (i ≤ e.2.2.2.length) → (moP A A' [] (e.2.2.2.take i)) → (∀ A'' L6, moP A A'' [] e.2.2.2 → gx_X (fun _ _ => True) M_Mo_join 1 Q 87 [some (.ref m), some (.int (nI xv)), some (.int (nI d)), some (.int (nI 0)), some (.int (nI e.2.2.2.length)), some (.int (nI e.2.2.2.length)), L6, L7] [] (gx_mo w m I A'') (0, 0)) → gx_X (fun _ _ => True) M_Mo_join 1 Q 8 [some (.ref m), some (.int (nI xv)), some (.int (nI d)), some (.int (nI 0)), some (.int (nI i)), some (.int (nI i)), L6, L7] [] (gx_mo w m I A') (0, 0) := by
  intro fu
  induction fu with
  | zero => intro i A' L6 hfu; exact absurd hfu (Nat.not_lt_zero _)
  | succ fu ih =>
    intro i A' L6 hfu hi hP hX
    obtain ⟨a1, a2, a3, a4, a5, a6, a7⟩ := hE
    have htk : (e.2.2.2.take i).length = i := by rw [List.length_take]; omega
    rw [if_neg (by omega)] at a4
    refine gx_iload_n d_Mo_join_8 rfl ?_
    refine gx_if_ltN (by omega) (tgt := 87) d_Mo_join_9 (by decide) ?_
    refine gx_iload d_Mo_join_12 rfl ?_
    refine gx_aload_n d_Mo_join_14 rfl ?_
    refine gx_get fl_Mo_75 d_Mo_join_15 mo_o rfl ?_
    refine gx_iload_n d_Mo_join_18 rfl ?_
    refine gx_if_geN (by omega) (tgt := 26) d_Mo_join_19 (by decide) ?_
    refine gx_iload_n d_Mo_join_26 rfl ?_
    refine gx_iald d_Mo_join_27 mo_21 (by omega) (by omega) ?_
    rw [hP.at (by decide), a5]
    refine gx_icmp_geN (by omega) (by omega) (tgt := 87) d_Mo_join_28 (by decide) (fun h28 => ?_) (fun h28 => ?_)
    · rw [show i = e.2.2.2.length by omega, List.take_of_length_le (Nat.le_refl _)] at hP
      rw [show i = e.2.2.2.length by omega]
      exact hX _ _ hP
    · refine gx_aload_n d_Mo_join_31 rfl ?_
      refine gx_get fl_Mo_78 d_Mo_join_32 mo_o rfl ?_
      refine gx_bipush d_Mo_join_35 (nI 24) (by decide) ?_
      refine gx_iload_n d_Mo_join_37 rfl ?_
      refine gx_imulN d_Mo_join_38 ?_
      refine gx_iload d_Mo_join_39 rfl ?_
      refine gx_iaddN d_Mo_join_41 ?_
      refine gx_iald d_Mo_join_42 mo_22 (by omega) (by omega) ?_
      rw [hP.at (by decide), a7 i (by omega)]
      refine gx_istore d_Mo_join_43 (Nat.le_of_ble_eq_true rfl) rfl ?_
      refine gx_aload_n d_Mo_join_45 rfl ?_
      refine gx_get fl_Mo_72 d_Mo_join_46 mo_o rfl ?_
      refine gx_iload_n d_Mo_join_49 rfl ?_
      refine gx_iald d_Mo_join_50 mo_20 (by omega) (by omega) ?_
      rw [hP.at (by decide), a4]
      refine gx_iconst d_Mo_join_51 (nI 1) (by decide) ?_
      refine gx_icmp_neN (by omega) (by omega) (tgt := 70) d_Mo_join_52 (by decide) (fun h52 => ?_) (fun h52 => ?_)
      · exact absurd rfl h52
      · refine gx_aload_n d_Mo_join_55 rfl ?_
        refine gx_get fl_Mo_84 d_Mo_join_56 mo_o rfl ?_
        refine gx_iload d_Mo_join_59 rfl ?_
        refine gx_iload d_Mo_join_61 rfl ?_
        refine gx_iast d_Mo_join_63 mo_24 (by omega) (by omega) ?_
        refine gx_w mo_s24 ?_
        refine gx_iincN (n := 1) d_Mo_join_64 rfl (by decide) (Nat.le_of_ble_eq_true rfl) rfl ?_
        refine gx_goto (tgt := 81) d_Mo_join_67 (by decide) ?_
        refine gx_iincN (n := 1) d_Mo_join_81 rfl (by decide) (Nat.le_of_ble_eq_true rfl) rfl ?_
        refine gx_goto (tgt := 8) d_Mo_join_84 (by decide) ?_
        refine ih (i + 1) _ _ (by omega) (by omega) ?_ hX
        have h5 := hP.pv (x := e.2.2.2.getD i 0)
        rw [htk, ← gx_take_succ (by omega)] at h5
        exact h5
theorem lm_j2 {Q : gx_P} {w : gx_W} {m : Nat} {I : Nat → Nat} {A : Nat → Nat → Nat} {ds : List (List Nat × List Nat)} {xv d : Nat} {Rr : List Nat} {L6 L7 : Option Value} (hds : moDs A ds) (hd : d < ds.length) (h60 : ds.length ≤ 60) (hR : Rr.length ≤ 12)  : ∀ (fu : Nat) (i : Nat) (A' : Nat → Nat → Nat), (ds.getD d ([], [])).1.length - i < fu → (i ≤ (ds.getD d ([], [])).1.length) → (moP A A' ((ds.getD d ([], [])).1.take i) Rr) → (∀ A'', moP A A'' (ds.getD d ([], [])).1 Rr → gx_X (fun _ _ => True) M_Mo_join 1 Q 127 [some (.ref m), some (.int (nI xv)), some (.int (nI d)), some (.int (nI (ds.getD d ([], [])).1.length)), some (.int (nI Rr.length)), some (.int (nI (ds.getD d ([], [])).1.length)), L6, L7] [] (gx_mo w m I A'') (0, 0)) → gx_X (fun _ _ => True) M_Mo_join 1 Q 90 [some (.ref m), some (.int (nI xv)), some (.int (nI d)), some (.int (nI i)), some (.int (nI Rr.length)), some (.int (nI i)), L6, L7] [] (gx_mo w m I A') (0, 0) := by
  intro fu
  induction fu with
  | zero => intro i A' hfu; exact absurd hfu (Nat.not_lt_zero _)
  | succ fu ih =>
    intro i A' hfu hi hP hX
    obtain ⟨⟨a1, a2⟩, ⟨a3, a4⟩, a5, a6⟩ := hds d hd
    have htk : ((ds.getD d ([], [])).1.take i).length = i := by rw [List.length_take]; omega
    refine gx_iload d_Mo_join_90 rfl ?_
    refine gx_aload_n d_Mo_join_92 rfl ?_
    refine gx_get fl_Mo_32 d_Mo_join_93 mo_o rfl ?_
    refine gx_iload_n d_Mo_join_96 rfl ?_
    refine gx_iald d_Mo_join_97 mo_8 (by omega) (by omega) ?_
    rw [hP.at (by decide), a1]
    refine gx_icmp_geN (by omega) (by omega) (tgt := 127) d_Mo_join_98 (by decide) (fun h98 => ?_) (fun h98 => ?_)
    · rw [show i = (ds.getD d ([], [])).1.length by omega, List.take_of_length_le (Nat.le_refl _)] at hP
      rw [show i = (ds.getD d ([], [])).1.length by omega]
      exact hX _ hP
    · refine gx_aload_n d_Mo_join_101 rfl ?_
      refine gx_get fl_Mo_81 d_Mo_join_102 mo_o rfl ?_
      refine gx_iload_n d_Mo_join_105 rfl ?_
      refine gx_aload_n d_Mo_join_106 rfl ?_
      refine gx_get fl_Mo_35 d_Mo_join_107 mo_o rfl ?_
      refine gx_iconst d_Mo_join_110 (nI 4) (by decide) ?_
      refine gx_iload_n d_Mo_join_111 rfl ?_
      refine gx_imulN d_Mo_join_112 ?_
      refine gx_iload d_Mo_join_113 rfl ?_
      refine gx_iaddN d_Mo_join_115 ?_
      refine gx_iald d_Mo_join_116 mo_9 (by omega) (by omega) ?_
      rw [hP.at (by decide), a5 i (by omega)]
      refine gx_iast d_Mo_join_117 mo_23 (by omega) (by omega) ?_
      refine gx_w mo_s23 ?_
      refine gx_iincN (n := 1) d_Mo_join_118 rfl (by decide) (Nat.le_of_ble_eq_true rfl) rfl ?_
      refine gx_iincN (n := 1) d_Mo_join_121 rfl (by decide) (Nat.le_of_ble_eq_true rfl) rfl ?_
      refine gx_goto (tgt := 90) d_Mo_join_124 (by decide) ?_
      refine ih (i + 1) _ (by omega) (by omega) ?_ hX
      have h5 := hP.pu (x := (ds.getD d ([], [])).1.getD i 0)
      rw [htk, ← gx_take_succ (by omega)] at h5
      exact h5
theorem lm_j3 {Q : gx_P} {w : gx_W} {m : Nat} {I : Nat → Nat} {A : Nat → Nat → Nat} {ds : List (List Nat × List Nat)} {xv d : Nat} {Rr : List Nat} {L6 L7 : Option Value} (hds : moDs A ds) (hd : d < ds.length) (h60 : ds.length ≤ 60) (hR : Rr.length ≤ 12)  : ∀ (fu : Nat) (i : Nat) (A' : Nat → Nat → Nat), (ds.getD d ([], [])).2.length - i < fu → (i ≤ (ds.getD d ([], [])).2.length) → (moP A A' (ds.getD d ([], [])).1 (Rr ++ (ds.getD d ([], [])).2.take i)) → (∀ A'' L5, moP A A'' (ds.getD d ([], [])).1 (Rr ++ (ds.getD d ([], [])).2) → gx_X (fun _ _ => True) M_Mo_join 1 Q 169 [some (.ref m), some (.int (nI xv)), some (.int (nI d)), some (.int (nI (ds.getD d ([], [])).1.length)), some (.int (nI (Rr ++ (ds.getD d ([], [])).2).length)), L5, L6, L7] [] (gx_mo w m I A'') (0, 0)) → gx_X (fun _ _ => True) M_Mo_join 1 Q 130 [some (.ref m), some (.int (nI xv)), some (.int (nI d)), some (.int (nI (ds.getD d ([], [])).1.length)), some (.int (nI (Rr.length + i))), some (.int (nI i)), L6, L7] [] (gx_mo w m I A') (0, 0) := by
  intro fu
  induction fu with
  | zero => intro i A' hfu; exact absurd hfu (Nat.not_lt_zero _)
  | succ fu ih =>
    intro i A' hfu hi hP hX
    obtain ⟨⟨a1, a2⟩, ⟨a3, a4⟩, a5, a6⟩ := hds d hd
    have htk : (Rr ++ (ds.getD d ([], [])).2.take i).length = Rr.length + i := by rw [List.length_append, List.length_take]; omega
    refine gx_iload d_Mo_join_130 rfl ?_
    refine gx_aload_n d_Mo_join_132 rfl ?_
    refine gx_get fl_Mo_38 d_Mo_join_133 mo_o rfl ?_
    refine gx_iload_n d_Mo_join_136 rfl ?_
    refine gx_iald d_Mo_join_137 mo_10 (by omega) (by omega) ?_
    rw [hP.at (by decide), a2]
    refine gx_icmp_geN (by omega) (by omega) (tgt := 169) d_Mo_join_138 (by decide) (fun h138 => ?_) (fun h138 => ?_)
    · rw [show i = (ds.getD d ([], [])).2.length by omega, List.take_of_length_le (Nat.le_refl _)] at hP
      rw [show i = (ds.getD d ([], [])).2.length by omega, ← List.length_append]
      exact hX _ _ hP
    · refine gx_aload_n d_Mo_join_141 rfl ?_
      refine gx_get fl_Mo_84 d_Mo_join_142 mo_o rfl ?_
      refine gx_iload d_Mo_join_145 rfl ?_
      refine gx_aload_n d_Mo_join_147 rfl ?_
      refine gx_get fl_Mo_41 d_Mo_join_148 mo_o rfl ?_
      refine gx_bipush d_Mo_join_151 (nI 8) (by decide) ?_
      refine gx_iload_n d_Mo_join_153 rfl ?_
      refine gx_imulN d_Mo_join_154 ?_
      refine gx_iload d_Mo_join_155 rfl ?_
      refine gx_iaddN d_Mo_join_157 ?_
      refine gx_iald d_Mo_join_158 mo_11 (by omega) (by omega) ?_
      rw [hP.at (by decide), a6 i (by omega)]
      refine gx_iast d_Mo_join_159 mo_24 (by omega) (by omega) ?_
      refine gx_w mo_s24 ?_
      refine gx_iincN (n := 1) d_Mo_join_160 rfl (by decide) (Nat.le_of_ble_eq_true rfl) rfl ?_
      refine gx_iincN (n := 1) d_Mo_join_163 rfl (by decide) (Nat.le_of_ble_eq_true rfl) rfl ?_
      refine gx_goto (tgt := 130) d_Mo_join_166 (by decide) ?_
      refine ih (i + 1) _ (by omega) (by omega) ?_ hX
      have h5 := hP.pv (x := (ds.getD d ([], [])).2.getD i 0)
      rw [htk, List.append_assoc, ← gx_take_succ (by omega)] at h5
      exact h5
theorem lm_j4 {Q : gx_P} {w : gx_W} {m : Nat} {I : Nat → Nat} {A : Nat → Nat → Nat} {xv d c : Nat} {A1 : Nat → Nat → Nat} {u v : List Nat} {L7 : Option Value} (hP : moP A A1 u v) (hu : gx_sm u) (hv : gx_sm v) (hul : u.length ≤ 3) (hvl : v.length ≤ 19) (hc : c ≤ u.length ∧ c ≤ v.length ∧ (c = u.length ∨ c = v.length)) (hno : sp_agb u v = false → (Q.1 none (gx_mo w m I A1))) : ∀ (fu : Nat) (i : Nat), c - i < fu → (i ≤ c) → (∀ k, k < i → u.getD k 0 = v.getD k 0) → (sp_agb u v = true → ∀ L6, gx_X (fun _ _ => True) M_Mo_join 1 Q 217 [some (.ref m), some (.int (nI xv)), some (.int (nI d)), some (.int (nI u.length)), some (.int (nI v.length)), some (.int (nI c)), L6, L7] [] (gx_mo w m I A1) (0, 0)) → gx_X (fun _ _ => True) M_Mo_join 1 Q 186 [some (.ref m), some (.int (nI xv)), some (.int (nI d)), some (.int (nI u.length)), some (.int (nI v.length)), some (.int (nI c)), some (.int (nI i)), L7] [] (gx_mo w m I A1) (0, 0) := by
  intro fu
  induction fu with
  | zero => intro i hfu; exact absurd hfu (Nat.not_lt_zero _)
  | succ fu ih =>
    intro i hfu hi hf hX
    have h1 := gx_sm_at hu i
    have h2 := gx_sm_at hv i
    obtain ⟨c1, c2, c3⟩ := hc
    refine gx_iload d_Mo_join_186 rfl ?_
    refine gx_iload d_Mo_join_188 rfl ?_
    refine gx_icmp_geN (by omega) (by omega) (tgt := 217) d_Mo_join_190 (by decide) (fun h190 => ?_) (fun h190 => ?_)
    · exact hX ((agb_iff _ _).mpr (fun k k1 k2 => hf k (by omega))) _
    · refine gx_aload_n d_Mo_join_193 rfl ?_
      refine gx_get fl_Mo_81 d_Mo_join_194 mo_o rfl ?_
      refine gx_iload d_Mo_join_197 rfl ?_
      refine gx_iald d_Mo_join_199 mo_23 (by omega) (by omega) ?_
      rw [hP.2.1 i (by omega)]
      refine gx_aload_n d_Mo_join_200 rfl ?_
      refine gx_get fl_Mo_84 d_Mo_join_201 mo_o rfl ?_
      refine gx_iload d_Mo_join_204 rfl ?_
      refine gx_iald d_Mo_join_206 mo_24 (by omega) (by omega) ?_
      rw [hP.2.2 i (by omega)]
      refine gx_icmp_eqN (by omega) (by omega) (tgt := 211) d_Mo_join_207 (by decide) (fun h207 => ?_) (fun h207 => ?_)
      · refine gx_iincN (n := 1) d_Mo_join_211 rfl (by decide) (Nat.le_of_ble_eq_true rfl) rfl ?_
        refine gx_goto (tgt := 186) d_Mo_join_214 (by decide) ?_
        refine ih (i + 1) (by omega) (by omega) (fun k hk => ?_) hX
        by_cases e : k = i
        · rw [e]; exact h207
        · exact hf k (by omega)
      · refine gx_return rfl d_Mo_join_210 ?_
        refine hno ?_
        rw [Bool.eq_false_iff]
        exact fun g => h207 ((agb_iff _ _).mp g i (by omega) (by omega))
theorem gx_gd_drop {l : List Nat} {i j : Nat} : (l.drop i).getD j 0 = l.getD (i + j) 0 := by
  rw [List.getD_eq_getElem?_getD, List.getD_eq_getElem?_getD, List.getElem?_drop]
theorem lm_j5 {Q : gx_P} {w : gx_W} {m : Nat} {I : Nat → Nat} {A : Nat → Nat → Nat} {xv d c y : Nat} {u v : List Nat} (hy : y < 402) (huv : u.length < v.length) (hc : c = u.length) (hvl : v.length ≤ 19) (hov : A 21 y = v.length - u.length) (hV : ∀ i, i < v.length → A 24 i = v.getD i 0) : ∀ (fu : Nat) (i : Nat) (A' : Nat → Nat → Nat), v.length - u.length - i < fu → (i ≤ v.length - u.length) → (moY A A' y ((v.drop u.length).take i)) → (∀ A'' L7, moY A A'' y (v.drop u.length) → gx_X (fun _ _ => True) M_Mo_join 1 Q 378 [some (.ref m), some (.int (nI xv)), some (.int (nI d)), some (.int (nI u.length)), some (.int (nI v.length)), some (.int (nI c)), some (.int (nI y)), L7] [] (gx_mo w m I A'') (0, 0)) → gx_X (fun _ _ => True) M_Mo_join 1 Q 318 [some (.ref m), some (.int (nI xv)), some (.int (nI d)), some (.int (nI u.length)), some (.int (nI v.length)), some (.int (nI c)), some (.int (nI y)), some (.int (nI i))] [] (gx_mo w m I A') (0, 0) := by
  intro fu
  induction fu with
  | zero => intro i A' hfu; exact absurd hfu (Nat.not_lt_zero _)
  | succ fu ih =>
    intro i A' hfu hi hY hX
    have htk : ((v.drop u.length).take i).length = i := by rw [List.length_take, List.length_drop]; omega
    refine gx_iload d_Mo_join_318 rfl ?_
    refine gx_aload_n d_Mo_join_320 rfl ?_
    refine gx_get fl_Mo_75 d_Mo_join_321 mo_o rfl ?_
    refine gx_iload d_Mo_join_324 rfl ?_
    refine gx_iald d_Mo_join_326 mo_21 (by omega) (by omega) ?_
    rw [hY.oj (by decide), hov]
    refine gx_icmp_geN (by omega) (by omega) (tgt := 378) d_Mo_join_327 (by decide) (fun h327 => ?_) (fun h327 => ?_)
    · rw [List.take_of_length_le (by rw [List.length_drop]; omega)] at hY
      exact hX _ _ hY
    · refine gx_aload_n d_Mo_join_330 rfl ?_
      refine gx_get fl_Mo_78 d_Mo_join_331 mo_o rfl ?_
      refine gx_bipush d_Mo_join_334 (nI 24) (by decide) ?_
      refine gx_iload d_Mo_join_336 rfl ?_
      refine gx_imulN d_Mo_join_338 ?_
      refine gx_iload d_Mo_join_339 rfl ?_
      refine gx_iaddN d_Mo_join_341 ?_
      refine gx_iload d_Mo_join_342 rfl ?_
      refine gx_iload_n d_Mo_join_344 rfl ?_
      refine gx_icmp_leN (by omega) (by omega) (tgt := 361) d_Mo_join_345 (by decide) (fun h345 => ?_) (fun h345 => ?_)
      · exact absurd h345 (by omega)
      · refine gx_aload_n d_Mo_join_348 rfl ?_
        refine gx_get fl_Mo_84 d_Mo_join_349 mo_o rfl ?_
        refine gx_iload d_Mo_join_352 rfl ?_
        refine gx_iload d_Mo_join_354 rfl ?_
        refine gx_iaddN d_Mo_join_356 ?_
        refine gx_iald d_Mo_join_357 mo_24 (by omega) (by omega) ?_
        rw [hY.oj (by decide), hV _ (by omega)]
        refine gx_goto (tgt := 371) d_Mo_join_358 (by decide) ?_
        refine gx_iast d_Mo_join_371 mo_22 (by omega) (by omega) ?_
        refine gx_w mo_s22 ?_
        refine gx_iincN (n := 1) d_Mo_join_372 rfl (by decide) (Nat.le_of_ble_eq_true rfl) rfl ?_
        refine gx_goto (tgt := 318) d_Mo_join_375 (by decide) ?_
        refine ih (i + 1) _ (by omega) (by omega) ?_ hX
        have h5 := hY.push (x := v.getD (c + i) 0) (by omega)
        rw [htk] at h5
        rw [gx_take_succ (by rw [List.length_drop]; omega), gx_gd_drop, show u.length + i = c + i by omega]
        exact h5
theorem sg_j1 {w : gx_W} {m : Nat} {I : Nat → Nat} {A : Nat → Nat → Nat} {A1 : Nat → Nat → Nat} {L6 L7 : Option Value} {ds : List (List Nat × List Nat)} {q : List sp_E} {xv d sz : Nat} {Rr : List Nat} (hds : moDs A ds) (hd : d < ds.length) (h60 : ds.length ≤ 60) (hdk : ∀ p ∈ ds, sp_dk p) (hR : Rr.length ≤ 12) (hRs : gx_sm Rr) (hq : mQ I A q) (hfit : sp_agb (ds.getD d ([], [])).1 (Rr ++ (ds.getD d ([], [])).2) = true → (ds.getD d ([], [])).1.length ≤ (Rr ++ (ds.getD d ([], [])).2).length) (hx : xv = 4294967295 ∧ sz = 0) (hsz : sz < 65536) (hP : moP A A1 (ds.getD d ([], [])).1 (Rr ++ (ds.getD d ([], [])).2)) (hag : sp_agb (ds.getD d ([], [])).1 (Rr ++ (ds.getD d ([], [])).2) = true) (hql : q.length < 402) : gx_X (fun _ _ => True) M_Mo_join 1 (gx_nt (fun r w' => r = none ∧ ∃ I' A', w' = gx_mo w m I' A' ∧ mQ I' A' (if sp_agb (ds.getD d ([], [])).1 (Rr ++ (ds.getD d ([], [])).2) = true then (q ++ [(nI xv, d, sz + 1, (Rr ++ (ds.getD d ([], [])).2).drop (ds.getD d ([], [])).1.length)]).take 402 else q) ∧ (∀ k, k ≠ 8 → I' k = I k) ∧ ∀ j, j < 17 → A' j = A j)) 228 [some (.ref m), some (.int (nI xv)), some (.int (nI d)), some (.int (nI (ds.getD d ([], [])).1.length)), some (.int (nI (Rr ++ (ds.getD d ([], [])).2).length)), some (.int (nI (ds.getD d ([], [])).1.length)), L6, L7] [] (gx_mo w m I A1) (0, 0) := by
  obtain ⟨⟨a1, a2⟩, ⟨a3, a4⟩, a5, a6⟩ := hds d hd
  have hle := hfit hag
  have hvl : (Rr ++ (ds.getD d ([], [])).2).length ≤ 19 := by rw [List.length_append]; omega
  have hq' : mQ I A1 q := ⟨hq.1, hq.2.1, fun i hi => (hq.2.2 i hi).P (fun j h1 h2 => hP.1 j (by omega) (by omega))⟩
  obtain ⟨rfl, rfl⟩ := hx
  refine gx_aload_n d_Mo_join_228 rfl ?_
  refine gx_get fl_Mo_175 d_Mo_join_229 mo_o rfl ?_
  rw [hq.1]
  refine gx_istore d_Mo_join_232 (Nat.le_of_ble_eq_true rfl) rfl ?_
  refine gx_aload_n d_Mo_join_234 rfl ?_
  refine gx_get fl_Mo_63 d_Mo_join_235 mo_o rfl ?_
  refine gx_iload d_Mo_join_238 rfl ?_
  refine gx_iload_n d_Mo_join_240 rfl ?_
  refine gx_iast d_Mo_join_241 mo_17 (by omega) (by omega) ?_
  refine gx_w mo_s17 ?_
  refine gx_aload_n d_Mo_join_242 rfl ?_
  refine gx_get fl_Mo_66 d_Mo_join_243 mo_o rfl ?_
  refine gx_iload d_Mo_join_246 rfl ?_
  refine gx_iload_n d_Mo_join_248 rfl ?_
  refine gx_iast d_Mo_join_249 mo_18 (by omega) (by omega) ?_
  refine gx_w mo_s18 ?_
  refine gx_aload_n d_Mo_join_250 rfl ?_
  refine gx_get fl_Mo_69 d_Mo_join_251 mo_o rfl ?_
  refine gx_iload d_Mo_join_254 rfl ?_
  refine gx_iload_n d_Mo_join_256 rfl ?_
  refine gx_if_ge (tgt := 264) d_Mo_join_257 (by decide) (fun h257 => ?_) (fun h257 => ?_)
  · exact absurd gx_m1lt (gx_n0 h257)
  · refine gx_iconst d_Mo_join_260 (nI 1) (by decide) ?_
    refine gx_goto (tgt := 272) d_Mo_join_261 (by decide) ?_
    refine gx_iast d_Mo_join_272 mo_19 (by omega) (by omega) ?_
    refine gx_w mo_s19 ?_
    refine gx_aload_n d_Mo_join_273 rfl ?_
    refine gx_get fl_Mo_72 d_Mo_join_274 mo_o rfl ?_
    refine gx_iload d_Mo_join_277 rfl ?_
    refine gx_iload d_Mo_join_279 rfl ?_
    refine gx_iload_n d_Mo_join_281 rfl ?_
    refine gx_icmp_leN (by omega) (by omega) (tgt := 289) d_Mo_join_282 (by decide) (fun h282 => ?_) (fun h282 => ?_)
    · refine gx_iconst d_Mo_join_289 (nI 0) (by decide) ?_
      refine gx_iast d_Mo_join_290 mo_20 (by omega) (by omega) ?_
      refine gx_w mo_s20 ?_
      refine gx_aload_n d_Mo_join_291 rfl ?_
      refine gx_get fl_Mo_75 d_Mo_join_292 mo_o rfl ?_
      refine gx_iload d_Mo_join_295 rfl ?_
      refine gx_iload d_Mo_join_297 rfl ?_
      refine gx_iload_n d_Mo_join_299 rfl ?_
      refine gx_icmp_leN (by omega) (by omega) (tgt := 310) d_Mo_join_300 (by decide) (fun h300 => ?_) (fun h300 => ?_)
      · refine gx_iload_n d_Mo_join_310 rfl ?_
        refine gx_iload d_Mo_join_311 rfl ?_
        refine gx_isubN (by omega) d_Mo_join_313 ?_
        refine gx_iast d_Mo_join_314 mo_21 (by omega) (by omega) ?_
        refine gx_w mo_s21 ?_
        refine gx_iconst d_Mo_join_315 (nI 0) (by decide) ?_
        refine gx_istore d_Mo_join_316 (Nat.le_of_ble_eq_true rfl) rfl ?_
        have hY : moY (moG A1 q.length 4294967295 d (0 + 1) 0 ((ds.getD d ([], [])).1.length - (Rr ++ (ds.getD d ([], [])).2).length)) (moG A1 q.length 4294967295 d (0 + 1) 0 ((ds.getD d ([], [])).1.length - (Rr ++ (ds.getD d ([], [])).2).length)) q.length ((Rr ++ (ds.getD d ([], [])).2).drop (ds.getD d ([], [])).1.length) := by
          rw [List.drop_eq_nil_of_le (by omega)]; exact moY.nil
        have hz : (ds.getD d ([], [])).1.length - (Rr ++ (ds.getD d ([], [])).2).length = (Rr ++ (ds.getD d ([], [])).2).length - (ds.getD d ([], [])).1.length := by omega
        refine gx_iload d_Mo_join_318 rfl ?_
        refine gx_aload_n d_Mo_join_320 rfl ?_
        refine gx_get fl_Mo_75 d_Mo_join_321 mo_o rfl ?_
        refine gx_iload d_Mo_join_324 rfl ?_
        refine gx_iald d_Mo_join_326 mo_21 (by omega) (by omega) ?_
        rw [uA_s]
        refine gx_icmp_geN (by omega) (by omega) (tgt := 378) d_Mo_join_327 (by decide) (fun h327 => ?_) (fun h327 => ?_)
        · refine gx_aload_n d_Mo_join_378 rfl ?_
          refine gx_dup d_Mo_join_379 rfl ?_
          refine gx_get fl_Mo_175 d_Mo_join_380 mo_o rfl ?_
          rw [hq.1]
          refine gx_iconst d_Mo_join_383 (nI 1) (by decide) ?_
          refine gx_iaddN d_Mo_join_384 ?_
          refine gx_put fp_Mo_175 (fun h => by cases h) d_Mo_join_385 mo_o rfl rfl (Nat.le_of_ble_eq_true rfl) ?_
          refine gx_w mo_p8 ?_
          refine gx_return rfl d_Mo_join_388 ?_
          refine ⟨rfl, _, _, rfl, ?_, fun k hk => ui_o hk, fun j hj => ?_⟩
          · rw [if_pos hag, List.take_of_length_le (by rw [List.length_append, List.length_singleton]; omega)]
            exact hq'.push (by omega) ui_s (by rw [List.length_drop]; omega) (by rw [show ((Rr ++ (ds.getD d ([], [])).2).drop (ds.getD d ([], [])).1.length).length = (Rr ++ (ds.getD d ([], [])).2).length - (ds.getD d ([], [])).1.length from List.length_drop ..]; rw [if_pos (by omega), ← hz]; exact hY)
          · funext i
            exact (hY.oj (by omega) i).trans ((congrFun (moG_j (by omega)) i).trans (hP.at (by omega) i))
        · exact absurd (by omega) h327
      · exact absurd h300 (by omega)
    · refine gx_iconst d_Mo_join_285 (nI 1) (by decide) ?_
      refine gx_goto (tgt := 290) d_Mo_join_286 (by decide) ?_
      refine gx_iast d_Mo_join_290 mo_20 (by omega) (by omega) ?_
      refine gx_w mo_s20 ?_
      refine gx_aload_n d_Mo_join_291 rfl ?_
      refine gx_get fl_Mo_75 d_Mo_join_292 mo_o rfl ?_
      refine gx_iload d_Mo_join_295 rfl ?_
      refine gx_iload d_Mo_join_297 rfl ?_
      refine gx_iload_n d_Mo_join_299 rfl ?_
      refine gx_icmp_leN (by omega) (by omega) (tgt := 310) d_Mo_join_300 (by decide) (fun h300 => ?_) (fun h300 => ?_)
      · exact absurd h300 (by omega)
      · refine gx_iload d_Mo_join_303 rfl ?_
        refine gx_iload_n d_Mo_join_305 rfl ?_
        refine gx_isubN (by omega) d_Mo_join_306 ?_
        refine gx_goto (tgt := 314) d_Mo_join_307 (by decide) ?_
        refine gx_iast d_Mo_join_314 mo_21 (by omega) (by omega) ?_
        refine gx_w mo_s21 ?_
        refine gx_iconst d_Mo_join_315 (nI 0) (by decide) ?_
        refine gx_istore d_Mo_join_316 (Nat.le_of_ble_eq_true rfl) rfl ?_
        refine lm_j5 (u := (ds.getD d ([], [])).1) (v := Rr ++ (ds.getD d ([], [])).2) (by omega) (by omega) rfl (by omega) uA_s (fun i hi => ?_) 20 0 _ (by omega) (Nat.zero_le _) (by rw [List.take_zero]; exact moY.nil) (fun A2 L7 hY => ?_)
        · rw [uA_o (by decide), uA_o (by decide), uA_o (by decide), uA_o (by decide), uA_o (by decide)]; exact hP.2.2 i hi
        refine gx_aload_n d_Mo_join_378 rfl ?_
        refine gx_dup d_Mo_join_379 rfl ?_
        refine gx_get fl_Mo_175 d_Mo_join_380 mo_o rfl ?_
        rw [hq.1]
        refine gx_iconst d_Mo_join_383 (nI 1) (by decide) ?_
        refine gx_iaddN d_Mo_join_384 ?_
        refine gx_put fp_Mo_175 (fun h => by cases h) d_Mo_join_385 mo_o rfl rfl (Nat.le_of_ble_eq_true rfl) ?_
        refine gx_w mo_p8 ?_
        refine gx_return rfl d_Mo_join_388 ?_
        refine ⟨rfl, _, _, rfl, ?_, fun k hk => ui_o hk, fun j hj => ?_⟩
        · rw [if_pos hag, List.take_of_length_le (by rw [List.length_append, List.length_singleton]; omega)]
          exact hq'.push (by omega) ui_s (by rw [List.length_drop]; omega) (by rw [show ((Rr ++ (ds.getD d ([], [])).2).drop (ds.getD d ([], [])).1.length).length = (Rr ++ (ds.getD d ([], [])).2).length - (ds.getD d ([], [])).1.length from List.length_drop ..]; rw [if_neg (by omega)]; exact hY)
        · funext i
          exact (hY.oj (by omega) i).trans ((congrFun (moG_j (by omega)) i).trans (hP.at (by omega) i))
theorem sg_j0 {w : gx_W} {m : Nat} {I : Nat → Nat} {A : Nat → Nat → Nat} {A1 : Nat → Nat → Nat} {L6 L7 : Option Value} {ds : List (List Nat × List Nat)} {q : List sp_E} {xv d sz : Nat} {Rr : List Nat} (hds : moDs A ds) (hd : d < ds.length) (h60 : ds.length ≤ 60) (hdk : ∀ p ∈ ds, sp_dk p) (hR : Rr.length ≤ 12) (hRs : gx_sm Rr) (hq : mQ I A q) (hfit : sp_agb (ds.getD d ([], [])).1 (Rr ++ (ds.getD d ([], [])).2) = true → (ds.getD d ([], [])).1.length ≤ (Rr ++ (ds.getD d ([], [])).2).length) (hx : xv < 402 ∧ A 19 xv = sz) (hsz : sz < 65536) (hP : moP A A1 (ds.getD d ([], [])).1 (Rr ++ (ds.getD d ([], [])).2)) (hag : sp_agb (ds.getD d ([], [])).1 (Rr ++ (ds.getD d ([], [])).2) = true) (hql : q.length < 402) : gx_X (fun _ _ => True) M_Mo_join 1 (gx_nt (fun r w' => r = none ∧ ∃ I' A', w' = gx_mo w m I' A' ∧ mQ I' A' (if sp_agb (ds.getD d ([], [])).1 (Rr ++ (ds.getD d ([], [])).2) = true then (q ++ [(nI xv, d, sz + 1, (Rr ++ (ds.getD d ([], [])).2).drop (ds.getD d ([], [])).1.length)]).take 402 else q) ∧ (∀ k, k ≠ 8 → I' k = I k) ∧ ∀ j, j < 17 → A' j = A j)) 228 [some (.ref m), some (.int (nI xv)), some (.int (nI d)), some (.int (nI (ds.getD d ([], [])).1.length)), some (.int (nI (Rr ++ (ds.getD d ([], [])).2).length)), some (.int (nI (ds.getD d ([], [])).1.length)), L6, L7] [] (gx_mo w m I A1) (0, 0) := by
  obtain ⟨⟨a1, a2⟩, ⟨a3, a4⟩, a5, a6⟩ := hds d hd
  have hle := hfit hag
  have hvl : (Rr ++ (ds.getD d ([], [])).2).length ≤ 19 := by rw [List.length_append]; omega
  have hq' : mQ I A1 q := ⟨hq.1, hq.2.1, fun i hi => (hq.2.2 i hi).P (fun j h1 h2 => hP.1 j (by omega) (by omega))⟩
  obtain ⟨hx1, hx2⟩ := hx
  refine gx_aload_n d_Mo_join_228 rfl ?_
  refine gx_get fl_Mo_175 d_Mo_join_229 mo_o rfl ?_
  rw [hq.1]
  refine gx_istore d_Mo_join_232 (Nat.le_of_ble_eq_true rfl) rfl ?_
  refine gx_aload_n d_Mo_join_234 rfl ?_
  refine gx_get fl_Mo_63 d_Mo_join_235 mo_o rfl ?_
  refine gx_iload d_Mo_join_238 rfl ?_
  refine gx_iload_n d_Mo_join_240 rfl ?_
  refine gx_iast d_Mo_join_241 mo_17 (by omega) (by omega) ?_
  refine gx_w mo_s17 ?_
  refine gx_aload_n d_Mo_join_242 rfl ?_
  refine gx_get fl_Mo_66 d_Mo_join_243 mo_o rfl ?_
  refine gx_iload d_Mo_join_246 rfl ?_
  refine gx_iload_n d_Mo_join_248 rfl ?_
  refine gx_iast d_Mo_join_249 mo_18 (by omega) (by omega) ?_
  refine gx_w mo_s18 ?_
  refine gx_aload_n d_Mo_join_250 rfl ?_
  refine gx_get fl_Mo_69 d_Mo_join_251 mo_o rfl ?_
  refine gx_iload d_Mo_join_254 rfl ?_
  refine gx_iload_n d_Mo_join_256 rfl ?_
  refine gx_if_geN (by omega) (tgt := 264) d_Mo_join_257 (by decide) ?_
  refine gx_aload_n d_Mo_join_264 rfl ?_
  refine gx_get fl_Mo_69 d_Mo_join_265 mo_o rfl ?_
  refine gx_iload_n d_Mo_join_268 rfl ?_
  refine gx_iald d_Mo_join_269 mo_19 (by omega) (by omega) ?_
  rw [uA_o (by decide), uA_o (by decide), hP.at (by decide), hx2]
  refine gx_iconst d_Mo_join_270 (nI 1) (by decide) ?_
  refine gx_iaddN d_Mo_join_271 ?_
  refine gx_iast d_Mo_join_272 mo_19 (by omega) (by omega) ?_
  refine gx_w mo_s19 ?_
  refine gx_aload_n d_Mo_join_273 rfl ?_
  refine gx_get fl_Mo_72 d_Mo_join_274 mo_o rfl ?_
  refine gx_iload d_Mo_join_277 rfl ?_
  refine gx_iload d_Mo_join_279 rfl ?_
  refine gx_iload_n d_Mo_join_281 rfl ?_
  refine gx_icmp_leN (by omega) (by omega) (tgt := 289) d_Mo_join_282 (by decide) (fun h282 => ?_) (fun h282 => ?_)
  · refine gx_iconst d_Mo_join_289 (nI 0) (by decide) ?_
    refine gx_iast d_Mo_join_290 mo_20 (by omega) (by omega) ?_
    refine gx_w mo_s20 ?_
    refine gx_aload_n d_Mo_join_291 rfl ?_
    refine gx_get fl_Mo_75 d_Mo_join_292 mo_o rfl ?_
    refine gx_iload d_Mo_join_295 rfl ?_
    refine gx_iload d_Mo_join_297 rfl ?_
    refine gx_iload_n d_Mo_join_299 rfl ?_
    refine gx_icmp_leN (by omega) (by omega) (tgt := 310) d_Mo_join_300 (by decide) (fun h300 => ?_) (fun h300 => ?_)
    · refine gx_iload_n d_Mo_join_310 rfl ?_
      refine gx_iload d_Mo_join_311 rfl ?_
      refine gx_isubN (by omega) d_Mo_join_313 ?_
      refine gx_iast d_Mo_join_314 mo_21 (by omega) (by omega) ?_
      refine gx_w mo_s21 ?_
      refine gx_iconst d_Mo_join_315 (nI 0) (by decide) ?_
      refine gx_istore d_Mo_join_316 (Nat.le_of_ble_eq_true rfl) rfl ?_
      have hY : moY (moG A1 q.length xv d (sz + 1) 0 ((ds.getD d ([], [])).1.length - (Rr ++ (ds.getD d ([], [])).2).length)) (moG A1 q.length xv d (sz + 1) 0 ((ds.getD d ([], [])).1.length - (Rr ++ (ds.getD d ([], [])).2).length)) q.length ((Rr ++ (ds.getD d ([], [])).2).drop (ds.getD d ([], [])).1.length) := by
        rw [List.drop_eq_nil_of_le (by omega)]; exact moY.nil
      have hz : (ds.getD d ([], [])).1.length - (Rr ++ (ds.getD d ([], [])).2).length = (Rr ++ (ds.getD d ([], [])).2).length - (ds.getD d ([], [])).1.length := by omega
      refine gx_iload d_Mo_join_318 rfl ?_
      refine gx_aload_n d_Mo_join_320 rfl ?_
      refine gx_get fl_Mo_75 d_Mo_join_321 mo_o rfl ?_
      refine gx_iload d_Mo_join_324 rfl ?_
      refine gx_iald d_Mo_join_326 mo_21 (by omega) (by omega) ?_
      rw [uA_s]
      refine gx_icmp_geN (by omega) (by omega) (tgt := 378) d_Mo_join_327 (by decide) (fun h327 => ?_) (fun h327 => ?_)
      · refine gx_aload_n d_Mo_join_378 rfl ?_
        refine gx_dup d_Mo_join_379 rfl ?_
        refine gx_get fl_Mo_175 d_Mo_join_380 mo_o rfl ?_
        rw [hq.1]
        refine gx_iconst d_Mo_join_383 (nI 1) (by decide) ?_
        refine gx_iaddN d_Mo_join_384 ?_
        refine gx_put fp_Mo_175 (fun h => by cases h) d_Mo_join_385 mo_o rfl rfl (Nat.le_of_ble_eq_true rfl) ?_
        refine gx_w mo_p8 ?_
        refine gx_return rfl d_Mo_join_388 ?_
        refine ⟨rfl, _, _, rfl, ?_, fun k hk => ui_o hk, fun j hj => ?_⟩
        · rw [if_pos hag, List.take_of_length_le (by rw [List.length_append, List.length_singleton]; omega)]
          exact hq'.push (by omega) ui_s (by rw [List.length_drop]; omega) (by rw [show ((Rr ++ (ds.getD d ([], [])).2).drop (ds.getD d ([], [])).1.length).length = (Rr ++ (ds.getD d ([], [])).2).length - (ds.getD d ([], [])).1.length from List.length_drop ..]; rw [if_pos (by omega), ← hz]; exact hY)
        · funext i
          exact (hY.oj (by omega) i).trans ((congrFun (moG_j (by omega)) i).trans (hP.at (by omega) i))
      · exact absurd (by omega) h327
    · exact absurd h300 (by omega)
  · refine gx_iconst d_Mo_join_285 (nI 1) (by decide) ?_
    refine gx_goto (tgt := 290) d_Mo_join_286 (by decide) ?_
    refine gx_iast d_Mo_join_290 mo_20 (by omega) (by omega) ?_
    refine gx_w mo_s20 ?_
    refine gx_aload_n d_Mo_join_291 rfl ?_
    refine gx_get fl_Mo_75 d_Mo_join_292 mo_o rfl ?_
    refine gx_iload d_Mo_join_295 rfl ?_
    refine gx_iload d_Mo_join_297 rfl ?_
    refine gx_iload_n d_Mo_join_299 rfl ?_
    refine gx_icmp_leN (by omega) (by omega) (tgt := 310) d_Mo_join_300 (by decide) (fun h300 => ?_) (fun h300 => ?_)
    · exact absurd h300 (by omega)
    · refine gx_iload d_Mo_join_303 rfl ?_
      refine gx_iload_n d_Mo_join_305 rfl ?_
      refine gx_isubN (by omega) d_Mo_join_306 ?_
      refine gx_goto (tgt := 314) d_Mo_join_307 (by decide) ?_
      refine gx_iast d_Mo_join_314 mo_21 (by omega) (by omega) ?_
      refine gx_w mo_s21 ?_
      refine gx_iconst d_Mo_join_315 (nI 0) (by decide) ?_
      refine gx_istore d_Mo_join_316 (Nat.le_of_ble_eq_true rfl) rfl ?_
      refine lm_j5 (u := (ds.getD d ([], [])).1) (v := Rr ++ (ds.getD d ([], [])).2) (by omega) (by omega) rfl (by omega) uA_s (fun i hi => ?_) 20 0 _ (by omega) (Nat.zero_le _) (by rw [List.take_zero]; exact moY.nil) (fun A2 L7 hY => ?_)
      · rw [uA_o (by decide), uA_o (by decide), uA_o (by decide), uA_o (by decide), uA_o (by decide)]; exact hP.2.2 i hi
      refine gx_aload_n d_Mo_join_378 rfl ?_
      refine gx_dup d_Mo_join_379 rfl ?_
      refine gx_get fl_Mo_175 d_Mo_join_380 mo_o rfl ?_
      rw [hq.1]
      refine gx_iconst d_Mo_join_383 (nI 1) (by decide) ?_
      refine gx_iaddN d_Mo_join_384 ?_
      refine gx_put fp_Mo_175 (fun h => by cases h) d_Mo_join_385 mo_o rfl rfl (Nat.le_of_ble_eq_true rfl) ?_
      refine gx_w mo_p8 ?_
      refine gx_return rfl d_Mo_join_388 ?_
      refine ⟨rfl, _, _, rfl, ?_, fun k hk => ui_o hk, fun j hj => ?_⟩
      · rw [if_pos hag, List.take_of_length_le (by rw [List.length_append, List.length_singleton]; omega)]
        exact hq'.push (by omega) ui_s (by rw [List.length_drop]; omega) (by rw [show ((Rr ++ (ds.getD d ([], [])).2).drop (ds.getD d ([], [])).1.length).length = (Rr ++ (ds.getD d ([], [])).2).length - (ds.getD d ([], [])).1.length from List.length_drop ..]; rw [if_neg (by omega)]; exact hY)
      · funext i
        exact (hY.oj (by omega) i).trans ((congrFun (moG_j (by omega)) i).trans (hP.at (by omega) i))
theorem sg_jm1 {w : gx_W} {m : Nat} {I : Nat → Nat} {A : Nat → Nat → Nat} {A1 : Nat → Nat → Nat} {L5 L6 L7 : Option Value} {ds : List (List Nat × List Nat)} {q : List sp_E} {xv d sz : Nat} {Rr : List Nat} (hds : moDs A ds) (hd : d < ds.length) (h60 : ds.length ≤ 60) (hdk : ∀ p ∈ ds, sp_dk p) (hR : Rr.length ≤ 12) (hRs : gx_sm Rr) (hq : mQ I A q) (hfit : sp_agb (ds.getD d ([], [])).1 (Rr ++ (ds.getD d ([], [])).2) = true → (ds.getD d ([], [])).1.length ≤ (Rr ++ (ds.getD d ([], [])).2).length) (hx : xv = 4294967295 ∧ sz = 0) (hsz : sz < 65536) (hP1 : moP A A1 [] Rr) : gx_X (fun _ _ => True) M_Mo_join 1 (gx_nt (fun r w' => r = none ∧ ∃ I' A', w' = gx_mo w m I' A' ∧ mQ I' A' (if sp_agb (ds.getD d ([], [])).1 (Rr ++ (ds.getD d ([], [])).2) = true then (q ++ [(nI xv, d, sz + 1, (Rr ++ (ds.getD d ([], [])).2).drop (ds.getD d ([], [])).1.length)]).take 402 else q) ∧ (∀ k, k ≠ 8 → I' k = I k) ∧ ∀ j, j < 17 → A' j = A j)) 87 [some (.ref m), some (.int (nI xv)), some (.int (nI d)), some (.int (nI 0)), some (.int (nI Rr.length)), L5, L6, L7] [] (gx_mo w m I A1) (0, 0) := by
  have h402 := hq.2.1
  obtain ⟨⟨a1, a2⟩, ⟨a3, a4⟩, a5, a6⟩ := hds d hd
  obtain ⟨_, ⟨b4, b5⟩, _, _, _⟩ := hdk _ (gx_dmem hd)
  refine gx_iconst d_Mo_join_87 (nI 0) (by decide) ?_
  refine gx_istore d_Mo_join_88 (Nat.le_of_ble_eq_true rfl) rfl ?_
  refine lm_j2 (Rr := Rr) hds hd h60 hR 4 0 _ (by omega) (Nat.zero_le _) (by rw [List.take_zero]; exact hP1) (fun A2 hP2 => ?_)
  refine gx_iconst d_Mo_join_127 (nI 0) (by decide) ?_
  refine gx_istore d_Mo_join_128 (Nat.le_of_ble_eq_true rfl) rfl ?_
  refine lm_j3 (Rr := Rr) hds hd h60 hR 8 0 _ (by omega) (Nat.zero_le _) (by rw [List.take_zero, List.append_nil]; exact hP2) (fun A3 L5 hP3 => ?_)
  have hvl : (Rr ++ (ds.getD d ([], [])).2).length = Rr.length + (ds.getD d ([], [])).2.length := List.length_append ..
  refine gx_iload_n d_Mo_join_169 rfl ?_
  refine gx_iload d_Mo_join_170 rfl ?_
  refine gx_icmp_geN (by omega) (by omega) (tgt := 179) d_Mo_join_172 (by decide) (fun h172 => ?_) (fun h172 => ?_)
  · refine gx_iload d_Mo_join_179 rfl ?_
    refine gx_istore d_Mo_join_181 (Nat.le_of_ble_eq_true rfl) rfl ?_
    refine gx_iconst d_Mo_join_183 (nI 0) (by decide) ?_
    refine gx_istore d_Mo_join_184 (Nat.le_of_ble_eq_true rfl) rfl ?_
    refine lm_j4 (u := (ds.getD d ([], [])).1) (v := Rr ++ (ds.getD d ([], [])).2) hP3 b4 (gx_sm_app hRs b5) a3 (by rw [List.length_append]; omega) (by omega) (fun hno => ?_) 20 0 (by omega) (Nat.zero_le _) (fun k hk => absurd hk (Nat.not_lt_zero _)) (fun hag L6 => ?_)
    · refine ⟨rfl, _, _, rfl, ?_, fun _ _ => rfl, fun j hj => hP3.1 j (by omega) (by omega)⟩
      rw [if_neg (by rw [hno]; decide)]
      exact ⟨hq.1, hq.2.1, fun i hi => (hq.2.2 i hi).P (fun j h1 h2 => hP3.1 j (by omega) (by omega))⟩
    have hcb : (Rr ++ (ds.getD d ([], [])).2).length = (ds.getD d ([], [])).1.length := Nat.le_antisymm (by omega) (hfit hag)
    refine gx_L (L' := [some (.ref m), some (.int (nI xv)), some (.int (nI d)), some (.int (nI (ds.getD d ([], [])).1.length)), some (.int (nI (Rr ++ (ds.getD d ([], [])).2).length)), some (.int (nI (ds.getD d ([], [])).1.length)), L6, L7]) (by rw [hcb]) ?_
    refine gx_aload_n d_Mo_join_217 rfl ?_
    refine gx_get fl_Mo_175 d_Mo_join_218 mo_o rfl ?_
    rw [hq.1]
    refine gx_sipush d_Mo_join_221 (nI 402) (by decide) ?_
    refine gx_icmp_neN (by omega) (by omega) (tgt := 228) d_Mo_join_224 (by decide) (fun h224 => ?_) (fun h224 => ?_)
    · exact sg_j1 hds hd h60 hdk hR hRs hq hfit hx hsz hP3 hag (by have := hq.2.1; omega)
    · refine gx_return rfl d_Mo_join_227 ?_
      refine ⟨rfl, _, _, rfl, ?_, fun _ _ => rfl, fun j hj => hP3.1 j (by omega) (by omega)⟩
      rw [if_pos hag, List.take_append_of_le_length (by omega), List.take_of_length_le (by omega)]
      exact ⟨hq.1, hq.2.1, fun i hi => (hq.2.2 i hi).P (fun j h1 h2 => hP3.1 j (by omega) (by omega))⟩
  · refine gx_iload_n d_Mo_join_175 rfl ?_
    refine gx_goto (tgt := 181) d_Mo_join_176 (by decide) ?_
    refine gx_istore d_Mo_join_181 (Nat.le_of_ble_eq_true rfl) rfl ?_
    refine gx_iconst d_Mo_join_183 (nI 0) (by decide) ?_
    refine gx_istore d_Mo_join_184 (Nat.le_of_ble_eq_true rfl) rfl ?_
    refine lm_j4 (u := (ds.getD d ([], [])).1) (v := Rr ++ (ds.getD d ([], [])).2) hP3 b4 (gx_sm_app hRs b5) a3 (by rw [List.length_append]; omega) (by omega) (fun hno => ?_) 20 0 (by omega) (Nat.zero_le _) (fun k hk => absurd hk (Nat.not_lt_zero _)) (fun hag L6 => ?_)
    · refine ⟨rfl, _, _, rfl, ?_, fun _ _ => rfl, fun j hj => hP3.1 j (by omega) (by omega)⟩
      rw [if_neg (by rw [hno]; decide)]
      exact ⟨hq.1, hq.2.1, fun i hi => (hq.2.2 i hi).P (fun j h1 h2 => hP3.1 j (by omega) (by omega))⟩
    refine gx_aload_n d_Mo_join_217 rfl ?_
    refine gx_get fl_Mo_175 d_Mo_join_218 mo_o rfl ?_
    rw [hq.1]
    refine gx_sipush d_Mo_join_221 (nI 402) (by decide) ?_
    refine gx_icmp_neN (by omega) (by omega) (tgt := 228) d_Mo_join_224 (by decide) (fun h224 => ?_) (fun h224 => ?_)
    · exact sg_j1 hds hd h60 hdk hR hRs hq hfit hx hsz hP3 hag (by have := hq.2.1; omega)
    · refine gx_return rfl d_Mo_join_227 ?_
      refine ⟨rfl, _, _, rfl, ?_, fun _ _ => rfl, fun j hj => hP3.1 j (by omega) (by omega)⟩
      rw [if_pos hag, List.take_append_of_le_length (by omega), List.take_of_length_le (by omega)]
      exact ⟨hq.1, hq.2.1, fun i hi => (hq.2.2 i hi).P (fun j h1 h2 => hP3.1 j (by omega) (by omega))⟩
theorem sg_jm0 {w : gx_W} {m : Nat} {I : Nat → Nat} {A : Nat → Nat → Nat} {A1 : Nat → Nat → Nat} {L5 L6 L7 : Option Value} {ds : List (List Nat × List Nat)} {q : List sp_E} {xv d sz : Nat} {Rr : List Nat} (hds : moDs A ds) (hd : d < ds.length) (h60 : ds.length ≤ 60) (hdk : ∀ p ∈ ds, sp_dk p) (hR : Rr.length ≤ 12) (hRs : gx_sm Rr) (hq : mQ I A q) (hfit : sp_agb (ds.getD d ([], [])).1 (Rr ++ (ds.getD d ([], [])).2) = true → (ds.getD d ([], [])).1.length ≤ (Rr ++ (ds.getD d ([], [])).2).length) (hx : xv < 402 ∧ A 19 xv = sz) (hsz : sz < 65536) (hP1 : moP A A1 [] Rr) : gx_X (fun _ _ => True) M_Mo_join 1 (gx_nt (fun r w' => r = none ∧ ∃ I' A', w' = gx_mo w m I' A' ∧ mQ I' A' (if sp_agb (ds.getD d ([], [])).1 (Rr ++ (ds.getD d ([], [])).2) = true then (q ++ [(nI xv, d, sz + 1, (Rr ++ (ds.getD d ([], [])).2).drop (ds.getD d ([], [])).1.length)]).take 402 else q) ∧ (∀ k, k ≠ 8 → I' k = I k) ∧ ∀ j, j < 17 → A' j = A j)) 87 [some (.ref m), some (.int (nI xv)), some (.int (nI d)), some (.int (nI 0)), some (.int (nI Rr.length)), L5, L6, L7] [] (gx_mo w m I A1) (0, 0) := by
  have h402 := hq.2.1
  obtain ⟨⟨a1, a2⟩, ⟨a3, a4⟩, a5, a6⟩ := hds d hd
  obtain ⟨_, ⟨b4, b5⟩, _, _, _⟩ := hdk _ (gx_dmem hd)
  refine gx_iconst d_Mo_join_87 (nI 0) (by decide) ?_
  refine gx_istore d_Mo_join_88 (Nat.le_of_ble_eq_true rfl) rfl ?_
  refine lm_j2 (Rr := Rr) hds hd h60 hR 4 0 _ (by omega) (Nat.zero_le _) (by rw [List.take_zero]; exact hP1) (fun A2 hP2 => ?_)
  refine gx_iconst d_Mo_join_127 (nI 0) (by decide) ?_
  refine gx_istore d_Mo_join_128 (Nat.le_of_ble_eq_true rfl) rfl ?_
  refine lm_j3 (Rr := Rr) hds hd h60 hR 8 0 _ (by omega) (Nat.zero_le _) (by rw [List.take_zero, List.append_nil]; exact hP2) (fun A3 L5 hP3 => ?_)
  have hvl : (Rr ++ (ds.getD d ([], [])).2).length = Rr.length + (ds.getD d ([], [])).2.length := List.length_append ..
  refine gx_iload_n d_Mo_join_169 rfl ?_
  refine gx_iload d_Mo_join_170 rfl ?_
  refine gx_icmp_geN (by omega) (by omega) (tgt := 179) d_Mo_join_172 (by decide) (fun h172 => ?_) (fun h172 => ?_)
  · refine gx_iload d_Mo_join_179 rfl ?_
    refine gx_istore d_Mo_join_181 (Nat.le_of_ble_eq_true rfl) rfl ?_
    refine gx_iconst d_Mo_join_183 (nI 0) (by decide) ?_
    refine gx_istore d_Mo_join_184 (Nat.le_of_ble_eq_true rfl) rfl ?_
    refine lm_j4 (u := (ds.getD d ([], [])).1) (v := Rr ++ (ds.getD d ([], [])).2) hP3 b4 (gx_sm_app hRs b5) a3 (by rw [List.length_append]; omega) (by omega) (fun hno => ?_) 20 0 (by omega) (Nat.zero_le _) (fun k hk => absurd hk (Nat.not_lt_zero _)) (fun hag L6 => ?_)
    · refine ⟨rfl, _, _, rfl, ?_, fun _ _ => rfl, fun j hj => hP3.1 j (by omega) (by omega)⟩
      rw [if_neg (by rw [hno]; decide)]
      exact ⟨hq.1, hq.2.1, fun i hi => (hq.2.2 i hi).P (fun j h1 h2 => hP3.1 j (by omega) (by omega))⟩
    have hcb : (Rr ++ (ds.getD d ([], [])).2).length = (ds.getD d ([], [])).1.length := Nat.le_antisymm (by omega) (hfit hag)
    refine gx_L (L' := [some (.ref m), some (.int (nI xv)), some (.int (nI d)), some (.int (nI (ds.getD d ([], [])).1.length)), some (.int (nI (Rr ++ (ds.getD d ([], [])).2).length)), some (.int (nI (ds.getD d ([], [])).1.length)), L6, L7]) (by rw [hcb]) ?_
    refine gx_aload_n d_Mo_join_217 rfl ?_
    refine gx_get fl_Mo_175 d_Mo_join_218 mo_o rfl ?_
    rw [hq.1]
    refine gx_sipush d_Mo_join_221 (nI 402) (by decide) ?_
    refine gx_icmp_neN (by omega) (by omega) (tgt := 228) d_Mo_join_224 (by decide) (fun h224 => ?_) (fun h224 => ?_)
    · exact sg_j0 hds hd h60 hdk hR hRs hq hfit hx hsz hP3 hag (by have := hq.2.1; omega)
    · refine gx_return rfl d_Mo_join_227 ?_
      refine ⟨rfl, _, _, rfl, ?_, fun _ _ => rfl, fun j hj => hP3.1 j (by omega) (by omega)⟩
      rw [if_pos hag, List.take_append_of_le_length (by omega), List.take_of_length_le (by omega)]
      exact ⟨hq.1, hq.2.1, fun i hi => (hq.2.2 i hi).P (fun j h1 h2 => hP3.1 j (by omega) (by omega))⟩
  · refine gx_iload_n d_Mo_join_175 rfl ?_
    refine gx_goto (tgt := 181) d_Mo_join_176 (by decide) ?_
    refine gx_istore d_Mo_join_181 (Nat.le_of_ble_eq_true rfl) rfl ?_
    refine gx_iconst d_Mo_join_183 (nI 0) (by decide) ?_
    refine gx_istore d_Mo_join_184 (Nat.le_of_ble_eq_true rfl) rfl ?_
    refine lm_j4 (u := (ds.getD d ([], [])).1) (v := Rr ++ (ds.getD d ([], [])).2) hP3 b4 (gx_sm_app hRs b5) a3 (by rw [List.length_append]; omega) (by omega) (fun hno => ?_) 20 0 (by omega) (Nat.zero_le _) (fun k hk => absurd hk (Nat.not_lt_zero _)) (fun hag L6 => ?_)
    · refine ⟨rfl, _, _, rfl, ?_, fun _ _ => rfl, fun j hj => hP3.1 j (by omega) (by omega)⟩
      rw [if_neg (by rw [hno]; decide)]
      exact ⟨hq.1, hq.2.1, fun i hi => (hq.2.2 i hi).P (fun j h1 h2 => hP3.1 j (by omega) (by omega))⟩
    refine gx_aload_n d_Mo_join_217 rfl ?_
    refine gx_get fl_Mo_175 d_Mo_join_218 mo_o rfl ?_
    rw [hq.1]
    refine gx_sipush d_Mo_join_221 (nI 402) (by decide) ?_
    refine gx_icmp_neN (by omega) (by omega) (tgt := 228) d_Mo_join_224 (by decide) (fun h224 => ?_) (fun h224 => ?_)
    · exact sg_j0 hds hd h60 hdk hR hRs hq hfit hx hsz hP3 hag (by have := hq.2.1; omega)
    · refine gx_return rfl d_Mo_join_227 ?_
      refine ⟨rfl, _, _, rfl, ?_, fun _ _ => rfl, fun j hj => hP3.1 j (by omega) (by omega)⟩
      rw [if_pos hag, List.take_append_of_le_length (by omega), List.take_of_length_le (by omega)]
      exact ⟨hq.1, hq.2.1, fun i hi => (hq.2.2 i hi).P (fun j h1 h2 => hP3.1 j (by omega) (by omega))⟩
theorem cm_joinR {w : gx_W} {m : Nat} {I : Nat → Nat} {A : Nat → Nat → Nat} {ds : List (List Nat × List Nat)} {q : List sp_E} {d : Nat} (hds : moDs A ds) (hd : d < ds.length) (h60 : ds.length ≤ 60) (hdk : ∀ p ∈ ds, sp_dk p) (hq : mQ I A q) (hfit : sp_agb (ds.getD d ([], [])).1 ([] ++ (ds.getD d ([], [])).2) = true → (ds.getD d ([], [])).1.length ≤ ([] ++ (ds.getD d ([], [])).2).length)  : gx_Ct M_Mo_join 1 0 0 [.ref m, .int (nI 4294967295), .int (nI d)] (gx_mo w m I A) (fun r w' => r = none ∧ ∃ I' A', w' = gx_mo w m I' A' ∧ mQ I' A' (if sp_agb (ds.getD d ([], [])).1 ([] ++ (ds.getD d ([], [])).2) = true then (q ++ [(nI 4294967295, d, 0 + 1, ([] ++ (ds.getD d ([], [])).2).drop (ds.getD d ([], [])).1.length)]).take 402 else q) ∧ (∀ k, k ≠ 8 → I' k = I k) ∧ ∀ j, j < 17 → A' j = A j) := by
  refine gx_ct (L := [some (.ref m), some (.int (nI 4294967295)), some (.int (nI d)), none, none, none, none, none]) (by decide) (Nat.le_of_ble_eq_true rfl) rfl ?_
  refine gx_iconst d_Mo_join_0 (nI 0) (by decide) ?_
  refine gx_istore_n d_Mo_join_1 (Nat.le_of_ble_eq_true rfl) rfl ?_
  refine gx_iconst d_Mo_join_2 (nI 0) (by decide) ?_
  refine gx_istore d_Mo_join_3 (Nat.le_of_ble_eq_true rfl) rfl ?_
  refine gx_iconst d_Mo_join_5 (nI 0) (by decide) ?_
  refine gx_istore d_Mo_join_6 (Nat.le_of_ble_eq_true rfl) rfl ?_
  refine gx_iload_n d_Mo_join_8 rfl ?_
  refine gx_if_lt (tgt := 87) d_Mo_join_9 (by decide) (fun h9 => ?_) (fun h9 => ?_)
  · exact sg_jm1 (Rr := []) hds hd h60 hdk (by decide) (fun _ h => absurd h (List.not_mem_nil)) hq hfit ⟨rfl, rfl⟩ (by decide) moP.nil
  · exact absurd gx_m1lt h9
theorem cm_join {w : gx_W} {m : Nat} {I : Nat → Nat} {A : Nat → Nat → Nat} {ds : List (List Nat × List Nat)} {q : List sp_E} {xv d : Nat} (hds : moDs A ds) (hd : d < ds.length) (h60 : ds.length ≤ 60) (hdk : ∀ p ∈ ds, sp_dk p) (hq : mQ I A q) (hx : xv < q.length) (hR : (q.getD xv sp_e0).2.2.2.length ≤ 12) (h0 : 0 < (q.getD xv sp_e0).2.2.2.length) (hRs : gx_sm (q.getD xv sp_e0).2.2.2) (hc : 0 < (q.getD xv sp_e0).2.2.2.count 35) (hsz : (q.getD xv sp_e0).2.2.1 < 65536) : gx_Ct M_Mo_join 1 0 0 [.ref m, .int (nI xv), .int (nI d)] (gx_mo w m I A) (fun r w' => r = none ∧ ∃ I' A', w' = gx_mo w m I' A' ∧ mQ I' A' (if sp_agb (ds.getD d ([], [])).1 ((q.getD xv sp_e0).2.2.2 ++ (ds.getD d ([], [])).2) = true then (q ++ [(nI xv, d, (q.getD xv sp_e0).2.2.1 + 1, ((q.getD xv sp_e0).2.2.2 ++ (ds.getD d ([], [])).2).drop (ds.getD d ([], [])).1.length)]).take 402 else q) ∧ (∀ k, k ≠ 8 → I' k = I k) ∧ ∀ j, j < 17 → A' j = A j) := by
  refine gx_ct (L := [some (.ref m), some (.int (nI xv)), some (.int (nI d)), none, none, none, none, none]) (by decide) (Nat.le_of_ble_eq_true rfl) rfl ?_
  have h402 := hq.2.1
  have hE := hq.2.2 xv hx
  refine gx_iconst d_Mo_join_0 (nI 0) (by decide) ?_
  refine gx_istore_n d_Mo_join_1 (Nat.le_of_ble_eq_true rfl) rfl ?_
  refine gx_iconst d_Mo_join_2 (nI 0) (by decide) ?_
  refine gx_istore d_Mo_join_3 (Nat.le_of_ble_eq_true rfl) rfl ?_
  refine gx_iconst d_Mo_join_5 (nI 0) (by decide) ?_
  refine gx_istore d_Mo_join_6 (Nat.le_of_ble_eq_true rfl) rfl ?_
  refine lm_j1 (e := q.getD xv sp_e0) (by omega) hE hRs h0 25 0 _ _ (by omega) (Nat.zero_le _) (by rw [List.take_zero]; exact moP.nil) (fun A1 L6 hP1 => ?_)
  exact sg_jm0 (Rr := (q.getD xv sp_e0).2.2.2) hds hd h60 hdk hR hRs hq (fun g => by have := (dm_fit hc (hdk _ (gx_dmem hd)).1 g).1; rw [List.length_append]; exact this) ⟨by omega, hE.2.2.1⟩ hsz hP1
