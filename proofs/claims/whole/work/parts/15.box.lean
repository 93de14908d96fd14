/-! Box: its methods -/
def bxF (x i : Nat) : Option Nat := if i < 60 then some (x + 3 + 5 * i) else none
theorem bxF_in {x i : Nat} (h : i < 60) : bxF x i = some (x + 3 + 5 * i) := if_pos h
def gx_u {α : Type} (f : Nat → α) (i : Nat) (v : α) : Nat → α := fun j => if j = i then v else f j
theorem gx_u_eq {α : Type} {f : Nat → α} {i : Nat} {v : α} : gx_u f i v i = v := if_pos rfl
theorem gx_u_ne {α : Type} {f : Nat → α} {i j : Nat} {v : α} (h : j ≠ i) : gx_u f i v j = f j := if_neg h
theorem gx_u_u {α : Type} {f : Nat → α} {i : Nat} {u v : α} : gx_u (gx_u f i u) i v = gx_u f i v := by
  funext j
  by_cases h : j = i <;> simp [gx_u, h]
theorem gx_u_upd {g : Nat → Nat} {i v : Nat} : upd (fun r => nI (g r)) i (nI v) = fun r => nI (gx_u g i v r) := by
  funext r
  by_cases h : r = i
  · subst h; rw [pk_us, gx_u_eq]
  · rw [pk_un h, gx_u_ne h]
/-- the box's object at x, its arrays at x + 1 and x + 2, its dominoes from x + 3 on -/
def bxAt (w : gx_W) (x m : Nat) (U V : Nat → List Nat) (fo : Nat → Nat) : Prop := w.1 x = some (gx_ob 5 [.ref (x + 1), .ref (x + 2), .int (nI m)]) ∧ w.1 (x + 1) = some (gx_ar 4 60 (bxF x)) ∧ w.1 (x + 2) = some (gx_ai 0 12 (fun r => nI (fo r))) ∧ ∀ i, i < 60 → w.1 (x + 3 + 5 * i) = some (gx_ob 4 [.ref (x + 4 + 5 * i), .ref (x + 6 + 5 * i)]) ∧ w.1 (x + 4 + 5 * i) = some (gx_bx 0 3 (U i)) ∧ w.1 (x + 6 + 5 * i) = some (gx_bx 0 7 (V i))
def bxOk (w : gx_W) (x : Nat) (ds : List (List Nat × List Nat)) (fo : Nat → Nat) : Prop := ds.length ≤ 60 ∧ ∃ U V, bxAt w x ds.length U V fo ∧ ∀ i, i < ds.length → U i = (ds.getD i ([], [])).1 ∧ V i = (ds.getD i ([], [])).2
theorem bxAt.kept {w w' : gx_W} {x m lo hi : Nat} {U V : Nat → List Nat} {fo : Nat → Nat} (h : bxAt w x m U V fo) (hk : gx_kp w w' lo hi) (hd : x + 303 ≤ lo ∨ hi ≤ x) : bxAt w' x m U V fo := by
  obtain ⟨h0, h1, h2, h3⟩ := h
  exact ⟨by rw [hk.2 _ (by omega)]; exact h0, by rw [hk.2 _ (by omega)]; exact h1, by rw [hk.2 _ (by omega)]; exact h2, fun i hi => ⟨by rw [hk.2 _ (by omega)]; exact (h3 i hi).1, by rw [hk.2 _ (by omega)]; exact (h3 i hi).2.1, by rw [hk.2 _ (by omega)]; exact (h3 i hi).2.2⟩⟩
theorem bxOk.kept {w w' : gx_W} {x lo hi : Nat} {ds : List (List Nat × List Nat)} {fo : Nat → Nat} (h : bxOk w x ds fo) (hk : gx_kp w w' lo hi) (hd : x + 303 ≤ lo ∨ hi ≤ x) : bxOk w' x ds fo := by
  obtain ⟨h0, U, V, h1, h2⟩ := h
  exact ⟨h0, U, V, h1.kept hk hd, h2⟩
theorem bxAt.num {w : gx_W} {x m k : Nat} {U V : Nat → List Nat} {fo : Nat → Nat} (h : bxAt w x m U V fo) : bxAt (gx_st w x (gx_ob 5 [.ref (x + 1), .ref (x + 2), .int (nI k)])) x k U V fo := by
  obtain ⟨h0, h1, h2, h3⟩ := h
  exact ⟨gx_st_eq, by rw [gx_st_ne (by omega)]; exact h1, by rw [gx_st_ne (by omega)]; exact h2, fun i hi => ⟨by rw [gx_st_ne (by omega)]; exact (h3 i hi).1, by rw [gx_st_ne (by omega)]; exact (h3 i hi).2.1, by rw [gx_st_ne (by omega)]; exact (h3 i hi).2.2⟩⟩
theorem bxAt.fst {w : gx_W} {x m k v : Nat} {U V : Nat → List Nat} {fo : Nat → Nat} (h : bxAt w x m U V fo) : bxAt (gx_st w (x + 2) (gx_ai 0 12 (fun r => nI (gx_u fo k v r)))) x m U V (gx_u fo k v) := by
  obtain ⟨h0, h1, h2, h3⟩ := h
  exact ⟨by rw [gx_st_ne (by omega)]; exact h0, by rw [gx_st_ne (by omega)]; exact h1, gx_st_eq, fun i hi => ⟨by rw [gx_st_ne (by omega)]; exact (h3 i hi).1, by rw [gx_st_ne (by omega)]; exact (h3 i hi).2.1, by rw [gx_st_ne (by omega)]; exact (h3 i hi).2.2⟩⟩
theorem bxAt.up {w : gx_W} {x m k : Nat} {U V : Nat → List Nat} {fo : Nat → Nat} (u : List Nat) (h : bxAt w x m U V fo) : bxAt (gx_st w (x + 4 + 5 * k) (gx_bx 0 3 u)) x m (gx_u U k u) V fo := by
  obtain ⟨h0, h1, h2, h3⟩ := h
  refine ⟨by rw [gx_st_ne (by omega)]; exact h0, by rw [gx_st_ne (by omega)]; exact h1, by rw [gx_st_ne (by omega)]; exact h2, fun i hi => ⟨by rw [gx_st_ne (by omega)]; exact (h3 i hi).1, ?_, by rw [gx_st_ne (by omega)]; exact (h3 i hi).2.2⟩⟩
  by_cases e : i = k
  · subst e; rw [gx_st_eq, gx_u_eq]
  · rw [gx_st_ne (by omega), gx_u_ne e]; exact (h3 i hi).2.1
theorem bxAt.lo {w : gx_W} {x m k : Nat} {U V : Nat → List Nat} {fo : Nat → Nat} (u : List Nat) (h : bxAt w x m U V fo) : bxAt (gx_st w (x + 6 + 5 * k) (gx_bx 0 7 u)) x m U (gx_u V k u) fo := by
  obtain ⟨h0, h1, h2, h3⟩ := h
  refine ⟨by rw [gx_st_ne (by omega)]; exact h0, by rw [gx_st_ne (by omega)]; exact h1, by rw [gx_st_ne (by omega)]; exact h2, fun i hi => ⟨by rw [gx_st_ne (by omega)]; exact (h3 i hi).1, by rw [gx_st_ne (by omega)]; exact (h3 i hi).2.1, ?_⟩⟩
  by_cases e : i = k
  · subst e; rw [gx_st_eq, gx_u_eq]
  · rw [gx_st_ne (by omega), gx_u_ne e]; exact (h3 i hi).2.2
/-- a domino, number m, in the making -/
def bxDm (w : gx_W) (x m : Nat) (U V : Nat → List Nat) (fo : Nat → Nat) (u v : List Nat) : Prop := m < 60 ∧ bxAt w x (m + 1) (gx_u U m u) (gx_u V m v) fo
section BXD
variable {w : gx_W} {x m : Nat} {U V : Nat → List Nat} {fo : Nat → Nat} {u v : List Nat}
theorem bxDm.ob (h : bxDm w x m U V fo u v) : w.1 (x + 3 + 5 * m) = some (gx_ob 4 [.ref (x + 4 + 5 * m), .ref (x + 6 + 5 * m)]) := (h.2.2.2.2 m h.1).1
theorem bxDm.uw (h : bxDm w x m U V fo u v) : w.1 (x + 4 + 5 * m) = some (gx_bx 0 3 u) := by
  have := (h.2.2.2.2 m h.1).2.1
  rwa [gx_u_eq] at this
theorem bxDm.lw (h : bxDm w x m U V fo u v) : w.1 (x + 6 + 5 * m) = some (gx_bx 0 7 v) := by
  have := (h.2.2.2.2 m h.1).2.2
  rwa [gx_u_eq] at this
theorem bxDm.up (u' : List Nat) (h : bxDm w x m U V fo u v) : bxDm (gx_st w (x + 4 + 5 * m) (gx_bx 0 3 u')) x m U V fo u' v := by
  refine ⟨h.1, ?_⟩
  have := h.2.up (k := m) u'
  rwa [gx_u_u] at this
theorem bxDm.lo (v' : List Nat) (h : bxDm w x m U V fo u v) : bxDm (gx_st w (x + 6 + 5 * m) (gx_bx 0 7 v')) x m U V fo u v' := by
  refine ⟨h.1, ?_⟩
  have := h.2.lo (k := m) v'
  rwa [gx_u_u] at this
theorem bxDm.ok {ds : List (List Nat × List Nat)} (h : bxDm w x ds.length U V fo u v) (hd : ∀ i, i < ds.length → U i = (ds.getD i ([], [])).1 ∧ V i = (ds.getD i ([], [])).2) : bxOk w x (ds ++ [(u, v)]) fo := by
  refine ⟨by have := h.1; simp; omega, _, _, by simpa using h.2, fun i hi => ?_⟩
  rw [List.length_append, List.length_singleton] at hi
  by_cases e : i < ds.length
  · rw [gx_u_ne (by omega), gx_u_ne (by omega), List.getD_eq_getElem?_getD, List.getElem?_append_left e, ← List.getD_eq_getElem?_getD]
    exact hd i e
  · have e2 : i = ds.length := by omega
    rw [e2, gx_u_eq, gx_u_eq]
    simp [List.getD_eq_getElem?_getD]
end BXD
theorem d_Box_size_0 : decode prog_2_method_2_code 0 = .ok (.aload_n 0, 1) := by decide +kernel
theorem d_Box_size_1 : decode prog_2_method_2_code 1 = .ok (.getfield 22, 3) := by decide +kernel
theorem d_Box_size_4 : decode prog_2_method_2_code 4 = .ok (.ireturn, 1) := by decide +kernel
theorem ct_Box_size {w : gx_W} {x m : Nat} {U V : Nat → List Nat} {fo : Nat → Nat} (h : bxAt w x m U V fo)  : gx_Ct M_Box_size 1 0 0 [.ref x] w (gx_eq (some (.int (nI m))) w) := by
  refine gx_ct (L := [some (.ref x)]) (by decide) (Nat.le_of_ble_eq_true rfl) rfl ?_
  refine gx_aload_n d_Box_size_0 rfl ?_
  refine gx_get fl_Box_22 d_Box_size_1 h.1 rfl ?_
  refine gx_ireturn rfl d_Box_size_4 ?_
  exact ⟨rfl, rfl⟩
theorem d_Box_firstEnding_0 : decode prog_2_method_7_code 0 = .ok (.aload_n 0, 1) := by decide +kernel
theorem d_Box_firstEnding_1 : decode prog_2_method_7_code 1 = .ok (.getfield 22, 3) := by decide +kernel
theorem d_Box_firstEnding_4 : decode prog_2_method_7_code 4 = .ok (.bipush 7, 2) := by decide +kernel
theorem d_Box_firstEnding_6 : decode prog_2_method_7_code 6 = .ok (.isub, 1) := by decide +kernel
theorem d_Box_firstEnding_7 : decode prog_2_method_7_code 7 = .ok (.ireturn, 1) := by decide +kernel
theorem ct_firstEnding {w : gx_W} {x m : Nat} {U V : Nat → List Nat} {fo : Nat → Nat} (h : bxAt w x m U V fo) (hm : 7 ≤ m) : gx_Ct M_Box_firstEnding 1 0 0 [.ref x] w (gx_eq (some (.int (nI (m - 7)))) w) := by
  refine gx_ct (L := [some (.ref x)]) (by decide) (Nat.le_of_ble_eq_true rfl) rfl ?_
  refine gx_aload_n d_Box_firstEnding_0 rfl ?_
  refine gx_get fl_Box_22 d_Box_firstEnding_1 h.1 rfl ?_
  refine gx_bipush d_Box_firstEnding_4 (nI 7) (by decide) ?_
  refine gx_isubN (by omega) d_Box_firstEnding_6 ?_
  refine gx_ireturn rfl d_Box_firstEnding_7 ?_
  exact ⟨rfl, rfl⟩
theorem d_Box_has_0 : decode prog_2_method_3_code 0 = .ok (.iload_n 1, 1) := by decide +kernel
theorem d_Box_has_1 : decode prog_2_method_3_code 1 = .ok (.ifCond .lt 15, 3) := by decide +kernel
theorem d_Box_has_4 : decode prog_2_method_3_code 4 = .ok (.iload_n 1, 1) := by decide +kernel
theorem d_Box_has_5 : decode prog_2_method_3_code 5 = .ok (.aload_n 0, 1) := by decide +kernel
theorem d_Box_has_6 : decode prog_2_method_3_code 6 = .ok (.getfield 22, 3) := by decide +kernel
theorem d_Box_has_9 : decode prog_2_method_3_code 9 = .ok (.if_icmp .ge 7, 3) := by decide +kernel
theorem d_Box_has_12 : decode prog_2_method_3_code 12 = .ok (.iconst 1, 1) := by decide +kernel
theorem d_Box_has_13 : decode prog_2_method_3_code 13 = .ok (.goto 4, 3) := by decide +kernel
theorem d_Box_has_16 : decode prog_2_method_3_code 16 = .ok (.iconst 0, 1) := by decide +kernel
theorem d_Box_has_17 : decode prog_2_method_3_code 17 = .ok (.ireturn, 1) := by decide +kernel
theorem ct_Box_has {w : gx_W} {x m : Nat} {U V : Nat → List Nat} {fo : Nat → Nat} (h : bxAt w x m U V fo) {i : Int32} : gx_Ct M_Box_has 1 0 0 [.ref x, .int i] w (gx_eq (some (.int (nI (sp_in i m).toNat))) w) := by
  refine gx_ct (L := [some (.ref x), some (.int i)]) (by decide) (Nat.le_of_ble_eq_true rfl) rfl ?_
  refine gx_iload_n d_Box_has_0 rfl ?_
  refine gx_if_lt (tgt := 16) d_Box_has_1 (by decide) (fun h1 => ?_) (fun h1 => ?_)
  · rw [sp_in_lt h1]
    refine gx_iconst d_Box_has_16 (nI 0) (by decide) ?_
    refine gx_zreturn rfl (by decide) d_Box_has_17 ?_
    exact ⟨rfl, rfl⟩
  · refine gx_iload_n d_Box_has_4 rfl ?_
    refine gx_aload_n d_Box_has_5 rfl ?_
    refine gx_get fl_Box_22 d_Box_has_6 h.1 rfl ?_
    refine gx_icmp_ge (tgt := 16) d_Box_has_9 (by decide) (fun h9 => ?_) (fun h9 => ?_)
    · rw [sp_in_ge h9]
      refine gx_iconst d_Box_has_16 (nI 0) (by decide) ?_
      refine gx_zreturn rfl (by decide) d_Box_has_17 ?_
      exact ⟨rfl, rfl⟩
    · rw [sp_in_t h1 h9]
      refine gx_iconst d_Box_has_12 (nI 1) (by decide) ?_
      refine gx_goto (tgt := 17) d_Box_has_13 (by decide) ?_
      refine gx_zreturn rfl (by decide) d_Box_has_17 ?_
      exact ⟨rfl, rfl⟩
theorem d_Box_get_0 : decode prog_2_method_4_code 0 = .ok (.aload_n 0, 1) := by decide +kernel
theorem d_Box_get_1 : decode prog_2_method_4_code 1 = .ok (.getfield 11, 3) := by decide +kernel
theorem d_Box_get_4 : decode prog_2_method_4_code 4 = .ok (.aload_n 0, 1) := by decide +kernel
theorem d_Box_get_5 : decode prog_2_method_4_code 5 = .ok (.iload_n 1, 1) := by decide +kernel
theorem d_Box_get_6 : decode prog_2_method_4_code 6 = .ok (.invokevirtual 26, 3) := by decide +kernel
theorem d_Box_get_9 : decode prog_2_method_4_code 9 = .ok (.ifCond .eq 7, 3) := by decide +kernel
theorem d_Box_get_12 : decode prog_2_method_4_code 12 = .ok (.iload_n 1, 1) := by decide +kernel
theorem d_Box_get_13 : decode prog_2_method_4_code 13 = .ok (.goto 4, 3) := by decide +kernel
theorem d_Box_get_16 : decode prog_2_method_4_code 16 = .ok (.iconst 0, 1) := by decide +kernel
theorem d_Box_get_17 : decode prog_2_method_4_code 17 = .ok (.aaload, 1) := by decide +kernel
theorem d_Box_get_18 : decode prog_2_method_4_code 18 = .ok (.areturn, 1) := by decide +kernel
theorem ct_Box_get {w : gx_W} {x m : Nat} {U V : Nat → List Nat} {fo : Nat → Nat} (h : bxAt w x m U V fo) {i : Nat} (hi : i < m) (hm : m ≤ 60) : gx_Ct M_Box_get 2 0 0 [.ref x, .int (nI i)] w (gx_eq (some (.ref (x + 3 + 5 * i))) w) := by
  refine gx_ct (L := [some (.ref x), some (.int (nI i))]) (by decide) (Nat.le_of_ble_eq_true rfl) rfl ?_
  refine gx_aload_n d_Box_get_0 rfl ?_
  refine gx_get fl_Box_11 d_Box_get_1 h.1 rfl ?_
  refine gx_aload_n d_Box_get_4 rfl ?_
  refine gx_iload_n d_Box_get_5 rfl ?_
  refine gx_cV1 lk_Box_26 d_Box_get_6 (ct_Box_has (i := nI i) h) (Or.inl ⟨_, h.1⟩) (by omega) rfl rfl (Nat.le_of_ble_eq_true rfl) ?_
  refine gx_top (show _ = nI 1 by rw [sp_in_nI (by omega) (by omega), decide_eq_true hi]; rfl) ?_
  refine gx_if_eqN (by omega) (tgt := 16) d_Box_get_9 (by decide) (fun h9 => ?_) (fun h9 => ?_)
  · exact absurd h9 (by decide)
  · refine gx_iload_n d_Box_get_12 rfl ?_
    refine gx_goto (tgt := 17) d_Box_get_13 (by decide) ?_
    refine gx_aald4 d_Box_get_17 h.2.1 (by omega) (by omega) (bxF_in (by omega)) ?_
    refine gx_areturn rfl (Or.inl ⟨_, rfl⟩) (Or.inr ⟨_, rfl⟩) d_Box_get_18 ?_
    exact ⟨rfl, rfl⟩
theorem d_Box_ofRule_0 : decode prog_2_method_6_code 0 = .ok (.iload_n 2, 1) := by decide +kernel
theorem d_Box_ofRule_1 : decode prog_2_method_6_code 1 = .ok (.ifCond .eq 21, 3) := by decide +kernel
theorem d_Box_ofRule_4 : decode prog_2_method_6_code 4 = .ok (.aload_n 0, 1) := by decide +kernel
theorem d_Box_ofRule_5 : decode prog_2_method_6_code 5 = .ok (.getfield 17, 3) := by decide +kernel
theorem d_Box_ofRule_8 : decode prog_2_method_6_code 8 = .ok (.iload_n 1, 1) := by decide +kernel
theorem d_Box_ofRule_9 : decode prog_2_method_6_code 9 = .ok (.iaload, 1) := by decide +kernel
theorem d_Box_ofRule_10 : decode prog_2_method_6_code 10 = .ok (.iload 4, 2) := by decide +kernel
theorem d_Box_ofRule_12 : decode prog_2_method_6_code 12 = .ok (.ifCond .eq 7, 3) := by decide +kernel
theorem d_Box_ofRule_15 : decode prog_2_method_6_code 15 = .ok (.iconst 1, 1) := by decide +kernel
theorem d_Box_ofRule_16 : decode prog_2_method_6_code 16 = .ok (.goto 4, 3) := by decide +kernel
theorem d_Box_ofRule_19 : decode prog_2_method_6_code 19 = .ok (.iconst 0, 1) := by decide +kernel
theorem d_Box_ofRule_20 : decode prog_2_method_6_code 20 = .ok (.iadd, 1) := by decide +kernel
theorem d_Box_ofRule_21 : decode prog_2_method_6_code 21 = .ok (.ireturn, 1) := by decide +kernel
theorem d_Box_ofRule_22 : decode prog_2_method_6_code 22 = .ok (.aload_n 0, 1) := by decide +kernel
theorem d_Box_ofRule_23 : decode prog_2_method_6_code 23 = .ok (.getfield 17, 3) := by decide +kernel
theorem d_Box_ofRule_26 : decode prog_2_method_6_code 26 = .ok (.iload_n 1, 1) := by decide +kernel
theorem d_Box_ofRule_27 : decode prog_2_method_6_code 27 = .ok (.iaload, 1) := by decide +kernel
theorem d_Box_ofRule_28 : decode prog_2_method_6_code 28 = .ok (.iload 4, 2) := by decide +kernel
theorem d_Box_ofRule_30 : decode prog_2_method_6_code 30 = .ok (.ifCond .eq 7, 3) := by decide +kernel
theorem d_Box_ofRule_33 : decode prog_2_method_6_code 33 = .ok (.iconst 3, 1) := by decide +kernel
theorem d_Box_ofRule_34 : decode prog_2_method_6_code 34 = .ok (.goto 4, 3) := by decide +kernel
theorem d_Box_ofRule_37 : decode prog_2_method_6_code 37 = .ok (.iconst 0, 1) := by decide +kernel
theorem d_Box_ofRule_38 : decode prog_2_method_6_code 38 = .ok (.iadd, 1) := by decide +kernel
theorem d_Box_ofRule_39 : decode prog_2_method_6_code 39 = .ok (.iload_n 3, 1) := by decide +kernel
theorem d_Box_ofRule_40 : decode prog_2_method_6_code 40 = .ok (.iadd, 1) := by decide +kernel
theorem d_Box_ofRule_41 : decode prog_2_method_6_code 41 = .ok (.ireturn, 1) := by decide +kernel
theorem ct_ofRule_R {w : gx_W} {x m : Nat} {U V : Nat → List Nat} {fo : Nat → Nat} (h : bxAt w x m U V fo) {r : Nat} {e : Bool} {y : Int32} (hr : r < 12) : gx_Ct M_Box_ofRule 1 0 0 [.ref x, .int (nI r), .int (nI 1), .int y, .int (nI e.toNat)] w (gx_eq (some (.int (nI (fo r + e.toNat)))) w) := by
  refine gx_ct (L := [some (.ref x), some (.int (nI r)), some (.int (nI 1)), some (.int y), some (.int (nI e.toNat))]) (by decide) (Nat.le_of_ble_eq_true rfl) rfl ?_
  have he := Bool.toNat_le e
  refine gx_iload_n d_Box_ofRule_0 rfl ?_
  refine gx_if_eqN (by omega) (tgt := 22) d_Box_ofRule_1 (by decide) (fun h1 => ?_) (fun h1 => ?_)
  · exact absurd h1 (by decide)
  · refine gx_aload_n d_Box_ofRule_4 rfl ?_
    refine gx_get fl_Box_17 d_Box_ofRule_5 h.1 rfl ?_
    refine gx_iload_n d_Box_ofRule_8 rfl ?_
    refine gx_iald d_Box_ofRule_9 h.2.2.1 (by omega) (by omega) ?_
    refine gx_iload d_Box_ofRule_10 rfl ?_
    refine gx_if_eqN (by omega) (tgt := 19) d_Box_ofRule_12 (by decide) (fun h12 => ?_) (fun h12 => ?_)
    · rw [h12]
      refine gx_iconst d_Box_ofRule_19 (nI 0) (by decide) ?_
      refine gx_iaddN d_Box_ofRule_20 ?_
      refine gx_ireturn rfl d_Box_ofRule_21 ?_
      exact ⟨rfl, rfl⟩
    · rw [show e.toNat = 1 by omega]
      refine gx_iconst d_Box_ofRule_15 (nI 1) (by decide) ?_
      refine gx_goto (tgt := 20) d_Box_ofRule_16 (by decide) ?_
      refine gx_iaddN d_Box_ofRule_20 ?_
      refine gx_ireturn rfl d_Box_ofRule_21 ?_
      exact ⟨rfl, rfl⟩
theorem ct_ofRule_L {w : gx_W} {x m : Nat} {U V : Nat → List Nat} {fo : Nat → Nat} (h : bxAt w x m U V fo) {r y : Nat} {e : Bool} (hr : r < 12) : gx_Ct M_Box_ofRule 1 0 0 [.ref x, .int (nI r), .int (nI 0), .int (nI y), .int (nI e.toNat)] w (gx_eq (some (.int (nI (fo r + 3 * e.toNat + y)))) w) := by
  refine gx_ct (L := [some (.ref x), some (.int (nI r)), some (.int (nI 0)), some (.int (nI y)), some (.int (nI e.toNat))]) (by decide) (Nat.le_of_ble_eq_true rfl) rfl ?_
  have he := Bool.toNat_le e
  refine gx_iload_n d_Box_ofRule_0 rfl ?_
  refine gx_if_eqN (by omega) (tgt := 22) d_Box_ofRule_1 (by decide) (fun h1 => ?_) (fun h1 => ?_)
  · refine gx_aload_n d_Box_ofRule_22 rfl ?_
    refine gx_get fl_Box_17 d_Box_ofRule_23 h.1 rfl ?_
    refine gx_iload_n d_Box_ofRule_26 rfl ?_
    refine gx_iald d_Box_ofRule_27 h.2.2.1 (by omega) (by omega) ?_
    refine gx_iload d_Box_ofRule_28 rfl ?_
    refine gx_if_eqN (by omega) (tgt := 37) d_Box_ofRule_30 (by decide) (fun h30 => ?_) (fun h30 => ?_)
    · rw [h30]
      refine gx_iconst d_Box_ofRule_37 (nI 0) (by decide) ?_
      refine gx_iaddN d_Box_ofRule_38 ?_
      refine gx_iload_n d_Box_ofRule_39 rfl ?_
      refine gx_iaddN d_Box_ofRule_40 ?_
      refine gx_ireturn rfl d_Box_ofRule_41 ?_
      exact ⟨rfl, rfl⟩
    · rw [show e.toNat = 1 by omega]
      refine gx_iconst d_Box_ofRule_33 (nI 3) (by decide) ?_
      refine gx_goto (tgt := 38) d_Box_ofRule_34 (by decide) ?_
      refine gx_iaddN d_Box_ofRule_38 ?_
      refine gx_iload_n d_Box_ofRule_39 rfl ?_
      refine gx_iaddN d_Box_ofRule_40 ?_
      refine gx_ireturn rfl d_Box_ofRule_41 ?_
      exact ⟨rfl, rfl⟩
  · exact absurd rfl h1
theorem d_Box_open_0 : decode prog_2_method_8_code 0 = .ok (.aload_n 0, 1) := by decide +kernel
theorem d_Box_open_1 : decode prog_2_method_8_code 1 = .ok (.aload_n 0, 1) := by decide +kernel
theorem d_Box_open_2 : decode prog_2_method_8_code 2 = .ok (.getfield 22, 3) := by decide +kernel
theorem d_Box_open_5 : decode prog_2_method_8_code 5 = .ok (.iconst 1, 1) := by decide +kernel
theorem d_Box_open_6 : decode prog_2_method_8_code 6 = .ok (.iadd, 1) := by decide +kernel
theorem d_Box_open_7 : decode prog_2_method_8_code 7 = .ok (.aload_n 0, 1) := by decide +kernel
theorem d_Box_open_8 : decode prog_2_method_8_code 8 = .ok (.getfield 11, 3) := by decide +kernel
theorem d_Box_open_11 : decode prog_2_method_8_code 11 = .ok (.arraylength, 1) := by decide +kernel
theorem d_Box_open_12 : decode prog_2_method_8_code 12 = .ok (.invokestatic 75, 3) := by decide +kernel
theorem d_Box_open_15 : decode prog_2_method_8_code 15 = .ok (.putfield 22, 3) := by decide +kernel
theorem d_Box_open_18 : decode prog_2_method_8_code 18 = .ok (.aload_n 0, 1) := by decide +kernel
theorem d_Box_open_19 : decode prog_2_method_8_code 19 = .ok (.getfield 11, 3) := by decide +kernel
theorem d_Box_open_22 : decode prog_2_method_8_code 22 = .ok (.aload_n 0, 1) := by decide +kernel
theorem d_Box_open_23 : decode prog_2_method_8_code 23 = .ok (.getfield 22, 3) := by decide +kernel
theorem d_Box_open_26 : decode prog_2_method_8_code 26 = .ok (.iconst 1, 1) := by decide +kernel
theorem d_Box_open_27 : decode prog_2_method_8_code 27 = .ok (.isub, 1) := by decide +kernel
theorem d_Box_open_28 : decode prog_2_method_8_code 28 = .ok (.aaload, 1) := by decide +kernel
theorem d_Box_open_29 : decode prog_2_method_8_code 29 = .ok (.astore_n 1, 1) := by decide +kernel
theorem d_Box_open_30 : decode prog_2_method_8_code 30 = .ok (.aload_n 1, 1) := by decide +kernel
theorem d_Box_open_31 : decode prog_2_method_8_code 31 = .ok (.getfield 34, 3) := by decide +kernel
theorem d_Box_open_34 : decode prog_2_method_8_code 34 = .ok (.invokevirtual 81, 3) := by decide +kernel
theorem d_Box_open_37 : decode prog_2_method_8_code 37 = .ok (.aload_n 1, 1) := by decide +kernel
theorem d_Box_open_38 : decode prog_2_method_8_code 38 = .ok (.getfield 44, 3) := by decide +kernel
theorem d_Box_open_41 : decode prog_2_method_8_code 41 = .ok (.invokevirtual 81, 3) := by decide +kernel
theorem d_Box_open_44 : decode prog_2_method_8_code 44 = .ok (.aload_n 1, 1) := by decide +kernel
theorem d_Box_open_45 : decode prog_2_method_8_code 45 = .ok (.areturn, 1) := by decide +kernel
theorem ct_open {w : gx_W} {x m : Nat} {U V : Nat → List Nat} {fo : Nat → Nat} (h : bxAt w x m U V fo) (hm : m < 60) : gx_Ct M_Box_open 2 0 0 [.ref x] w (fun r w' => r = some (.ref (x + 3 + 5 * m)) ∧ bxDm w' x m U V fo [] [] ∧ gx_kp w w' x (x + 303)) := by
  refine gx_ct (L := [some (.ref x), none]) (by decide) (Nat.le_of_ble_eq_true rfl) rfl ?_
  refine gx_aload_n d_Box_open_0 rfl ?_
  refine gx_aload_n d_Box_open_1 rfl ?_
  refine gx_get fl_Box_22 d_Box_open_2 h.1 rfl ?_
  refine gx_iconst d_Box_open_5 (nI 1) (by decide) ?_
  refine gx_iaddN d_Box_open_6 ?_
  refine gx_aload_n d_Box_open_7 rfl ?_
  refine gx_get fl_Box_11 d_Box_open_8 h.1 rfl ?_
  refine gx_alen (by decide) d_Box_open_11 h.2.1 ?_
  refine gx_min lk_Box_75 (by omega) (Nat.le_of_ble_eq_true rfl) d_Box_open_12 ?_
  refine gx_top ((gx_mnI (by omega) (by omega)).trans (congrArg nI (Nat.min_eq_left (by omega)))) ?_
  refine gx_put fp_Box_22 (fun h => by cases h) d_Box_open_15 h.1 rfl rfl (Nat.le_of_ble_eq_true rfl) ?_
  have h1 := bxAt.num (k := m + 1) h
  have k1 : gx_kp w _ x (x + 303) := gx_kp.st (a := x) (x := gx_ob 5 [.ref (x + 1), .ref (x + 2), .int (nI (m + 1))]) (by omega) (by omega)
  refine gx_w (w' := gx_st w x (gx_ob 5 [.ref (x + 1), .ref (x + 2), .int (nI (m + 1))])) rfl ?_
  refine gx_aload_n d_Box_open_18 rfl ?_
  refine gx_get fl_Box_11 d_Box_open_19 h1.1 rfl ?_
  refine gx_aload_n d_Box_open_22 rfl ?_
  refine gx_get fl_Box_22 d_Box_open_23 h1.1 rfl ?_
  refine gx_iconst d_Box_open_26 (nI 1) (by decide) ?_
  refine gx_isubN (by omega) d_Box_open_27 ?_
  refine gx_aald4 d_Box_open_28 h1.2.1 (by omega) (by omega) (bxF_in (by omega)) ?_
  refine gx_w rfl ?_
  refine gx_astore_n d_Box_open_29 (Nat.le_of_ble_eq_true rfl) rfl ?_
  refine gx_aload_n d_Box_open_30 rfl ?_
  refine gx_get fl_Box_34 d_Box_open_31 (h1.2.2.2 (m + 1 - 1) (by omega)).1 rfl ?_
  refine gx_cV0 lk_Box_81 d_Box_open_34 (ct_Word_empty (h1.2.2.2 (m + 1 - 1) (by omega)).2.1) (Or.inr ⟨_, _, (h1.2.2.2 (m + 1 - 1) (by omega)).2.1⟩) (by omega) rfl rfl (Nat.le_of_ble_eq_true rfl) ?_
  have h2 := bxAt.up (k := m + 1 - 1) [] h1
  have k2 := k1.trans (gx_kp.st (a := x + 4 + 5 * (m + 1 - 1)) (x := gx_bx 0 3 []) (by omega) (by omega))
  refine gx_aload_n d_Box_open_37 rfl ?_
  refine gx_get fl_Box_44 d_Box_open_38 (h2.2.2.2 (m + 1 - 1) (by omega)).1 rfl ?_
  refine gx_cV0 lk_Box_81 d_Box_open_41 (ct_Word_empty (h2.2.2.2 (m + 1 - 1) (by omega)).2.2) (Or.inr ⟨_, _, (h2.2.2.2 (m + 1 - 1) (by omega)).2.2⟩) (by omega) rfl rfl (Nat.le_of_ble_eq_true rfl) ?_
  have h3 := bxAt.lo (k := m + 1 - 1) [] h2
  have k3 := k2.trans (gx_kp.st (a := x + 6 + 5 * (m + 1 - 1)) (x := gx_bx 0 7 []) (by omega) (by omega))
  refine gx_aload_n d_Box_open_44 rfl ?_
  refine gx_areturn rfl (Or.inl ⟨_, rfl⟩) (Or.inr ⟨_, rfl⟩) d_Box_open_45 ?_
  rw [Nat.add_sub_cancel] at h3 k3 ⊢
  exact ⟨rfl, ⟨hm, h3⟩, k3⟩
theorem d_Box_addCopy_0 : decode prog_2_method_9_code 0 = .ok (.aload_n 0, 1) := by decide +kernel
theorem d_Box_addCopy_1 : decode prog_2_method_9_code 1 = .ok (.invokevirtual 30, 3) := by decide +kernel
theorem d_Box_addCopy_4 : decode prog_2_method_9_code 4 = .ok (.astore_n 2, 1) := by decide +kernel
theorem d_Box_addCopy_5 : decode prog_2_method_9_code 5 = .ok (.aload_n 2, 1) := by decide +kernel
theorem d_Box_addCopy_6 : decode prog_2_method_9_code 6 = .ok (.getfield 34, 3) := by decide +kernel
theorem d_Box_addCopy_9 : decode prog_2_method_9_code 9 = .ok (.iload_n 1, 1) := by decide +kernel
theorem d_Box_addCopy_10 : decode prog_2_method_9_code 10 = .ok (.invokevirtual 38, 3) := by decide +kernel
theorem d_Box_addCopy_13 : decode prog_2_method_9_code 13 = .ok (.pop, 1) := by decide +kernel
theorem d_Box_addCopy_14 : decode prog_2_method_9_code 14 = .ok (.aload_n 2, 1) := by decide +kernel
theorem d_Box_addCopy_15 : decode prog_2_method_9_code 15 = .ok (.getfield 44, 3) := by decide +kernel
theorem d_Box_addCopy_18 : decode prog_2_method_9_code 18 = .ok (.iload_n 1, 1) := by decide +kernel
theorem d_Box_addCopy_19 : decode prog_2_method_9_code 19 = .ok (.invokevirtual 38, 3) := by decide +kernel
theorem d_Box_addCopy_22 : decode prog_2_method_9_code 22 = .ok (.pop, 1) := by decide +kernel
theorem d_Box_addCopy_23 : decode prog_2_method_9_code 23 = .ok (.return_, 1) := by decide +kernel
theorem ct_addCopy {w : gx_W} {x : Nat} {ds : List (List Nat × List Nat)} {fo : Nat → Nat} (hb : bxOk w x ds fo) {c : Nat} (hc : c < 65536) (hn : ds.length < 60) : gx_Ct M_Box_addCopy 3 0 0 [.ref x, .int (nI c)] w (fun r w' => r = none ∧ bxOk w' x (ds ++ [([c], [c])]) fo ∧ gx_kp w w' x (x + 303)) := by
  refine gx_ct (L := [some (.ref x), some (.int (nI c)), none]) (by decide) (Nat.le_of_ble_eq_true rfl) rfl ?_
  obtain ⟨hd60, U, V, h, hd⟩ := hb
  refine gx_aload_n d_Box_addCopy_0 rfl ?_
  refine gx_cVr lk_Box_30 d_Box_addCopy_1 (ct_open h (by omega)) (Or.inl ⟨_, h.1⟩) (by omega) rfl rfl (Nat.le_of_ble_eq_true rfl) (fun r w1 hq => ?_)
  obtain ⟨rfl, hB, hK⟩ := hq
  refine gx_astore_n d_Box_addCopy_4 (Nat.le_of_ble_eq_true rfl) rfl ?_
  refine gx_aload_n d_Box_addCopy_5 rfl ?_
  refine gx_get fl_Box_34 d_Box_addCopy_6 hB.ob rfl ?_
  refine gx_iload_n d_Box_addCopy_9 rfl ?_
  refine gx_cV1 lk_Box_38 d_Box_addCopy_10 (ct_Word_add hB.uw (by omega) (by simp)) (Or.inr ⟨_, _, hB.uw⟩) (by omega) rfl rfl (Nat.le_of_ble_eq_true rfl) ?_
  replace hB := hB.up ([] ++ [c])
  replace hK := hK.trans (gx_kp.st (a := x + 4 + 5 * ds.length) (x := gx_bx 0 3 ([] ++ [c])) (by omega) (by omega))
  refine gx_pop d_Box_addCopy_13 rfl ?_
  refine gx_aload_n d_Box_addCopy_14 rfl ?_
  refine gx_get fl_Box_44 d_Box_addCopy_15 hB.ob rfl ?_
  refine gx_iload_n d_Box_addCopy_18 rfl ?_
  refine gx_cV1 lk_Box_38 d_Box_addCopy_19 (ct_Word_add hB.lw (by omega) (by simp)) (Or.inr ⟨_, _, hB.lw⟩) (by omega) rfl rfl (Nat.le_of_ble_eq_true rfl) ?_
  replace hB := hB.lo ([] ++ [c])
  replace hK := hK.trans (gx_kp.st (a := x + 6 + 5 * ds.length) (x := gx_bx 0 7 ([] ++ [c])) (by omega) (by omega))
  refine gx_pop d_Box_addCopy_22 rfl ?_
  refine gx_return rfl d_Box_addCopy_23 ?_
  exact ⟨rfl, hB.ok hd, hK⟩
theorem d_Box_keepHash_0 : decode prog_2_method_13_code 0 = .ok (.iload_n 1, 1) := by decide +kernel
theorem d_Box_keepHash_1 : decode prog_2_method_13_code 1 = .ok (.bipush 35, 2) := by decide +kernel
theorem d_Box_keepHash_3 : decode prog_2_method_13_code 3 = .ok (.if_icmp .ne 13, 3) := by decide +kernel
theorem d_Box_keepHash_6 : decode prog_2_method_13_code 6 = .ok (.aload_n 0, 1) := by decide +kernel
theorem d_Box_keepHash_7 : decode prog_2_method_13_code 7 = .ok (.getfield 44, 3) := by decide +kernel
theorem d_Box_keepHash_10 : decode prog_2_method_13_code 10 = .ok (.bipush 35, 2) := by decide +kernel
theorem d_Box_keepHash_12 : decode prog_2_method_13_code 12 = .ok (.invokevirtual 38, 3) := by decide +kernel
theorem d_Box_keepHash_15 : decode prog_2_method_13_code 15 = .ok (.pop, 1) := by decide +kernel
theorem d_Box_keepHash_16 : decode prog_2_method_13_code 16 = .ok (.return_, 1) := by decide +kernel
theorem ct_keepHash {w : gx_W} {x m beh : Nat} {U V : Nat → List Nat} {fo : Nat → Nat} {u v : List Nat} (hB : bxDm w x m U V fo u v) (hb : beh < 65536) (hv : v.length < 7) : gx_Ct M_Box_keepHash 2 0 0 [.ref (x + 3 + 5 * m), .int (nI beh)] w (fun r w' => r = none ∧ bxDm w' x m U V fo u (v ++ (if beh = 35 then [35] else [])) ∧ gx_kp w w' x (x + 303)) := by
  refine gx_ct (L := [some (.ref (x + 3 + 5 * m)), some (.int (nI beh))]) (by decide) (Nat.le_of_ble_eq_true rfl) rfl ?_
  have hm60 := hB.1
  refine gx_iload_n d_Box_keepHash_0 rfl ?_
  refine gx_bipush d_Box_keepHash_1 (nI 35) (by decide) ?_
  refine gx_icmp_neN (by omega) (by omega) (tgt := 16) d_Box_keepHash_3 (by decide) (fun h3 => ?_) (fun h3 => ?_)
  · rw [if_neg h3, List.append_nil]
    refine gx_return rfl d_Box_keepHash_16 ?_
    exact ⟨rfl, hB, gx_kp.rf⟩
  · rw [if_pos h3]
    refine gx_aload_n d_Box_keepHash_6 rfl ?_
    refine gx_get fl_Box_44 d_Box_keepHash_7 hB.ob rfl ?_
    refine gx_bipush d_Box_keepHash_10 (nI 35) (by decide) ?_
    refine gx_cV1 lk_Box_38 d_Box_keepHash_12 (ct_Word_add hB.lw (by omega) hv) (Or.inr ⟨_, _, hB.lw⟩) (by omega) rfl rfl (Nat.le_of_ble_eq_true rfl) ?_
    replace hB := hB.lo (v ++ [35])
    refine gx_pop d_Box_keepHash_15 rfl ?_
    refine gx_return rfl d_Box_keepHash_16 ?_
    exact ⟨rfl, hB, gx_kp.st (by omega) (by omega)⟩
theorem d_Box_addRight_0 : decode prog_2_method_11_code 0 = .ok (.aload_n 0, 1) := by decide +kernel
theorem d_Box_addRight_1 : decode prog_2_method_11_code 1 = .ok (.invokevirtual 30, 3) := by decide +kernel
theorem d_Box_addRight_4 : decode prog_2_method_11_code 4 = .ok (.astore 4, 2) := by decide +kernel
theorem d_Box_addRight_6 : decode prog_2_method_11_code 6 = .ok (.aload 4, 2) := by decide +kernel
theorem d_Box_addRight_8 : decode prog_2_method_11_code 8 = .ok (.getfield 34, 3) := by decide +kernel
theorem d_Box_addRight_11 : decode prog_2_method_11_code 11 = .ok (.iload_n 2, 1) := by decide +kernel
theorem d_Box_addRight_12 : decode prog_2_method_11_code 12 = .ok (.iconst 3, 1) := by decide +kernel
theorem d_Box_addRight_13 : decode prog_2_method_11_code 13 = .ok (.idiv, 1) := by decide +kernel
theorem d_Box_addRight_14 : decode prog_2_method_11_code 14 = .ok (.invokestatic 98, 3) := by decide +kernel
theorem d_Box_addRight_17 : decode prog_2_method_11_code 17 = .ok (.invokevirtual 38, 3) := by decide +kernel
theorem d_Box_addRight_20 : decode prog_2_method_11_code 20 = .ok (.iload_n 3, 1) := by decide +kernel
theorem d_Box_addRight_21 : decode prog_2_method_11_code 21 = .ok (.invokevirtual 38, 3) := by decide +kernel
theorem d_Box_addRight_24 : decode prog_2_method_11_code 24 = .ok (.pop, 1) := by decide +kernel
theorem d_Box_addRight_25 : decode prog_2_method_11_code 25 = .ok (.aload 4, 2) := by decide +kernel
theorem d_Box_addRight_27 : decode prog_2_method_11_code 27 = .ok (.getfield 44, 3) := by decide +kernel
theorem d_Box_addRight_30 : decode prog_2_method_11_code 30 = .ok (.aload_n 1, 1) := by decide +kernel
theorem d_Box_addRight_31 : decode prog_2_method_11_code 31 = .ok (.getfield 101, 3) := by decide +kernel
theorem d_Box_addRight_34 : decode prog_2_method_11_code 34 = .ok (.iload_n 2, 1) := by decide +kernel
theorem d_Box_addRight_35 : decode prog_2_method_11_code 35 = .ok (.iaload, 1) := by decide +kernel
theorem d_Box_addRight_36 : decode prog_2_method_11_code 36 = .ok (.invokestatic 64, 3) := by decide +kernel
theorem d_Box_addRight_39 : decode prog_2_method_11_code 39 = .ok (.invokevirtual 38, 3) := by decide +kernel
theorem d_Box_addRight_42 : decode prog_2_method_11_code 42 = .ok (.aload_n 1, 1) := by decide +kernel
theorem d_Box_addRight_43 : decode prog_2_method_11_code 43 = .ok (.getfield 104, 3) := by decide +kernel
theorem d_Box_addRight_46 : decode prog_2_method_11_code 46 = .ok (.iload_n 2, 1) := by decide +kernel
theorem d_Box_addRight_47 : decode prog_2_method_11_code 47 = .ok (.iaload, 1) := by decide +kernel
theorem d_Box_addRight_48 : decode prog_2_method_11_code 48 = .ok (.invokestatic 98, 3) := by decide +kernel
theorem d_Box_addRight_51 : decode prog_2_method_11_code 51 = .ok (.invokevirtual 38, 3) := by decide +kernel
theorem d_Box_addRight_54 : decode prog_2_method_11_code 54 = .ok (.pop, 1) := by decide +kernel
theorem d_Box_addRight_55 : decode prog_2_method_11_code 55 = .ok (.aload 4, 2) := by decide +kernel
theorem d_Box_addRight_57 : decode prog_2_method_11_code 57 = .ok (.iload_n 3, 1) := by decide +kernel
theorem d_Box_addRight_58 : decode prog_2_method_11_code 58 = .ok (.invokestatic 107, 3) := by decide +kernel
theorem d_Box_addRight_61 : decode prog_2_method_11_code 61 = .ok (.return_, 1) := by decide +kernel
theorem ct_addRight {w : gx_W} {x a r beh : Nat} {M : sp_M} {t : List Nat} {ds : List (List Nat × List Nat)} {fo : Nat → Nat} (hm : mcAt w a M t) (hM : sp_Mok M) (hxa : a + 7 ≤ x) (hr : r < 12) (hbe : beh < 65536) (hb : bxOk w x ds fo) (hn : ds.length < 60)  : gx_Ct M_Box_addRight 3 0 0 [.ref x, .ref a, .int (nI r), .int (nI beh)] w (fun v w' => v = none ∧ bxOk w' x (ds ++ [([sp_let (r / 3), beh], [48 + sp_wr M r, sp_let (sp_nx M r)] ++ (if beh = 35 then [35] else []))]) fo ∧ gx_kp w w' x (x + 303)) := by
  refine gx_ct (L := [some (.ref x), some (.ref a), some (.int (nI r)), some (.int (nI beh)), none]) (by decide) (Nat.le_of_ble_eq_true rfl) rfl ?_
  obtain ⟨hd60, U, V, h, hd⟩ := hb
  have hMr := hM r
  have hl1 := sp_let_lt (show r / 3 ≤ 4 by omega)
  have hl2 := sp_let_lt hMr.2.2.2
  refine gx_aload_n d_Box_addRight_0 rfl ?_
  refine gx_cVr lk_Box_30 d_Box_addRight_1 (ct_open h (by omega)) (Or.inl ⟨_, h.1⟩) (by omega) rfl rfl (Nat.le_of_ble_eq_true rfl) (fun r w1 hq => ?_)
  obtain ⟨rfl, hB, hK⟩ := hq
  refine gx_astore d_Box_addRight_4 (Nat.le_of_ble_eq_true rfl) rfl ?_
  refine gx_aload d_Box_addRight_6 rfl ?_
  refine gx_get fl_Box_34 d_Box_addRight_8 hB.ob rfl ?_
  refine gx_iload_n d_Box_addRight_11 rfl ?_
  refine gx_iconst d_Box_addRight_12 (nI 3) (by decide) ?_
  refine gx_idivN (by omega) (by omega) (by omega) d_Box_addRight_13 ?_
  refine gx_cS1 lk_Box_98 d_Box_addRight_14 (ct_letter (q := r / 3) (by omega)) (by omega) rfl rfl (Nat.le_of_ble_eq_true rfl) ?_
  refine gx_cV1 lk_Box_38 d_Box_addRight_17 (ct_Word_add hB.uw (by omega) (by simp)) (Or.inr ⟨_, _, hB.uw⟩) (by omega) rfl rfl (Nat.le_of_ble_eq_true rfl) ?_
  replace hB := hB.up ([] ++ [sp_let (r / 3)])
  replace hK := hK.trans (gx_kp.st (a := x + 4 + 5 * ds.length) (x := gx_bx 0 3 ([] ++ [sp_let (r / 3)])) (by omega) (by omega))
  refine gx_iload_n d_Box_addRight_20 rfl ?_
  refine gx_cV1 lk_Box_38 d_Box_addRight_21 (ct_Word_add hB.uw (by omega) (by simp)) (Or.inr ⟨_, _, hB.uw⟩) (by omega) rfl rfl (Nat.le_of_ble_eq_true rfl) ?_
  replace hB := hB.up (([] ++ [sp_let (r / 3)]) ++ [beh])
  replace hK := hK.trans (gx_kp.st (a := x + 4 + 5 * ds.length) (x := gx_bx 0 3 (([] ++ [sp_let (r / 3)]) ++ [beh])) (by omega) (by omega))
  refine gx_pop d_Box_addRight_24 rfl ?_
  refine gx_aload d_Box_addRight_25 rfl ?_
  refine gx_get fl_Box_44 d_Box_addRight_27 hB.ob rfl ?_
  refine gx_aload_n d_Box_addRight_30 rfl ?_
  have hmk := hm.kept hK (by omega)
  refine gx_get fl_Box_101 d_Box_addRight_31 hmk.1 rfl ?_
  refine gx_iload_n d_Box_addRight_34 rfl ?_
  refine gx_iald d_Box_addRight_35 hmk.2.2.2.1 (by omega) (by omega) ?_
  refine gx_cS1 lk_Box_64 d_Box_addRight_36 (ct_digit (by omega)) (by omega) rfl rfl (Nat.le_of_ble_eq_true rfl) ?_
  refine gx_cV1 lk_Box_38 d_Box_addRight_39 (ct_Word_add hB.lw (by omega) (by simp)) (Or.inr ⟨_, _, hB.lw⟩) (by omega) rfl rfl (Nat.le_of_ble_eq_true rfl) ?_
  replace hB := hB.lo ([] ++ [48 + sp_wr M r])
  replace hK := hK.trans (gx_kp.st (a := x + 6 + 5 * ds.length) (x := gx_bx 0 7 ([] ++ [48 + sp_wr M r])) (by omega) (by omega))
  refine gx_aload_n d_Box_addRight_42 rfl ?_
  have hmk := hm.kept hK (by omega)
  refine gx_get fl_Box_104 d_Box_addRight_43 hmk.1 rfl ?_
  refine gx_iload_n d_Box_addRight_46 rfl ?_
  refine gx_iald d_Box_addRight_47 hmk.2.2.2.2.1 (by omega) (by omega) ?_
  refine gx_cS1 lk_Box_98 d_Box_addRight_48 (ct_letter hMr.2.2.2) (by omega) rfl rfl (Nat.le_of_ble_eq_true rfl) ?_
  refine gx_cV1 lk_Box_38 d_Box_addRight_51 (ct_Word_add hB.lw (by omega) (by simp)) (Or.inr ⟨_, _, hB.lw⟩) (by omega) rfl rfl (Nat.le_of_ble_eq_true rfl) ?_
  replace hB := hB.lo (([] ++ [48 + sp_wr M r]) ++ [sp_let (sp_nx M r)])
  replace hK := hK.trans (gx_kp.st (a := x + 6 + 5 * ds.length) (x := gx_bx 0 7 (([] ++ [48 + sp_wr M r]) ++ [sp_let (sp_nx M r)])) (by omega) (by omega))
  refine gx_pop d_Box_addRight_54 rfl ?_
  refine gx_aload d_Box_addRight_55 rfl ?_
  refine gx_iload_n d_Box_addRight_57 rfl ?_
  refine gx_cSr lk_Box_107 d_Box_addRight_58 (ct_keepHash hB (by omega) (by simp)) (by omega) rfl rfl (Nat.le_of_ble_eq_true rfl) (fun r2 w2 hq => ?_)
  obtain ⟨rfl, hB2, hK2⟩ := hq
  refine gx_return rfl d_Box_addRight_61 ?_
  exact ⟨rfl, hB2.ok hd, hK.trans hK2⟩
theorem d_Box_addLeft_0 : decode prog_2_method_12_code 0 = .ok (.aload_n 0, 1) := by decide +kernel
theorem d_Box_addLeft_1 : decode prog_2_method_12_code 1 = .ok (.invokevirtual 30, 3) := by decide +kernel
theorem d_Box_addLeft_4 : decode prog_2_method_12_code 4 = .ok (.astore 5, 2) := by decide +kernel
theorem d_Box_addLeft_6 : decode prog_2_method_12_code 6 = .ok (.aload 5, 2) := by decide +kernel
theorem d_Box_addLeft_8 : decode prog_2_method_12_code 8 = .ok (.getfield 34, 3) := by decide +kernel
theorem d_Box_addLeft_11 : decode prog_2_method_12_code 11 = .ok (.iload_n 3, 1) := by decide +kernel
theorem d_Box_addLeft_12 : decode prog_2_method_12_code 12 = .ok (.invokevirtual 38, 3) := by decide +kernel
theorem d_Box_addLeft_15 : decode prog_2_method_12_code 15 = .ok (.iload_n 2, 1) := by decide +kernel
theorem d_Box_addLeft_16 : decode prog_2_method_12_code 16 = .ok (.iconst 3, 1) := by decide +kernel
theorem d_Box_addLeft_17 : decode prog_2_method_12_code 17 = .ok (.idiv, 1) := by decide +kernel
theorem d_Box_addLeft_18 : decode prog_2_method_12_code 18 = .ok (.invokestatic 98, 3) := by decide +kernel
theorem d_Box_addLeft_21 : decode prog_2_method_12_code 21 = .ok (.invokevirtual 38, 3) := by decide +kernel
theorem d_Box_addLeft_24 : decode prog_2_method_12_code 24 = .ok (.iload 4, 2) := by decide +kernel
theorem d_Box_addLeft_26 : decode prog_2_method_12_code 26 = .ok (.invokevirtual 38, 3) := by decide +kernel
theorem d_Box_addLeft_29 : decode prog_2_method_12_code 29 = .ok (.pop, 1) := by decide +kernel
theorem d_Box_addLeft_30 : decode prog_2_method_12_code 30 = .ok (.aload 5, 2) := by decide +kernel
theorem d_Box_addLeft_32 : decode prog_2_method_12_code 32 = .ok (.getfield 44, 3) := by decide +kernel
theorem d_Box_addLeft_35 : decode prog_2_method_12_code 35 = .ok (.aload_n 1, 1) := by decide +kernel
theorem d_Box_addLeft_36 : decode prog_2_method_12_code 36 = .ok (.getfield 104, 3) := by decide +kernel
theorem d_Box_addLeft_39 : decode prog_2_method_12_code 39 = .ok (.iload_n 2, 1) := by decide +kernel
theorem d_Box_addLeft_40 : decode prog_2_method_12_code 40 = .ok (.iaload, 1) := by decide +kernel
theorem d_Box_addLeft_41 : decode prog_2_method_12_code 41 = .ok (.invokestatic 98, 3) := by decide +kernel
theorem d_Box_addLeft_44 : decode prog_2_method_12_code 44 = .ok (.invokevirtual 38, 3) := by decide +kernel
theorem d_Box_addLeft_47 : decode prog_2_method_12_code 47 = .ok (.iload_n 3, 1) := by decide +kernel
theorem d_Box_addLeft_48 : decode prog_2_method_12_code 48 = .ok (.invokevirtual 38, 3) := by decide +kernel
theorem d_Box_addLeft_51 : decode prog_2_method_12_code 51 = .ok (.aload_n 1, 1) := by decide +kernel
theorem d_Box_addLeft_52 : decode prog_2_method_12_code 52 = .ok (.getfield 101, 3) := by decide +kernel
theorem d_Box_addLeft_55 : decode prog_2_method_12_code 55 = .ok (.iload_n 2, 1) := by decide +kernel
theorem d_Box_addLeft_56 : decode prog_2_method_12_code 56 = .ok (.iaload, 1) := by decide +kernel
theorem d_Box_addLeft_57 : decode prog_2_method_12_code 57 = .ok (.invokestatic 64, 3) := by decide +kernel
theorem d_Box_addLeft_60 : decode prog_2_method_12_code 60 = .ok (.invokevirtual 38, 3) := by decide +kernel
theorem d_Box_addLeft_63 : decode prog_2_method_12_code 63 = .ok (.pop, 1) := by decide +kernel
theorem d_Box_addLeft_64 : decode prog_2_method_12_code 64 = .ok (.aload 5, 2) := by decide +kernel
theorem d_Box_addLeft_66 : decode prog_2_method_12_code 66 = .ok (.iload 4, 2) := by decide +kernel
theorem d_Box_addLeft_68 : decode prog_2_method_12_code 68 = .ok (.invokestatic 107, 3) := by decide +kernel
theorem d_Box_addLeft_71 : decode prog_2_method_12_code 71 = .ok (.return_, 1) := by decide +kernel
theorem ct_addLeft {w : gx_W} {x a r beh : Nat} {M : sp_M} {t : List Nat} {ds : List (List Nat × List Nat)} {fo : Nat → Nat} (hm : mcAt w a M t) (hM : sp_Mok M) (hxa : a + 7 ≤ x) (hr : r < 12) (hbe : beh < 65536) (hb : bxOk w x ds fo) (hn : ds.length < 60) {ah : Nat} (hah : ah < 65536) : gx_Ct M_Box_addLeft 3 0 0 [.ref x, .ref a, .int (nI r), .int (nI ah), .int (nI beh)] w (fun v w' => v = none ∧ bxOk w' x (ds ++ [([ah, sp_let (r / 3), beh], [sp_let (sp_nx M r), ah, 48 + sp_wr M r] ++ (if beh = 35 then [35] else []))]) fo ∧ gx_kp w w' x (x + 303)) := by
  refine gx_ct (L := [some (.ref x), some (.ref a), some (.int (nI r)), some (.int (nI ah)), some (.int (nI beh)), none]) (by decide) (Nat.le_of_ble_eq_true rfl) rfl ?_
  obtain ⟨hd60, U, V, h, hd⟩ := hb
  have hMr := hM r
  have hl1 := sp_let_lt (show r / 3 ≤ 4 by omega)
  have hl2 := sp_let_lt hMr.2.2.2
  refine gx_aload_n d_Box_addLeft_0 rfl ?_
  refine gx_cVr lk_Box_30 d_Box_addLeft_1 (ct_open h (by omega)) (Or.inl ⟨_, h.1⟩) (by omega) rfl rfl (Nat.le_of_ble_eq_true rfl) (fun r w1 hq => ?_)
  obtain ⟨rfl, hB, hK⟩ := hq
  refine gx_astore d_Box_addLeft_4 (Nat.le_of_ble_eq_true rfl) rfl ?_
  refine gx_aload d_Box_addLeft_6 rfl ?_
  refine gx_get fl_Box_34 d_Box_addLeft_8 hB.ob rfl ?_
  refine gx_iload_n d_Box_addLeft_11 rfl ?_
  refine gx_cV1 lk_Box_38 d_Box_addLeft_12 (ct_Word_add hB.uw (by omega) (by simp)) (Or.inr ⟨_, _, hB.uw⟩) (by omega) rfl rfl (Nat.le_of_ble_eq_true rfl) ?_
  replace hB := hB.up ([] ++ [ah])
  replace hK := hK.trans (gx_kp.st (a := x + 4 + 5 * ds.length) (x := gx_bx 0 3 ([] ++ [ah])) (by omega) (by omega))
  refine gx_iload_n d_Box_addLeft_15 rfl ?_
  refine gx_iconst d_Box_addLeft_16 (nI 3) (by decide) ?_
  refine gx_idivN (by omega) (by omega) (by omega) d_Box_addLeft_17 ?_
  refine gx_cS1 lk_Box_98 d_Box_addLeft_18 (ct_letter (q := r / 3) (by omega)) (by omega) rfl rfl (Nat.le_of_ble_eq_true rfl) ?_
  refine gx_cV1 lk_Box_38 d_Box_addLeft_21 (ct_Word_add hB.uw (by omega) (by simp)) (Or.inr ⟨_, _, hB.uw⟩) (by omega) rfl rfl (Nat.le_of_ble_eq_true rfl) ?_
  replace hB := hB.up (([] ++ [ah]) ++ [sp_let (r / 3)])
  replace hK := hK.trans (gx_kp.st (a := x + 4 + 5 * ds.length) (x := gx_bx 0 3 (([] ++ [ah]) ++ [sp_let (r / 3)])) (by omega) (by omega))
  refine gx_iload d_Box_addLeft_24 rfl ?_
  refine gx_cV1 lk_Box_38 d_Box_addLeft_26 (ct_Word_add hB.uw (by omega) (by simp)) (Or.inr ⟨_, _, hB.uw⟩) (by omega) rfl rfl (Nat.le_of_ble_eq_true rfl) ?_
  replace hB := hB.up ((([] ++ [ah]) ++ [sp_let (r / 3)]) ++ [beh])
  replace hK := hK.trans (gx_kp.st (a := x + 4 + 5 * ds.length) (x := gx_bx 0 3 ((([] ++ [ah]) ++ [sp_let (r / 3)]) ++ [beh])) (by omega) (by omega))
  refine gx_pop d_Box_addLeft_29 rfl ?_
  refine gx_aload d_Box_addLeft_30 rfl ?_
  refine gx_get fl_Box_44 d_Box_addLeft_32 hB.ob rfl ?_
  refine gx_aload_n d_Box_addLeft_35 rfl ?_
  have hmk := hm.kept hK (by omega)
  refine gx_get fl_Box_104 d_Box_addLeft_36 hmk.1 rfl ?_
  refine gx_iload_n d_Box_addLeft_39 rfl ?_
  refine gx_iald d_Box_addLeft_40 hmk.2.2.2.2.1 (by omega) (by omega) ?_
  refine gx_cS1 lk_Box_98 d_Box_addLeft_41 (ct_letter hMr.2.2.2) (by omega) rfl rfl (Nat.le_of_ble_eq_true rfl) ?_
  refine gx_cV1 lk_Box_38 d_Box_addLeft_44 (ct_Word_add hB.lw (by omega) (by simp)) (Or.inr ⟨_, _, hB.lw⟩) (by omega) rfl rfl (Nat.le_of_ble_eq_true rfl) ?_
  replace hB := hB.lo ([] ++ [sp_let (sp_nx M r)])
  replace hK := hK.trans (gx_kp.st (a := x + 6 + 5 * ds.length) (x := gx_bx 0 7 ([] ++ [sp_let (sp_nx M r)])) (by omega) (by omega))
  refine gx_iload_n d_Box_addLeft_47 rfl ?_
  refine gx_cV1 lk_Box_38 d_Box_addLeft_48 (ct_Word_add hB.lw (by omega) (by simp)) (Or.inr ⟨_, _, hB.lw⟩) (by omega) rfl rfl (Nat.le_of_ble_eq_true rfl) ?_
  replace hB := hB.lo (([] ++ [sp_let (sp_nx M r)]) ++ [ah])
  replace hK := hK.trans (gx_kp.st (a := x + 6 + 5 * ds.length) (x := gx_bx 0 7 (([] ++ [sp_let (sp_nx M r)]) ++ [ah])) (by omega) (by omega))
  refine gx_aload_n d_Box_addLeft_51 rfl ?_
  have hmk := hm.kept hK (by omega)
  refine gx_get fl_Box_101 d_Box_addLeft_52 hmk.1 rfl ?_
  refine gx_iload_n d_Box_addLeft_55 rfl ?_
  refine gx_iald d_Box_addLeft_56 hmk.2.2.2.1 (by omega) (by omega) ?_
  refine gx_cS1 lk_Box_64 d_Box_addLeft_57 (ct_digit (by omega)) (by omega) rfl rfl (Nat.le_of_ble_eq_true rfl) ?_
  refine gx_cV1 lk_Box_38 d_Box_addLeft_60 (ct_Word_add hB.lw (by omega) (by simp)) (Or.inr ⟨_, _, hB.lw⟩) (by omega) rfl rfl (Nat.le_of_ble_eq_true rfl) ?_
  replace hB := hB.lo ((([] ++ [sp_let (sp_nx M r)]) ++ [ah]) ++ [48 + sp_wr M r])
  replace hK := hK.trans (gx_kp.st (a := x + 6 + 5 * ds.length) (x := gx_bx 0 7 ((([] ++ [sp_let (sp_nx M r)]) ++ [ah]) ++ [48 + sp_wr M r])) (by omega) (by omega))
  refine gx_pop d_Box_addLeft_63 rfl ?_
  refine gx_aload d_Box_addLeft_64 rfl ?_
  refine gx_iload d_Box_addLeft_66 rfl ?_
  refine gx_cSr lk_Box_107 d_Box_addLeft_68 (ct_keepHash hB (by omega) (by simp)) (by omega) rfl rfl (Nat.le_of_ble_eq_true rfl) (fun r2 w2 hq => ?_)
  obtain ⟨rfl, hB2, hK2⟩ := hq
  refine gx_return rfl d_Box_addLeft_71 ?_
  exact ⟨rfl, hB2.ok hd, hK.trans hK2⟩
