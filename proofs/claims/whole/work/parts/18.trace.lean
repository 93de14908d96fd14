/-! Way: the shortening, the trace -/
def sp_h1 (c : sp_C) : sp_C := if c.1.length = 0 then ([], c.2.1, c.2.2.tail) else (c.1.dropLast, c.2.1, c.2.2)
def sp_p1 (e : Nat) (c : sp_C) : List Nat := if c.1.length = 0 then (e + 3 + c.2.2.getD 0 0) :: sp_cp c.2.2.tail ++ [1] else sp_cp c.1.dropLast ++ (e + sp_lst c.1) :: sp_cp c.2.2 ++ [1]
theorem sp_hw_succ (e n : Nat) (c : sp_C) : sp_hw e (n + 1) c.1 c.2.2 = sp_p1 e c ++ sp_hw e n (sp_h1 c).1 (sp_h1 c).2.2 := by
  unfold sp_p1 sp_h1
  rw [sp_hw]
  by_cases h : c.1.length = 0
  · rw [if_pos h, if_pos h, if_pos h]; simp
  · rw [if_neg h, if_neg h, if_neg h]; simp
theorem sp_h1_ok {c : sp_C} (h : sp_ok c) : sp_ok (sp_h1 c) := by
  unfold sp_h1
  split
  · exact ⟨(fun s hs => by cases hs), h.2.1, fun s hs => h.2.2 s (List.mem_of_mem_tail hs)⟩
  · exact ⟨fun s hs => h.1 s ((List.dropLast_sublist c.1).subset hs), h.2.1, h.2.2⟩
theorem sp_h1_q (c : sp_C) : (sp_h1 c).2.1 = c.2.1 := by unfold sp_h1; split <;> rfl
theorem sp_h1_n {c : sp_C} {n : Nat} (h : c.1.length + c.2.2.length = n + 1) : (sp_h1 c).1.length + (sp_h1 c).2.2.length = n := by
  unfold sp_h1
  split
  · simp; omega
  · simp; omega
theorem sp_p1_len {e : Nat} {c : sp_C} : (sp_p1 e c).length ≤ c.1.length + c.2.2.length + 2 := by
  unfold sp_p1 sp_cp
  split
  · simp; omega
  · simp; omega
theorem sp_eraseA {c : sp_C} (h : 0 < c.1.length) : (sp_txt c).eraseIdx (c.1.length - 1) = sp_txt (c.1.dropLast, c.2.1, c.2.2) := by
  have hl := sp_txt_len c
  have hl2 := sp_txt_len (c.1.dropLast, c.2.1, c.2.2)
  have hd : c.1.dropLast.length = c.1.length - 1 := List.length_dropLast
  unfold sp_len at hl hl2
  simp only at hl2
  have hlt : c.1.length - 1 < (sp_txt c).length := by omega
  apply gx_ext
  · rw [List.length_eraseIdx_of_lt hlt]; omega
  · intro i hi
    rw [List.length_eraseIdx_of_lt hlt] at hi
    rw [gx_gd_er]
    by_cases h1 : i < c.1.length - 1
    · rw [if_pos h1, sp_txt_lo (by omega), sp_txt_lo (c := (c.1.dropLast, c.2.1, c.2.2)) (by simp only; omega)]
      simp only
      rw [List.dropLast_eq_take, gx_gd_take h1]
    · rw [if_neg h1]
      by_cases h2 : i = c.1.length - 1
      · have e1 : i + 1 = c.1.length := by omega
        rw [e1, sp_txt_mid]
        have e2 : i = (c.1.dropLast, c.2.1, c.2.2).1.length := by simp only; omega
        rw [e2, sp_txt_mid]
      · have e1 : i + 1 = c.1.length + 1 + (i - c.1.length) := by omega
        have e2 : i = (c.1.dropLast, c.2.1, c.2.2).1.length + 1 + (i - c.1.length) := by simp only; omega
        rw [e1, sp_txt_hi (by omega)]
        conv => rhs; rw [e2]
        rw [sp_txt_hi (c := (c.1.dropLast, c.2.1, c.2.2)) (by simp only; omega)]
theorem sp_eraseB {c : sp_C} (h : c.1.length = 0) : (sp_txt c).eraseIdx 1 = sp_txt ([], c.2.1, c.2.2.tail) := by
  have e : c.1 = [] := List.length_eq_zero_iff.mp h
  unfold sp_txt sp_ds
  rw [e]
  cases c.2.2 <;> simp
theorem sp_drop1 {c : sp_C} : (sp_txt c).drop (c.1.length + 1) = sp_ds c.2.2 := by
  unfold sp_txt
  rw [show sp_ds c.1 ++ sp_let c.2.1 :: sp_ds c.2.2 = (sp_ds c.1 ++ [sp_let c.2.1]) ++ sp_ds c.2.2 by simp]
  exact List.drop_left' (by rw [List.length_append, sp_ds_len]; rfl)
theorem d_Way_passShorter_0 : decode prog_8_method_5_code 0 = .ok (.aload_n 0, 1) := by decide +kernel
theorem d_Way_passShorter_1 : decode prog_8_method_5_code 1 = .ok (.getfield 23, 3) := by decide +kernel
theorem d_Way_passShorter_4 : decode prog_8_method_5_code 4 = .ok (.invokevirtual 71, 3) := by decide +kernel
theorem d_Way_passShorter_7 : decode prog_8_method_5_code 7 = .ok (.istore_n 2, 1) := by decide +kernel
theorem d_Way_passShorter_8 : decode prog_8_method_5_code 8 = .ok (.iload_n 2, 1) := by decide +kernel
theorem d_Way_passShorter_9 : decode prog_8_method_5_code 9 = .ok (.ifCond .le 7, 3) := by decide +kernel
theorem d_Way_passShorter_12 : decode prog_8_method_5_code 12 = .ok (.iconst 1, 1) := by decide +kernel
theorem d_Way_passShorter_13 : decode prog_8_method_5_code 13 = .ok (.goto 4, 3) := by decide +kernel
theorem d_Way_passShorter_16 : decode prog_8_method_5_code 16 = .ok (.iconst 0, 1) := by decide +kernel
theorem d_Way_passShorter_17 : decode prog_8_method_5_code 17 = .ok (.istore_n 3, 1) := by decide +kernel
theorem d_Way_passShorter_18 : decode prog_8_method_5_code 18 = .ok (.iload_n 3, 1) := by decide +kernel
theorem d_Way_passShorter_19 : decode prog_8_method_5_code 19 = .ok (.ifCond .eq 9, 3) := by decide +kernel
theorem d_Way_passShorter_22 : decode prog_8_method_5_code 22 = .ok (.iload_n 2, 1) := by decide +kernel
theorem d_Way_passShorter_23 : decode prog_8_method_5_code 23 = .ok (.iconst 1, 1) := by decide +kernel
theorem d_Way_passShorter_24 : decode prog_8_method_5_code 24 = .ok (.isub, 1) := by decide +kernel
theorem d_Way_passShorter_25 : decode prog_8_method_5_code 25 = .ok (.goto 6, 3) := by decide +kernel
theorem d_Way_passShorter_28 : decode prog_8_method_5_code 28 = .ok (.iload_n 2, 1) := by decide +kernel
theorem d_Way_passShorter_29 : decode prog_8_method_5_code 29 = .ok (.iconst 1, 1) := by decide +kernel
theorem d_Way_passShorter_30 : decode prog_8_method_5_code 30 = .ok (.iadd, 1) := by decide +kernel
theorem d_Way_passShorter_31 : decode prog_8_method_5_code 31 = .ok (.istore 4, 2) := by decide +kernel
theorem d_Way_passShorter_33 : decode prog_8_method_5_code 33 = .ok (.aload_n 1, 1) := by decide +kernel
theorem d_Way_passShorter_34 : decode prog_8_method_5_code 34 = .ok (.invokevirtual 94, 3) := by decide +kernel
theorem d_Way_passShorter_37 : decode prog_8_method_5_code 37 = .ok (.iload_n 3, 1) := by decide +kernel
theorem d_Way_passShorter_38 : decode prog_8_method_5_code 38 = .ok (.ifCond .eq 7, 3) := by decide +kernel
theorem d_Way_passShorter_41 : decode prog_8_method_5_code 41 = .ok (.iconst 0, 1) := by decide +kernel
theorem d_Way_passShorter_42 : decode prog_8_method_5_code 42 = .ok (.goto 4, 3) := by decide +kernel
theorem d_Way_passShorter_45 : decode prog_8_method_5_code 45 = .ok (.iconst 3, 1) := by decide +kernel
theorem d_Way_passShorter_46 : decode prog_8_method_5_code 46 = .ok (.iadd, 1) := by decide +kernel
theorem d_Way_passShorter_47 : decode prog_8_method_5_code 47 = .ok (.aload_n 0, 1) := by decide +kernel
theorem d_Way_passShorter_48 : decode prog_8_method_5_code 48 = .ok (.getfield 23, 3) := by decide +kernel
theorem d_Way_passShorter_51 : decode prog_8_method_5_code 51 = .ok (.iload 4, 2) := by decide +kernel
theorem d_Way_passShorter_53 : decode prog_8_method_5_code 53 = .ok (.invokevirtual 78, 3) := by decide +kernel
theorem d_Way_passShorter_56 : decode prog_8_method_5_code 56 = .ok (.invokestatic 82, 3) := by decide +kernel
theorem d_Way_passShorter_59 : decode prog_8_method_5_code 59 = .ok (.iadd, 1) := by decide +kernel
theorem d_Way_passShorter_60 : decode prog_8_method_5_code 60 = .ok (.istore 5, 2) := by decide +kernel
theorem d_Way_passShorter_62 : decode prog_8_method_5_code 62 = .ok (.aload_n 0, 1) := by decide +kernel
theorem d_Way_passShorter_63 : decode prog_8_method_5_code 63 = .ok (.aload_n 0, 1) := by decide +kernel
theorem d_Way_passShorter_64 : decode prog_8_method_5_code 64 = .ok (.getfield 23, 3) := by decide +kernel
theorem d_Way_passShorter_67 : decode prog_8_method_5_code 67 = .ok (.iload_n 2, 1) := by decide +kernel
theorem d_Way_passShorter_68 : decode prog_8_method_5_code 68 = .ok (.iload 4, 2) := by decide +kernel
theorem d_Way_passShorter_70 : decode prog_8_method_5_code 70 = .ok (.invokestatic 97, 3) := by decide +kernel
theorem d_Way_passShorter_73 : decode prog_8_method_5_code 73 = .ok (.iload_n 2, 1) := by decide +kernel
theorem d_Way_passShorter_74 : decode prog_8_method_5_code 74 = .ok (.iload 4, 2) := by decide +kernel
theorem d_Way_passShorter_76 : decode prog_8_method_5_code 76 = .ok (.invokestatic 103, 3) := by decide +kernel
theorem d_Way_passShorter_79 : decode prog_8_method_5_code 79 = .ok (.iconst 1, 1) := by decide +kernel
theorem d_Way_passShorter_80 : decode prog_8_method_5_code 80 = .ok (.iadd, 1) := by decide +kernel
theorem d_Way_passShorter_81 : decode prog_8_method_5_code 81 = .ok (.iload 5, 2) := by decide +kernel
theorem d_Way_passShorter_83 : decode prog_8_method_5_code 83 = .ok (.invokevirtual 90, 3) := by decide +kernel
theorem d_Way_passShorter_86 : decode prog_8_method_5_code 86 = .ok (.aload_n 0, 1) := by decide +kernel
theorem d_Way_passShorter_87 : decode prog_8_method_5_code 87 = .ok (.getfield 23, 3) := by decide +kernel
theorem d_Way_passShorter_90 : decode prog_8_method_5_code 90 = .ok (.iload 4, 2) := by decide +kernel
theorem d_Way_passShorter_92 : decode prog_8_method_5_code 92 = .ok (.invokevirtual 106, 3) := by decide +kernel
theorem d_Way_passShorter_95 : decode prog_8_method_5_code 95 = .ok (.return_, 1) := by decide +kernel
theorem ct_passShorter_A {w : gx_W} {y x m : Nat} {p : List Nat} {c : sp_C} {U V : Nat → List Nat} {fo : Nat → Nat} (hwy : wyAt w y p (sp_txt c)) (hc : sp_ok c) (hx : bxAt w x m U V fo) (hm7 : 7 ≤ m) (hm60 : m ≤ 60) (hxy : x + 303 ≤ y) (hp : p.length + 12 ≤ 222) (hL : 0 < c.1.length) : gx_Ct M_Way_passShorter 4 0 0 [.ref y, .ref x] w (gx_eq none (gx_st (gx_st w (y + 1) (gx_bx 1 222 (p ++ sp_p1 (m - 7) c))) (y + 3) (gx_bx 0 10 (sp_txt (sp_h1 c))))) := by
  refine gx_ct (L := [some (.ref y), some (.ref x), none, none, none, none]) (by decide) (Nat.le_of_ble_eq_true rfl) rfl ?_
  have hsl : sp_len c = c.1.length + 1 + c.2.2.length := rfl
  have htl := sp_txt_len c
  refine gx_bsz hwy.2.2 (fun hlen hcap hsm => ?_)
  have hs3 := sp_gd_lt hc.2.2 0
  have hlst : sp_lst c.1 < 3 := sp_gd_lt hc.1 _
  have hne : ¬ c.1.length = 0 := by omega
  rw [show sp_p1 (m - 7) c = sp_cp c.1.dropLast ++ (m - 7 + sp_lst c.1) :: sp_cp c.2.2 ++ [1] from if_neg hne, show sp_h1 c = (c.1.dropLast, c.2.1, c.2.2) from if_neg hne]
  refine gx_aload_n d_Way_passShorter_0 rfl ?_
  refine gx_get fl_Way_23 d_Way_passShorter_1 hwy.1 rfl ?_
  refine gx_cV1 lk_Way_71 d_Way_passShorter_4 (ct_Word_head hwy.2.2 sp_hd3 (sp_hd1 hc) sp_hd2) (Or.inr ⟨_, _, hwy.2.2⟩) (by omega) rfl rfl (Nat.le_of_ble_eq_true rfl) ?_
  refine gx_istore_n d_Way_passShorter_7 (Nat.le_of_ble_eq_true rfl) rfl ?_
  refine gx_iload_n d_Way_passShorter_8 rfl ?_
  refine gx_if_leN (by omega) (tgt := 16) d_Way_passShorter_9 (by decide) (fun h9 => ?_) (fun h9 => ?_)
  · exact absurd h9 (by omega)
  · refine gx_iconst d_Way_passShorter_12 (nI 1) (by decide) ?_
    refine gx_goto (tgt := 17) d_Way_passShorter_13 (by decide) ?_
    refine gx_istore_n d_Way_passShorter_17 (Nat.le_of_ble_eq_true rfl) rfl ?_
    refine gx_iload_n d_Way_passShorter_18 rfl ?_
    refine gx_if_eqN (by omega) (tgt := 28) d_Way_passShorter_19 (by decide) (fun h19 => ?_) (fun h19 => ?_)
    · exact absurd h19 (by decide)
    · refine gx_iload_n d_Way_passShorter_22 rfl ?_
      refine gx_iconst d_Way_passShorter_23 (nI 1) (by decide) ?_
      refine gx_isubN (by omega) d_Way_passShorter_24 ?_
      refine gx_goto (tgt := 31) d_Way_passShorter_25 (by decide) ?_
      refine gx_istore d_Way_passShorter_31 (Nat.le_of_ble_eq_true rfl) rfl ?_
      refine gx_aload_n d_Way_passShorter_33 rfl ?_
      refine gx_cV1 lk_Way_94 d_Way_passShorter_34 (ct_firstEnding hx hm7) (Or.inl ⟨_, hx.1⟩) (by omega) rfl rfl (Nat.le_of_ble_eq_true rfl) ?_
      refine gx_iload_n d_Way_passShorter_37 rfl ?_
      refine gx_if_eqN (by omega) (tgt := 45) d_Way_passShorter_38 (by decide) (fun h38 => ?_) (fun h38 => ?_)
      · exact absurd h38 (by decide)
      · refine gx_iconst d_Way_passShorter_41 (nI 0) (by decide) ?_
        refine gx_goto (tgt := 46) d_Way_passShorter_42 (by decide) ?_
        refine gx_iaddN d_Way_passShorter_46 ?_
        refine gx_aload_n d_Way_passShorter_47 rfl ?_
        refine gx_get fl_Way_23 d_Way_passShorter_48 hwy.1 rfl ?_
        refine gx_iload d_Way_passShorter_51 rfl ?_
        refine gx_cV1 lk_Way_78 d_Way_passShorter_53 (ct_Word_at (j := c.1.length - 1) hwy.2.2 (by omega)) (Or.inr ⟨_, _, hwy.2.2⟩) (by omega) rfl rfl (Nat.le_of_ble_eq_true rfl) ?_
        refine gx_top (congrArg nI (sp_txt_lo (by omega))) ?_
        refine gx_cS1 lk_Way_82 d_Way_passShorter_56 (ct_symbolOf) (by omega) rfl rfl (Nat.le_of_ble_eq_true rfl) ?_
        refine gx_top (show _ = nI (sp_lst c.1) by rw [pk_sub (by omega), Nat.add_sub_cancel_left]; rfl) ?_
        refine gx_iaddN d_Way_passShorter_59 ?_
        refine gx_istore d_Way_passShorter_60 (Nat.le_of_ble_eq_true rfl) rfl ?_
        refine gx_aload_n d_Way_passShorter_62 rfl ?_
        refine gx_aload_n d_Way_passShorter_63 rfl ?_
        refine gx_get fl_Way_23 d_Way_passShorter_64 hwy.1 rfl ?_
        refine gx_iload_n d_Way_passShorter_67 rfl ?_
        refine gx_iload d_Way_passShorter_68 rfl ?_
        refine gx_min lk_Way_97 (by omega) (Nat.le_of_ble_eq_true rfl) d_Way_passShorter_70 ?_
        refine gx_top ((gx_mnI (by omega) (by omega)).trans (congrArg nI (Nat.min_eq_right (by omega)))) ?_
        refine gx_iload_n d_Way_passShorter_73 rfl ?_
        refine gx_iload d_Way_passShorter_74 rfl ?_
        refine gx_max lk_Way_103 (by omega) (Nat.le_of_ble_eq_true rfl) d_Way_passShorter_76 ?_
        refine gx_top ((gx_mxI (by omega) (by omega)).trans (congrArg nI (Nat.max_eq_left (by omega)))) ?_
        refine gx_iconst d_Way_passShorter_79 (nI 1) (by decide) ?_
        refine gx_iaddN d_Way_passShorter_80 ?_
        refine gx_iload d_Way_passShorter_81 rfl ?_
        refine gx_cV0 lk_Way_90 d_Way_passShorter_83 (ct_pass (a := c.1.length - 1) (e := c.1.length + 1) (q := m - 7 + 0 + sp_lst c.1) hwy hwy.2.2 (by omega) (by omega) (by omega) (by omega) (fun i hi _ => sp_48 hi) (by omega)) (Or.inl ⟨_, hwy.1⟩) (by omega) rfl rfl (Nat.le_of_ble_eq_true rfl) ?_
        rw [sp_takek1, sp_drop1, sp_sy_ds, sp_sy_ds, if_pos (show c.1.length + 1 ≤ (sp_txt c).length by omega), Nat.add_zero]
        have hwy2 := hwy.row (p ++ sp_cp c.1.dropLast ++ (m - 7 + sp_lst c.1) :: sp_cp c.2.2 ++ [1])
        refine gx_aload_n d_Way_passShorter_86 rfl ?_
        refine gx_get fl_Way_23 d_Way_passShorter_87 hwy2.1 rfl ?_
        refine gx_iload d_Way_passShorter_90 rfl ?_
        refine gx_cV0 lk_Way_106 d_Way_passShorter_92 (ct_Word_remove hwy2.2.2 (by omega)) (Or.inr ⟨_, _, hwy2.2.2⟩) (by omega) rfl rfl (Nat.le_of_ble_eq_true rfl) ?_
        refine gx_return rfl d_Way_passShorter_95 ?_
        rw [sp_eraseA hL]
        exact ⟨rfl, by simp [List.append_assoc]⟩
theorem ct_passShorter_B {w : gx_W} {y x m : Nat} {p : List Nat} {c : sp_C} {U V : Nat → List Nat} {fo : Nat → Nat} (hwy : wyAt w y p (sp_txt c)) (hc : sp_ok c) (hx : bxAt w x m U V fo) (hm7 : 7 ≤ m) (hm60 : m ≤ 60) (hxy : x + 303 ≤ y) (hp : p.length + 12 ≤ 222) (hL : c.1.length = 0) (hR : 0 < c.2.2.length) : gx_Ct M_Way_passShorter 4 0 0 [.ref y, .ref x] w (gx_eq none (gx_st (gx_st w (y + 1) (gx_bx 1 222 (p ++ sp_p1 (m - 7) c))) (y + 3) (gx_bx 0 10 (sp_txt (sp_h1 c))))) := by
  refine gx_ct (L := [some (.ref y), some (.ref x), none, none, none, none]) (by decide) (Nat.le_of_ble_eq_true rfl) rfl ?_
  have hsl : sp_len c = c.1.length + 1 + c.2.2.length := rfl
  have htl := sp_txt_len c
  refine gx_bsz hwy.2.2 (fun hlen hcap hsm => ?_)
  have hs3 := sp_gd_lt hc.2.2 0
  have hlst : sp_lst c.1 < 3 := sp_gd_lt hc.1 _
  rw [show sp_p1 (m - 7) c = (m - 7 + 3 + c.2.2.getD 0 0) :: sp_cp c.2.2.tail ++ [1] from if_pos hL, show sp_h1 c = ([], c.2.1, c.2.2.tail) from if_pos hL]
  refine gx_aload_n d_Way_passShorter_0 rfl ?_
  refine gx_get fl_Way_23 d_Way_passShorter_1 hwy.1 rfl ?_
  refine gx_cV1 lk_Way_71 d_Way_passShorter_4 (ct_Word_head hwy.2.2 sp_hd3 (sp_hd1 hc) sp_hd2) (Or.inr ⟨_, _, hwy.2.2⟩) (by omega) rfl rfl (Nat.le_of_ble_eq_true rfl) ?_
  refine gx_istore_n d_Way_passShorter_7 (Nat.le_of_ble_eq_true rfl) rfl ?_
  refine gx_iload_n d_Way_passShorter_8 rfl ?_
  refine gx_if_leN (by omega) (tgt := 16) d_Way_passShorter_9 (by decide) (fun h9 => ?_) (fun h9 => ?_)
  · refine gx_iconst d_Way_passShorter_16 (nI 0) (by decide) ?_
    refine gx_istore_n d_Way_passShorter_17 (Nat.le_of_ble_eq_true rfl) rfl ?_
    refine gx_iload_n d_Way_passShorter_18 rfl ?_
    refine gx_if_eqN (by omega) (tgt := 28) d_Way_passShorter_19 (by decide) (fun h19 => ?_) (fun h19 => ?_)
    · refine gx_iload_n d_Way_passShorter_28 rfl ?_
      refine gx_iconst d_Way_passShorter_29 (nI 1) (by decide) ?_
      refine gx_iaddN d_Way_passShorter_30 ?_
      refine gx_istore d_Way_passShorter_31 (Nat.le_of_ble_eq_true rfl) rfl ?_
      refine gx_aload_n d_Way_passShorter_33 rfl ?_
      refine gx_cV1 lk_Way_94 d_Way_passShorter_34 (ct_firstEnding hx hm7) (Or.inl ⟨_, hx.1⟩) (by omega) rfl rfl (Nat.le_of_ble_eq_true rfl) ?_
      refine gx_iload_n d_Way_passShorter_37 rfl ?_
      refine gx_if_eqN (by omega) (tgt := 45) d_Way_passShorter_38 (by decide) (fun h38 => ?_) (fun h38 => ?_)
      · refine gx_iconst d_Way_passShorter_45 (nI 3) (by decide) ?_
        refine gx_iaddN d_Way_passShorter_46 ?_
        refine gx_aload_n d_Way_passShorter_47 rfl ?_
        refine gx_get fl_Way_23 d_Way_passShorter_48 hwy.1 rfl ?_
        refine gx_iload d_Way_passShorter_51 rfl ?_
        refine gx_cV1 lk_Way_78 d_Way_passShorter_53 (ct_Word_at (j := c.1.length + 1) hwy.2.2 (by omega)) (Or.inr ⟨_, _, hwy.2.2⟩) (by omega) rfl rfl (Nat.le_of_ble_eq_true rfl) ?_
        refine gx_top (congrArg nI (sp_txt_hi (i := 0) (by omega))) ?_
        refine gx_cS1 lk_Way_82 d_Way_passShorter_56 (ct_symbolOf) (by omega) rfl rfl (Nat.le_of_ble_eq_true rfl) ?_
        refine gx_top (show _ = nI (c.2.2.getD 0 0) by rw [pk_sub (by omega), Nat.add_sub_cancel_left]) ?_
        refine gx_iaddN d_Way_passShorter_59 ?_
        refine gx_istore d_Way_passShorter_60 (Nat.le_of_ble_eq_true rfl) rfl ?_
        refine gx_aload_n d_Way_passShorter_62 rfl ?_
        refine gx_aload_n d_Way_passShorter_63 rfl ?_
        refine gx_get fl_Way_23 d_Way_passShorter_64 hwy.1 rfl ?_
        refine gx_iload_n d_Way_passShorter_67 rfl ?_
        refine gx_iload d_Way_passShorter_68 rfl ?_
        refine gx_min lk_Way_97 (by omega) (Nat.le_of_ble_eq_true rfl) d_Way_passShorter_70 ?_
        refine gx_top ((gx_mnI (by omega) (by omega)).trans (congrArg nI (Nat.min_eq_left (by omega)))) ?_
        refine gx_iload_n d_Way_passShorter_73 rfl ?_
        refine gx_iload d_Way_passShorter_74 rfl ?_
        refine gx_max lk_Way_103 (by omega) (Nat.le_of_ble_eq_true rfl) d_Way_passShorter_76 ?_
        refine gx_top ((gx_mxI (by omega) (by omega)).trans (congrArg nI (Nat.max_eq_right (by omega)))) ?_
        refine gx_iconst d_Way_passShorter_79 (nI 1) (by decide) ?_
        refine gx_iaddN d_Way_passShorter_80 ?_
        refine gx_iload d_Way_passShorter_81 rfl ?_
        refine gx_cV0 lk_Way_90 d_Way_passShorter_83 (ct_pass (a := c.1.length) (e := c.1.length + 1 + 1) (q := m - 7 + 3 + c.2.2.getD 0 0) hwy hwy.2.2 (by omega) (by omega) (by omega) (by omega) (fun i hi _ => sp_48 hi) (by omega)) (Or.inl ⟨_, hwy.1⟩) (by omega) rfl rfl (Nat.le_of_ble_eq_true rfl) ?_
        rw [sp_takek, show c.1.length + 1 + 1 = c.1.length + 2 from rfl, sp_dropk, sp_sy_ds, sp_sy_ds, if_pos (show c.1.length + 2 ≤ (sp_txt c).length by omega), show sp_cp c.1 = [] by rw [List.length_eq_zero_iff.mp hL]; rfl, List.append_nil]
        have hwy2 := hwy.row (p ++ (m - 7 + 3 + c.2.2.getD 0 0) :: sp_cp c.2.2.tail ++ [1])
        refine gx_aload_n d_Way_passShorter_86 rfl ?_
        refine gx_get fl_Way_23 d_Way_passShorter_87 hwy2.1 rfl ?_
        refine gx_iload d_Way_passShorter_90 rfl ?_
        refine gx_cV0 lk_Way_106 d_Way_passShorter_92 (ct_Word_remove hwy2.2.2 (by omega)) (Or.inr ⟨_, _, hwy2.2.2⟩) (by omega) rfl rfl (Nat.le_of_ble_eq_true rfl) ?_
        refine gx_return rfl d_Way_passShorter_95 ?_
        rw [show c.1.length + 1 = 1 by omega, sp_eraseB hL]
        exact ⟨rfl, by simp [List.append_assoc]⟩
      · exact absurd rfl h38
    · exact absurd rfl h19
  · exact absurd h9 (by omega)
theorem ct_passShorter {w : gx_W} {y x m : Nat} {p : List Nat} {c : sp_C} {U V : Nat → List Nat} {fo : Nat → Nat} (hwy : wyAt w y p (sp_txt c)) (hc : sp_ok c) (hx : bxAt w x m U V fo) (hm7 : 7 ≤ m) (hm60 : m ≤ 60) (hxy : x + 303 ≤ y) (hp : p.length + 12 ≤ 222) (hn : 0 < c.1.length + c.2.2.length) : gx_Ct M_Way_passShorter 4 0 0 [.ref y, .ref x] w (gx_eq none (gx_st (gx_st w (y + 1) (gx_bx 1 222 (p ++ sp_p1 (m - 7) c))) (y + 3) (gx_bx 0 10 (sp_txt (sp_h1 c))))) := by
  by_cases hL : c.1.length = 0
  · exact ct_passShorter_B hwy hc hx hm7 hm60 hxy hp hL (by omega)
  · exact ct_passShorter_A hwy hc hx hm7 hm60 hxy hp (by omega)
theorem sp_ws_len {M : sp_M} {c : sp_C} (h : sp_step M c ≠ none) : (sp_ws M c).length ≤ sp_len c := by
  unfold sp_ws
  cases hr : sp_rl M c with
  | none => simp
  | some r =>
    have htl : c.2.2.tail.length = c.2.2.length - 1 := List.length_tail
    by_cases e : sp_rt M r = 1
    · simp only [if_pos e, sp_cp, sp_len]
      by_cases e2 : c.2.2.length = 0
      · simp [e2] <;> omega
      · simp [e2] <;> omega
    · have hne : ¬ c.1.length = 0 := fun e2 => h (by unfold sp_step; rw [hr]; simp only [if_neg e, if_pos e2])
      simp only [if_neg e, sp_cp, sp_len]
      by_cases e2 : c.2.2.length = 0
      · simp [e2] <;> omega
      · simp [e2] <;> omega
theorem sp_run_ne (M : sp_M) (n : Nat) (c : sp_C) : sp_run M n c ≠ [] := by
  cases n with
  | zero => simp [sp_run]
  | succ n =>
    rw [sp_run]
    cases sp_step M c with
    | none => simp
    | some c' => simp only; split <;> simp
theorem sp_run_len (M : sp_M) : ∀ (n : Nat) (c : sp_C), (sp_run M n c).length ≤ n + 1
  | 0, c => by simp [sp_run]
  | n + 1, c => by
    rw [sp_run]
    cases sp_step M c with
    | none => simp
    | some c' =>
      simp only
      split
      · have := sp_run_len M n c'
        simp; omega
      · simp
theorem sp_run_ok {M : sp_M} (hM : sp_Mok M) : ∀ (n : Nat) (c : sp_C), sp_ok c → sp_len c ≤ 10 → ∀ k, k ∈ sp_run M n c → sp_ok k ∧ sp_len k ≤ 10
  | 0, c, hc, hl, k, hk => by
    rw [sp_run] at hk
    rw [List.mem_singleton.mp hk]; exact ⟨hc, hl⟩
  | n + 1, c, hc, hl, k, hk => by
    rw [sp_run] at hk
    cases hs : sp_step M c with
    | none =>
      rw [hs] at hk
      rw [List.mem_singleton.mp hk]; exact ⟨hc, hl⟩
    | some c' =>
      rw [hs] at hk
      simp only at hk
      by_cases h : sp_len c' ≤ 10
      · rw [if_pos h] at hk
        rcases List.mem_cons.mp hk with h1 | h1
        · rw [h1]; exact ⟨hc, hl⟩
        · exact sp_run_ok hM n c' (sp_step_ok hM hc hs) h k h1
      · rw [if_neg h] at hk
        rw [List.mem_singleton.mp hk]; exact ⟨hc, hl⟩
theorem sp_run_hd (M : sp_M) (n : Nat) (c d : sp_C) : (sp_run M n c).getD 0 d = c := by
  cases n with
  | zero => rfl
  | succ n =>
    rw [sp_run]
    cases sp_step M c with
    | none => rfl
    | some c' => simp only; split <;> rfl
theorem sp_run_step {M : sp_M} (d : sp_C) : ∀ (n : Nat) (c : sp_C) (i : Nat), i + 1 < (sp_run M n c).length → sp_step M ((sp_run M n c).getD i d) = some ((sp_run M n c).getD (i + 1) d)
  | 0, c, i, h => by simp [sp_run] at h
  | n + 1, c, i, h => by
    rw [sp_run] at h ⊢
    cases hs : sp_step M c with
    | none => rw [hs] at h; simp at h
    | some c' =>
      rw [hs] at h
      simp only at h ⊢
      by_cases h1 : sp_len c' ≤ 10
      · rw [if_pos h1] at h ⊢
        cases i with
        | zero =>
          show sp_step M c = some ((sp_run M n c').getD 0 d)
          rw [sp_run_hd, hs]
        | succ i =>
          show sp_step M ((sp_run M n c').getD i d) = some ((sp_run M n c').getD (i + 1) d)
          exact sp_run_step d n c' i (by simpa using h)
      · rw [if_neg h1] at h
        simp at h
theorem sp_step_rls {M : sp_M} {c c' : sp_C} (h : sp_step M c = some c') : ∃ r, sp_rl M c = some r := by
  obtain ⟨r, hr, -⟩ := sp_step_rl h
  exact ⟨r, hr⟩
theorem gx_tk_snoc {l : List sp_C} {k : Nat} {d : sp_C} (h : k < l.length) : l.take (k + 1) = l.take k ++ [l.getD k d] := by
  rw [List.take_succ, List.getD_eq_getElem?_getD, List.getElem?_eq_getElem h]
  rfl
theorem gx_gdc_mem {l : List sp_C} {k : Nat} {d : sp_C} (h : k < l.length) : l.getD k d ∈ l := by
  rw [List.getD_eq_getElem?_getD, List.getElem?_eq_getElem h]
  exact List.getElem_mem h
theorem d_Way_trace_0 : decode prog_8_method_3_code 0 = .ok (.aload_n 0, 1) := by decide +kernel
theorem d_Way_trace_1 : decode prog_8_method_3_code 1 = .ok (.getfield 14, 3) := by decide +kernel
theorem d_Way_trace_4 : decode prog_8_method_3_code 4 = .ok (.invokevirtual 27, 3) := by decide +kernel
theorem d_Way_trace_7 : decode prog_8_method_3_code 7 = .ok (.aload_n 2, 1) := by decide +kernel
theorem d_Way_trace_8 : decode prog_8_method_3_code 8 = .ok (.invokevirtual 30, 3) := by decide +kernel
theorem d_Way_trace_11 : decode prog_8_method_3_code 11 = .ok (.ifCond .ne 4, 3) := by decide +kernel
theorem d_Way_trace_14 : decode prog_8_method_3_code 14 = .ok (.return_, 1) := by decide +kernel
theorem d_Way_trace_15 : decode prog_8_method_3_code 15 = .ok (.aload_n 0, 1) := by decide +kernel
theorem d_Way_trace_16 : decode prog_8_method_3_code 16 = .ok (.getfield 14, 3) := by decide +kernel
theorem d_Way_trace_19 : decode prog_8_method_3_code 19 = .ok (.iconst 0, 1) := by decide +kernel
theorem d_Way_trace_20 : decode prog_8_method_3_code 20 = .ok (.invokevirtual 36, 3) := by decide +kernel
theorem d_Way_trace_23 : decode prog_8_method_3_code 23 = .ok (.iconst 0, 1) := by decide +kernel
theorem d_Way_trace_24 : decode prog_8_method_3_code 24 = .ok (.istore 4, 2) := by decide +kernel
theorem d_Way_trace_26 : decode prog_8_method_3_code 26 = .ok (.iload 4, 2) := by decide +kernel
theorem d_Way_trace_28 : decode prog_8_method_3_code 28 = .ok (.aload_n 2, 1) := by decide +kernel
theorem d_Way_trace_29 : decode prog_8_method_3_code 29 = .ok (.invokevirtual 39, 3) := by decide +kernel
theorem d_Way_trace_32 : decode prog_8_method_3_code 32 = .ok (.if_icmp .ge 21, 3) := by decide +kernel
theorem d_Way_trace_35 : decode prog_8_method_3_code 35 = .ok (.aload_n 0, 1) := by decide +kernel
theorem d_Way_trace_36 : decode prog_8_method_3_code 36 = .ok (.aload_n 1, 1) := by decide +kernel
theorem d_Way_trace_37 : decode prog_8_method_3_code 37 = .ok (.aload_n 2, 1) := by decide +kernel
theorem d_Way_trace_38 : decode prog_8_method_3_code 38 = .ok (.iload 4, 2) := by decide +kernel
theorem d_Way_trace_40 : decode prog_8_method_3_code 40 = .ok (.invokevirtual 43, 3) := by decide +kernel
theorem d_Way_trace_43 : decode prog_8_method_3_code 43 = .ok (.aload_n 3, 1) := by decide +kernel
theorem d_Way_trace_44 : decode prog_8_method_3_code 44 = .ok (.invokevirtual 47, 3) := by decide +kernel
theorem d_Way_trace_47 : decode prog_8_method_3_code 47 = .ok (.iinc 4 1, 3) := by decide +kernel
theorem d_Way_trace_50 : decode prog_8_method_3_code 50 = .ok (.goto (-24), 3) := by decide +kernel
theorem d_Way_trace_53 : decode prog_8_method_3_code 53 = .ok (.aload_n 0, 1) := by decide +kernel
theorem d_Way_trace_54 : decode prog_8_method_3_code 54 = .ok (.getfield 23, 3) := by decide +kernel
theorem d_Way_trace_57 : decode prog_8_method_3_code 57 = .ok (.aload_n 2, 1) := by decide +kernel
theorem d_Way_trace_58 : decode prog_8_method_3_code 58 = .ok (.aload_n 2, 1) := by decide +kernel
theorem d_Way_trace_59 : decode prog_8_method_3_code 59 = .ok (.invokevirtual 39, 3) := by decide +kernel
theorem d_Way_trace_62 : decode prog_8_method_3_code 62 = .ok (.invokevirtual 43, 3) := by decide +kernel
theorem d_Way_trace_65 : decode prog_8_method_3_code 65 = .ok (.invokevirtual 51, 3) := by decide +kernel
theorem d_Way_trace_68 : decode prog_8_method_3_code 68 = .ok (.aload_n 0, 1) := by decide +kernel
theorem d_Way_trace_69 : decode prog_8_method_3_code 69 = .ok (.getfield 23, 3) := by decide +kernel
theorem d_Way_trace_72 : decode prog_8_method_3_code 72 = .ok (.invokevirtual 55, 3) := by decide +kernel
theorem d_Way_trace_75 : decode prog_8_method_3_code 75 = .ok (.istore 4, 2) := by decide +kernel
theorem d_Way_trace_77 : decode prog_8_method_3_code 77 = .ok (.iload 4, 2) := by decide +kernel
theorem d_Way_trace_79 : decode prog_8_method_3_code 79 = .ok (.iconst 1, 1) := by decide +kernel
theorem d_Way_trace_80 : decode prog_8_method_3_code 80 = .ok (.if_icmp .le 14, 3) := by decide +kernel
theorem d_Way_trace_83 : decode prog_8_method_3_code 83 = .ok (.aload_n 0, 1) := by decide +kernel
theorem d_Way_trace_84 : decode prog_8_method_3_code 84 = .ok (.aload_n 3, 1) := by decide +kernel
theorem d_Way_trace_85 : decode prog_8_method_3_code 85 = .ok (.invokevirtual 58, 3) := by decide +kernel
theorem d_Way_trace_88 : decode prog_8_method_3_code 88 = .ok (.iinc 4 (-1), 3) := by decide +kernel
theorem d_Way_trace_91 : decode prog_8_method_3_code 91 = .ok (.goto (-14), 3) := by decide +kernel
theorem d_Way_trace_94 : decode prog_8_method_3_code 94 = .ok (.aload_n 0, 1) := by decide +kernel
theorem d_Way_trace_95 : decode prog_8_method_3_code 95 = .ok (.getfield 14, 3) := by decide +kernel
theorem d_Way_trace_98 : decode prog_8_method_3_code 98 = .ok (.aload_n 3, 1) := by decide +kernel
theorem d_Way_trace_99 : decode prog_8_method_3_code 99 = .ok (.invokevirtual 62, 3) := by decide +kernel
theorem d_Way_trace_102 : decode prog_8_method_3_code 102 = .ok (.iconst 1, 1) := by decide +kernel
theorem d_Way_trace_103 : decode prog_8_method_3_code 103 = .ok (.isub, 1) := by decide +kernel
theorem d_Way_trace_104 : decode prog_8_method_3_code 104 = .ok (.invokevirtual 36, 3) := by decide +kernel
theorem d_Way_trace_107 : decode prog_8_method_3_code 107 = .ok (.return_, 1) := by decide +kernel
theorem lp_trace1 {Q : gx_P} {w0 : gx_W} {a r x y : Nat} {M : sp_M} {t : List Nat} {rs : List sp_C} {ds : List (List Nat × List Nat)} {fo : Nat → Nat} {c0 : sp_C} (hm : mcAt w0 a M t) (hM : sp_Mok M) (hr : rnOk w0 r rs) (hrs : rs = sp_run M 12 c0) (hc0 : sp_ok c0) (hl0 : sp_len c0 ≤ 10) (hb : bxOk w0 x ds fo) (hfo : ∀ i, i < 12 → fo i = sp_fo M i) (hd7 : 7 ≤ ds.length) (ha : a + 7 ≤ r) (hrx : r + 28 ≤ x) (hxy : x + 303 ≤ y)  : ∀ (fu : Nat) (k : Nat) (p : List Nat) (w : gx_W) (tr : List Nat), rs.length - k < fu → (gx_kp w0 w y (y + 5)) → (wyAt w y p tr) → (p = 0 :: (rs.take k).flatMap (sp_ws M)) → (p.length ≤ 1 + 10 * k) → (k ≤ rs.length - 1) → (∀ w' p', gx_kp w0 w' y (y + 5) → wyAt w' y p' tr → p' = 0 :: (rs.take (rs.length - 1)).flatMap (sp_ws M) → p'.length ≤ 1 + 10 * (rs.length - 1) → gx_X (fun _ _ => True) M_Way_trace 5 Q 53 [some (.ref y), some (.ref a), some (.ref r), some (.ref x), some (.int (nI (rs.length - 1)))] [] w' (0, 0)) → gx_X (fun _ _ => True) M_Way_trace 5 Q 26 [some (.ref y), some (.ref a), some (.ref r), some (.ref x), some (.int (nI k))] [] w (0, 0) := by
  intro fu
  induction fu with
  | zero => intro k p w tr hfu; exact absurd hfu (Nat.not_lt_zero _)
  | succ fu ih =>
    intro k p w tr hfu hk hwy hp hpl hkn hX
    obtain ⟨hne, h13, T, hr1, hT⟩ := hr.kept hk (by omega)
    obtain ⟨hd60, U, V, hb1, hd⟩ := hb.kept hk (by omega)
    have hm1 := hm.kept hk (by omega)
    have hpos : 0 < rs.length := List.length_pos_iff.mpr hne
    refine gx_iload d_Way_trace_26 rfl ?_
    refine gx_aload_n d_Way_trace_28 rfl ?_
    refine gx_cV1 lk_Way_39 d_Way_trace_29 (ct_stepCount hr1) (Or.inl ⟨_, hr1.1⟩) (by omega) rfl rfl (Nat.le_of_ble_eq_true rfl) ?_
    refine gx_icmp_geN (by omega) (by omega) (tgt := 53) d_Way_trace_32 (by decide) (fun h32 => ?_) (fun h32 => ?_)
    · have e : k = rs.length - 1 := by omega
      rw [e] at hp hpl ⊢
      exact hX w p hk hwy hp hpl
    · refine gx_aload_n d_Way_trace_35 rfl ?_
      refine gx_aload_n d_Way_trace_36 rfl ?_
      refine gx_aload_n d_Way_trace_37 rfl ?_
      refine gx_iload d_Way_trace_38 rfl ?_
      refine gx_cV1 lk_Way_43 d_Way_trace_40 (ct_text hr1 hkn (by omega)) (Or.inl ⟨_, hr1.1⟩) (by omega) rfl rfl (Nat.le_of_ble_eq_true rfl) ?_
      refine gx_aload_n d_Way_trace_43 rfl ?_
      have hkl : k + 1 < rs.length := by omega
      have hmem := gx_gdc_mem (d := ([], 0, [])) (show k < rs.length by omega)
      have hok : sp_ok (rs.getD k ([], 0, [])) ∧ sp_len (rs.getD k ([], 0, [])) ≤ 10 := by
        rw [hrs] at hmem ⊢
        exact sp_run_ok hM 12 c0 hc0 hl0 _ hmem
      have hstep : sp_step M (rs.getD k ([], 0, [])) = some (rs.getD (k + 1) ([], 0, [])) := by
        rw [hrs] at hkl ⊢
        exact sp_run_step _ 12 c0 k hkl
      obtain ⟨r9, hr9⟩ := sp_step_rls hstep
      have hwt : w.1 (r + 2 + 2 * k) = some (gx_bx 0 11 (sp_txt (rs.getD k ([], 0, [])))) := by rw [hr1.2.2 k (by omega), hT k (by omega)]
      have hwl := sp_ws_len (M := M) (c := rs.getD k ([], 0, [])) (by rw [hstep]; exact fun h => by cases h)
      refine gx_cV0 lk_Way_47 d_Way_trace_44 (ct_passStep hwy hm1 hM hwt hok.1 hok.2 hb1 hfo (by omega) hr9 (by omega) (by rw [hstep]; exact fun h => by cases h)) (Or.inl ⟨_, hwy.1⟩) (by omega) rfl rfl (Nat.le_of_ble_eq_true rfl) ?_
      refine gx_iincN (n := 1) d_Way_trace_47 rfl (by decide) (Nat.le_of_ble_eq_true rfl) rfl ?_
      refine gx_goto (tgt := 26) d_Way_trace_50 (by decide) ?_
      refine ih (k + 1) _ _ tr (by omega) (hk.trans (gx_kp.st (by omega) (by omega))) (hwy.row _) ?_ ?_ (by omega) hX
      · rw [hp, gx_tk_snoc (d := ([], 0, [])) (by omega), List.flatMap_append]
        simp
      · rw [List.length_append]; omega
theorem lp_trace2 {Q : gx_P} {w0 : gx_W} {a r x y : Nat} {M : sp_M} {t : List Nat} {rs : List sp_C} {ds : List (List Nat × List Nat)} {fo : Nat → Nat} {c0 : sp_C} (hm : mcAt w0 a M t) (hM : sp_Mok M) (hr : rnOk w0 r rs) (hrs : rs = sp_run M 12 c0) (hc0 : sp_ok c0) (hl0 : sp_len c0 ≤ 10) (hb : bxOk w0 x ds fo) (hfo : ∀ i, i < 12 → fo i = sp_fo M i) (hd7 : 7 ≤ ds.length) (ha : a + 7 ≤ r) (hrx : r + 28 ≤ x) (hxy : x + 303 ≤ y)  : ∀ (fu : Nat) (n : Nat) (c : sp_C) (p : List Nat) (w : gx_W), n < fu → (gx_kp w0 w y (y + 5)) → (wyAt w y p (sp_txt c)) → (sp_ok c) → (c.1.length + c.2.2.length = n) → (n ≤ 9) → (p.length + 11 * n ≤ 221) → (∀ w' t', gx_kp w0 w' y (y + 5) → wyAt w' y (p ++ sp_hw (ds.length - 7) n c.1 c.2.2) t' → gx_X (fun _ _ => True) M_Way_trace 5 Q 94 [some (.ref y), some (.ref a), some (.ref r), some (.ref x), some (.int (nI 1))] [] w' (0, 0)) → gx_X (fun _ _ => True) M_Way_trace 5 Q 77 [some (.ref y), some (.ref a), some (.ref r), some (.ref x), some (.int (nI (n + 1)))] [] w (0, 0) := by
  intro fu
  induction fu with
  | zero => intro n c p w hfu; exact absurd hfu (Nat.not_lt_zero _)
  | succ fu ih =>
    intro n c p w hfu hk hwy hc hn hn9 hpl hX
    obtain ⟨hne, h13, T, hr1, hT⟩ := hr.kept hk (by omega)
    obtain ⟨hd60, U, V, hb1, hd⟩ := hb.kept hk (by omega)
    have hm1 := hm.kept hk (by omega)
    have hpos : 0 < rs.length := List.length_pos_iff.mpr hne
    refine gx_iload d_Way_trace_77 rfl ?_
    refine gx_iconst d_Way_trace_79 (nI 1) (by decide) ?_
    refine gx_icmp_leN (by omega) (by omega) (tgt := 94) d_Way_trace_80 (by decide) (fun h80 => ?_) (fun h80 => ?_)
    · have e : n = 0 := by omega
      subst e
      exact hX w _ hk (by simpa [sp_hw] using hwy)
    · obtain ⟨n2, rfl⟩ : ∃ n2, n = n2 + 1 := ⟨n - 1, by omega⟩
      have hp1 := sp_p1_len (e := ds.length - 7) (c := c)
      refine gx_aload_n d_Way_trace_83 rfl ?_
      refine gx_aload_n d_Way_trace_84 rfl ?_
      refine gx_cV0 lk_Way_58 d_Way_trace_85 (ct_passShorter hwy hc hb1 hd7 hd60 hxy (by omega) (by omega)) (Or.inl ⟨_, hwy.1⟩) (by omega) rfl rfl (Nat.le_of_ble_eq_true rfl) ?_
      refine gx_iincM d_Way_trace_88 rfl (by decide) (Nat.le_of_ble_eq_true rfl) rfl ?_
      refine gx_goto (tgt := 77) d_Way_trace_91 (by decide) ?_
      refine ih n2 (sp_h1 c) (p ++ sp_p1 (ds.length - 7) c) _ (by omega) ((hk.trans (gx_kp.st (by omega) (by omega))).trans (gx_kp.st (by omega) (by omega))) ((hwy.row _).rest _) (sp_h1_ok hc) (sp_h1_n hn) (by omega) (by rw [List.length_append]; omega) (fun w' t' h1 h2 => hX w' t' h1 ?_)
      rw [sp_hw_succ, ← List.append_assoc]
      exact h2
def sp_wy (M : sp_M) (rs : List sp_C) (n : Nat) : List Nat := 0 :: (rs.take (rs.length - 1)).flatMap (sp_ws M) ++ sp_hw (n - 7) ((rs.getD (rs.length - 1) ([], 0, [])).1.length + (rs.getD (rs.length - 1) ([], 0, [])).2.2.length) (rs.getD (rs.length - 1) ([], 0, [])).1 (rs.getD (rs.length - 1) ([], 0, [])).2.2 ++ [n - 1]
theorem sp_hw_len (e : Nat) : ∀ (n : Nat) (c : sp_C), c.1.length + c.2.2.length = n → (sp_hw e n c.1 c.2.2).length ≤ n * (n + 2)
  | 0, c, _ => by simp [sp_hw]
  | n + 1, c, h => by
    rw [sp_hw_succ, List.length_append]
    have h1 := sp_p1_len (e := e) (c := c)
    have h2 := sp_hw_len e n (sp_h1 c) (sp_h1_n h)
    have h3 : n * (n + 2) ≤ n * (n + 1 + 2) := Nat.mul_le_mul_left n (by omega)
    have h4 : (n + 1) * (n + 1 + 2) = n * (n + 1 + 2) + (n + 1 + 2) := by rw [Nat.succ_mul]
    omega
theorem ct_trace {w : gx_W} {a r x y : Nat} {M : sp_M} {t : List Nat} {rs : List sp_C} {ds : List (List Nat × List Nat)} {fo : Nat → Nat} {c0 : sp_C} (hm : mcAt w a M t) (hM : sp_Mok M) (hr : rnOk w r rs) (hrs : rs = sp_run M 12 c0) (hc0 : sp_ok c0) (hl0 : sp_len c0 ≤ 10) {p0 tr : List Nat} {c : sp_C} (hwy : wyAt w y p0 tr) (hlast : rs.getD (rs.length - 1) ([], 0, []) = c) (hb : bxOk w x ds fo) (hfo : ∀ i, i < 12 → fo i = sp_fo M i) (hd7 : 7 ≤ ds.length) (ha : a + 7 ≤ r) (hrx : r + 28 ≤ x) (hxy : x + 303 ≤ y)  : gx_Ct M_Way_trace 5 0 0 [.ref y, .ref a, .ref r, .ref x] w (fun v w' => v = none ∧ gx_kp w w' y (y + 5) ∧ ∃ t', wyAt w' y (if c.2.1 = 4 then sp_wy M rs ds.length else []) t') := by
  refine gx_ct (L := [some (.ref y), some (.ref a), some (.ref r), some (.ref x), none]) (by decide) (Nat.le_of_ble_eq_true rfl) rfl ?_
  have hr0 := hr
  have hb0 := hb
  obtain ⟨hne, h13, T, hr1, hT⟩ := hr
  obtain ⟨hd60, U, V, hb1, hd⟩ := hb
  have hpos : 0 < rs.length := List.length_pos_iff.mpr hne
  have hcok : sp_ok c ∧ sp_len c ≤ 10 := by
    have hmem := gx_gdc_mem (d := ([], 0, [])) (show rs.length - 1 < rs.length by omega)
    rw [hlast] at hmem
    rw [hrs] at hmem
    exact sp_run_ok hM 12 c0 hc0 hl0 _ hmem
  have hbt := Bool.toNat_le (decide (c.2.1 = 4))
  refine gx_aload_n d_Way_trace_0 rfl ?_
  refine gx_get fl_Way_14 d_Way_trace_1 hwy.1 rfl ?_
  refine gx_cV0 lk_Way_27 d_Way_trace_4 (ct_Row_empty hwy.2.1) (Or.inr ⟨_, _, hwy.2.1⟩) (by omega) rfl rfl (Nat.le_of_ble_eq_true rfl) ?_
  have k1 : gx_kp w (gx_st w (y + 1) (gx_bx 1 222 [])) y (y + 5) := gx_kp.st (by omega) (by omega)
  have hwy1 := hwy.row []
  have hr2 := hr0.kept k1 (by omega)
  refine gx_aload_n d_Way_trace_7 rfl ?_
  refine gx_cV1 lk_Way_30 d_Way_trace_8 (ct_isHalted hr2 hcok.1 hlast) (Or.inl ⟨_, (hr1.kept k1 (by omega)).1⟩) (by omega) rfl rfl (Nat.le_of_ble_eq_true rfl) ?_
  refine gx_if_neN (by omega) (tgt := 15) d_Way_trace_11 (by decide) (fun h11 => ?_) (fun h11 => ?_)
  · have hh : c.2.1 = 4 := by cases hq : decide (c.2.1 = 4) <;> simp_all
    rw [if_pos hh]
    refine gx_aload_n d_Way_trace_15 rfl ?_
    refine gx_get fl_Way_14 d_Way_trace_16 hwy1.1 rfl ?_
    refine gx_iconst d_Way_trace_19 (nI 0) (by decide) ?_
    refine gx_cV0 lk_Way_36 d_Way_trace_20 (ct_Row_add (c := 0) hwy1.2.1 (by omega) (by simp)) (Or.inr ⟨_, _, hwy1.2.1⟩) (by omega) rfl rfl (Nat.le_of_ble_eq_true rfl) ?_
    refine gx_iconst d_Way_trace_23 (nI 0) (by decide) ?_
    refine gx_istore d_Way_trace_24 (Nat.le_of_ble_eq_true rfl) rfl ?_
    have k2 := k1.trans (gx_kp.st (w := gx_st w (y + 1) (gx_bx 1 222 [])) (a := y + 1) (x := gx_bx 1 222 ([] ++ [0])) (show y ≤ y + 1 by omega) (show y + 1 < y + 5 by omega))
    refine lp_trace1 hm hM hr0 hrs hc0 hl0 hb0 hfo hd7 ha hrx hxy (rs.length + 1) 0 ([] ++ [0]) _ tr (by omega) k2 (hwy1.row _) (by simp) (by simp) (by omega) (fun w3 p3 k3 hwy3 hp3 hl3 => ?_)
    have hr3 := hr0.kept k3 (by omega)
    obtain ⟨-, -, T3, hr4, hT3⟩ := hr3
    have hw3 : w3.1 (r + 2 + 2 * (rs.length - 1)) = some (gx_bx 0 11 (sp_txt c)) := by rw [hr4.2.2 _ (by omega), hT3 _ (by omega), hlast]
    refine gx_aload_n d_Way_trace_53 rfl ?_
    refine gx_get fl_Way_23 d_Way_trace_54 hwy3.1 rfl ?_
    refine gx_aload_n d_Way_trace_57 rfl ?_
    refine gx_aload_n d_Way_trace_58 rfl ?_
    refine gx_cV1 lk_Way_39 d_Way_trace_59 (ct_stepCount hr4) (Or.inl ⟨_, hr4.1⟩) (by omega) rfl rfl (Nat.le_of_ble_eq_true rfl) ?_
    refine gx_cV1 lk_Way_43 d_Way_trace_62 (ct_text hr4 (Nat.le_refl _) (by omega)) (Or.inl ⟨_, hr4.1⟩) (by omega) rfl rfl (Nat.le_of_ble_eq_true rfl) ?_
    refine gx_cV0 lk_Way_51 d_Way_trace_65 (ct_Word_copy hwy3.2.2 hw3 (by omega) (by rw [sp_txt_len]; exact hcok.2)) (Or.inr ⟨_, _, hwy3.2.2⟩) (by omega) rfl rfl (Nat.le_of_ble_eq_true rfl) ?_
    have hwy4 := hwy3.rest (sp_txt c)
    have k4 := k3.trans (gx_kp.st (w := w3) (a := y + 3) (x := gx_bx 0 10 (sp_txt c)) (show y ≤ y + 3 by omega) (show y + 3 < y + 5 by omega))
    refine gx_aload_n d_Way_trace_68 rfl ?_
    refine gx_get fl_Way_23 d_Way_trace_69 hwy4.1 rfl ?_
    refine gx_cV1 lk_Way_55 d_Way_trace_72 (ct_Word_size hwy4.2.2) (Or.inr ⟨_, _, hwy4.2.2⟩) (by omega) rfl rfl (Nat.le_of_ble_eq_true rfl) ?_
    have hsl : sp_len c = c.1.length + 1 + c.2.2.length := rfl
    refine gx_top (congrArg nI (show _ = c.1.length + c.2.2.length + 1 by rw [sp_txt_len]; omega)) ?_
    refine gx_istore d_Way_trace_75 (Nat.le_of_ble_eq_true rfl) rfl ?_
    have hc10 := hcok.2
    refine lp_trace2 hm hM hr0 hrs hc0 hl0 hb0 hfo hd7 ha hrx hxy (c.1.length + c.2.2.length + 1) (c.1.length + c.2.2.length) c p3 _ (by omega) k4 hwy4 hcok.1 rfl (by omega) (by omega) (fun w5 t5 k5 hwy5 => ?_)
    obtain ⟨-, U5, V5, hb5, -⟩ := hb0.kept k5 (by omega)
    have hln := sp_hw_len (ds.length - 7) (c.1.length + c.2.2.length) c rfl
    have hmm : (c.1.length + c.2.2.length) * (c.1.length + c.2.2.length + 2) ≤ 9 * 11 := Nat.mul_le_mul (by omega) (by omega)
    refine gx_aload_n d_Way_trace_94 rfl ?_
    refine gx_get fl_Way_14 d_Way_trace_95 hwy5.1 rfl ?_
    refine gx_aload_n d_Way_trace_98 rfl ?_
    refine gx_cV1 lk_Way_62 d_Way_trace_99 (ct_Box_size hb5) (Or.inl ⟨_, hb5.1⟩) (by omega) rfl rfl (Nat.le_of_ble_eq_true rfl) ?_
    refine gx_iconst d_Way_trace_102 (nI 1) (by decide) ?_
    refine gx_isubN (by omega) d_Way_trace_103 ?_
    refine gx_cV0 lk_Way_36 d_Way_trace_104 (ct_Row_add hwy5.2.1 (by omega) (by rw [List.length_append]; omega)) (Or.inr ⟨_, _, hwy5.2.1⟩) (by omega) rfl rfl (Nat.le_of_ble_eq_true rfl) ?_
    refine gx_return rfl d_Way_trace_107 ?_
    refine ⟨rfl, k5.trans (gx_kp.st (by omega) (by omega)), t5, ?_⟩
    have h9 := hwy5.row (p3 ++ sp_hw (ds.length - 7) (c.1.length + c.2.2.length) c.1 c.2.2 ++ [ds.length - 1])
    rw [show sp_wy M rs ds.length = p3 ++ sp_hw (ds.length - 7) (c.1.length + c.2.2.length) c.1 c.2.2 ++ [ds.length - 1] by unfold sp_wy; rw [hlast, hp3]]
    exact h9
  · have hh : ¬ c.2.1 = 4 := by cases hq : decide (c.2.1 = 4) <;> simp_all
    rw [if_neg hh]
    refine gx_return rfl d_Way_trace_14 ?_
    exact ⟨rfl, k1, tr, hwy1⟩
