/-! PostChain: the calls that may throw; the law's own methods about them -/
def x_IAE : String := "java/lang/IllegalArgumentException"
theorem it_IAE : Cond.instantiable "java/lang/IllegalArgumentException" 6 ∈ gx_T := gx_T_in (List.mem_append_right _ (show _ ∈ tables_1 from (List.mem_append_right _ (List.mem_append_right _ (List.mem_append_left _ (List.mem_of_getElem? (i := 174) (by decide +kernel))))))) (by decide +kernel)
theorem in_IAE : Cond.initialized "java/lang/IllegalArgumentException" ∈ gx_T := gx_T_in (List.mem_append_right _ (show _ ∈ tables_1 from (List.mem_append_left _ (List.mem_of_getElem? (i := 15) (by decide +kernel))))) (by decide +kernel)
def x_ISE : String := "java/lang/IllegalStateException"
theorem it_ISE : Cond.instantiable "java/lang/IllegalStateException" 6 ∈ gx_T := gx_T_in (List.mem_append_right _ (show _ ∈ tables_1 from (List.mem_append_right _ (List.mem_append_right _ (List.mem_append_right _ (List.mem_append_left _ (List.mem_of_getElem? (i := 38) (by decide +kernel)))))))) (by decide +kernel)
theorem in_ISE : Cond.initialized "java/lang/IllegalStateException" ∈ gx_T := gx_T_in (List.mem_append_right _ (show _ ∈ tables_1 from (List.mem_append_left _ (List.mem_of_getElem? (i := 16) (by decide +kernel))))) (by decide +kernel)
theorem tb1 {b : Bool} (h : ¬ b.toNat = 0) : b = true := by cases b <;> simp_all
theorem tb0 {b : Bool} (h : b.toNat = 0) : ¬ b = true := by cases b <;> simp_all
theorem sp_in_mono {x : Int32} (h : sp_in x 4 = true) : sp_in x 5 = true := by
  unfold sp_in at h ⊢
  simp only [Bool.and_eq_true, decide_eq_true_eq] at h ⊢
  refine ⟨h.1, ?_⟩
  have e4 : (nI 4).toInt = 4 := by decide
  have e5 : (nI 5).toInt = 5 := by decide
  have := h.2
  rw [Int32.lt_iff_toInt_lt] at this ⊢
  omega
theorem sp_in_ex {x : Int32} {k : Nat} (hk : k < 2 ^ 31) (h : sp_in x k = true) : ∃ j, j < k ∧ x = nI j := by
  unfold sp_in at h
  simp only [Bool.and_eq_true, decide_eq_true_eq] at h
  obtain ⟨j, hj, rfl⟩ := nI_of (x := x) (by have := h.1; rw [Int32.lt_iff_toInt_lt]; rw [Int32.le_iff_toInt_le] at this; omega)
  exact ⟨j, (nI_ltI hj hk).mp h.2, rfl⟩
/-- the machine, the input, what is laid, what is typed, what was looked at -/
abbrev sp_St : Type := sp_M × List Nat × List Nat × List Nat × Int32
def pcS (w : gx_W) (B : Nat) (S : sp_St) : Prop := pcAt w B S.1 S.2.1 S.2.2.1 S.2.2.2.1 S.2.2.2.2
def sp_dS (S : sp_St) : List (List Nat × List Nat) := sp_dsx S.1 S.2.1
def sp_Sok (S : sp_St) : Prop := sp_Mok S.1 ∧ sp_iok S.2.1 ∧ (∀ d ∈ S.2.2.1, d < (sp_dS S).length) ∧ S.2.2.1.length ≤ 60 ∧ S.2.2.2.1.length ≤ 60
theorem pcS.kept {w w' : gx_W} {B lo hi : Nat} {S : sp_St} (h : pcS w B S) (hk : gx_kp w w' lo hi) (hd : B + 360 ≤ lo ∨ hi ≤ B) : pcS w' B S := pcAt.kept h hk hd
def sp_fresh (M : sp_M) (inp : List Nat) : sp_St := (M, inp, [], [], -1)
theorem sp_fresh_ok {M : sp_M} {inp : List Nat} (h1 : sp_Mok M) (h2 : sp_iok inp) : sp_Sok (sp_fresh M inp) := ⟨h1, h2, (fun d hd => absurd hd (by show ¬ d ∈ []; simp)), Nat.zero_le _, Nat.zero_le _⟩
def op_rule (S : sp_St) (q s wr rt nx : Nat) : Nat × sp_St := if sp_kn S.1 (q * 3 + s) = 1 ∧ sp_wr S.1 (q * 3 + s) = wr ∧ sp_rt S.1 (q * 3 + s) = rt ∧ sp_nx S.1 (q * 3 + s) = nx then (0, S) else (1, sp_fresh (sp_lrn S.1 (q * 3 + s) wr rt nx) S.2.1)
def op_drop (S : sp_St) (q s : Nat) : Nat × sp_St := if sp_kn S.1 (q * 3 + s) = 1 then (1, sp_fresh (sp_fgt S.1 (q * 3 + s)) S.2.1) else (0, S)
def op_input (S : sp_St) (n word : Nat) : Nat × sp_St := (1, sp_fresh S.1 (sp_dg n word))
def sp_hal (S : sp_St) : Bool := decide ((sp_lc S.1 S.2.1).2.1 = 4)
def op_layWay (S : sp_St) : Int32 × sp_St := if (sp_wyx S.1 S.2.1).length ≤ 60 then (nI (sp_wyx S.1 S.2.1).length, (S.1, S.2.1, sp_wyx S.1 S.2.1, S.2.2.2.1, S.2.2.2.2)) else (-1, S)
theorem pc0.mach {w w' : gx_W} {B : Nat} {M M' : sp_M} {inp inp' : List Nat} (h : pc0 w B M inp) (hk : gx_kp w w' (B + 1) (B + 1 + 7)) (hm : mcAt w' (B + 1) M' (sp_txt (sp_c0 inp'))) : pc0 w' B M' inp' := by
  obtain ⟨h0, h1, ⟨m2, T, h2⟩, ⟨m3, U, V, fo, h3⟩, ⟨p, t, h4⟩, ⟨q, lk, op, h5⟩, ⟨l6, h6⟩, ⟨l7, h7⟩, ⟨l8, h8⟩, ⟨l9, h9⟩⟩ := h
  exact ⟨by rw [hk.2 _ (by omega)]; exact h0, hm, ⟨m2, T, h2.kept hk (by omega)⟩, ⟨m3, U, V, fo, h3.kept hk (by omega)⟩, ⟨p, t, h4.kept hk (by omega)⟩, ⟨q, lk, op, h5.kept hk (by omega)⟩, ⟨l6, by rw [hk.2 _ (by omega)]; exact h6⟩, ⟨l7, by rw [hk.2 _ (by omega)]; exact h7⟩, ⟨l8, by rw [hk.2 _ (by omega)]; exact h8⟩, ⟨l9, by rw [hk.2 _ (by omega)]; exact h9⟩⟩
theorem d_PC_rule_0 : decode prog_1_method_2_code 0 = .ok (.iload_n 1, 1) := by decide +kernel
theorem d_PC_rule_1 : decode prog_1_method_2_code 1 = .ok (.invokestatic 69, 3) := by decide +kernel
theorem d_PC_rule_4 : decode prog_1_method_2_code 4 = .ok (.ifCond .eq 17, 3) := by decide +kernel
theorem d_PC_rule_7 : decode prog_1_method_2_code 7 = .ok (.iload_n 2, 1) := by decide +kernel
theorem d_PC_rule_8 : decode prog_1_method_2_code 8 = .ok (.invokestatic 73, 3) := by decide +kernel
theorem d_PC_rule_11 : decode prog_1_method_2_code 11 = .ok (.ifCond .eq 10, 3) := by decide +kernel
theorem d_PC_rule_14 : decode prog_1_method_2_code 14 = .ok (.iload_n 3, 1) := by decide +kernel
theorem d_PC_rule_15 : decode prog_1_method_2_code 15 = .ok (.invokestatic 73, 3) := by decide +kernel
theorem d_PC_rule_18 : decode prog_1_method_2_code 18 = .ok (.ifCond .ne 13, 3) := by decide +kernel
theorem d_PC_rule_21 : decode prog_1_method_2_code 21 = .ok (.new 76, 3) := by decide +kernel
theorem d_PC_rule_24 : decode prog_1_method_2_code 24 = .ok (.dup, 1) := by decide +kernel
theorem d_PC_rule_25 : decode prog_1_method_2_code 25 = .ok (.ldc 78, 2) := by decide +kernel
theorem d_PC_rule_27 : decode prog_1_method_2_code 27 = .ok (.invokespecial 80, 3) := by decide +kernel
theorem d_PC_rule_30 : decode prog_1_method_2_code 30 = .ok (.athrow, 1) := by decide +kernel
theorem d_PC_rule_31 : decode prog_1_method_2_code 31 = .ok (.iload 5, 2) := by decide +kernel
theorem d_PC_rule_33 : decode prog_1_method_2_code 33 = .ok (.iconst 4, 1) := by decide +kernel
theorem d_PC_rule_34 : decode prog_1_method_2_code 34 = .ok (.if_icmp .eq 21, 3) := by decide +kernel
theorem d_PC_rule_37 : decode prog_1_method_2_code 37 = .ok (.iload 5, 2) := by decide +kernel
theorem d_PC_rule_39 : decode prog_1_method_2_code 39 = .ok (.invokestatic 69, 3) := by decide +kernel
theorem d_PC_rule_42 : decode prog_1_method_2_code 42 = .ok (.ifCond .ne 13, 3) := by decide +kernel
theorem d_PC_rule_45 : decode prog_1_method_2_code 45 = .ok (.new 76, 3) := by decide +kernel
theorem d_PC_rule_48 : decode prog_1_method_2_code 48 = .ok (.dup, 1) := by decide +kernel
theorem d_PC_rule_49 : decode prog_1_method_2_code 49 = .ok (.ldc 83, 2) := by decide +kernel
theorem d_PC_rule_51 : decode prog_1_method_2_code 51 = .ok (.invokespecial 80, 3) := by decide +kernel
theorem d_PC_rule_54 : decode prog_1_method_2_code 54 = .ok (.athrow, 1) := by decide +kernel
theorem d_PC_rule_55 : decode prog_1_method_2_code 55 = .ok (.aload_n 0, 1) := by decide +kernel
theorem d_PC_rule_56 : decode prog_1_method_2_code 56 = .ok (.getfield 12, 3) := by decide +kernel
theorem d_PC_rule_59 : decode prog_1_method_2_code 59 = .ok (.iload_n 1, 1) := by decide +kernel
theorem d_PC_rule_60 : decode prog_1_method_2_code 60 = .ok (.iload_n 2, 1) := by decide +kernel
theorem d_PC_rule_61 : decode prog_1_method_2_code 61 = .ok (.invokestatic 85, 3) := by decide +kernel
theorem d_PC_rule_64 : decode prog_1_method_2_code 64 = .ok (.iload_n 3, 1) := by decide +kernel
theorem d_PC_rule_65 : decode prog_1_method_2_code 65 = .ok (.iload 4, 2) := by decide +kernel
theorem d_PC_rule_67 : decode prog_1_method_2_code 67 = .ok (.iload 5, 2) := by decide +kernel
theorem d_PC_rule_69 : decode prog_1_method_2_code 69 = .ok (.invokevirtual 89, 3) := by decide +kernel
theorem d_PC_rule_72 : decode prog_1_method_2_code 72 = .ok (.ifCond .ne 5, 3) := by decide +kernel
theorem d_PC_rule_75 : decode prog_1_method_2_code 75 = .ok (.iconst 0, 1) := by decide +kernel
theorem d_PC_rule_76 : decode prog_1_method_2_code 76 = .ok (.ireturn, 1) := by decide +kernel
theorem d_PC_rule_77 : decode prog_1_method_2_code 77 = .ok (.aload_n 0, 1) := by decide +kernel
theorem d_PC_rule_78 : decode prog_1_method_2_code 78 = .ok (.invokevirtual 66, 3) := by decide +kernel
theorem d_PC_rule_81 : decode prog_1_method_2_code 81 = .ok (.iconst 1, 1) := by decide +kernel
theorem d_PC_rule_82 : decode prog_1_method_2_code 82 = .ok (.ireturn, 1) := by decide +kernel
theorem th_rule {w : gx_W} {B : Nat} {p0 p1 p2 p3 p4 : Int32} (hbad : ¬ (sp_in p0 4 = true ∧ sp_in p1 3 = true ∧ sp_in p2 3 = true ∧ sp_in p4 5 = true)) : gx_X (fun _ _ => True) M_PC_rule 7 (fun _ _ => False, fun C w' => C = "java/lang/IllegalArgumentException" ∧ w' = gx_gr w 1) 0 [some (.ref B), some (.int p0), some (.int p1), some (.int p2), some (.int p3), some (.int p4)] [] w (0 + 1, 0 + 6) := by
  have t0 := Bool.toNat_le (sp_in p0 4)
  have t1 := Bool.toNat_le (sp_in p1 3)
  have t2 := Bool.toNat_le (sp_in p2 3)
  have t4 := Bool.toNat_le (sp_in p4 4)
  refine gx_iload_n d_PC_rule_0 rfl ?_
  refine gx_cS1 lk_PC_69 d_PC_rule_1 (ct_isState) (by omega) rfl rfl (Nat.le_of_ble_eq_true rfl) ?_
  refine gx_if_eqN (by omega) (tgt := 21) d_PC_rule_4 (by decide) (fun h4 => ?_) (fun h4 => ?_)
  · exact gx_throw (X := "java/lang/IllegalArgumentException") (tx := "no such state or symbol") rfl gx_xaA (by decide +kernel) (by omega) cl_PC_76 it_IAE in_IAE (by decide) d_PC_rule_21 d_PC_rule_24 d_PC_rule_25 d_PC_rule_27 d_PC_rule_30 ⟨rfl, rfl⟩
  · refine gx_iload_n d_PC_rule_7 rfl ?_
    refine gx_cS1 lk_PC_73 d_PC_rule_8 (ct_isSymbol) (by omega) rfl rfl (Nat.le_of_ble_eq_true rfl) ?_
    refine gx_if_eqN (by omega) (tgt := 21) d_PC_rule_11 (by decide) (fun h11 => ?_) (fun h11 => ?_)
    · exact gx_throw (X := "java/lang/IllegalArgumentException") (tx := "no such state or symbol") rfl gx_xaA (by decide +kernel) (by omega) cl_PC_76 it_IAE in_IAE (by decide) d_PC_rule_21 d_PC_rule_24 d_PC_rule_25 d_PC_rule_27 d_PC_rule_30 ⟨rfl, rfl⟩
    · refine gx_iload_n d_PC_rule_14 rfl ?_
      refine gx_cS1 lk_PC_73 d_PC_rule_15 (ct_isSymbol) (by omega) rfl rfl (Nat.le_of_ble_eq_true rfl) ?_
      refine gx_if_neN (by omega) (tgt := 31) d_PC_rule_18 (by decide) (fun h18 => ?_) (fun h18 => ?_)
      · refine gx_iload d_PC_rule_31 rfl ?_
        refine gx_iconst d_PC_rule_33 (nI 4) (by decide) ?_
        refine gx_icmp_eq (tgt := 55) d_PC_rule_34 (by decide) (fun h34 => ?_) (fun h34 => ?_)
        · exact absurd ⟨tb1 h4, tb1 h11, tb1 h18, by rw [h34]; decide⟩ hbad
        · refine gx_iload d_PC_rule_37 rfl ?_
          refine gx_cS1 lk_PC_69 d_PC_rule_39 (ct_isState) (by omega) rfl rfl (Nat.le_of_ble_eq_true rfl) ?_
          refine gx_if_neN (by omega) (tgt := 55) d_PC_rule_42 (by decide) (fun h42 => ?_) (fun h42 => ?_)
          · exact absurd ⟨tb1 h4, tb1 h11, tb1 h18, sp_in_mono (tb1 h42)⟩ hbad
          · exact gx_throw (X := "java/lang/IllegalArgumentException") (tx := "no such next state") rfl gx_xaA (by decide +kernel) (by omega) cl_PC_76 it_IAE in_IAE (by decide) d_PC_rule_45 d_PC_rule_48 d_PC_rule_49 d_PC_rule_51 d_PC_rule_54 ⟨rfl, rfl⟩
      · exact gx_throw (X := "java/lang/IllegalArgumentException") (tx := "no such state or symbol") rfl gx_xaA (by decide +kernel) (by omega) cl_PC_76 it_IAE in_IAE (by decide) d_PC_rule_21 d_PC_rule_24 d_PC_rule_25 d_PC_rule_27 d_PC_rule_30 ⟨rfl, rfl⟩
theorem sg_rule0 {w : gx_W} {B : Nat} {S : sp_St} (h : pcS w B S) (hS : sp_Sok S) {q s wr rt nx : Nat} (hq : q < 4) (hs : s < 3) (hwr : wr < 3) (hrt : rt ≤ 1) (hnx : nx ≤ 4) (hP0 : pc0 w B S.1 S.2.1) (hsm : sp_same S.1 (q * 3 + s) wr rt nx) : gx_X (fun _ _ => True) M_PC_rule 7 (gx_nt (fun v w' => v = some (.int (nI (op_rule S q s wr rt nx).1)) ∧ pcS w' B (op_rule S q s wr rt nx).2 ∧ gx_kp w w' B (B + 360))) 55 [some (.ref B), some (.int (nI q)), some (.int (nI s)), some (.int (nI wr)), some (.int (nI rt)), some (.int (nI nx))] [] w (0, 0) := by
  unfold op_rule
  unfold sp_same at hsm
  rw [if_pos hsm]
  refine gx_aload_n d_PC_rule_55 rfl ?_
  refine gx_get fl_PC_12 d_PC_rule_56 hP0.1 rfl ?_
  refine gx_iload_n d_PC_rule_59 rfl ?_
  refine gx_iload_n d_PC_rule_60 rfl ?_
  refine gx_cS1 lk_PC_85 d_PC_rule_61 (ct_ruleNumber) (by omega) rfl rfl (Nat.le_of_ble_eq_true rfl) ?_
  refine gx_iload_n d_PC_rule_64 rfl ?_
  refine gx_iload d_PC_rule_65 rfl ?_
  refine gx_iload d_PC_rule_67 rfl ?_
  refine gx_cV1 lk_PC_89 d_PC_rule_69 (ct_learn_same hP0.2.1 hS.1 (show q * 3 + s < 12 by omega) hwr hrt hnx hsm) (Or.inl ⟨_, hP0.2.1.1⟩) (by omega) rfl rfl (Nat.le_of_ble_eq_true rfl) ?_
  refine gx_if_neN (by omega) (tgt := 77) d_PC_rule_72 (by decide) (fun h72 => ?_) (fun h72 => ?_)
  · exact absurd h72 (by decide)
  · refine gx_iconst d_PC_rule_75 (nI 0) (by decide) ?_
    refine gx_zreturn rfl gx_nz0 d_PC_rule_76 ?_
    exact ⟨rfl, h, gx_kp.rf⟩
theorem sg_rule1 {w : gx_W} {B : Nat} {S : sp_St} (h : pcS w B S) (hS : sp_Sok S) {q s wr rt nx : Nat} (hq : q < 4) (hs : s < 3) (hwr : wr < 3) (hrt : rt ≤ 1) (hnx : nx ≤ 4) (hP0 : pc0 w B S.1 S.2.1) (hsm : ¬ sp_same S.1 (q * 3 + s) wr rt nx) : gx_X (fun _ _ => True) M_PC_rule 7 (gx_nt (fun v w' => v = some (.int (nI (op_rule S q s wr rt nx).1)) ∧ pcS w' B (op_rule S q s wr rt nx).2 ∧ gx_kp w w' B (B + 360))) 55 [some (.ref B), some (.int (nI q)), some (.int (nI s)), some (.int (nI wr)), some (.int (nI rt)), some (.int (nI nx))] [] w (0, 0) := by
  unfold op_rule
  unfold sp_same at hsm
  rw [if_neg hsm]
  refine gx_aload_n d_PC_rule_55 rfl ?_
  refine gx_get fl_PC_12 d_PC_rule_56 hP0.1 rfl ?_
  refine gx_iload_n d_PC_rule_59 rfl ?_
  refine gx_iload_n d_PC_rule_60 rfl ?_
  refine gx_cS1 lk_PC_85 d_PC_rule_61 (ct_ruleNumber) (by omega) rfl rfl (Nat.le_of_ble_eq_true rfl) ?_
  refine gx_iload_n d_PC_rule_64 rfl ?_
  refine gx_iload d_PC_rule_65 rfl ?_
  refine gx_iload d_PC_rule_67 rfl ?_
  refine gx_cVr lk_PC_89 d_PC_rule_69 (ct_learn hP0.2.1 hS.1 (show q * 3 + s < 12 by omega) hwr hrt hnx hsm) (Or.inl ⟨_, hP0.2.1.1⟩) (by omega) rfl rfl (Nat.le_of_ble_eq_true rfl) (fun r2 w1 hq => ?_)
  obtain ⟨rfl, hm1, k1⟩ := hq
  have hP1 := hP0.mach k1 hm1
  refine gx_if_neN (by omega) (tgt := 77) d_PC_rule_72 (by decide) (fun h72 => ?_) (fun h72 => ?_)
  · refine gx_aload_n d_PC_rule_77 rfl ?_
    refine gx_cVr lk_PC_66 d_PC_rule_78 (ct_startOver hP1 (sp_lrn_ok hS.1 hwr hrt hnx) hS.2.1) (Or.inl ⟨_, hP1.1⟩) (by omega) rfl rfl (Nat.le_of_ble_eq_true rfl) (fun r2 w2 hq => ?_)
    obtain ⟨rfl, hA, k2⟩ := hq
    refine gx_iconst d_PC_rule_81 (nI 1) (by decide) ?_
    refine gx_zreturn rfl gx_nz1 d_PC_rule_82 ?_
    exact ⟨rfl, hA, (k1.mono (by omega) (by omega)).trans k2⟩
  · exact absurd h72 (by decide)
theorem ct_rule {w : gx_W} {B : Nat} {S : sp_St} (h : pcS w B S) (hS : sp_Sok S) {q s wr rt nx : Nat} (hq : q < 4) (hs : s < 3) (hwr : wr < 3) (hrt : rt ≤ 1) (hnx : nx ≤ 4) : gx_Ct M_PC_rule 7 0 0 [.ref B, .int (nI q), .int (nI s), .int (nI wr), .int (nI rt), .int (nI nx)] w (fun v w' => v = some (.int (nI (op_rule S q s wr rt nx).1)) ∧ pcS w' B (op_rule S q s wr rt nx).2 ∧ gx_kp w w' B (B + 360)) := by
  refine gx_ct (L := [some (.ref B), some (.int (nI q)), some (.int (nI s)), some (.int (nI wr)), some (.int (nI rt)), some (.int (nI nx))]) (by decide) (Nat.le_of_ble_eq_true rfl) rfl ?_
  have hP0 := pcAt.to0 h
  have o_q : sp_in (nI q) 4 = true := by rw [sp_in_nI (by omega) (by omega)]; exact decide_eq_true (by omega)
  have o_s : sp_in (nI s) 3 = true := by rw [sp_in_nI (by omega) (by omega)]; exact decide_eq_true (by omega)
  have o_wr : sp_in (nI wr) 3 = true := by rw [sp_in_nI (by omega) (by omega)]; exact decide_eq_true (by omega)
  have hin4 : sp_in (nI nx) 4 = decide (nx < 4) := sp_in_nI (by omega) (by omega)
  have t4 := Bool.toNat_le (sp_in (nI nx) 4)
  refine gx_iload_n d_PC_rule_0 rfl ?_
  refine gx_cS1 lk_PC_69 d_PC_rule_1 (ct_isState) (by omega) rfl rfl (Nat.le_of_ble_eq_true rfl) ?_
  rw [o_q]
  refine gx_if_eq (tgt := 21) d_PC_rule_4 (by decide) (fun h4 => ?_) (fun h4 => ?_)
  · exact absurd h4 (by decide)
  · refine gx_iload_n d_PC_rule_7 rfl ?_
    refine gx_cS1 lk_PC_73 d_PC_rule_8 (ct_isSymbol) (by omega) rfl rfl (Nat.le_of_ble_eq_true rfl) ?_
    rw [o_s]
    refine gx_if_eq (tgt := 21) d_PC_rule_11 (by decide) (fun h11 => ?_) (fun h11 => ?_)
    · exact absurd h11 (by decide)
    · refine gx_iload_n d_PC_rule_14 rfl ?_
      refine gx_cS1 lk_PC_73 d_PC_rule_15 (ct_isSymbol) (by omega) rfl rfl (Nat.le_of_ble_eq_true rfl) ?_
      rw [o_wr]
      refine gx_if_ne (tgt := 31) d_PC_rule_18 (by decide) (fun h18 => ?_) (fun h18 => ?_)
      · refine gx_iload d_PC_rule_31 rfl ?_
        refine gx_iconst d_PC_rule_33 (nI 4) (by decide) ?_
        refine gx_icmp_eqN (by omega) (by omega) (tgt := 55) d_PC_rule_34 (by decide) (fun h34 => ?_) (fun h34 => ?_)
        · by_cases hsm : sp_same S.1 (q * 3 + s) wr rt nx
          · exact sg_rule0 h hS hq hs hwr hrt hnx hP0 hsm
          · exact sg_rule1 h hS hq hs hwr hrt hnx hP0 hsm
        · refine gx_iload d_PC_rule_37 rfl ?_
          refine gx_cS1 lk_PC_69 d_PC_rule_39 (ct_isState) (by omega) rfl rfl (Nat.le_of_ble_eq_true rfl) ?_
          refine gx_if_neN (by omega) (tgt := 55) d_PC_rule_42 (by decide) (fun h42 => ?_) (fun h42 => ?_)
          · by_cases hsm : sp_same S.1 (q * 3 + s) wr rt nx
            · exact sg_rule0 h hS hq hs hwr hrt hnx hP0 hsm
            · exact sg_rule1 h hS hq hs hwr hrt hnx hP0 hsm
          · exact absurd (show nx < 4 by omega) (fun g => by rw [hin4, decide_eq_true g] at h42; exact absurd h42 (by decide))
      · exact absurd h18 (by decide)
theorem d_PC_drop_0 : decode prog_1_method_3_code 0 = .ok (.iload_n 1, 1) := by decide +kernel
theorem d_PC_drop_1 : decode prog_1_method_3_code 1 = .ok (.invokestatic 69, 3) := by decide +kernel
theorem d_PC_drop_4 : decode prog_1_method_3_code 4 = .ok (.ifCond .eq 10, 3) := by decide +kernel
theorem d_PC_drop_7 : decode prog_1_method_3_code 7 = .ok (.iload_n 2, 1) := by decide +kernel
theorem d_PC_drop_8 : decode prog_1_method_3_code 8 = .ok (.invokestatic 73, 3) := by decide +kernel
theorem d_PC_drop_11 : decode prog_1_method_3_code 11 = .ok (.ifCond .ne 13, 3) := by decide +kernel
theorem d_PC_drop_14 : decode prog_1_method_3_code 14 = .ok (.new 76, 3) := by decide +kernel
theorem d_PC_drop_17 : decode prog_1_method_3_code 17 = .ok (.dup, 1) := by decide +kernel
theorem d_PC_drop_18 : decode prog_1_method_3_code 18 = .ok (.ldc 78, 2) := by decide +kernel
theorem d_PC_drop_20 : decode prog_1_method_3_code 20 = .ok (.invokespecial 80, 3) := by decide +kernel
theorem d_PC_drop_23 : decode prog_1_method_3_code 23 = .ok (.athrow, 1) := by decide +kernel
theorem d_PC_drop_24 : decode prog_1_method_3_code 24 = .ok (.aload_n 0, 1) := by decide +kernel
theorem d_PC_drop_25 : decode prog_1_method_3_code 25 = .ok (.getfield 12, 3) := by decide +kernel
theorem d_PC_drop_28 : decode prog_1_method_3_code 28 = .ok (.iload_n 1, 1) := by decide +kernel
theorem d_PC_drop_29 : decode prog_1_method_3_code 29 = .ok (.iload_n 2, 1) := by decide +kernel
theorem d_PC_drop_30 : decode prog_1_method_3_code 30 = .ok (.invokestatic 85, 3) := by decide +kernel
theorem d_PC_drop_33 : decode prog_1_method_3_code 33 = .ok (.invokevirtual 93, 3) := by decide +kernel
theorem d_PC_drop_36 : decode prog_1_method_3_code 36 = .ok (.ifCond .ne 5, 3) := by decide +kernel
theorem d_PC_drop_39 : decode prog_1_method_3_code 39 = .ok (.iconst 0, 1) := by decide +kernel
theorem d_PC_drop_40 : decode prog_1_method_3_code 40 = .ok (.ireturn, 1) := by decide +kernel
theorem d_PC_drop_41 : decode prog_1_method_3_code 41 = .ok (.aload_n 0, 1) := by decide +kernel
theorem d_PC_drop_42 : decode prog_1_method_3_code 42 = .ok (.invokevirtual 66, 3) := by decide +kernel
theorem d_PC_drop_45 : decode prog_1_method_3_code 45 = .ok (.iconst 1, 1) := by decide +kernel
theorem d_PC_drop_46 : decode prog_1_method_3_code 46 = .ok (.ireturn, 1) := by decide +kernel
theorem th_drop {w : gx_W} {B : Nat} {p0 p1 : Int32} (hbad : ¬ (sp_in p0 4 = true ∧ sp_in p1 3 = true)) : gx_X (fun _ _ => True) M_PC_drop 7 (fun _ _ => False, fun C w' => C = "java/lang/IllegalArgumentException" ∧ w' = gx_gr w 1) 0 [some (.ref B), some (.int p0), some (.int p1)] [] w (0 + 1, 0 + 6) := by
  have t0 := Bool.toNat_le (sp_in p0 4)
  have t1 := Bool.toNat_le (sp_in p1 3)
  refine gx_iload_n d_PC_drop_0 rfl ?_
  refine gx_cS1 lk_PC_69 d_PC_drop_1 (ct_isState) (by omega) rfl rfl (Nat.le_of_ble_eq_true rfl) ?_
  refine gx_if_eqN (by omega) (tgt := 14) d_PC_drop_4 (by decide) (fun h4 => ?_) (fun h4 => ?_)
  · exact gx_throw (X := "java/lang/IllegalArgumentException") (tx := "no such state or symbol") rfl gx_xaA (by decide +kernel) (by omega) cl_PC_76 it_IAE in_IAE (by decide) d_PC_drop_14 d_PC_drop_17 d_PC_drop_18 d_PC_drop_20 d_PC_drop_23 ⟨rfl, rfl⟩
  · refine gx_iload_n d_PC_drop_7 rfl ?_
    refine gx_cS1 lk_PC_73 d_PC_drop_8 (ct_isSymbol) (by omega) rfl rfl (Nat.le_of_ble_eq_true rfl) ?_
    refine gx_if_neN (by omega) (tgt := 24) d_PC_drop_11 (by decide) (fun h11 => ?_) (fun h11 => ?_)
    · exact absurd ⟨tb1 h4, tb1 h11⟩ hbad
    · exact gx_throw (X := "java/lang/IllegalArgumentException") (tx := "no such state or symbol") rfl gx_xaA (by decide +kernel) (by omega) cl_PC_76 it_IAE in_IAE (by decide) d_PC_drop_14 d_PC_drop_17 d_PC_drop_18 d_PC_drop_20 d_PC_drop_23 ⟨rfl, rfl⟩
theorem sp_fgt_id {M : sp_M} {r : Nat} (h : sp_kn M r = 0) : sp_fgt M r = M := by
  obtain ⟨a, c, d, e⟩ := M
  show (sp_u a r 0, c, d, e) = _
  have : sp_u a r 0 = a := by
    funext i
    unfold sp_u
    by_cases hi : i = r
    · subst hi; rw [if_pos rfl]; exact h.symm
    · rw [if_neg hi]
  rw [this]
theorem pcC.mach {w w' : gx_W} {B : Nat} {M : sp_M} {inp laid typed : List Nat} {lk : Int32} (h : pcAt w B M inp laid typed lk) (hk : gx_kp w w' (B + 1) (B + 1 + 7)) (hm : mcAt w' (B + 1) M (sp_txt (sp_c0 inp))) : pcAt w' B M inp laid typed lk := by
  obtain ⟨⟨h0, h1, h2, ⟨fo, h3, hfo⟩, ⟨t, h4⟩, ⟨q, op, h5⟩, h6, h7⟩, ⟨l8, h8⟩, ⟨l9, h9⟩⟩ := h
  exact ⟨⟨by rw [hk.2 _ (by omega)]; exact h0, hm, h2.kept hk (by omega), ⟨fo, h3.kept hk (by omega), hfo⟩, ⟨t, h4.kept hk (by omega)⟩, ⟨q, op, h5.kept hk (by omega)⟩, by rw [hk.2 _ (by omega)]; exact h6, by rw [hk.2 _ (by omega)]; exact h7⟩, ⟨l8, by rw [hk.2 _ (by omega)]; exact h8⟩, ⟨l9, by rw [hk.2 _ (by omega)]; exact h9⟩⟩
theorem sp_drop_same {w w' : gx_W} {B r : Nat} {S : sp_St} (h : pcS w B S) (hm : mcAt w' (B + 1) (sp_fgt S.1 r) (sp_txt (sp_c0 S.2.1))) (hk : gx_kp w w' (B + 1) (B + 1 + 7)) (h0 : sp_kn S.1 r = 0) : pcS w' B S := by
  rw [sp_fgt_id h0] at hm
  exact pcC.mach h hk hm
theorem ct_drop {w : gx_W} {B : Nat} {S : sp_St} (h : pcS w B S) (hS : sp_Sok S) {q s : Nat} (hq : q < 4) (hs : s < 3) : gx_Ct M_PC_drop 7 0 0 [.ref B, .int (nI q), .int (nI s)] w (fun v w' => v = some (.int (nI (op_drop S q s).1)) ∧ pcS w' B (op_drop S q s).2 ∧ gx_kp w w' B (B + 360)) := by
  refine gx_ct (L := [some (.ref B), some (.int (nI q)), some (.int (nI s))]) (by decide) (Nat.le_of_ble_eq_true rfl) rfl ?_
  have hP0 := pcAt.to0 h
  have o_q : sp_in (nI q) 4 = true := by rw [sp_in_nI (by omega) (by omega)]; exact decide_eq_true (by omega)
  have o_s : sp_in (nI s) 3 = true := by rw [sp_in_nI (by omega) (by omega)]; exact decide_eq_true (by omega)
  have hkn := (hS.1 (q * 3 + s)).1
  unfold op_drop
  refine gx_iload_n d_PC_drop_0 rfl ?_
  refine gx_cS1 lk_PC_69 d_PC_drop_1 (ct_isState) (by omega) rfl rfl (Nat.le_of_ble_eq_true rfl) ?_
  rw [o_q]
  refine gx_if_eq (tgt := 14) d_PC_drop_4 (by decide) (fun h4 => ?_) (fun h4 => ?_)
  · exact absurd h4 (by decide)
  · refine gx_iload_n d_PC_drop_7 rfl ?_
    refine gx_cS1 lk_PC_73 d_PC_drop_8 (ct_isSymbol) (by omega) rfl rfl (Nat.le_of_ble_eq_true rfl) ?_
    rw [o_s]
    refine gx_if_ne (tgt := 24) d_PC_drop_11 (by decide) (fun h11 => ?_) (fun h11 => ?_)
    · refine gx_aload_n d_PC_drop_24 rfl ?_
      refine gx_get fl_PC_12 d_PC_drop_25 hP0.1 rfl ?_
      refine gx_iload_n d_PC_drop_28 rfl ?_
      refine gx_iload_n d_PC_drop_29 rfl ?_
      refine gx_cS1 lk_PC_85 d_PC_drop_30 (ct_ruleNumber) (by omega) rfl rfl (Nat.le_of_ble_eq_true rfl) ?_
      refine gx_cVr lk_PC_93 d_PC_drop_33 (ct_forget_rule hP0.2.1 hS.1 (show q * 3 + s < 12 by omega)) (Or.inl ⟨_, hP0.2.1.1⟩) (by omega) rfl rfl (Nat.le_of_ble_eq_true rfl) (fun r2 w1 hq => ?_)
      obtain ⟨rfl, hm1, k1⟩ := hq
      have hP1 := hP0.mach k1 hm1
      refine gx_if_neN (by omega) (tgt := 41) d_PC_drop_36 (by decide) (fun h36 => ?_) (fun h36 => ?_)
      · rw [if_pos (show sp_kn S.1 (q * 3 + s) = 1 by omega)]
        refine gx_aload_n d_PC_drop_41 rfl ?_
        refine gx_cVr lk_PC_66 d_PC_drop_42 (ct_startOver hP1 (sp_fgt_ok hS.1) hS.2.1) (Or.inl ⟨_, hP1.1⟩) (by omega) rfl rfl (Nat.le_of_ble_eq_true rfl) (fun r2 w2 hq => ?_)
        obtain ⟨rfl, hA, k2⟩ := hq
        refine gx_iconst d_PC_drop_45 (nI 1) (by decide) ?_
        refine gx_zreturn rfl gx_nz1 d_PC_drop_46 ?_
        exact ⟨rfl, hA, (k1.mono (by omega) (by omega)).trans k2⟩
      · rw [if_neg (show ¬ sp_kn S.1 (q * 3 + s) = 1 by omega)]
        refine gx_iconst d_PC_drop_39 (nI 0) (by decide) ?_
        refine gx_zreturn rfl gx_nz0 d_PC_drop_40 ?_
        exact ⟨rfl, sp_drop_same h hm1 k1 h36, k1.mono (by omega) (by omega)⟩
    · exact absurd h11 (by decide)
theorem d_PC_input_0 : decode prog_1_method_4_code 0 = .ok (.iload_n 1, 1) := by decide +kernel
theorem d_PC_input_1 : decode prog_1_method_4_code 1 = .ok (.ifCond .lt 12, 3) := by decide +kernel
theorem d_PC_input_4 : decode prog_1_method_4_code 4 = .ok (.iload_n 1, 1) := by decide +kernel
theorem d_PC_input_5 : decode prog_1_method_4_code 5 = .ok (.iconst 4, 1) := by decide +kernel
theorem d_PC_input_6 : decode prog_1_method_4_code 6 = .ok (.if_icmp .gt 7, 3) := by decide +kernel
theorem d_PC_input_9 : decode prog_1_method_4_code 9 = .ok (.iload_n 2, 1) := by decide +kernel
theorem d_PC_input_10 : decode prog_1_method_4_code 10 = .ok (.ifCond .ge 13, 3) := by decide +kernel
theorem d_PC_input_13 : decode prog_1_method_4_code 13 = .ok (.new 76, 3) := by decide +kernel
theorem d_PC_input_16 : decode prog_1_method_4_code 16 = .ok (.dup, 1) := by decide +kernel
theorem d_PC_input_17 : decode prog_1_method_4_code 17 = .ok (.ldc 96, 2) := by decide +kernel
theorem d_PC_input_19 : decode prog_1_method_4_code 19 = .ok (.invokespecial 80, 3) := by decide +kernel
theorem d_PC_input_22 : decode prog_1_method_4_code 22 = .ok (.athrow, 1) := by decide +kernel
theorem d_PC_input_23 : decode prog_1_method_4_code 23 = .ok (.aload_n 0, 1) := by decide +kernel
theorem d_PC_input_24 : decode prog_1_method_4_code 24 = .ok (.getfield 12, 3) := by decide +kernel
theorem d_PC_input_27 : decode prog_1_method_4_code 27 = .ok (.iload_n 1, 1) := by decide +kernel
theorem d_PC_input_28 : decode prog_1_method_4_code 28 = .ok (.iload_n 2, 1) := by decide +kernel
theorem d_PC_input_29 : decode prog_1_method_4_code 29 = .ok (.invokevirtual 98, 3) := by decide +kernel
theorem d_PC_input_32 : decode prog_1_method_4_code 32 = .ok (.aload_n 0, 1) := by decide +kernel
theorem d_PC_input_33 : decode prog_1_method_4_code 33 = .ok (.invokevirtual 66, 3) := by decide +kernel
theorem d_PC_input_36 : decode prog_1_method_4_code 36 = .ok (.iconst 1, 1) := by decide +kernel
theorem d_PC_input_37 : decode prog_1_method_4_code 37 = .ok (.ireturn, 1) := by decide +kernel
theorem th_input {w : gx_W} {B : Nat} {p0 p1 : Int32} (hbad : ¬ (sp_in p0 5 = true ∧ ¬ p1 < 0)) : gx_X (fun _ _ => True) M_PC_input 7 (fun _ _ => False, fun C w' => C = "java/lang/IllegalArgumentException" ∧ w' = gx_gr w 1) 0 [some (.ref B), some (.int p0), some (.int p1)] [] w (0 + 1, 0 + 6) := by
  refine gx_iload_n d_PC_input_0 rfl ?_
  refine gx_if_lt (tgt := 13) d_PC_input_1 (by decide) (fun h1 => ?_) (fun h1 => ?_)
  · exact gx_throw (X := "java/lang/IllegalArgumentException") (tx := "no such input") rfl gx_xaA (by decide +kernel) (by omega) cl_PC_76 it_IAE in_IAE (by decide) d_PC_input_13 d_PC_input_16 d_PC_input_17 d_PC_input_19 d_PC_input_22 ⟨rfl, rfl⟩
  · refine gx_iload_n d_PC_input_4 rfl ?_
    refine gx_iconst d_PC_input_5 (nI 4) (by decide) ?_
    refine gx_icmp_gt (tgt := 13) d_PC_input_6 (by decide) (fun h6 => ?_) (fun h6 => ?_)
    · exact gx_throw (X := "java/lang/IllegalArgumentException") (tx := "no such input") rfl gx_xaA (by decide +kernel) (by omega) cl_PC_76 it_IAE in_IAE (by decide) d_PC_input_13 d_PC_input_16 d_PC_input_17 d_PC_input_19 d_PC_input_22 ⟨rfl, rfl⟩
    · refine gx_iload_n d_PC_input_9 rfl ?_
      refine gx_if_ge (tgt := 23) d_PC_input_10 (by decide) (fun h10 => ?_) (fun h10 => ?_)
      · refine absurd ⟨sp_in_t h1 (fun g => ?_), fun g => ?_⟩ hbad
        · have e4 : (nI 4).toInt = 4 := by decide
          have e5 : (nI 5).toInt = 5 := by decide
          rw [Int32.lt_iff_toInt_lt] at h6
          rw [Int32.le_iff_toInt_le] at g
          omega
        · rw [Int32.lt_iff_toInt_lt] at g
          rw [Int32.le_iff_toInt_le] at h10
          omega
      · exact gx_throw (X := "java/lang/IllegalArgumentException") (tx := "no such input") rfl gx_xaA (by decide +kernel) (by omega) cl_PC_76 it_IAE in_IAE (by decide) d_PC_input_13 d_PC_input_16 d_PC_input_17 d_PC_input_19 d_PC_input_22 ⟨rfl, rfl⟩
theorem ct_input {w : gx_W} {B : Nat} {S : sp_St} (h : pcS w B S) (hS : sp_Sok S) {n word : Nat} (hn : n ≤ 4) (hword : word < 2 ^ 31) : gx_Ct M_PC_input 7 0 0 [.ref B, .int (nI n), .int (nI word)] w (fun v w' => v = some (.int (nI (op_input S n word).1)) ∧ pcS w' B (op_input S n word).2 ∧ gx_kp w w' B (B + 360)) := by
  refine gx_ct (L := [some (.ref B), some (.int (nI n)), some (.int (nI word))]) (by decide) (Nat.le_of_ble_eq_true rfl) rfl ?_
  have hP0 := pcAt.to0 h
  refine gx_iload_n d_PC_input_0 rfl ?_
  refine gx_if_ltN (by omega) (tgt := 13) d_PC_input_1 (by decide) ?_
  refine gx_iload_n d_PC_input_4 rfl ?_
  refine gx_iconst d_PC_input_5 (nI 4) (by decide) ?_
  refine gx_icmp_gtN (by omega) (by omega) (tgt := 13) d_PC_input_6 (by decide) (fun h6 => ?_) (fun h6 => ?_)
  · exact absurd h6 (by omega)
  · refine gx_iload_n d_PC_input_9 rfl ?_
    refine gx_if_geN (by omega) (tgt := 23) d_PC_input_10 (by decide) ?_
    refine gx_aload_n d_PC_input_23 rfl ?_
    refine gx_get fl_PC_12 d_PC_input_24 hP0.1 rfl ?_
    refine gx_iload_n d_PC_input_27 rfl ?_
    refine gx_iload_n d_PC_input_28 rfl ?_
    refine gx_cVr lk_PC_98 d_PC_input_29 (ct_take hP0.2.1 hn hword) (Or.inl ⟨_, hP0.2.1.1⟩) (by omega) rfl rfl (Nat.le_of_ble_eq_true rfl) (fun r2 w1 hq => ?_)
    obtain ⟨rfl, hm1, k1⟩ := hq
    have hP1 := hP0.mach k1 hm1
    refine gx_aload_n d_PC_input_32 rfl ?_
    refine gx_cVr lk_PC_66 d_PC_input_33 (ct_startOver hP1 hS.1 (sp_dg_ok hn)) (Or.inl ⟨_, hP1.1⟩) (by omega) rfl rfl (Nat.le_of_ble_eq_true rfl) (fun r2 w2 hq => ?_)
    obtain ⟨rfl, hA, k2⟩ := hq
    refine gx_iconst d_PC_input_36 (nI 1) (by decide) ?_
    refine gx_zreturn rfl gx_nz1 d_PC_input_37 ?_
    exact ⟨rfl, hA, (k1.mono (by omega) (by omega)).trans k2⟩
theorem d_PC_way_0 : decode prog_1_method_10_code 0 = .ok (.aload_n 0, 1) := by decide +kernel
theorem d_PC_way_1 : decode prog_1_method_10_code 1 = .ok (.getfield 19, 3) := by decide +kernel
theorem d_PC_way_4 : decode prog_1_method_10_code 4 = .ok (.invokevirtual 106, 3) := by decide +kernel
theorem d_PC_way_7 : decode prog_1_method_10_code 7 = .ok (.ifCond .ne 13, 3) := by decide +kernel
theorem d_PC_way_10 : decode prog_1_method_10_code 10 = .ok (.new 136, 3) := by decide +kernel
theorem d_PC_way_13 : decode prog_1_method_10_code 13 = .ok (.dup, 1) := by decide +kernel
theorem d_PC_way_14 : decode prog_1_method_10_code 14 = .ok (.ldc 138, 2) := by decide +kernel
theorem d_PC_way_16 : decode prog_1_method_10_code 16 = .ok (.invokespecial 140, 3) := by decide +kernel
theorem d_PC_way_19 : decode prog_1_method_10_code 19 = .ok (.athrow, 1) := by decide +kernel
theorem d_PC_way_20 : decode prog_1_method_10_code 20 = .ok (.aload_n 0, 1) := by decide +kernel
theorem d_PC_way_21 : decode prog_1_method_10_code 21 = .ok (.getfield 33, 3) := by decide +kernel
theorem d_PC_way_24 : decode prog_1_method_10_code 24 = .ok (.invokevirtual 141, 3) := by decide +kernel
theorem d_PC_way_27 : decode prog_1_method_10_code 27 = .ok (.iload_n 1, 1) := by decide +kernel
theorem d_PC_way_28 : decode prog_1_method_10_code 28 = .ok (.invokevirtual 145, 3) := by decide +kernel
theorem d_PC_way_31 : decode prog_1_method_10_code 31 = .ok (.ireturn, 1) := by decide +kernel
theorem th_way {w : gx_W} {B : Nat} {S : sp_St} (h : pcS w B S) (hS : sp_Sok S) {k : Int32} (hH : sp_hal S = false) : gx_X (fun _ _ => True) M_PC_way 7 (fun _ _ => False, fun C w' => C = "java/lang/IllegalStateException" ∧ w' = gx_gr w 1) 0 [some (.ref B), some (.int k)] [] w (0 + 1, 0 + 6) := by
  have hAll := h
  unfold pcS at h
  obtain ⟨⟨h0, h1, h2, ⟨fo, h3, hfo⟩, ⟨t4, h4⟩, ⟨q5, op5, h5⟩, h6, h7⟩, ⟨l8, h8⟩, ⟨l9, h9⟩⟩ := h
  have h2a := h2
  obtain ⟨hne2, h13, T2, r2, hT2⟩ := h2
  have hpos : 0 < (sp_rsx S.1 S.2.1).length := List.length_pos_iff.mpr hne2
  refine gx_aload_n d_PC_way_0 rfl ?_
  refine gx_get fl_PC_19 d_PC_way_1 h0 rfl ?_
  refine gx_cV1 lk_PC_106 d_PC_way_4 (ct_isHalted h2a (sp_lc_ok hS.1 hS.2.1) rfl) (Or.inl ⟨_, r2.1⟩) (by omega) rfl rfl (Nat.le_of_ble_eq_true rfl) ?_
  have tH : (decide ((sp_lc S.1 S.2.1).2.1 = 4)) = sp_hal S := rfl
  refine gx_top (show _ = nI (sp_hal S).toNat from rfl) ?_
  rw [hH]
  refine gx_if_ne (tgt := 20) d_PC_way_7 (by decide) (fun h7 => ?_) (fun h7 => ?_)
  · exact absurd rfl h7
  · exact gx_throw (X := "java/lang/IllegalStateException") (tx := "the run does not halt") rfl gx_xaS (by decide +kernel) (by omega) cl_PC_136 it_ISE in_ISE (by decide) d_PC_way_10 d_PC_way_13 d_PC_way_14 d_PC_way_16 d_PC_way_19 ⟨rfl, rfl⟩
theorem ct_way {w : gx_W} {B : Nat} {S : sp_St} (h : pcS w B S) (hS : sp_Sok S) {k : Int32} (hH : sp_hal S = true) : gx_Ct M_PC_way 7 0 0 [.ref B, .int k] w (gx_eq (some (.int (sp_ask (sp_wyx S.1 S.2.1) k))) w) := by
  refine gx_ct (L := [some (.ref B), some (.int k)]) (by decide) (Nat.le_of_ble_eq_true rfl) rfl ?_
  have hAll := h
  unfold pcS at h
  obtain ⟨⟨h0, h1, h2, ⟨fo, h3, hfo⟩, ⟨t4, h4⟩, ⟨q5, op5, h5⟩, h6, h7⟩, ⟨l8, h8⟩, ⟨l9, h9⟩⟩ := h
  have h2a := h2
  obtain ⟨hne2, h13, T2, r2, hT2⟩ := h2
  have hpos : 0 < (sp_rsx S.1 S.2.1).length := List.length_pos_iff.mpr hne2
  refine gx_aload_n d_PC_way_0 rfl ?_
  refine gx_get fl_PC_19 d_PC_way_1 h0 rfl ?_
  refine gx_cV1 lk_PC_106 d_PC_way_4 (ct_isHalted h2a (sp_lc_ok hS.1 hS.2.1) rfl) (Or.inl ⟨_, r2.1⟩) (by omega) rfl rfl (Nat.le_of_ble_eq_true rfl) ?_
  have tH : (decide ((sp_lc S.1 S.2.1).2.1 = 4)) = sp_hal S := rfl
  refine gx_top (show _ = nI (sp_hal S).toNat from rfl) ?_
  rw [hH]
  refine gx_if_ne (tgt := 20) d_PC_way_7 (by decide) (fun h7 => ?_) (fun h7 => ?_)
  · refine gx_aload_n d_PC_way_20 rfl ?_
    refine gx_get fl_PC_33 d_PC_way_21 h0 rfl ?_
    refine gx_cV1 lk_PC_141 d_PC_way_24 (ct_Way_row h4) (Or.inl ⟨_, h4.1⟩) (by omega) rfl rfl (Nat.le_of_ble_eq_true rfl) ?_
    refine gx_iload_n d_PC_way_27 rfl ?_
    refine gx_cV1 lk_PC_145 d_PC_way_28 (ct_Row_ask h4.2.1) (Or.inr ⟨_, _, h4.2.1⟩) (by omega) rfl rfl (Nat.le_of_ble_eq_true rfl) ?_
    refine gx_ireturn rfl d_PC_way_31 ?_
    exact ⟨rfl, rfl⟩
  · exact absurd h7 (by decide)
theorem d_PC_layWay_0 : decode prog_1_method_12_code 0 = .ok (.aload_n 0, 1) := by decide +kernel
theorem d_PC_layWay_1 : decode prog_1_method_12_code 1 = .ok (.getfield 19, 3) := by decide +kernel
theorem d_PC_layWay_4 : decode prog_1_method_12_code 4 = .ok (.invokevirtual 106, 3) := by decide +kernel
theorem d_PC_layWay_7 : decode prog_1_method_12_code 7 = .ok (.ifCond .ne 13, 3) := by decide +kernel
theorem d_PC_layWay_10 : decode prog_1_method_12_code 10 = .ok (.new 136, 3) := by decide +kernel
theorem d_PC_layWay_13 : decode prog_1_method_12_code 13 = .ok (.dup, 1) := by decide +kernel
theorem d_PC_layWay_14 : decode prog_1_method_12_code 14 = .ok (.ldc 138, 2) := by decide +kernel
theorem d_PC_layWay_16 : decode prog_1_method_12_code 16 = .ok (.invokespecial 140, 3) := by decide +kernel
theorem d_PC_layWay_19 : decode prog_1_method_12_code 19 = .ok (.athrow, 1) := by decide +kernel
theorem d_PC_layWay_20 : decode prog_1_method_12_code 20 = .ok (.aload_n 0, 1) := by decide +kernel
theorem d_PC_layWay_21 : decode prog_1_method_12_code 21 = .ok (.getfield 33, 3) := by decide +kernel
theorem d_PC_layWay_24 : decode prog_1_method_12_code 24 = .ok (.invokevirtual 141, 3) := by decide +kernel
theorem d_PC_layWay_27 : decode prog_1_method_12_code 27 = .ok (.invokevirtual 146, 3) := by decide +kernel
theorem d_PC_layWay_30 : decode prog_1_method_12_code 30 = .ok (.bipush 60, 2) := by decide +kernel
theorem d_PC_layWay_32 : decode prog_1_method_12_code 32 = .ok (.if_icmp .le 5, 3) := by decide +kernel
theorem d_PC_layWay_35 : decode prog_1_method_12_code 35 = .ok (.iconst (-1), 1) := by decide +kernel
theorem d_PC_layWay_36 : decode prog_1_method_12_code 36 = .ok (.ireturn, 1) := by decide +kernel
theorem d_PC_layWay_37 : decode prog_1_method_12_code 37 = .ok (.aload_n 0, 1) := by decide +kernel
theorem d_PC_layWay_38 : decode prog_1_method_12_code 38 = .ok (.getfield 49, 3) := by decide +kernel
theorem d_PC_layWay_41 : decode prog_1_method_12_code 41 = .ok (.aload_n 0, 1) := by decide +kernel
theorem d_PC_layWay_42 : decode prog_1_method_12_code 42 = .ok (.getfield 33, 3) := by decide +kernel
theorem d_PC_layWay_45 : decode prog_1_method_12_code 45 = .ok (.invokevirtual 141, 3) := by decide +kernel
theorem d_PC_layWay_48 : decode prog_1_method_12_code 48 = .ok (.invokevirtual 150, 3) := by decide +kernel
theorem d_PC_layWay_51 : decode prog_1_method_12_code 51 = .ok (.aload_n 0, 1) := by decide +kernel
theorem d_PC_layWay_52 : decode prog_1_method_12_code 52 = .ok (.getfield 49, 3) := by decide +kernel
theorem d_PC_layWay_55 : decode prog_1_method_12_code 55 = .ok (.invokevirtual 146, 3) := by decide +kernel
theorem d_PC_layWay_58 : decode prog_1_method_12_code 58 = .ok (.ireturn, 1) := by decide +kernel
theorem th_layWay {w : gx_W} {B : Nat} {S : sp_St} (h : pcS w B S) (hS : sp_Sok S) (hH : sp_hal S = false) : gx_X (fun _ _ => True) M_PC_layWay 7 (fun _ _ => False, fun C w' => C = "java/lang/IllegalStateException" ∧ w' = gx_gr w 1) 0 [some (.ref B)] [] w (0 + 1, 0 + 6) := by
  have hAll := h
  unfold pcS at h
  obtain ⟨⟨h0, h1, h2, ⟨fo, h3, hfo⟩, ⟨t4, h4⟩, ⟨q5, op5, h5⟩, h6, h7⟩, ⟨l8, h8⟩, ⟨l9, h9⟩⟩ := h
  have h2a := h2
  obtain ⟨hne2, h13, T2, r2, hT2⟩ := h2
  have hpos : 0 < (sp_rsx S.1 S.2.1).length := List.length_pos_iff.mpr hne2
  refine gx_aload_n d_PC_layWay_0 rfl ?_
  refine gx_get fl_PC_19 d_PC_layWay_1 h0 rfl ?_
  refine gx_cV1 lk_PC_106 d_PC_layWay_4 (ct_isHalted h2a (sp_lc_ok hS.1 hS.2.1) rfl) (Or.inl ⟨_, r2.1⟩) (by omega) rfl rfl (Nat.le_of_ble_eq_true rfl) ?_
  have tH : (decide ((sp_lc S.1 S.2.1).2.1 = 4)) = sp_hal S := rfl
  refine gx_top (show _ = nI (sp_hal S).toNat from rfl) ?_
  rw [hH]
  refine gx_if_ne (tgt := 20) d_PC_layWay_7 (by decide) (fun h7 => ?_) (fun h7 => ?_)
  · exact absurd rfl h7
  · exact gx_throw (X := "java/lang/IllegalStateException") (tx := "the run does not halt") rfl gx_xaS (by decide +kernel) (by omega) cl_PC_136 it_ISE in_ISE (by decide) d_PC_layWay_10 d_PC_layWay_13 d_PC_layWay_14 d_PC_layWay_16 d_PC_layWay_19 ⟨rfl, rfl⟩
theorem ct_layWay {w : gx_W} {B : Nat} {S : sp_St} (h : pcS w B S) (hS : sp_Sok S) (hH : sp_hal S = true) : gx_Ct M_PC_layWay 7 0 0 [.ref B] w (fun v w' => v = some (.int (op_layWay S).1) ∧ pcS w' B (op_layWay S).2 ∧ gx_kp w w' B (B + 360)) := by
  refine gx_ct (L := [some (.ref B)]) (by decide) (Nat.le_of_ble_eq_true rfl) rfl ?_
  have hAll := h
  unfold pcS at h
  obtain ⟨⟨h0, h1, h2, ⟨fo, h3, hfo⟩, ⟨t4, h4⟩, ⟨q5, op5, h5⟩, h6, h7⟩, ⟨l8, h8⟩, ⟨l9, h9⟩⟩ := h
  have h2a := h2
  obtain ⟨hne2, h13, T2, r2, hT2⟩ := h2
  have hpos : 0 < (sp_rsx S.1 S.2.1).length := List.length_pos_iff.mpr hne2
  unfold op_layWay
  refine gx_bsz h4.2.1 (fun hlen hcap hsm => ?_)
  refine gx_aload_n d_PC_layWay_0 rfl ?_
  refine gx_get fl_PC_19 d_PC_layWay_1 h0 rfl ?_
  refine gx_cV1 lk_PC_106 d_PC_layWay_4 (ct_isHalted h2a (sp_lc_ok hS.1 hS.2.1) rfl) (Or.inl ⟨_, r2.1⟩) (by omega) rfl rfl (Nat.le_of_ble_eq_true rfl) ?_
  have tH : (decide ((sp_lc S.1 S.2.1).2.1 = 4)) = sp_hal S := rfl
  refine gx_top (show _ = nI (sp_hal S).toNat from rfl) ?_
  rw [hH]
  refine gx_if_ne (tgt := 20) d_PC_layWay_7 (by decide) (fun h7 => ?_) (fun h7 => ?_)
  · refine gx_aload_n d_PC_layWay_20 rfl ?_
    refine gx_get fl_PC_33 d_PC_layWay_21 h0 rfl ?_
    refine gx_cV1 lk_PC_141 d_PC_layWay_24 (ct_Way_row h4) (Or.inl ⟨_, h4.1⟩) (by omega) rfl rfl (Nat.le_of_ble_eq_true rfl) ?_
    refine gx_cV1 lk_PC_146 d_PC_layWay_27 (ct_Row_size h4.2.1) (Or.inr ⟨_, _, h4.2.1⟩) (by omega) rfl rfl (Nat.le_of_ble_eq_true rfl) ?_
    refine gx_bipush d_PC_layWay_30 (nI 60) (by decide) ?_
    refine gx_icmp_leN (by omega) (by omega) (tgt := 37) d_PC_layWay_32 (by decide) (fun h32 => ?_) (fun h32 => ?_)
    · rw [if_pos h32]
      refine gx_aload_n d_PC_layWay_37 rfl ?_
      refine gx_get fl_PC_49 d_PC_layWay_38 h0 rfl ?_
      refine gx_aload_n d_PC_layWay_41 rfl ?_
      refine gx_get fl_PC_33 d_PC_layWay_42 h0 rfl ?_
      refine gx_cV1 lk_PC_141 d_PC_layWay_45 (ct_Way_row h4) (Or.inl ⟨_, h4.1⟩) (by omega) rfl rfl (Nat.le_of_ble_eq_true rfl) ?_
      refine gx_cV0 lk_PC_150 d_PC_layWay_48 (ct_Row_copy h6 h4.2.1 (by omega) h32) (Or.inr ⟨_, _, h6⟩) (by omega) rfl rfl (Nat.le_of_ble_eq_true rfl) ?_
      have hA2 := pcAt.laid (sp_wyx S.1 S.2.1) hAll
      refine gx_aload_n d_PC_layWay_51 rfl ?_
      refine gx_get fl_PC_49 d_PC_layWay_52 hA2.1.1 rfl ?_
      refine gx_cV1 lk_PC_146 d_PC_layWay_55 (ct_Row_size gx_st_eq) (Or.inr ⟨_, _, gx_st_eq⟩) (by omega) rfl rfl (Nat.le_of_ble_eq_true rfl) ?_
      refine gx_ireturn rfl d_PC_layWay_58 ?_
      exact ⟨rfl, hA2, gx_kp.st (by omega) (by omega)⟩
    · rw [if_neg h32]
      refine gx_iconst d_PC_layWay_35 (-1) (by decide) ?_
      refine gx_ireturn rfl d_PC_layWay_36 ?_
      exact ⟨rfl, hAll, gx_kp.rf⟩
  · exact absurd h7 (by decide)
