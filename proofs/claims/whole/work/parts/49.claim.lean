/-! the start of the law, and the claim -/
theorem arr_pr {s : State} {A : Array Value} {ty : FieldType} (h : (Cond.arrayClass ty).before A s = true) : ∃ cA, ArrOfT s cA ty ∧ s.vm.findClass ("[" ++ ty.toString) = some cA := by
  obtain ⟨c, k, comp, h1, h2, h3⟩ := Cond.arrayClass_spec h
  exact ⟨c, fun n z => ⟨fun k h => (by cases h), k, h2, comp, h3⟩, h1⟩
theorem arr_ob {s : State} {A : Array Value} {C : String} (h : (Cond.arrayOver (.object C)).before A s = true) : ∃ cA, ArrOfT s cA (.object C) ∧ va_RA s cA (.object C) := by
  obtain ⟨comp, c, k, h1, -, h2, h3, h4⟩ := Cond.arrayOver_spec h
  exact ⟨c, fun n z => ⟨fun k h => (by cases h), k, h2, comp, h3⟩, k, comp, h2, h3, h1, h4⟩
def gx_pk {α : Type} (l : List α) (d : α) : Nat → α := fun k => l.getD k d
theorem ao_W : Cond.arrayOver (.object "PostChain$Word") ∈ lw_tbl := (List.mem_append_right _ (show _ ∈ tables_1 from (List.mem_append_left _ (List.mem_of_getElem? (i := 89) (by decide +kernel)))))
theorem ao_D : Cond.arrayOver (.object "PostChain$Domino") ∈ lw_tbl := (List.mem_append_right _ (show _ ∈ tables_1 from (List.mem_append_left _ (List.mem_of_getElem? (i := 105) (by decide +kernel)))))
theorem kv_start {s : State} {A : Array Value} (hts : ∀ w ∈ lw_tbl, w.before A s = true) : ∃ (D : va_G) (ar : Nat → ClassId), va_K D gx_cl (gx_ta (D, ar, s.heap)) s := by
  have htg : ∀ w ∈ gx_T, w.before A s = true := fun w hw => hts w (List.mem_filter.mp hw).1
  obtain ⟨c0, i0, k0⟩ := u_known htg uc_Word (htg _ it_Word)
  obtain ⟨c1, i1, k1⟩ := u_known htg uc_Row (htg _ it_Row)
  obtain ⟨c2, i2, k2⟩ := u_known htg uc_Machine (htg _ it_Machine)
  obtain ⟨c3, i3, k3⟩ := u_known htg uc_Run (htg _ it_Run)
  obtain ⟨c4, i4, k4⟩ := u_known htg uc_Domino (htg _ it_Domino)
  obtain ⟨c5, i5, k5⟩ := u_known htg uc_Box (htg _ it_Box)
  obtain ⟨c6, i6, k6⟩ := u_known htg uc_Way (htg _ it_Way)
  obtain ⟨c7, i7, k7⟩ := u_known htg uc_Hunt (htg _ it_Hunt)
  obtain ⟨c8, i8, k8⟩ := u_known htg uc_PC (htg _ it_PC)
  obtain ⟨c9, i9, k9⟩ := u_known htg uc_Mo (htg _ it_Mo)
  obtain ⟨a0, h0, g0⟩ := arr_pr (htg _ ac_int)
  obtain ⟨a1, h1, g1⟩ := arr_pr (htg _ ac_char)
  obtain ⟨a2, h2, g2⟩ := arr_pr (htg _ ac_boolean)
  obtain ⟨a5, h5, g5⟩ := arr_pr (htg _ ac_long)
  obtain ⟨a3, h3, g3⟩ := arr_ob (hts _ ao_W)
  obtain ⟨a4, h4, g4⟩ := arr_ob (hts _ ao_D)
  refine ⟨(gx_pk [c0, c1, c2, c3, c4, c5, c6, c7, c8, c9] 0, gx_pk [i0, i1, i2, i3, i4, i5, i6, i7, i8, i9] (fun _ => 0)), gx_pk [a0, a1, a2, a3, a4, a5] 0, fun c q hq => ?_, fun k q hq => ?_⟩
  · have hc : c < 10 := (List.getElem?_eq_some_iff.mp hq).1
    rcases (show c = 0 ∨ c = 1 ∨ c = 2 ∨ c = 3 ∨ c = 4 ∨ c = 5 ∨ c = 6 ∨ c = 7 ∨ c = 8 ∨ c = 9 by omega) with rfl | rfl | rfl | rfl | rfl | rfl | rfl | rfl | rfl | rfl
    · cases hq; exact k0
    · cases hq; exact k1
    · cases hq; exact k2
    · cases hq; exact k3
    · cases hq; exact k4
    · cases hq; exact k5
    · cases hq; exact k6
    · cases hq; exact k7
    · cases hq; exact k8
    · cases hq; exact k9
  · have hc : k < 6 := (List.getElem?_eq_some_iff.mp hq).1
    rcases (show k = 0 ∨ k = 1 ∨ k = 2 ∨ k = 3 ∨ k = 4 ∨ k = 5 by omega) with rfl | rfl | rfl | rfl | rfl | rfl
    · cases hq; exact ⟨h0, g0⟩
    · cases hq; exact ⟨h1, g1⟩
    · cases hq; exact ⟨h2, g2⟩
    · cases hq; exact ⟨h3, g3⟩
    · cases hq; exact ⟨h4, g4⟩
    · cases hq; exact ⟨h5, g5⟩
theorem nf_in : ∀ q ∈ gx_nf, Cond.fieldLinkNest q.1 q.2.1 q.2.2.1 q.2.2.2.1 q.2.2.2.2.1 q.2.2.2.2.2 ∈ lw_tbl := by
  have h : ∀ q ∈ gx_nf, Cond.fieldLinkNest q.1 q.2.1 q.2.2.1 q.2.2.2.1 q.2.2.2.2.1 q.2.2.2.2.2 ∈ tables_1 := by decide +kernel
  exact fun q hq => List.mem_append_right _ (h q hq)
theorem nm_in : ∀ q ∈ gx_nm, Cond.methodLinkNest q.1 q.2.1 q.2.2.1 q.2.2.2 ∈ lw_tbl := by
  have h : ∀ q ∈ gx_nm, Cond.methodLinkNest q.1 q.2.1 q.2.2.1 q.2.2.2 ∈ tables_1 := by decide +kernel
  exact fun q hq => List.mem_append_right _ (h q hq)
theorem xf_in : ∀ c ∈ gx_xf, c ∈ lw_tbl := by
  have h : ∀ c ∈ gx_xf, c ∈ tables_1 := by decide +kernel
  exact fun q hq => List.mem_append_right _ (h q hq)
theorem xs_in : ∀ q ∈ gx_xs, Cond.stringRef "PostChain" q.1 q.2 ∈ lw_tbl := by
  have h : ∀ q ∈ gx_xs, Cond.stringRef "PostChain" q.1 q.2 ∈ tables_1 := by decide +kernel
  exact fun q hq => List.mem_append_right _ (h q hq)
theorem ls_un : Cond.laysStatic Bundle.tN "UNASSIGNED_STACK" Bundle.steD ∈ lw_tbl := (List.mem_append_right _ (show _ ∈ tables_1 from (List.mem_append_right _ (List.mem_append_right _ (List.mem_append_left _ (List.mem_of_getElem? (i := 200) (by decide +kernel)))))))
theorem ls_su : Cond.laysStatic Bundle.tN "SUPPRESSED_SENTINEL" Bundle.listD ∈ lw_tbl := (List.mem_append_right _ (show _ ∈ tables_1 from (List.mem_append_right _ (List.mem_append_right _ (List.mem_append_left _ (List.mem_of_getElem? (i := 202) (by decide +kernel)))))))
theorem ls_co : Cond.laysStatic "java/lang/String" "COMPACT_STRINGS" "Z" ∈ lw_tbl := (List.mem_append_right _ (show _ ∈ tables_1 from (List.mem_append_right _ (List.mem_append_right _ (List.mem_append_left _ (List.mem_of_getElem? (i := 34) (by decide +kernel)))))))
theorem ni_th : Cond.initialized Bundle.tN ∈ lw_tbl := (List.mem_append_right _ (show _ ∈ tables_1 from (List.mem_append_left _ (List.mem_of_getElem? (i := 12) (by decide +kernel)))))
theorem ni_st : Cond.initialized "java/lang/String" ∈ lw_tbl := (List.mem_append_right _ (show _ ∈ tables_1 from (List.mem_append_left _ (List.mem_of_getElem? (i := 17) (by decide +kernel)))))
theorem sr_ab : Cond.stringRef "PostChain" 179 "#012abcdh" ∈ lw_tbl := (List.mem_append_right _ (show _ ∈ tables_1 from (List.mem_append_right _ (List.mem_append_right _ (List.mem_append_left _ (List.mem_of_getElem? (i := 20) (by decide +kernel)))))))
theorem gx_Ls.of {C nn dd : String} {N : gx_N} {A : Array Value} {s : State} (hN : N.2.2 = s.heap) (h : (Cond.laysStatic C nn dd).before A s = true) : gx_Ls C nn dd N s := by
  obtain ⟨c, k, i, f, a, cell, h1, h2, h3, h4, h5, h6, h7, h8, h9⟩ := Cond.laysStatic_spec h
  exact ⟨c, k, i, f, a, cell, h1, h2, h3, h4, by rw [hN]; exact h5, h6, h7, h8, h9⟩
theorem ref_st {C nn dd : String} {N : gx_N} {A : Array Value} {s : State} (hN : N.2.2 = s.heap) (hl : (Cond.laysStatic C nn dd).before A s = true) (hi : (Cond.initialized C).before A s = true) (hr : (Cond.isRef (.static C nn dd)).before A s = true) : ∃ v : RefV, va_Z C nn dd v.v (gx_oA N) s N.2.2 := by
  obtain ⟨v, hv, hok⟩ := Cond.isRef_spec hr
  refine ⟨⟨v, hok⟩, ?_⟩
  rw [hN]
  exact va_Zof hl hi hv (fun a ha => by show ¬ N.2.2.size ≤ a; rw [hN]; omega)
theorem str_at {A : Array Value} {s : State} {k : Nat} (h : (Cond.exactly (.string "PostChain" k) "java/lang/String").before A s = true) : ∃ a, (Term.string "PostChain" k).eval A s none [] s = some (.ref a) := by
  obtain ⟨a, c, cA, kA, q1, -⟩ := Cond.exactly_spec (args := A) (first := s) (o := none) (s := s) (idx := []) (t := .string "PostChain" k) (cls := "java/lang/String") h
  exact ⟨a, q1⟩
theorem ab_all {P : Nat → Prop} (h : P 0 ∧ P 1 ∧ P 2 ∧ P 3 ∧ P 4 ∧ P 5 ∧ P 6 ∧ P 7 ∧ P 8) : ∀ j, j < 9 → P j := fun j hj => by
  rcases (show j = 0 ∨ j = 1 ∨ j = 2 ∨ j = 3 ∨ j = 4 ∨ j = 5 ∨ j = 6 ∨ j = 7 ∨ j = 8 by omega) with rfl | rfl | rfl | rfl | rfl | rfl | rfl | rfl | rfl
  · exact h.1
  · exact h.2.1
  · exact h.2.2.1
  · exact h.2.2.2.1
  · exact h.2.2.2.2.1
  · exact h.2.2.2.2.2.1
  · exact h.2.2.2.2.2.2.1
  · exact h.2.2.2.2.2.2.2.1
  · exact h.2.2.2.2.2.2.2.2
set_option maxHeartbeats 4000000 in
theorem ex_start {s : State} {bb : Nat} {N : gx_N} (hN : N.2.2 = s.heap) (hts : ∀ w ∈ lw_tbl, w.before #[Value.ref bb] s = true) (hgv : (Jvm.Cond.and given_1 narrow_1).before #[Value.ref bb] s = true) : gx_Ex N s := by
  have hs := flat_of_before _ hgv
  have hA : ∀ a : Nat, a < s.heap.size → ¬ gx_oA N a := fun a ha => by show ¬ N.2.2.size ≤ a; rw [hN]; omega
  refine ⟨fun c hc a => gx_face hc (Vm.Alike.refl _) (hts c (xf_in c hc)) a, ?_, ?_, fun q hq => ?_, ?_, ?_, ?_, ?_⟩
  · exact ref_st hN (hts _ ls_un) (hts _ ni_th) (hs _ (by decide +kernel))
  · exact ref_st hN (hts _ ls_su) (hts _ ni_th) (hs _ (by decide +kernel))
  · have h1 := hts _ (xs_in q hq)
    have h2 : ∃ a, (Term.string "PostChain" q.1).eval #[Value.ref bb] s none [] s = some (.ref a) := by
      simp only [gx_xs, List.mem_cons, List.not_mem_nil, or_false] at hq
      rcases hq with rfl | rfl | rfl | rfl
      · exact str_at (hs _ (by decide +kernel))
      · exact str_at (hs _ (by decide +kernel))
      · exact str_at (hs _ (by decide +kernel))
      · exact str_at (hs _ (by decide +kernel))
    obtain ⟨a, ha⟩ := h2
    exact ⟨a, vk_R.of h1 ha⟩
  · obtain ⟨adK, adV, hS, he⟩ := vk_Sof (args := #[Value.ref bb]) (s := s) (N := 1) (tm := fun _ => .string "PostChain" 179) (len := [9]) (byt := [gx_ab]) (A := gx_oA N) (fun i hi => by rw [show i = 0 by omega]; decide) (fun i hi => hs _ (by decide +kernel)) (fun i hi => hs _ (by decide +kernel)) (fun i hi => hs _ (by decide +kernel)) (fun i hi => by
        obtain rfl : i = 0 := by omega
        exact hs _ (by decide +kernel)) (fun i hi => by
        obtain rfl : i = 0 := by omega
        exact ab_all ⟨hs _ (by decide +kernel), hs _ (by decide +kernel), hs _ (by decide +kernel), hs _ (by decide +kernel), hs _ (by decide +kernel), hs _ (by decide +kernel), hs _ (by decide +kernel), hs _ (by decide +kernel), hs _ (by decide +kernel)⟩) (fun i j hi hj hne => by omega) hA
    exact ⟨adK, adV, vk_R.of (hts _ sr_ab) (he 0 (by decide)), by rw [hN]; exact hS⟩
  · rw [hN]
    exact va_Zof (hts _ ls_co) (hts _ ni_st) (va_eqi (hs _ (by decide +kernel))) hA
  · exact gx_Ls.of hN (hts _ ls_un)
  · exact gx_Ls.of hN (hts _ ls_su)
theorem kn_start {s : State} {bb : Nat} (hts : ∀ w ∈ lw_tbl, w.before #[Value.ref bb] s = true) (hgv : (Jvm.Cond.and given_1 narrow_1).before #[Value.ref bb] s = true) : ∃ N : gx_N, N.2.2 = s.heap ∧ gx_Kn N s := by
  obtain ⟨D, ar, hK⟩ := kv_start hts
  exact ⟨(D, ar, s.heap), rfl, hK, fun q hq => va_Nw.of rfl (hts _ (nf_in q hq)), fun q hq => va_Nw.of rfl (hts _ (nm_in q hq)), va_AO.of (hts _ ao_W), va_AO.of (hts _ ao_D), ex_start rfl hts hgv⟩
def R_law : String := "PostChainLaw"
def lw_P (b : Addr) (xs : List Int32) (args : Array Value) (s : State) : Prop := args = #[.ref b] ∧ s.IntsAt b xs ∧ xs.length ≤ 3072 ∧ (Jvm.Cond.and given_1 narrow_1).before args s = true
def lw_Q (_ : Array Value) (s : State) (o : Outcome) (t : State) : Prop := o = .returned (some (.int 1)) ∧ Framed s o t [] 601024 7293034
def lw_Z (below : List Frame) (a : Array Value) (s : State) : State → Prop := fun t => ∃ o, t.status = .running ∧ Ended t below o ∧ lw_Q a s o t
/-- the law's own end, with 1 on the stack, nothing written that was there before, its room as the claim has it -/
theorem lw_ret {p : Program} {l : Launch} {e : Env} {s : State} {m : MethodId} {below : List Frame} {meth : Method} {c : Code} {b : Nat} (hx : p.tables.exec = Jvm.exec) (hb : c.code = code) (hr : meth.sig.returnType = ret) (hlocks : meth.locks = false) {pc : Nat} {H : Heap} {ls : Array Slot} (hdg : decode code pc = .ok (.ireturn, 1)) : W p l e room_1 s m #[Value.ref b] below meth c H [] 601024 7293034 (lw_Z below #[Value.ref b] s) (F0 m pc ls [.int 1]) := by
  intro T hT X
  obtain ⟨fs, hret, hrun, hended, hW, hframe⟩ := X.leave (v := some (.int 1)) (hlocks := hlocks) (fun h => by rw [hr] at h; cases h)
  have hmeth' : T.vm.method? m = some meth := X.method'
  refine ⟨T.setFrames fs, ?_, .returned (some (.int 1)), hrun, hended, rfl, ⟨_, rfl⟩, hW, hframe⟩
  jvm_step X.here [X.here.top, hx, hb, hdg, hmeth', hr, ret, narrow_b1]
  (try refine ⟨rfl, ?_⟩); (try refine ⟨rfl, ?_⟩)
  first | (intro acts; rw [hret _ acts rfl rfl rfl]) | rw [hret _ _ rfl rfl rfl]
  exact Steps.refl _
/-- what holds at the law's entry: the machine, the code, the tables' words (any of lw_tbl by 'hts w (by decide +kernel)'), the script of L ints xs at the cell b, what the Statement gives of the start (any of its parts by flat_of_before) -/
def lw_At (p : Program) (s : State) (m : MethodId) (meth : Method) (c : Code) (b L : Nat) (xs : Nat → Int32) : Prop :=
  p.tables.exec = Jvm.exec ∧ c.code = code ∧ meth.sig.returnType = ret ∧ c.maxLocals = 7 ∧ s.vm.findClass R_law = some m.cls ∧ (∀ w ∈ lw_tbl, w.before #[Value.ref b] s = true) ∧ va_X b L xs s s.heap ∧ b < s.heap.size ∧ meth.locks = false ∧ (Jvm.Cond.and given_1 narrow_1).before #[Value.ref b] s = true ∧ meth.name = "law" ∧ c.exceptionTable.isEmpty = true
theorem gx_none_wd {s : State} {N : gx_N} (hN : N.2.2 = s.heap) : gx_Wd N (fun _ => none, s.heap.size) s.heap := ⟨rfl, by rw [hN]; exact Nat.le_refl _, fun q hq => by rw [hN], fun q x h => (by cases h), fun q x h => (by cases h)⟩
theorem same_nil {s t : State} {L : List Loc} {k nn : Nat} (h : s.sameButNew t L k nn) (hL : ∀ q ∈ L, s.heap.size ≤ q.base) : s.sameButNew t [] k nn := by
  obtain ⟨h1, h2, h3, h4, h5, h6⟩ := h
  refine ⟨h1, h2, h3, h4, h5, fun a c hc => ?_⟩
  obtain ⟨c', g1, g2, g3, g4⟩ := h6 a c hc
  refine ⟨c', g1, g2, g3, fun i _ => g4 i (fun hm => ?_)⟩
  have := hL _ hm
  have h7 : a < s.heap.size := (Array.getElem?_eq_some_iff.mp hc).1
  exact Nat.not_le.mpr h7 this
theorem whole_start {p : Program} {e : Env} {s : State} {m : MethodId} {below : List Frame} {meth : Method} {c : Code} (l : Launch) (hlt : gx_lt l) {b L : Nat} {xs : Nat → Int32} (hL : L ≤ 3072) (C0 : lw_At p s m meth c b L xs) : W p l e room_1 s m #[Value.ref b] below meth c s.heap [] 0 0 (lw_Z below #[Value.ref b] s) (entryFrame m ([Value.ref b] : List Value).toArray 7) := by
  obtain ⟨hx, hb, hr, hml, hown, hts, hX, hbl, hlk, hgv, hnm, hem⟩ := C0
  obtain ⟨N, hN, hK⟩ := kn_start hts hgv
  have hxt : gx_xt M_Law_law c := by
    have h3 : c.exceptionTable.size = 0 := by simpa [Array.isEmpty] using hem
    have h2 : c.exceptionTable.toList = [] := List.eq_nil_of_length_eq_zero (by simpa using h3)
    show c.exceptionTable.toList.map _ = _
    rw [h2]; rfl
  have hl := lv_entry ([Value.ref b]) (n := 7) (Nat.le_of_ble_eq_true rfl)
  rw [lg_entry_eq]
  generalize (lg_sl [Value.ref b] ++ List.replicate (7 - (lg_sl [Value.ref b]).length) Slot.unset).toArray = ls at hl ⊢
  refine gx_mono (fun t ht => ?_) (lw_main (sb := b) (L0 := L) (xs := xs) hL (w := (fun _ => none, s.heap.size)) p l e room_1 s m #[Value.ref b] below meth c s.heap [] 0 0 ls N (fun q => s.heap.size ≤ q)
    ⟨hx, hb, hml, hr, hlk, hown, hnm, fun w hw => hts w (List.mem_filter.mp hw).1, hK, by decide, by decide, fun q hq => hq, ⟨by rw [hN]; exact hX, by rw [hN]; exact hbl⟩, hlt, hxt, fun q hq => by rw [hN]; exact hq, fun q hq => by rw [hN]⟩
    (gx_Lv.entry hl) (gx_none_wd hN) va_S.rf (fun q h => ?_) (by decide) (by decide))
  · obtain ⟨o, h1, h2, h3, L', h4, h5, h6⟩ := ht
    rcases h3.1 with ⟨r, w', rfl, hq, -⟩ | ⟨_, _, _, _, hF, _⟩
    · refine ⟨_, h1, h2, ?_, ⟨_, rfl⟩, h4, same_nil h5 h6⟩
      rw [show r = some (.int (nI 1)) from hq]; rfl
    · exact hF.elim
  · rcases h with ⟨x, hx⟩ | ⟨q', x, _, hx, _⟩ <;> cases hx
set_option maxHeartbeats 4000000 in
theorem lw_walk (l : Launch) (hlt : gx_lt l) (b : Addr) (xs : List Int32) : MetFree l x (headSpec (Jvm.Cond.code x code maxLocals ret :: tables_1) room_1) (lw_P b xs) (fun _ _ _ _ _ => True) lw_Q := by
  refine MetFree.of_bodyS (code := code) (maxLocals := maxLocals) (ret := ret) (by decide) ?_ ?_
  · intro args s m h hn
    obtain ⟨meth, c, h1, h2, h3, h4, h5, h6, -, -⟩ := Cond.code_spec hn (atoms_spec (ws := Jvm.Cond.code x code maxLocals ret :: tables_1) h _ List.mem_cons_self)
    exact ⟨meth, c, h1, h2, h3, h4, h5, h6⟩
  · intro p e s m args below meth c s₁ B hml0 hP _
    obtain ⟨rfl, hx, hbd, hgv⟩ := hP
    obtain ⟨scr, harrAt, hlist, hof, hsmall⟩ := hx
    obtain ⟨hcb, hkn, -, -⟩ := State.arrayAt?_spec harrAt
    have hown : s.vm.findClass R_law = some m.cls := findClass_of_methodNamed B.named
    have hts0 : ∀ c ∈ (Jvm.Cond.code x code maxLocals ret :: tables_1), c.before #[Value.ref b] s = true := atoms_spec (ws := Jvm.Cond.code x code maxLocals ret :: tables_1) B.pre
    have hts : ∀ w ∈ lw_tbl, w.before #[Value.ref b] s = true := k2_hts_sels lw_privs (fun w hw => hts0 w (List.mem_cons_of_mem _ hw)) lw_privs_ok
    have hml : c.maxLocals = 7 := B.maxLocals_eq (hts0 _ List.mem_cons_self)
    have X₀ : Stand p l e room_1 s m #[Value.ref b] below meth c s₁ [] 0 0 := Stand.of_body B
    have hh0 : s₁.heap = s.heap := by rw [B.state]; rfl
    have hsz : scr.slots.size = xs.length := by rw [← Array.length_toList, hlist, List.length_map]
    have hval : ∀ j : Nat, j < xs.length → scr.slots[j]? = some (.int (xs.getD j 0)) := fun j hj => by
      rw [← Array.getElem?_toList, hlist]
      simp [hj]
    have hbl : b < s.heap.size := (Array.getElem?_eq_some_iff.mp hcb).1
    have hX : va_X b xs.length (fun j => xs.getD j 0) s s.heap := ⟨scr, hcb, hof, hkn, hsz, hval⟩
    have K : W p l e room_1 s m #[Value.ref b] below meth c s₁.heap [] 0 0 (lw_Z below #[Value.ref b] s) (entryFrame m ([Value.ref b] : List Value).toArray 7) := by
      rw [hh0]
      exact whole_start l hlt hbd ⟨B.exec, B.bytes, B.returns, hml, hown, hts, hX, hbl, B.notSynchronized, hgv, (name_of_methodNamed B.named B.method).1, B.noHandlers (hts0 _ List.mem_cons_self)⟩
    obtain ⟨t, a1, o, b1, b2, b3⟩ := K s₁ rfl X₀
    exact ⟨t, o, a1, b1, b2, b3⟩
theorem lw_pre_spec {args : Array Value} {s : State} (h : (Jvm.Cond.and given_1 narrow_1).before args s = true) (hr : rest_1_c.before args s = true) : ∃ (b : Addr) (xs : List Int32), lw_P b xs args s := by
  have hs := flat_of_before _ h
  have hq := flat_of_before _ hr
  have hc : (Cond.count 1).before args s = true := hs _ (by decide +kernel)
  have harr : (Cond.arrayOf (.arg 0) .int).before args s = true := hs _ (by decide +kernel)
  have hle : (Cond.le (.length (.arg 0)) (.int 3072)).before args s = true := hs _ (by decide +kernel)
  have hlen : (Cond.isInt (.length (.arg 0))).before args s = true := hq _ (by decide +kernel)
  have hall : (Cond.all (.arg 0) (.isInt (.elem (.arg 0) (.index 0)))).before args s = true := hq _ (by decide +kernel)
  obtain ⟨b, xs, hb, hx⟩ := State.ints_of_pre rfl harr hlen hall
  have hsm : xs.length < 2 ^ 31 := hx.choose_spec.2.2.2
  have hev : (Term.length (.arg 0)).eval args s none [] s = some (.int xs.length.toInt32) := hx.length_eval hb
  have hv := Cond.le_ints hev (show (Term.int 3072).eval args s none [] s = some (.int 3072) from rfl)
  have hd : xs.length.toInt32 ≤ 3072 := by
    simpa [Cond.before, Cond.holds, hv] using hle
  have hN : xs.length ≤ 3072 := (Int32.ofNat_le_ofNat hsm (by decide)).mp (show Int32.ofNat xs.length ≤ Int32.ofNat 3072 from hd)
  exact ⟨b, xs, Cond.one_arg hc (show args[0]? = some (.ref b) from hb), hx, hN, h⟩
theorem lw_comes (l : Launch) (hlt : gx_lt l) : Comes l x (Jvm.Cond.code x code maxLocals ret :: tables_1) room_1 (fun tb e args s => Calls_1 tb e args s ∧ rest_1 tb e args s ∧ Pre_1 tb e args s)
    (fun _ _ args s o t => lw_Q args s o t) := by
  intro p e ha hc hk s m args below hf hfit hheap happ hpre
  obtain ⟨b, xs, hP⟩ := lw_pre_spec hpre.2.2 hpre.2.1
  obtain ⟨k, o, h1, h2, h3, hQ⟩ := lw_walk l hlt b xs p e ha hc hk s m args below hf ((Spec.applies_iff_loose hf).mp happ).1 hP trivial
  exact ⟨k, o, h1, h2, h3, hQ⟩
theorem lw_frame {s t : State} {o : Outcome} {args : Array Value} (h : Framed s o t [] 601024 7293034) :
    Framed s o t (fieldLocs frame_1_writes args s ++ arrayLocs frame_1_arrays args s ++ staticLocs frame_1_statics s) 601024 7293034 := h
theorem lw_limb (L : Cond) (hL : ∀ (args : Array Value) (s t : State), L.after args s (.returned (some (.int 1))) t = true) :
    ArmFor flags0 classFile x code maxLocals ret World_1 tables_1 room_1 Calls_1 rest_1 Pre_1
      (fun tb e a s o t => postC L tb e a s o t ∧ Framed s o t (fieldLocs frame_1_writes a s ++ arrayLocs frame_1_arrays a s ++ staticLocs frame_1_statics s) 601024 7293034) := by
  intro l hfl _ _ p e ha hc hk s m args below hf hfit hheap happ hpre
  have hlt : gx_lt l := fun e h => by
    have h1 : e.platform.stackTraces = l.stackTraces := by rw [h.platform]
    rw [h1]
    unfold Launch.stackTraces
    rw [hfl]
    decide +kernel
  obtain ⟨k, o, h1, h2, h3, rfl, hF⟩ := lw_comes l hlt p e ha hc hk s m args below hf hfit hheap happ hpre
  exact ⟨k, _, h1, h2, h3, hL args s _, lw_frame hF⟩
theorem i_vc : Claimed_1_1 ∧ Claimed_1_2 := ⟨lw_limb limb_1_1 (fun args s t => by simp [limb_1_1, Cond.after, Cond.holds, Cond.value]), lw_limb limb_1_2 (fun args s t => Cond.after_iff.mpr (by
  first | (rw [show limb_1_2 = Cond.eq .result (.int 1) from rfl, Cond.eq_ints (x := 1) (y := 1) rfl rfl]; simp; done) | (simp [limb_1_2, Cond.value, Term.eval]; done)))⟩
