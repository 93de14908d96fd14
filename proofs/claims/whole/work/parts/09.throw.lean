/-! exceptions: made, thrown out of a method, caught in a method of the law -/
/-- the walk as if the method began here: the same room less what is used -/
theorem gx_rebase {p : Program} {l : Launch} {e : Env} {R : Room} {s : State} {m : MethodId} {args : Array Value} {below : List Frame} {meth : Method} {c : Code} {T : State} {locs : List Loc} {cells slots : Nat} (X : Stand p l e R s m args below meth c T locs cells slots) (hc : cells ≤ R.cells) (hs : slots ≤ R.slots) :
    Stand p l e { frames := R.frames, cells := R.cells - cells, slots := R.slots - slots, locals := R.locals } (T.setFrames (.invoking m args :: below)) m args below meth c T [] 0 0 := by
  obtain ⟨g₀, hg₀⟩ := X.frames_eq
  have hcur : T.cur < T.threads.size := State.cur_lt_of_frames hg₀
  have hf : (T.setFrames (.invoking m args :: below)).frames = .invoking m args :: below := State.frames_setFrames _ hcur
  have hm' := X.method'
  have hh := X.heapHas (a := R.cells - cells) (b := R.slots - slots) (by omega) (by omega)
  refine ⟨X.admits, X.cas, X.clock, hf, ?_, ?_, hm', X.code, X.here, X.tail, State.WarmedH.refl _, ?_, ?_, ?_⟩
  · have hr := X.room
    simp only [State.hasRoom, Bool.and_eq_true, decide_eq_true_eq] at hr ⊢
    rw [State.localsInUse_invoking X.frames X.method X.code, X.frames] at hr
    rw [State.localsInUse_invoking hf hm' X.code, hf, State.stackLimits_setFrames, State.stackBytes_setFrames, X.limits, X.bytes]
    exact ⟨⟨⟨hr.1.1.1, hh.1⟩, hh.2⟩, X.book⟩
  · have h1 := X.hears
    have hv : (T.setFrames (.invoking m args :: below)).vm = T.vm := rfl
    cases below with
    | nil => simp only [State.hears] at h1 ⊢; rw [hv, X.warmed.alike.method?]; exact h1
    | cons fr bl =>
      cases fr <;> simp only [State.hears] at h1 ⊢ <;> first
        | (rw [State.code?_eq] at h1 ⊢; rw [hv, X.warmed.alike.method?]; exact h1)
        | (rw [hv, X.warmed.alike.method?]; exact h1)
  · rw [State.stackLimits_setFrames]
  · rw [State.stackBytes_setFrames]
  · obtain ⟨th, hth, -⟩ := State.frames_cons hf
    have h := (State.sameButNew.refl (T.setFrames (.invoking m args :: below)) hth).setFrames T.frames (State.cur_lt_of_frames hf)
    rw [State.setFrames_setFrames] at h
    obtain ⟨th2, hth2, -⟩ := State.frames_cons hg₀
    rw [State.setFrames_self hth2] at h
    exact h
theorem gx_Wd.gr {N : gx_N} {w : gx_W} {H H1 : Heap} (h : gx_Wd N w H) (hz : H1.size = H.size + 1) (ho : ∀ q : Nat, q < H.size → H1[q]? = H[q]?) : gx_Wd N (gx_gr w 1) H1 := by
  obtain ⟨h1, h2, h3, h4, h5⟩ := h
  refine ⟨by rw [hz, h1]; rfl, Nat.le_succ_of_le h2, fun q hq => by rw [ho q (by omega)]; exact h3 q hq, fun q y hq => ?_, fun q y hq hy => h5 q y hq hy⟩
  have h7 := (h4 q y hq).2
  exact ⟨(h4 q y hq).1, h7.kept (ho q h7.lt) (fun hy => ho (q + 1) (h7.lt1 hy))⟩
theorem gx_cellSame {c c' : Cell} (h1 : c' = { c with slots := c'.slots }) (h2 : ∀ i : Nat, c'.slots[i]? = c.slots[i]?) : c' = c := by
  have h3 : c'.slots = c.slots := Array.ext_getElem? (fun i => h2 i)
  rw [h1, h3]
def gx_i1 : Cond := .isRef (.static Bundle.tN "UNASSIGNED_STACK" Bundle.steD)
def gx_i2 : Cond := .isRef (.static Bundle.tN "SUPPRESSED_SENTINEL" Bundle.listD)
def gx_i3 : Cond := .laysStatic Bundle.tN "UNASSIGNED_STACK" Bundle.steD
def gx_i4 : Cond := .laysStatic Bundle.tN "SUPPRESSED_SENTINEL" Bundle.listD
def gx_nms : List String := ["java/lang/RuntimeException", "java/lang/Exception"]
def gx_xa (X : String) (ic : Nat) : Prop := Bundle.fit X = true ∧ ∀ c ∈ Bundle.ownAtoms "PostChain" ic X gx_nms, c ∈ gx_T ∨ c ∈ gx_xf ∨ c = gx_i1 ∨ c = gx_i2 ∨ c = gx_i3 ∨ c = gx_i4
theorem gx_xaA : gx_xa "java/lang/IllegalArgumentException" 80 := ⟨by decide +kernel, by decide +kernel⟩
theorem gx_xaS : gx_xa "java/lang/IllegalStateException" 140 := ⟨by decide +kernel, by decide +kernel⟩
theorem gx_isRef {C n dd : String} {v : RefV} {A : Nat → Prop} {U : State} (h : va_Z C n dd v.v A U U.heap) (a : Array Value) : (Cond.isRef (.static C n dd)).before a U = true := by
  obtain ⟨cf, kf, fi, f, ad, cell, h1, h2, h3, h4, h5, h6, h7, h8⟩ := h
  obtain ⟨v, hv⟩ := v
  have he : (Term.static C n dd).eval a U none [] U = some v := by
    simp [Term.eval, State.fieldNamed?, h1, h2, h4, h5, h6, h7]
  simp only [Cond.before, Cond.holds, Cond.value, he]
  cases v <;> first | rfl | (simp [Value.isRef] at hv)
section GXT
variable {F : gx_N → State → Prop} {M : gx_M} {d : Nat} {Q : gx_P} {pc : Nat} {L : List (Option Value)} {st : List Value} {w : gx_W}
set_option maxHeartbeats 1000000 in
/-- new, dup, the text, the constructor, athrow -/
theorem gx_throw {X tx : String} {i0 ks ic b1 b2 : Nat} (hM : M.1.cls = "PostChain") (hxa : gx_xa X ic) (ht0 : gx_tab M.1 = []) (hd6 : 6 ≤ d) (hcl : Cond.classLink "PostChain" i0 X ∈ gx_T) (hit : Cond.instantiable X 6 ∈ gx_T) (hini : Cond.initialized X ∈ gx_T) (hks : (ks, tx) ∈ gx_xs) (h0 : decode M.2.1 pc = .ok (.new i0, 3)) (h1 : decode M.2.1 (pc + 3) = .ok (.dup, 1)) (h2 : decode M.2.1 (pc + 3 + 1) = .ok (.ldc ks, 2)) (h3 : decode M.2.1 (pc + 3 + 1 + 2) = .ok (.invokespecial ic, 3)) (h4 : decode M.2.1 (pc + 3 + 1 + 2 + 3) = .ok (.athrow, 1)) (hq : Q.2 X (gx_gr w 1)) : gx_X F M d Q pc L [] w (b1 + 1, b2 + 6) := fun p l e R s m args below meth c H locs cells slots ls N A V hl hw hS hd hc hs => by
  obtain ⟨hx, hb, hml, hr, hlk, hown, hnm, hts, hK, hfr, hlo, hA, hF, hlt, hxt, hAo, hso⟩ := V
  have hc' : cells + (b1 + 1) ≤ R.cells := hc
  have hs' : slots + (b2 + 6) ≤ R.slots := hs
  intro T hT Y
  have Y' := gx_rebase Y (by omega) (by omega)
  have hsv : (T.setFrames (.invoking m args :: below)).vm = T.vm := rfl
  have hsh : (T.setFrames (.invoking m args :: below)).heap = H := hT
  have hcurT : T.cur < T.threads.size := by obtain ⟨g₀, hg₀⟩ := Y.frames_eq; exact State.cur_lt_of_frames hg₀
  have hss : ∀ fs, (T.setFrames (.invoking m args :: below)).setFrames fs = T.setFrames fs := fun fs => State.setFrames_setFrames _ _ _
  generalize hs2 : T.setFrames (.invoking m args :: below) = s' at Y' hsv hsh hss
  have hW1 : s.WarmedH s'.vm := by rw [hsv]; exact Y.warmed
  have hK' := hK.moved hW1
  have hts' : ∀ x ∈ gx_T, x.before args s' = true := fun x hx => word_at hW1 (gx_T_good hx) (hts x hx)
  have hown' : s'.vm.findClass "PostChain" = some m.cls := by rw [hW1.alike.findClass, ← hM]; exact hown
  have hold : ∀ q : Nat, q < N.2.2.size → s'.heap[q]? = N.2.2[q]? := fun q hq => by rw [hsh]; exact hw.2.2.1 q hq
  obtain ⟨e1, ⟨v2, e2⟩, ⟨v3, e3⟩, e4, -, -, e8, e9⟩ := hK'.2.2.2.2.2
  have hatoms : ∀ a ∈ Bundle.ownAtoms "PostChain" ic X gx_nms, a.before args s' = true := fun a ha => by
    rcases hxa.2 a ha with g | g | g | g | g | g
    · exact hts' a g
    · exact e1 a g args
    · rw [g]; exact gx_isRef (e2.kept (fun q hq _ => hold q hq)) args
    · rw [g]; exact gx_isRef (e3.kept (fun q hq _ => hold q hq)) args
    · rw [g]; exact e8.word hold args
    · rw [g]; exact e9.word hold args
  obtain ⟨am, hZ⟩ := e4 _ hks
  have htab : c.exceptionTable.toList = [] := by
    have g : c.exceptionTable.toList.map _ = _ := hxt
    rw [ht0] at g
    exact List.map_eq_nil_iff.mp g
  have hWn : W p l e { frames := R.frames, cells := R.cells - cells, slots := R.slots - slots, locals := R.locals } s' m args below meth c H [] 0 0 (fun U => U.status = .running ∧ Ended U below (.threw H.size) ∧ s'.WarmedH U.vm ∧ s'.sameButNew ({ U with vm := s'.vm } : State) [] 1 6 ∧ ∃ ce : Cell, U.heap[H.size]? = some ce ∧ s'.vm.findClass X = some ce.cls ∧ ce.vm = .none) (F0 m pc ls []) := by
    refine W.newc hx hb hown' (hts' _ hcl) (hts' _ hit) (hts' _ hini) rfl h0 (by show 0 + 1 ≤ R.cells - cells; omega) (by show 0 + 6 ≤ R.slots - slots; omega) (fun cC kC g1 g2 g3 g4 => ?_)
    refine lv_dup hx hb h1 rfl ?_
    refine va_ldcS hx hb hown' hZ h2 ?_
    intro T2 hT2 Y2
    obtain ⟨U, st1, hrun, hend, hWU, hsame, ce, hce, hOC⟩ := Y2.ctorThrowS hx (hlt e Y.admits) (own := "PostChain") (cls := X) (names := gx_nms) (ic := ic) hown' hxa.1 (by decide) hatoms (fun x hx => by cases hx) (a := H.size) (cX := cC) (kX := kC) g1 g2 (by rw [hT2]; simp) (by rw [hsh]; exact Nat.le_refl _) (msg := .ref am) rfl (g := F0 m (pc + 3 + 1 + 2) ls [.ref am, .ref H.size, .ref H.size]) rfl (by rw [hml]; exact hl.1) rfl rfl (rest := []) rfl (by rw [hb]; exact h3) (by rw [hb]; exact h4) (by rw [htab]; intro x hx; cases hx) (by show 2 + 3 < R.frames; omega) (by show 2 * 0 + 1 + (13 * (2 + 1) + 42) ≤ R.locals; omega) hlk
    exact ⟨U, st1, hrun, hend, hWU, hsame, ce, hce, hOC.cls, hOC.vm⟩
  obtain ⟨U, st1, hrun, hend, hWU, hsame, ce, hce, hcc, hcv⟩ := hWn T hT Y'
  have hsz : U.heap.size = H.size + 1 := by
    have q1 : U.heap.size ≤ s'.heap.size + 1 := hsame.2.2.1
    have q2 := (Array.getElem?_eq_some_iff.mp hce).1
    rw [hsh] at q1
    omega
  have hkeep : ∀ q : Nat, q < H.size → U.heap[q]? = H[q]? := fun q hq => by
    obtain ⟨cl0, hcl0⟩ : ∃ cl0, s'.heap[q]? = some cl0 := ⟨_, Array.getElem?_eq_getElem (by rw [hsh]; exact hq)⟩
    obtain ⟨c', k1, k2, k3, k4⟩ := hsame.2.2.2.2.2 q cl0 hcl0
    have k5 := gx_cellSame k2 (fun i => k4 i (by simp))
    rw [← hsh, hcl0, ← k5]; exact k1
  have hWT : T.WarmedH U.vm := by
    rw [← hs2] at hWU; exact hWU
  have hsB : T.sameButNew ({ U with vm := T.vm } : State) [] 1 6 := by
    obtain ⟨k1, k2, k3, k4, k5, k6⟩ := hsame
    rw [hsv] at k1 k2 k3 k4 k5 k6
    have hu : s'.slotsUsed = T.slotsUsed := by rw [← hs2]; rfl
    rw [hss] at k1
    have hh : s'.heap = T.heap := by rw [hsh, hT]
    rw [hh] at k2 k3 k4 k5 k6
    rw [hu] at k4
    exact ⟨k1, k2, k3, k4, k5, k6⟩
  refine ⟨U, st1, .threw H.size, hrun, hend, ⟨Or.inr ⟨H.size, X, gx_gr w 1, rfl, hq, ⟨ce, hce, fun k hk => (by rw [hcv] at hk; cases hk), ?_⟩, hw.gr hsz hkeep, fun q hq2 => hd q hq2⟩, ?_⟩, locs, State.WarmedH.trans Y.warmed hWT, ?_, hS.2.2⟩
  · rw [hWT.alike.findClass, ← hsv]; exact hcc
  · refine ⟨by rw [hsz]; exact Nat.le_succ_of_le hS.1, fun q g1 g2 => ?_⟩
    rw [hkeep q (Nat.lt_of_lt_of_le g1 hS.1)]
    exact hS.2.1 q g1 g2
  · have h9 := Y.same.trans (hsB.setVm s.vm)
    rw [List.append_nil] at h9
    exact h9.mono (by omega) (by omega)
end GXT
