/-! calls that are walked into: of a method that throws, of a method that catches -/
section GXK
variable {p : Program} {l : Launch} {e : Env} {R : Room} {s : State} {m : MethodId} {args : Array Value} {below : List Frame} {meth : Method} {c : Code} {T : State} {locs : List Loc} {cells slots : Nat}
/-- the one entry of the method's table takes the exception; its class may be met here for the first time -/
theorem gx_catch (X : Stand p l e R s m args below meth c T locs cells slots) {own name : String} {a : Addr} {g : JFrame} (hg : g.method = m) (hown : s.vm.findClass own = some m.cls) {x : ExceptionTableEntry} (htab : c.exceptionTable.toList = [x]) (hx : x.startPc ≤ g.pc ∧ g.pc < x.endPc) (h0 : x.catchType ≠ 0) (hlink : (Cond.classLink own x.catchType name).before args s = true) {cT : ClassId} (hcT : s.vm.findClass name = some cT) {cell : Cell} (hcell : T.heap[a]? = some cell) (hobj : ∀ k, cell.vm ≠ .statics k) (hfit : s.vm.assignable cell.cls cT = true) :
    ∃ vm', Stand p l e R s m args below meth c (T.setVm vm') locs cells slots ∧ ∀ target, Steps p.tables e below ((T.setVm vm').setTop { g with pc := x.handlerPc, stack := [.ref a] }) target → Steps p.tables e below ((T.setTop g).pushFrame (.throwing a)) target := by
  obtain ⟨c', hc', hcl⟩ := Cond.classLink_spec hown hlink e.platform (by rw [X.admits.platform])
  cases hcT.symm.trans hc'
  obtain ⟨dk, _, _, kt, hdk, _, _, _, _, hkt, _, hopen⟩ := hcl.here
  have hclT := X.warmed.classLinks hcl
  have hWn : s.WarmedH (T.vm.noted m.cls x.catchType (.cls cT)) := X.warmed.noted hdk hopen (State.rightAt_cls hcl)
  refine ⟨_, X.noted hWn, fun target hrest => ?_⟩
  subst hg
  obtain ⟨hgo, hwi⟩ := X.here.throwing a (g := g)
  obtain ⟨g₀, hr⟩ := X.frames_eq
  have hal : T.vm.Alike (T.vm.noted g.method.cls x.catchType (.cls cT)) := (Vm.Alike.refl T.vm).noted _ _ _
  have hfitT : T.vm.assignable cell.cls cT = true := by rw [X.warmed.alike.assignable]; exact hfit
  obtain ⟨kt1, hkt1, -⟩ := X.warmed.alike.2.2 _ _ hkt
  obtain ⟨kc1, hkc1⟩ := Vm.classAt_of_assignable hfitT ⟨kt1, hkt1⟩
  obtain ⟨kt2, hkt2, -⟩ := hal.2.2 _ _ hkt1
  obtain ⟨kc2, hkc2, -⟩ := hal.2.2 _ _ hkc1
  have hfit2 : (T.vm.noted g.method.cls x.catchType (.cls cT)).assignable cell.cls cT = true := by rw [hal.assignable]; exact hfitT
  have hfind : ∀ (Q : Handler → Pre) (E : CtlPost) (d : Bool) (acts : List Action), wp (findHandler g a) Q E e d acts ((T.setTop g).pushFrame (.throwing a)) ↔ Q (.found x.handlerPc) d acts (((T.setTop g).pushFrame (.throwing a)).setVm (T.vm.noted g.method.cls x.catchType (.cls cT))) := by
    intro Q E d acts
    have hv : ((T.setTop g).pushFrame (.throwing a)).vm = T.vm := Stand.throwing_vm T g a
    have hh : ((T.setTop g).pushFrame (.throwing a)).heap = T.heap := Stand.throwing_heap T g a
    generalize (T.setTop g).pushFrame (.throwing a) = S at hv hh
    rw [W.findHandler_eq (meth := meth) (code := c) (by rw [hv]; exact X.method') X.code, htab]
    have hclS : S.vm.ClassLinks e.platform g.method.cls x.catchType cT := by rw [hv]; exact hclT
    obtain ⟨ha, ht⟩ := (resolveClass_links e.toSetting hclS).op (op := VmOp.resolveClass g.method.cls x.catchType) rfl
    rw [hv] at ha ht
    rw [← hv] at ha ht hkt2 hkc2 hfit2 ⊢
    simp [findHandler.go, hx, h0, ha, ht, hh, hcell, hobj, hkt2, hkc2, hfit2, VmOp.dirties, VmOp.acts]
  have hstep : (stepThrowing e ((T.setTop g).pushFrame (.throwing a)) a (.java g :: below)).1 = (((T.setTop g).pushFrame (.throwing a)).setVm (T.vm.noted g.method.cls x.catchType (.cls cT))).setFrames (.java { g with pc := x.handlerPc, stack := [.ref a] } :: below) := by
    simp only [stepThrowing, searchFrame, vmDo]
    generalize hrs : Sem.go _ e false [] ((T.setTop g).pushFrame (.throwing a)) = res
    obtain ⟨as, rfl, -⟩ := Sem.eq_ok_of hrs (a := Handler.found x.handlerPc) (s' := ((T.setTop g).pushFrame (.throwing a)).setVm (T.vm.noted g.method.cls x.catchType (.cls cT))) (acts' := []) (by simp [hfind _ _ _ _])
    rfl
  refine Steps.head hgo hwi ?_
  rw [stepThread_throwing (frames_entered X.here.top _), X.tail, hstep]
  have hr2 : (T.setVm (T.vm.noted g.method.cls x.catchType (.cls cT))).frames = .java g₀ :: below := hr
  rw [State.setTop_of_frames _ hr2] at hrest
  have hfin : (((T.setTop g).pushFrame (.throwing a)).setVm (T.vm.noted g.method.cls x.catchType (.cls cT))).setFrames (.java { g with pc := x.handlerPc, stack := [.ref a] } :: below) = (T.setVm (T.vm.noted g.method.cls x.catchType (.cls cT))).setFrames (.java { g with pc := x.handlerPc, stack := [.ref a] } :: below) := by
    have h9 : ∀ (u : State) (fs gs : List Frame) (v : Vm), ((u.setFrames fs).setVm v).setFrames gs = (u.setVm v).setFrames gs := fun u fs gs v => State.setFrames_setFrames (u.setVm v) fs gs
    rw [State.pushFrame, h9, State.setTop_of_frames _ hr, h9]
  rw [hfin]
  exact hrest
end GXK
/-- a call walked into: the callee's walk stands for its contract -/
theorem gx_inl {Fc : gx_N → State → Prop} {M Mc : gx_M} {d d' mc ms pc : Nat} {as rest : List Value} {w : gx_W} {Q' : gx_P} {F : gx_N → State → Prop} {p : Program} {l : Launch} {e : Env} {R : Room} {s : State} {m : MethodId} {args : Array Value} {below : List Frame} {meth : Method} {c : Code} {T : State} {locs : List Loc} {cells slots : Nat} {ls : Array Slot} {N : gx_N} {A : Nat → Prop} {mk : MethodId} {methM : Method} {cM : Code} {ig : Instr}
    (V : gx_V F M d R p l s m args meth c N A) (hls : ls.size = M.2.2.1) (hw : gx_Wd N w T.heap) (X : Stand p l e R s m args below meth c T locs cells slots) (hc : cells + mc ≤ R.cells) (hs : slots + ms ≤ R.slots) (hdg : decode M.2.1 pc = .ok (ig, 3))
    (hpn : plainFor Mc.1 = true) (hnamed : s.methodNamed? Mc.1 = some mk) (hmethM : s.vm.method? mk = some methM) (hcM : methM.code = some cM) (hbM : cM.code = Mc.2.1) (hlM : cM.maxLocals = Mc.2.2.1) (hrM : methM.sig.returnType = Mc.2.2.2) (hlkM : methM.locks = false) (hxtM : gx_xt Mc cM)
    (hC : gx_X Fc Mc d' Q' 0 (gx_in Mc.2.2.1 as) [] w (mc, ms)) (hFc : ∀ U : State, s.WarmedH U.vm → Fc N U) (hn : (lg_sl as).length ≤ Mc.2.2.1) (h40 : Mc.2.2.1 ≤ 13) (hd' : d' + 1 ≤ d) (hrm : (rest.map fun v => v.category).sum ≤ 8) :
    ∃ (T' : State) (Lc : List Loc) (w' : gx_W), Stand p l e R s m args below meth c T' (locs ++ Lc) (cells + mc) (slots + ms) ∧ (∀ q ∈ Lc, gx_A w q.base) ∧ (T.heap.size ≤ T'.heap.size ∧ ∀ q : Nat, q < T.heap.size → ¬ gx_A w q → T'.heap[q]? = T.heap[q]?) ∧ gx_Wd N w' T'.heap ∧ (∀ q, gx_cv w' q → gx_A w q) ∧
      ((∃ r, Q'.1 r w' ∧ ∀ acts, Steps p.tables e below (doInvoke e (T.setTop (F0 m pc ls rest)) acts mk as.toArray).1 (T'.setTop (F0 m (pc + 3) ls (r.toList ++ rest)))) ∨ ∃ (x : Nat) (C : String), Q'.2 C w' ∧ gx_thr x C T' ∧ ∀ acts, Steps p.tables e below (doInvoke e (T.setTop (F0 m pc ls rest)) acts mk as.toArray).1 ((T'.setTop (F0 m pc ls rest)).pushFrame (.throwing x))) := by
  obtain ⟨hx, hb, hml, hr, hlk, hown, hnm, hts, hK, hfr, hlo, hA, hF, hlt, hxt, hAo, hso⟩ := V
  have hmk : T.vm.method? mk = some methM := by rw [X.warmed.alike.method?]; exact hmethM
  have hpk : T.plainMethod mk := State.plainMethod.of_named hpn (X.named hnamed) hmk
  obtain ⟨Y, hin⟩ := X.into (g := F0 m pc ls rest) rfl (by rw [hml]; exact hls) (by rw [hb]; exact hdg) as.toArray (R' := gx_rm d' mc ms) hmk hcM hlkM hpk (by show d' + 1 ≤ R.frames; omega) (by show 2 * 0 + _ + (cM.maxLocals + 11) + 32 * d' ≤ R.locals; rw [hlM]; show 2 * 0 + (rest.map fun v => v.category).sum + _ + _ ≤ _; omega) hc hs
  have hW1 : s.WarmedH (T.calling (F0 m pc ls rest) mk as.toArray).vm := X.warmed
  have hh1 : (T.calling (F0 m pc ls rest) mk as.toArray).heap = T.heap := rfl
  have hl1 := lv_entry as hn
  have hen := lg_entry_eq (m := mk) as Mc.2.2.1
  rw [hlM] at Y hin
  rw [hen] at Y hin
  generalize (lg_sl as ++ List.replicate (Mc.2.2.1 - (lg_sl as).length) Slot.unset).toArray = ls1 at hl1 Y hin hen
  have hAo' : ∀ q, gx_A w q → N.2.2.size ≤ q := fun q hq => by
    rcases hq with (⟨x, hx⟩ | ⟨q', x, e, hx, -⟩) | hq
    · exact (hw.2.2.2.1 q x hx).1
    · have := (hw.2.2.2.1 q' x hx).1; omega
    · exact Nat.le_trans hw.2.1 hq
  have hsz : T.heap.size = w.2 := hw.1
  obtain ⟨t, stp, o, hrun, hend, hQ, Lc, hWt, hsm, hLc⟩ := hC p l e (gx_rm d' mc ms) (T.calling (F0 m pc ls rest) mk as.toArray) mk as.toArray (.java (F0 m pc ls rest) :: below) methM cM T.heap [] 0 0 ls1 N (gx_A w)
    ⟨hx, hbM, hlM, hrM, hlkM, by rw [hW1.alike.findClass]; exact findClass_of_methodNamed hnamed, (name_of_methodNamed hnamed hmethM).1, fun y hy => word_at hW1 (gx_T_good hy) (hts y hy), hK.moved hW1, Nat.le_refl _, Nat.le_refl _, fun q hq => Or.inr (by rw [hh1] at hq; omega), hFc _ hW1, hlt, hxtM, hAo', fun q hq => hw.2.2.1 q hq⟩
    (gx_Lv.entry hl1) hw va_S.rf (fun q h => Or.inl h) (by show 0 + mc ≤ mc; omega) (by show 0 + ms ≤ ms; omega) ((T.setTop (F0 m pc ls rest)).pushFrame (.java (F0 mk 0 ls1 []))) rfl Y
  have hFt : T.heap.size ≤ t.heap.size ∧ ∀ q : Nat, q < T.heap.size → ¬ gx_A w q → t.heap[q]? = T.heap[q]? := hQ.2
  rcases hQ.1 with ⟨r, w', rfl, hq, hw', hcv⟩ | ⟨x, C, w', rfl, hq, hthr, hw', hcv⟩
  · obtain ⟨T', X', hWT, hsT, ht⟩ := X.outOf (g := F0 m pc ls rest) rfl (by rw [hb]; exact hdg) hend hWt hsm
    have hth : t.heap = T'.heap := by rw [ht]; exact State.heap_setTop _ _
    rw [hth] at hFt hw'
    refine ⟨T', Lc, w', X', hLc, hFt, hw', hcv, Or.inl ⟨r, hq, fun acts => ?_⟩⟩
    rw [hin acts]
    have h9 := Steps.weaken (mid := [.java (F0 m pc ls rest)]) stp
    rw [ht] at h9
    exact h9
  · obtain ⟨T', X', hWT, hsT, ht⟩ := X.outOfThrown (g := F0 m pc ls rest) rfl hend hWt hsm
    have hth : t.heap = T'.heap := by rw [ht]; exact Stand.throwing_heap _ _ _
    have htv : t.vm = T'.vm := by rw [ht]; exact Stand.throwing_vm _ _ _
    rw [hth] at hFt hw'
    refine ⟨T', Lc, w', X', hLc, hFt, hw', hcv, Or.inr ⟨x, C, hq, ?_, fun acts => ?_⟩⟩
    · obtain ⟨cell, k1, k2, k3⟩ := hthr
      exact ⟨cell, by rw [← hth]; exact k1, k2, by rw [← htv]; exact k3⟩
    · rw [hin acts]
      have h9 := Steps.weaken (mid := [.java (F0 m pc ls rest)]) stp
      rw [ht] at h9
      exact h9
section GXL
variable {F : gx_N → State → Prop} {M : gx_M} {d : Nat} {Q : gx_P} {pc : Nat} {L : List (Option Value)} {st rest : List Value} {w : gx_W} {b : Nat × Nat}
theorem gx_upS {N : gx_N} {A : Nat → Prop} {H H' : Heap} {s : State} {locs Lc : List Loc} (hw : gx_Wd N w H) (hS : va_S A s.heap H locs) (hd : ∀ q, gx_cv w q → A q) (hA : ∀ q, s.heap.size ≤ q → A q) (hL : ∀ q ∈ Lc, gx_A w q.base) (hF : H.size ≤ H'.size ∧ ∀ q : Nat, q < H.size → ¬ gx_A w q → H'[q]? = H[q]?) : (∀ q, gx_A w q → A q) ∧ va_S A s.heap H' (locs ++ Lc) := by
  have hsz : H.size = w.2 := hw.1
  have hup : ∀ q, gx_A w q → A q := fun q hq => by
    rcases hq with h1 | h1
    · exact hd q h1
    · exact hA q (Nat.le_trans hS.1 (by omega))
  refine ⟨hup, Nat.le_trans hS.1 hF.1, fun q h1 h2 => ?_, fun q hq => ?_⟩
  · rw [hF.2 q (Nat.lt_of_lt_of_le h1 hS.1) (fun h3 => h2 (hup q h3))]
    exact hS.2.1 q h1 h2
  · rcases List.mem_append.mp hq with h1 | h1
    · exact hS.2.2 q h1
    · exact hup _ (hL q h1)
set_option maxHeartbeats 1000000 in
/-- a virtual call that throws, in a method that catches it -/
theorem gx_callT {Mc : gx_M} {idx d' mc ms n ci a hpc ct pe : Nat} {as : List Value} {C : String} {w1 : gx_W} (hS : gx_lV M.1.cls idx Mc n ci) (hlk0 : Cond.methodLink M.1.cls idx Mc.1 ∈ gx_T) (hdg : decode M.2.1 pc = .ok (.invokevirtual idx, 3)) (hpn : plainName Mc.1.cls = true) (ht0 : gx_tab Mc.1 = []) (hC : gx_X (fun _ _ => True) Mc d' (fun _ _ => False, fun C' w' => C' = C ∧ w' = w1) 0 (gx_in Mc.2.2.1 (.ref a :: as)) [] w (mc, ms)) (hn0 : (lg_sl (.ref a :: as)).length ≤ Mc.2.2.1) (hrc : gx_rc w a ci) (hd' : d' + 1 ≤ d) (hn : as.length = n) (hst : st = as.reverse ++ .ref a :: rest) (hrm : (rest.map fun v => v.category).sum ≤ 8) (hbb : mc ≤ b.1 ∧ ms ≤ b.2)
    (htab : gx_tab M.1 = [(0, pe, hpc, ct)]) (hpe : pc < pe) (hct : ct ≠ 0) (hcl0 : Cond.classLink M.1.cls ct C ∈ gx_T) (hcast : Cond.castable C C ∈ gx_xf) (k : ∀ x, gx_X F M d Q hpc L [.ref x] w1 (b.1 - mc, b.2 - ms)) : gx_X F M d Q pc L st w b := fun p l e R s m args below meth c H locs cells slots ls N A V hl hw hSS hd hc hs => by
  have V0 := V
  obtain ⟨hx, hb, hml, hr, hlk, hown, hnm, hts, hK, hfr, hlo, hA, hF, hlt, hxt, hAo, hso⟩ := V
  intro T hT X
  obtain ⟨hcs, -, hnp, hin, hse, T0, kk, hcl⟩ := hS
  obtain ⟨cellB, hcB, hoB, hclB⟩ := gx_rc.cell hw hK hrc hcl
  obtain ⟨mk, methM, hnamed, hmethM, hstM, habM⟩ := Cond.instanceMethod_spec (hts _ hin)
  obtain ⟨methM', cM, hmethM', hcM, hbM, hlM, hrM, hlkM, hemM, hsigM⟩ := Cond.code_spec hnamed (hts _ hcs.1)
  cases hmethM.symm.trans hmethM'
  obtain ⟨c2, r2, m2, q1, q2, q3, q4, kP, hkP, hkPi⟩ := Cond.selects_spec (hts _ hse)
  cases hclB.symm.trans q1
  cases (State.methodFound?_of_named hnamed hcs.2.2.1).symm.trans q2
  cases hnamed.symm.trans q3
  obtain ⟨vm₁, X₁, hstep₁⟩ := X.invokevirtual hx hown (hts _ hlk0) hnamed hmethM hstM hkP hkPi hcs.2.2.1 (a := a) (cell := cellB) (by rw [hT]; exact hcB) (fun z h => by rw [h] at hoB; cases hoB) (by rw [Launch.admits_selectMethod X.admits]; exact q4) hmethM habM hkP hkPi (g := F0 m pc ls st) rfl (argsL := as) (rest := rest) (hn.trans (hnp.use _ hsigM)) hst (by rw [hb]; exact hdg)
  have hxtM : gx_xt Mc cM := by
    have h3 : cM.exceptionTable.size = 0 := by simpa [Array.isEmpty] using hemM
    have h2 : cM.exceptionTable.toList = [] := List.eq_nil_of_length_eq_zero (by simpa using h3)
    show cM.exceptionTable.toList.map _ = _
    rw [h2, ht0]; rfl
  have hT1 : (T.setVm vm₁).heap = H := hT
  generalize T.setVm vm₁ = T1 at X₁ hstep₁ hT1
  rw [← hT1] at hw hSS
  obtain ⟨T', Lc, w', X', hLc, hFt, hw', hcv, hor⟩ := gx_inl V0 hl.1 hw X₁ (by omega) (by omega) hdg (plainFor_of_name hpn) hnamed hmethM hcM hbM hlM hrM hlkM hxtM hC (fun _ _ => trivial) hn0 hcs.2.2.2 hd' hrm
  rcases hor with ⟨_, hFalse, _⟩ | ⟨x, C', ⟨rfl, rfl⟩, ⟨cellX, k1, k2, k3⟩, stp⟩
  · exact hFalse.elim
  · obtain ⟨c3, c4, g1, g2, g3⟩ := Cond.castable_spec (hK.2.2.2.2.2.1 _ hcast #[])
    cases g1.symm.trans g2
    have hcx : c3 = cellX.cls := by
      rw [X'.warmed.alike.findClass] at k3
      exact Option.some.inj (g1.symm.trans k3)
    have hx1 : ∃ xe : ExceptionTableEntry, c.exceptionTable.toList = [xe] ∧ xe.startPc = 0 ∧ xe.endPc = pe ∧ xe.handlerPc = hpc ∧ xe.catchType = ct := by
      have g : c.exceptionTable.toList.map (fun h => (h.startPc, h.endPc, h.handlerPc, h.catchType)) = [(0, pe, hpc, ct)] := by rw [← htab]; exact hxt
      obtain ⟨xe, tl, g4, g5, g6⟩ := List.map_eq_cons_iff.mp g
      simp only [Prod.mk.injEq] at g5
      exact ⟨xe, by rw [g4, List.map_eq_nil_iff.mp g6], g5.1, g5.2.1, g5.2.2.1, g5.2.2.2⟩
    obtain ⟨xe, e1, e2, e3, e4, e5⟩ := hx1
    obtain ⟨vm2, X2, st2⟩ := gx_catch X' (own := M.1.cls) (name := C') (a := x) (g := F0 m pc ls rest) rfl hown e1 ⟨by rw [e2]; exact Nat.zero_le _, by rw [e3]; exact hpe⟩ (by rw [e5]; exact hct) (by rw [e5]; exact hts _ hcl0) g1 k1 k2 (by rw [← hcx]; exact g3)
    obtain ⟨hup, hS'⟩ := gx_upS hw hSS hd hA hLc hFt
    obtain ⟨t2, a1, b1⟩ := k x p l e R s m args below meth c T'.heap (locs ++ Lc) (cells + mc) (slots + ms) ls N A V0 hl hw' hS' (fun q hq2 => hup q (hcv q hq2)) (by show cells + mc + (b.1 - mc) ≤ _; omega) (by show slots + ms + (b.2 - ms) ≤ _; omega) (T'.setVm vm2) rfl X2
    refine ⟨t2, hstep₁ t2 (fun acts => (stp acts).trans (st2 t2 ?_)), b1⟩
    rw [e4]; exact a1
set_option maxHeartbeats 1000000 in
/-- a static call of a method that has handlers of its own -/
theorem gx_callW {Mc : gx_M} {idx d' mc ms n : Nat} {as : List Value} {Q' : Option Value → gx_W → Prop} (hcw : Cond.codeWith Mc.1 Mc.2.1 Mc.2.2.1 Mc.2.2.2 (gx_tab Mc.1) ∈ gx_T) (hlk0 : Cond.methodLink M.1.cls idx Mc.1 ∈ gx_T) (hst0 : Cond.static Mc.1 ∈ gx_T) (hini : Cond.initialized Mc.1.cls ∈ gx_T) (hmh : Mc.1.cls ≠ "java/lang/invoke/MethodHandle" ∧ Mc.1.cls ≠ "java/lang/invoke/VarHandle") (h13 : Mc.2.2.1 ≤ 13) (hnp : gx_np Mc n) (hdg : decode M.2.1 pc = .ok (.invokestatic idx, 3)) (hpn : plainName Mc.1.cls = true) (hC : gx_X (fun _ _ => True) Mc d' (gx_nt Q') 0 (gx_in Mc.2.2.1 as) [] w (mc, ms)) (hn0 : (lg_sl as).length ≤ Mc.2.2.1) (hd' : d' + 1 ≤ d) (hn : as.length = n) (hst : st = as.reverse ++ rest) (hrm : (rest.map fun v => v.category).sum ≤ 8) (hbb : mc ≤ b.1 ∧ ms ≤ b.2)
    (k : ∀ r w', Q' r w' → gx_X F M d Q (pc + 3) L (r.toList ++ rest) w' (b.1 - mc, b.2 - ms)) : gx_X F M d Q pc L st w b := fun p l e R s m args below meth c H locs cells slots ls N A V hl hw hSS hd hc hs => by
  have V0 := V
  obtain ⟨hx, hb, hml, hr, hlk, hown, hnm, hts, hK, hfr, hlo, hA, hF, hlt, hxt, hAo, hso⟩ := V
  intro T hT X
  obtain ⟨mk, methM, cM, hnamed, hmethM, hcM, hbM, hlM, hxM, hrM, hlkM, hsigM⟩ := Cond.codeWith_spec (hts _ hcw)
  have hstatic : methM.isStatic = true := Cond.static_spec hnamed hmethM (hts _ hst0)
  obtain ⟨kP, hkP, -⟩ := className_of_methodNamed hnamed
  have hinitP : kP.init = .initialized := Cond.initialized_spec (findClass_of_methodNamed hnamed) hkP (hts _ hini)
  obtain ⟨vm₁, X₁, hstep₁⟩ := X.invokestatic hx hown (hts _ hlk0) hnamed hmethM hstatic hkP hinitP hmh (g := F0 m pc ls st) rfl (argsL := as) (rest := rest) (hn.trans (hnp.use _ hsigM)) hst (by rw [hb]; exact hdg)
  have hT1 : (T.setVm vm₁).heap = H := hT
  generalize T.setVm vm₁ = T1 at X₁ hstep₁ hT1
  rw [← hT1] at hw hSS
  obtain ⟨T', Lc, w', X', hLc, hFt, hw', hcv, hor⟩ := gx_inl V0 hl.1 hw X₁ (by omega) (by omega) hdg (plainFor_of_name hpn) hnamed hmethM hcM hbM hlM hrM hlkM hxM hC (fun _ _ => trivial) hn0 h13 hd' hrm
  rcases hor with ⟨r, hq, stp⟩ | ⟨_, _, hFalse, _⟩
  · obtain ⟨hup, hS'⟩ := gx_upS hw hSS hd hA hLc hFt
    obtain ⟨t2, a1, b1⟩ := k r w' hq p l e R s m args below meth c T'.heap (locs ++ Lc) (cells + mc) (slots + ms) ls N A V0 hl hw' hS' (fun q hq2 => hup q (hcv q hq2)) (by show cells + mc + (b.1 - mc) ≤ _; omega) (by show slots + ms + (b.2 - ms) ≤ _; omega) T' rfl X'
    exact ⟨t2, hstep₁ t2 (fun acts => (stp acts).trans a1), b1⟩
  · exact hFalse.elim
end GXL
