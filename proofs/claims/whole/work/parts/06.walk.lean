/-! My calculus, second part: the judgement of a walk, and of a call -/
def gx_ws (M : gx_M) : List Cond := Cond.code M.1 M.2.1 M.2.2.1 M.2.2.2 :: gx_T
/-- classes of exceptions: what the tables say of them that words of gx_T don't -/
def gx_xf : List Cond := [.declares (Bundle.initS "java/lang/RuntimeException"), .declares (Bundle.initS "java/lang/Exception"), .declares (Bundle.initS "java/lang/Throwable"), .castable "java/lang/IllegalArgumentException" "java/lang/IllegalArgumentException", .castable "java/lang/IllegalStateException" "java/lang/IllegalStateException"]
theorem gx_xf_face {c : Cond} (hc : c ∈ gx_xf) : c.faceAtom = true := by
  simp only [gx_xf, List.mem_cons, List.not_mem_nil, or_false] at hc
  rcases hc with rfl | rfl | rfl | rfl | rfl <;> rfl
theorem gx_face {c : Cond} (hc : c ∈ gx_xf) {u U : State} {a : Array Value} (hW : u.vm.Alike U.vm) (h : c.before a u = true) : ∀ a', c.before a' U = true := by
  intro a'
  have h1 : c.before a (u.setVm U.vm) = true := Cond.faceAtom_setVm hW _ (gx_xf_face hc) h
  simp only [gx_xf, List.mem_cons, List.not_mem_nil, or_false] at hc
  rcases hc with rfl | rfl | rfl | rfl | rfl <;> exact h1
/-- the old heap's end -/
def gx_oA (N : gx_N) : Nat → Prop := fun q => N.2.2.size ≤ q
/-- the texts of the exceptions -/
def gx_xs : List (Nat × String) := [(78, "no such state or symbol"), (83, "no such next state"), (96, "no such input"), (138, "the run does not halt")]
def gx_ab : List Int32 := [35, 48, 49, 50, 97, 98, 99, 100, 104]
/-- a static field has its place -/
def gx_Ls (C n dd : String) (N : gx_N) (U : State) : Prop := ∃ (cf : ClassId) (k : Class) (i : Nat) (f : Field) (a : Nat) (cell : Cell), U.vm.findClass C = some cf ∧ U.fieldFound? C n dd = some (cf, k, i, f) ∧ f.isStatic = true ∧ k.statics = some a ∧ N.2.2[a]? = some cell ∧ cell.vm.isStatics = true ∧ cell.cls = cf ∧ f.slot < cell.slots.size ∧ k.staticTypes[f.slot]? = some f.type
theorem gx_Ls.moved {C n dd : String} {N : gx_N} {u U : State} (hvm : u.vm.Alike U.vm) (h : gx_Ls C n dd N u) : gx_Ls C n dd N U := by
  obtain ⟨cf, k, i, f, a, cell, h0, h1, h2, h3, h4, h5, h6, h7, h8⟩ := h
  obtain ⟨k', hi', he⟩ := State.fieldFound?_setVm hvm h1
  exact ⟨cf, k', i, f, a, cell, by rw [hvm.findClass]; exact h0, hi', h2, by rw [he]; exact h3, h4, h5, h6, h7, by rw [he]; exact h8⟩
theorem gx_Ls.word {C n dd : String} {N : gx_N} {U : State} (h : gx_Ls C n dd N U) (ho : ∀ q : Nat, q < N.2.2.size → U.heap[q]? = N.2.2[q]?) (a : Array Value) : (Cond.laysStatic C n dd).before a U = true := by
  obtain ⟨cf, k, i, f, ad, cell, h0, h1, h2, h3, h4, h5, h6, h7, h8⟩ := h
  have h9 : U.heap[ad]? = some cell := by rw [ho ad (Array.getElem?_eq_some_iff.mp h4).1]; exact h4
  simp [Cond.before, Cond.holds, Cond.value, h0, h1, h2, h3, h9, h5, h6, h7, h8]
/-- what is known of the objects that the law's start gives, for the sake of exceptions and texts -/
def gx_Ex (N : gx_N) (U : State) : Prop := (∀ c ∈ gx_xf, ∀ a, c.before a U = true) ∧ (∃ v : RefV, va_Z Bundle.tN "UNASSIGNED_STACK" Bundle.steD v.v (gx_oA N) U N.2.2) ∧ (∃ v : RefV, va_Z Bundle.tN "SUPPRESSED_SENTINEL" Bundle.listD v.v (gx_oA N) U N.2.2) ∧ (∀ q ∈ gx_xs, ∃ a, vk_R "PostChain" q.1 q.2 a U) ∧ (∃ adK adV : Nat → Nat, vk_R "PostChain" 179 "#012abcdh" (adK 0) U ∧ vk_S 1 [9] [gx_ab] adK adV (gx_oA N) U N.2.2) ∧ va_Z "java/lang/String" "COMPACT_STRINGS" "Z" (.int 1) (gx_oA N) U N.2.2 ∧ gx_Ls Bundle.tN "UNASSIGNED_STACK" Bundle.steD N U ∧ gx_Ls Bundle.tN "SUPPRESSED_SENTINEL" Bundle.listD N U
theorem gx_Ex.moved {N : gx_N} {u U : State} (hW : u.WarmedH U.vm) (h : gx_Ex N u) : gx_Ex N U := by
  obtain ⟨h1, ⟨v2, h2⟩, ⟨v3, h3⟩, h4, ⟨aK, aV, h5, h6⟩, h7, h8, h9⟩ := h
  exact ⟨fun c hc => gx_face hc hW.alike (h1 c hc #[]), ⟨v2, h2.moved hW.alike⟩, ⟨v3, h3.moved hW.alike⟩, fun q hq => (h4 q hq).imp fun a ha => ha.warm hW, ⟨aK, aV, h5.warm hW, h6.moved hW.alike⟩, h7.moved hW.alike, h8.moved hW.alike, h9.moved hW.alike⟩
theorem gx_Ex.same {N : gx_N} {u U : State} (e : u.vm = U.vm) (h : gx_Ex N u) : gx_Ex N U := by
  obtain ⟨h1, ⟨v2, h2⟩, ⟨v3, h3⟩, h4, ⟨aK, aV, h5, h6⟩, h7, h8, h9⟩ := h
  have hA : u.vm.Alike U.vm := by rw [e]; exact Vm.Alike.refl _
  exact ⟨fun c hc => gx_face hc hA (h1 c hc #[]), ⟨v2, h2.moved hA⟩, ⟨v3, h3.moved hA⟩, fun q hq => (h4 q hq).imp fun a ha => ha.same e.symm, ⟨aK, aV, h5.same e.symm, h6.moved hA⟩, h7.moved hA, h8.moved hA, h9.moved hA⟩
def gx_Kn (N : gx_N) (U : State) : Prop := va_K N.1 gx_cl (gx_ta N) U ∧ (∀ q ∈ gx_nf, va_Nw (.fieldLinkNest q.1 q.2.1 q.2.2.1 q.2.2.2.1 q.2.2.2.2.1 q.2.2.2.2.2) U) ∧ (∀ q ∈ gx_nm, va_Nw (.methodLinkNest q.1 q.2.1 q.2.2.1 q.2.2.2) U) ∧ va_AO "PostChain$Word" U ∧ va_AO "PostChain$Domino" U ∧ gx_Ex N U
theorem gx_Kn.moved {N : gx_N} {u U : State} (hW : u.WarmedH U.vm) (h : gx_Kn N u) : gx_Kn N U :=
  ⟨va_K.moved hW.alike h.1, fun q hq => va_Nw.warmF hW (h.2.1 q hq), fun q hq => va_Nw.warmM hW (h.2.2.1 q hq), va_AO.moved hW.alike h.2.2.2.1, va_AO.moved hW.alike h.2.2.2.2.1, gx_Ex.moved hW h.2.2.2.2.2⟩
theorem gx_Kn.same {N : gx_N} {u U : State} (e : u.vm = U.vm) (h : gx_Kn N u) : gx_Kn N U :=
  ⟨va_K.moved (by rw [e]; exact Vm.Alike.refl _) h.1, fun q hq => va_Nw.same rfl e (h.2.1 q hq), fun q hq => va_Nw.same rfl e (h.2.2.1 q hq), va_AO.moved (by rw [e]; exact Vm.Alike.refl _) h.2.2.2.1, va_AO.moved (by rw [e]; exact Vm.Alike.refl _) h.2.2.2.2.1, gx_Ex.same e h.2.2.2.2.2⟩
def gx_rm (d mc ms : Nat) : Room := { frames := d, cells := mc, slots := ms, locals := 32 * d }
/-- what holds when a method has returned; what holds when it has thrown an object of a class -/
abbrev gx_P : Type := (Option Value → gx_W → Prop) × (String → gx_W → Prop)
def gx_thr (a : Nat) (C : String) (t : State) : Prop := ∃ cell : Cell, t.heap[a]? = some cell ∧ (∀ k, cell.vm ≠ .statics k) ∧ t.vm.findClass C = some cell.cls
def gx_Qc (N : gx_N) (A : Nat → Prop) (Q : gx_P) : Array Value → State → Outcome → State → Prop := fun _ st oc t =>
  ((∃ (r : Option Value) (w : gx_W), oc = .returned r ∧ Q.1 r w ∧ gx_Wd N w t.heap ∧ ∀ q, gx_cv w q → A q) ∨ ∃ (a : Nat) (C : String) (w : gx_W), oc = .threw a ∧ Q.2 C w ∧ gx_thr a C t ∧ gx_Wd N w t.heap ∧ ∀ q, gx_cv w q → A q) ∧ va_F A st t
abbrev gx_nt (Q : Option Value → gx_W → Prop) : gx_P := (Q, fun _ _ => False)
abbrev gx_eq (r : Option Value) (w : gx_W) : Option Value → gx_W → Prop := fun r' w' => r' = r ∧ w' = w
/-- no stack traces are made -/
def gx_lt (l : Launch) : Prop := ∀ e : Env, l.admits e → e.platform.stackTraces = false
/-- who catches what -/
def gx_tab (y : MethodName) : List (Nat × Nat × Nat × Nat) := if y = ⟨"PostChainLaw", "rule", "(LPostChain;IIIZI[J)I"⟩ then [(0, 23, 26, 13)] else if y = ⟨"PostChainLaw", "drop", "(LPostChain;II[J)I"⟩ then [(0, 17, 20, 13)] else if y = ⟨"PostChainLaw", "input", "(LPostChain;II[J)I"⟩ then [(0, 17, 20, 13)] else if y = ⟨"PostChainLaw", "way", "(LPostChain;I[J)I"⟩ then [(0, 9, 12, 26)] else if y = ⟨"PostChainLaw", "layWay", "(LPostChain;[J)I"⟩ then [(0, 8, 11, 26)] else []
def gx_xt (M : gx_M) (c : Code) : Prop := c.exceptionTable.toList.map (fun h => (h.startPc, h.endPc, h.handlerPc, h.catchType)) = gx_tab M.1
/-- a call of M with these arguments in this world comes back with Q; d frames deep at most, mc cells of ms slots are new at most -/
def gx_Ct (M : gx_M) (d mc ms : Nat) (as : List Value) (w : gx_W) (Q : Option Value → gx_W → Prop) : Prop :=
  ∀ (l : Launch) (N : gx_N), gx_lt l → Met l M.1 (gx_ws M) (gx_rm d mc ms) (va_Pc as (fun U => gx_Wd N w U.heap ∧ gx_Kn N U)) (gx_Qc N (gx_A w) (gx_nt Q)) mc ms (gx_A w)
/-- a walk's end: returned or thrown -/
def gx_Z (N : gx_N) (A : Nat → Prop) (Q : gx_P) (below : List Frame) (args : Array Value) (s : State) (R : Room) : State → Prop := fun t =>
  ∃ o, t.status = .running ∧ Ended t below o ∧ gx_Qc N A Q args s o t ∧ ∃ L, s.WarmedH t.vm ∧ s.sameButNew ({ t with vm := s.vm } : State) L R.cells R.slots ∧ ∀ q ∈ L, A q.base
/-- F: what a method knows beside (the law: its script) -/
def gx_V (F : gx_N → State → Prop) (M : gx_M) (d : Nat) (R : Room) (p : Program) (l : Launch) (s : State) (m : MethodId) (args : Array Value) (meth : Method) (c : Code) (N : gx_N) (A : Nat → Prop) : Prop :=
  p.tables.exec = Jvm.exec ∧ c.code = M.2.1 ∧ c.maxLocals = M.2.2.1 ∧ meth.sig.returnType = M.2.2.2 ∧ meth.locks = false ∧ s.vm.findClass M.1.cls = some m.cls ∧ meth.name = M.1.name ∧ (∀ w ∈ gx_T, w.before args s = true) ∧ gx_Kn N s ∧ d ≤ R.frames ∧ 32 * d ≤ R.locals ∧ (∀ q, s.heap.size ≤ q → A q) ∧ F N s ∧ gx_lt l ∧ gx_xt M c ∧ (∀ q, A q → N.2.2.size ≤ q) ∧ ∀ q : Nat, q < N.2.2.size → s.heap[q]? = N.2.2[q]?
def gx_X (F : gx_N → State → Prop) (M : gx_M) (d : Nat) (Q : gx_P) (pc : Nat) (L : List (Option Value)) (st : List Value) (w : gx_W) (b : Nat × Nat) : Prop :=
  ∀ (p : Program) (l : Launch) (e : Env) (R : Room) (s : State) (m : MethodId) (args : Array Value) (below : List Frame) (meth : Method) (c : Code) (H : Heap) (locs : List Loc) (cells slots : Nat) (ls : Array Slot) (N : gx_N) (A : Nat → Prop),
    gx_V F M d R p l s m args meth c N A → gx_Lv ls M.2.2.1 L → gx_Wd N w H → va_S A s.heap H locs → (∀ q, gx_cv w q → A q) → cells + b.1 ≤ R.cells → slots + b.2 ≤ R.slots →
    W p l e R s m args below meth c H locs cells slots (gx_Z N A Q below args s R) (F0 m pc ls st)
section GXA
variable {F : gx_N → State → Prop} {M : gx_M} {d : Nat} {Q : gx_P} {pc : Nat} {L : List (Option Value)} {st rest : List Value} {w : gx_W} {b : Nat × Nat}
theorem gx_mono {p : Program} {l : Launch} {e : Env} {R : Room} {s : State} {m : MethodId} {args : Array Value} {below : List Frame} {meth : Method} {c : Code} {H : Heap} {locs : List Loc} {cells slots : Nat} {Q1 Q2 : State → Prop} {g : JFrame} (h : ∀ t, Q1 t → Q2 t) (k : W p l e R s m args below meth c H locs cells slots Q1 g) : W p l e R s m args below meth c H locs cells slots Q2 g := fun T hT X => by
  obtain ⟨t, a, q⟩ := k T hT X
  exact ⟨t, a, h t q⟩
theorem gx_Z.of {N : gx_N} {A : Nat → Prop} {below : List Frame} {args : Array Value} {s : State} {R : Room} (t : State) (h : MQ below (gx_Qc N A Q) args s R.cells R.slots A t) : gx_Z N A Q below args s R t := by
  obtain ⟨o, h1, h2, h3, L', h4, h5⟩ := h
  exact ⟨o, h1, h2, h3, L', h4.2.1, h4.2.2, h5⟩
set_option maxHeartbeats 1000000 in
/-- a call's contract out of the walk of its body -/
theorem gx_ct {mc ms : Nat} {as : List Value} {Q0 : Option Value → gx_W → Prop} (hy : plainName M.1.cls = true) (hn : (lg_sl as).length ≤ M.2.2.1) (hL : gx_in M.2.2.1 as = L) (k : gx_X (fun _ _ => True) M d (gx_nt Q0) 0 L [] w (mc, ms)) (ht0 : gx_tab M.1 = [] := by decide +kernel) : gx_Ct M d mc ms as w Q0 := by
  intro l N hlt
  refine Met.ofW (cc := M.2.1) (maxL := M.2.2.1) (ret := M.2.2.2) hy rfl ?_
  intro p e s m args below meth c s₁ B hml hv
  obtain ⟨rfl, hw, hK⟩ := hv
  have hts := atoms_spec (ws := gx_ws M) B.pre
  have hl := lv_entry as hn
  rw [lg_entry_eq]
  generalize (lg_sl as ++ List.replicate (M.2.2.1 - (lg_sl as).length) Slot.unset).toArray = ls at hl ⊢
  subst hL
  have hsz : s.heap.size = w.2 := hw.1
  have hxt : gx_xt M c := by
    have h1 := B.noHandlers (hts _ List.mem_cons_self)
    have h2 : c.exceptionTable.toList = [] := by
      have h3 : c.exceptionTable.size = 0 := by simpa [Array.isEmpty] using h1
      exact List.eq_nil_of_length_eq_zero (by simpa using h3)
    show c.exceptionTable.toList.map _ = _
    rw [h2, ht0]; rfl
  have hAo : ∀ q, gx_A w q → N.2.2.size ≤ q := fun q hq => by
    rcases hq with (⟨x, hx⟩ | ⟨q', x, e, hx, -⟩) | hq
    · exact (hw.2.2.2.1 q x hx).1
    · have := (hw.2.2.2.1 q' x hx).1; omega
    · exact Nat.le_trans hw.2.1 hq
  refine gx_mono (fun t ht => ?_) (k p l e _ s m _ below meth c s.heap [] 0 0 ls N (gx_A w)
    ⟨B.exec, B.bytes, hml, B.returns, B.notSynchronized, findClass_of_methodNamed B.named, (name_of_methodNamed B.named B.method).1, fun x hx => hts x (List.mem_cons_of_mem _ hx), hK, Nat.le_refl _, Nat.le_refl _, fun q hq => Or.inr (by omega), trivial, hlt, hxt, hAo, hw.2.2.1⟩
    (gx_Lv.entry hl) hw va_S.rf (fun q h => Or.inl h) (by show 0 + mc ≤ mc; omega) (by show 0 + ms ≤ ms; omega))
  obtain ⟨o, h1, h2, h3, L', h4, h5, h6⟩ := ht
  rcases h3.1 with ⟨r, w', rfl, -⟩ | ⟨_, _, _, _, hF, _⟩
  · exact ⟨_, h1, h2, h3, L', ⟨⟨_, rfl⟩, h4, h5⟩, h6⟩
  · exact hF.elim
/-- an instruction that touches no cell and no local -/
theorem gx_go {pc' : Nat} {st' : List Value}
    (h : ∀ {p : Program} {l : Launch} {e : Env} {R : Room} {s : State} {m : MethodId} {args : Array Value} {below : List Frame} {meth : Method} {c : Code} {H : Heap} {locs : List Loc} {cells slots : Nat} {Q0 : State → Prop} {ls : Array Slot} {N : gx_N} {A : Nat → Prop},
      gx_V F M d R p l s m args meth c N A → gx_Lv ls M.2.2.1 L → gx_Wd N w H → W p l e R s m args below meth c H locs cells slots Q0 (F0 m pc' ls st') → W p l e R s m args below meth c H locs cells slots Q0 (F0 m pc ls st))
    (k : gx_X F M d Q pc' L st' w b) : gx_X F M d Q pc L st w b :=
  fun p l e R s m args below meth c H locs cells slots ls N A V hl hw hS hd hc hs => h V hl hw (k p l e R s m args below meth c H locs cells slots ls N A V hl hw hS hd hc hs)
theorem gx_iconst {n : Int} (hdg : decode M.2.1 pc = .ok (.iconst n, 1)) (v : Int32) (hv : Int32.ofInt n = v) (k : gx_X F M d Q (pc + 1) L (.int v :: st) w b) : gx_X F M d Q pc L st w b := gx_go (fun V _ _ k => lv_iconst V.1 V.2.1 hdg hv k) k
theorem gx_bipush {n : Int} (hdg : decode M.2.1 pc = .ok (.bipush n, 2)) (v : Int32) (hv : (Int8.ofInt n).toInt32 = v) (k : gx_X F M d Q (pc + 2) L (.int v :: st) w b) : gx_X F M d Q pc L st w b := gx_go (fun V _ _ k => lv_bipush V.1 V.2.1 hdg hv k) k
theorem gx_sipush {n : Int} (hdg : decode M.2.1 pc = .ok (.sipush n, 3)) (v : Int32) (hv : (Int16.ofInt n).toInt32 = v) (k : gx_X F M d Q (pc + 3) L (.int v :: st) w b) : gx_X F M d Q pc L st w b := gx_go (fun V _ _ k => lv_sipush V.1 V.2.1 hdg hv k) k
theorem gx_lconst {n : Fin 2} (hdg : decode M.2.1 pc = .ok (.lconst n, 1)) (v : Int64) (hv : Int64.ofNat (n : Nat) = v) (k : gx_X F M d Q (pc + 1) L (.long v :: st) w b) : gx_X F M d Q pc L st w b := gx_go (fun V _ _ k => lv_lconst V.1 V.2.1 hdg hv k) k
theorem gx_iload_n {j : Fin 4} {x : Int32} (hdg : decode M.2.1 pc = .ok (.iload_n j, 1)) (hl : L[(j : Nat)]? = some (some (.int x))) (k : gx_X F M d Q (pc + 1) L (.int x :: st) w b) : gx_X F M d Q pc L st w b := gx_go (fun V h _ k => lv_iload_n V.1 V.2.1 hdg rfl (h.2.2 _ _ hl) k) k
theorem gx_iload {j : Nat} {x : Int32} (hdg : decode M.2.1 pc = .ok (.iload j, 2)) (hl : L[j]? = some (some (.int x))) (k : gx_X F M d Q (pc + 2) L (.int x :: st) w b) : gx_X F M d Q pc L st w b := gx_go (fun V h _ k => lv_iload V.1 V.2.1 hdg (h.2.2 _ _ hl) k) k
theorem gx_lload_n {j : Fin 4} {x : Int64} (hdg : decode M.2.1 pc = .ok (.lload_n j, 1)) (hl : L[(j : Nat)]? = some (some (.long x))) (k : gx_X F M d Q (pc + 1) L (.long x :: st) w b) : gx_X F M d Q pc L st w b := gx_go (fun V h _ k => lv_lload_n V.1 V.2.1 hdg rfl (h.2.2 _ _ hl) k) k
theorem gx_aload_n {j : Fin 4} {x : Nat} (hdg : decode M.2.1 pc = .ok (.aload_n j, 1)) (hl : L[(j : Nat)]? = some (some (.ref x))) (k : gx_X F M d Q (pc + 1) L (.ref x :: st) w b) : gx_X F M d Q pc L st w b := gx_go (fun V h _ k => lv_aload_n V.1 V.2.1 hdg rfl (h.2.2 _ _ hl) k) k
theorem gx_aload {j : Nat} {x : Nat} (hdg : decode M.2.1 pc = .ok (.aload j, 2)) (hl : L[j]? = some (some (.ref x))) (k : gx_X F M d Q (pc + 2) L (.ref x :: st) w b) : gx_X F M d Q pc L st w b := gx_go (fun V h _ k => lv_aload V.1 V.2.1 hdg (h.2.2 _ _ hl) k) k
theorem gx_iadd {x y : Int32} (hdg : decode M.2.1 pc = .ok (.iadd, 1)) (k : gx_X F M d Q (pc + 1) L (.int (x + y) :: st) w b) : gx_X F M d Q pc L (.int y :: .int x :: st) w b := gx_go (fun V _ _ k => lv_iadd V.1 V.2.1 hdg k) k
theorem gx_isub {x y : Int32} (hdg : decode M.2.1 pc = .ok (.isub, 1)) (k : gx_X F M d Q (pc + 1) L (.int (x - y) :: st) w b) : gx_X F M d Q pc L (.int y :: .int x :: st) w b := gx_go (fun V _ _ k => lv_isub V.1 V.2.1 hdg k) k
theorem gx_imul {x y : Int32} (hdg : decode M.2.1 pc = .ok (.imul, 1)) (k : gx_X F M d Q (pc + 1) L (.int (x * y) :: st) w b) : gx_X F M d Q pc L (.int y :: .int x :: st) w b := gx_go (fun V _ _ k => lv_imul V.1 V.2.1 hdg k) k
theorem gx_iand {x y : Int32} (hdg : decode M.2.1 pc = .ok (.iand, 1)) (k : gx_X F M d Q (pc + 1) L (.int (x &&& y) :: st) w b) : gx_X F M d Q pc L (.int y :: .int x :: st) w b := gx_go (fun V _ _ k => lv_iand V.1 V.2.1 hdg k) k
theorem gx_idiv {x y : Int32} (hdg : decode M.2.1 pc = .ok (.idiv, 1)) (hne : ¬ y = 0) (k : gx_X F M d Q (pc + 1) L (.int (x / y) :: st) w b) : gx_X F M d Q pc L (.int y :: .int x :: st) w b := gx_go (fun V _ _ k => lv_idiv V.1 V.2.1 hdg hne k) k
theorem gx_irem {x y : Int32} (hdg : decode M.2.1 pc = .ok (.irem, 1)) (hne : ¬ y = 0) (k : gx_X F M d Q (pc + 1) L (.int (x - x / y * y) :: st) w b) : gx_X F M d Q pc L (.int y :: .int x :: st) w b := gx_go (fun V _ _ k => lv_irem V.1 V.2.1 hdg hne k) k
theorem gx_land {x y : Int64} (hdg : decode M.2.1 pc = .ok (.land, 1)) (k : gx_X F M d Q (pc + 1) L (.long (x &&& y) :: st) w b) : gx_X F M d Q pc L (.long y :: .long x :: st) w b := gx_go (fun V _ _ k => lv_land V.1 V.2.1 hdg k) k
theorem gx_lor {x y : Int64} (hdg : decode M.2.1 pc = .ok (.lor, 1)) (k : gx_X F M d Q (pc + 1) L (.long (x ||| y) :: st) w b) : gx_X F M d Q pc L (.long y :: .long x :: st) w b := gx_go (fun V _ _ k => lv_lor V.1 V.2.1 hdg k) k
theorem gx_i2l {x : Int32} (hdg : decode M.2.1 pc = .ok (.i2l, 1)) (k : gx_X F M d Q (pc + 1) L (.long x.toInt64 :: st) w b) : gx_X F M d Q pc L (.int x :: st) w b := gx_go (fun V _ _ k => lv_i2l V.1 V.2.1 hdg rfl k) k
theorem gx_l2i {x : Int64} (hdg : decode M.2.1 pc = .ok (.l2i, 1)) (k : gx_X F M d Q (pc + 1) L (.int x.toInt32 :: st) w b) : gx_X F M d Q pc L (.long x :: st) w b := gx_go (fun V _ _ k => lv_l2i V.1 V.2.1 hdg rfl k) k
theorem gx_i2c {x : Int32} (hdg : decode M.2.1 pc = .ok (.i2c, 1)) (k : gx_X F M d Q (pc + 1) L (.int (x.toUInt32 % 65536).toInt32 :: st) w b) : gx_X F M d Q pc L (.int x :: st) w b := gx_go (fun V _ _ k => lv_i2c V.1 V.2.1 hdg rfl k) k
theorem gx_lushr {x : Int64} {y : Int32} (hdg : decode M.2.1 pc = .ok (.lushr, 1)) (k : gx_X F M d Q (pc + 1) L (.long (x.toUInt64 >>> (y.toInt64.toUInt64 &&& Int64.toUInt64 63)).toInt64 :: st) w b) : gx_X F M d Q pc L (.int y :: .long x :: st) w b := gx_go (fun V _ _ k => lv_lushr V.1 V.2.1 hdg rfl k) k
theorem gx_lshr {x : Int64} {y : Int32} (hdg : decode M.2.1 pc = .ok (.lshr, 1)) (k : gx_X F M d Q (pc + 1) L (.long (x >>> (y.toInt64 &&& 63)) :: st) w b) : gx_X F M d Q pc L (.int y :: .long x :: st) w b := gx_go (fun V _ _ k => lv_lshr V.1 V.2.1 hdg rfl k) k
theorem gx_lshl {x : Int64} {y : Int32} (hdg : decode M.2.1 pc = .ok (.lshl, 1)) (k : gx_X F M d Q (pc + 1) L (.long (x <<< (y.toInt64 &&& 63)) :: st) w b) : gx_X F M d Q pc L (.int y :: .long x :: st) w b := gx_go (fun V _ _ k => lv_lshl V.1 V.2.1 hdg rfl k) k
theorem gx_dup {v : Value} (hdg : decode M.2.1 pc = .ok (.dup, 1)) (hv : v.category = 1) (k : gx_X F M d Q (pc + 1) L (v :: v :: st) w b) : gx_X F M d Q pc L (v :: st) w b := gx_go (fun V _ _ k => lv_dup V.1 V.2.1 hdg hv k) k
theorem gx_pop {v : Value} (hdg : decode M.2.1 pc = .ok (.pop, 1)) (hv : v.category = 1) (k : gx_X F M d Q (pc + 1) L st w b) : gx_X F M d Q pc L (v :: st) w b := gx_go (fun V _ _ k => lv_pop V.1 V.2.1 hdg hv k) k
theorem gx_dup2 {v u : Value} (hdg : decode M.2.1 pc = .ok (.dup2, 1)) (hv : v.category = 1) (hu : u.category = 1) (k : gx_X F M d Q (pc + 1) L (v :: u :: v :: u :: st) w b) : gx_X F M d Q pc L (v :: u :: st) w b := gx_go (fun V _ _ k => lv_dup2_11 V.1 V.2.1 hdg hv hu k) k
theorem gx_goto {off : Int} {tgt : Nat} (hdg : decode M.2.1 pc = .ok (.goto off, 3)) (ht : (pc : Int) + off = (tgt : Int)) (k : gx_X F M d Q tgt L st w b) : gx_X F M d Q pc L st w b := gx_go (fun V _ _ k => lv_goto V.1 V.2.1 hdg ht k) k
theorem gx_tableOut {dflt lo hi : Int} {offs : Array Int} {len : Nat} {x : Int32} {tgt : Nat} (hdg : decode M.2.1 pc = .ok (.tableswitch dflt lo hi offs, len)) (h : x.toInt < lo ∨ hi < x.toInt) (ht : (pc : Int) + dflt = (tgt : Int)) (k : gx_X F M d Q tgt L st w b) : gx_X F M d Q pc L (.int x :: st) w b := gx_go (fun V _ _ k => lv_tableOut V.1 V.2.1 hdg h ht k) k
theorem gx_tableIn {dflt lo hi : Int} {offs : Array Int} {len : Nat} {x : Int32} {off : Int} {tgt : Nat} (hdg : decode M.2.1 pc = .ok (.tableswitch dflt lo hi offs, len)) (h1 : ¬ x.toInt < lo) (h2 : ¬ hi < x.toInt) (ho : offs[(x.toInt - lo).toNat]? = some off) (ht : (pc : Int) + off = (tgt : Int)) (k : gx_X F M d Q tgt L st w b) : gx_X F M d Q pc L (.int x :: st) w b := gx_go (fun V _ _ k => lv_tableIn V.1 V.2.1 hdg h1 h2 ho ht k) k
theorem gx_if_eq {x : Int32} {off : Int} {tgt : Nat} (hdg : decode M.2.1 pc = .ok (.ifCond .eq off, 3)) (ht : (pc : Int) + off = (tgt : Int)) (kt : x = 0 → gx_X F M d Q tgt L st w b) (kf : ¬ (x = 0) → gx_X F M d Q (pc + 3) L st w b) : gx_X F M d Q pc L (.int x :: st) w b := fun p l e R s m args below meth c H locs cells slots ls N A V hl hw hS hd hc hs => lv_if_eq V.1 V.2.1 hdg ht (fun h => kt h p l e R s m args below meth c H locs cells slots ls N A V hl hw hS hd hc hs) (fun h => kf h p l e R s m args below meth c H locs cells slots ls N A V hl hw hS hd hc hs)
theorem gx_icmp_eq {x y : Int32} {off : Int} {tgt : Nat} (hdg : decode M.2.1 pc = .ok (.if_icmp .eq off, 3)) (ht : (pc : Int) + off = (tgt : Int)) (kt : x = y → gx_X F M d Q tgt L st w b) (kf : ¬ (x = y) → gx_X F M d Q (pc + 3) L st w b) : gx_X F M d Q pc L (.int y :: .int x :: st) w b := fun p l e R s m args below meth c H locs cells slots ls N A V hl hw hS hd hc hs => lv_icmp_eq V.1 V.2.1 hdg ht (fun h => kt h p l e R s m args below meth c H locs cells slots ls N A V hl hw hS hd hc hs) (fun h => kf h p l e R s m args below meth c H locs cells slots ls N A V hl hw hS hd hc hs)
theorem gx_if_ne {x : Int32} {off : Int} {tgt : Nat} (hdg : decode M.2.1 pc = .ok (.ifCond .ne off, 3)) (ht : (pc : Int) + off = (tgt : Int)) (kt : ¬ x = 0 → gx_X F M d Q tgt L st w b) (kf : x = 0 → gx_X F M d Q (pc + 3) L st w b) : gx_X F M d Q pc L (.int x :: st) w b := fun p l e R s m args below meth c H locs cells slots ls N A V hl hw hS hd hc hs => lv_if_ne V.1 V.2.1 hdg ht (fun h => kt h p l e R s m args below meth c H locs cells slots ls N A V hl hw hS hd hc hs) (fun h => kf h p l e R s m args below meth c H locs cells slots ls N A V hl hw hS hd hc hs)
theorem gx_icmp_ne {x y : Int32} {off : Int} {tgt : Nat} (hdg : decode M.2.1 pc = .ok (.if_icmp .ne off, 3)) (ht : (pc : Int) + off = (tgt : Int)) (kt : ¬ x = y → gx_X F M d Q tgt L st w b) (kf : x = y → gx_X F M d Q (pc + 3) L st w b) : gx_X F M d Q pc L (.int y :: .int x :: st) w b := fun p l e R s m args below meth c H locs cells slots ls N A V hl hw hS hd hc hs => lv_icmp_ne V.1 V.2.1 hdg ht (fun h => kt h p l e R s m args below meth c H locs cells slots ls N A V hl hw hS hd hc hs) (fun h => kf h p l e R s m args below meth c H locs cells slots ls N A V hl hw hS hd hc hs)
theorem gx_if_lt {x : Int32} {off : Int} {tgt : Nat} (hdg : decode M.2.1 pc = .ok (.ifCond .lt off, 3)) (ht : (pc : Int) + off = (tgt : Int)) (kt : x < 0 → gx_X F M d Q tgt L st w b) (kf : ¬ (x < 0) → gx_X F M d Q (pc + 3) L st w b) : gx_X F M d Q pc L (.int x :: st) w b := fun p l e R s m args below meth c H locs cells slots ls N A V hl hw hS hd hc hs => lv_if_lt V.1 V.2.1 hdg ht (fun h => kt h p l e R s m args below meth c H locs cells slots ls N A V hl hw hS hd hc hs) (fun h => kf h p l e R s m args below meth c H locs cells slots ls N A V hl hw hS hd hc hs)
theorem gx_icmp_lt {x y : Int32} {off : Int} {tgt : Nat} (hdg : decode M.2.1 pc = .ok (.if_icmp .lt off, 3)) (ht : (pc : Int) + off = (tgt : Int)) (kt : x < y → gx_X F M d Q tgt L st w b) (kf : ¬ (x < y) → gx_X F M d Q (pc + 3) L st w b) : gx_X F M d Q pc L (.int y :: .int x :: st) w b := fun p l e R s m args below meth c H locs cells slots ls N A V hl hw hS hd hc hs => lv_icmp_lt V.1 V.2.1 hdg ht (fun h => kt h p l e R s m args below meth c H locs cells slots ls N A V hl hw hS hd hc hs) (fun h => kf h p l e R s m args below meth c H locs cells slots ls N A V hl hw hS hd hc hs)
theorem gx_if_ge {x : Int32} {off : Int} {tgt : Nat} (hdg : decode M.2.1 pc = .ok (.ifCond .ge off, 3)) (ht : (pc : Int) + off = (tgt : Int)) (kt : 0 ≤ x → gx_X F M d Q tgt L st w b) (kf : ¬ (0 ≤ x) → gx_X F M d Q (pc + 3) L st w b) : gx_X F M d Q pc L (.int x :: st) w b := fun p l e R s m args below meth c H locs cells slots ls N A V hl hw hS hd hc hs => lv_if_ge V.1 V.2.1 hdg ht (fun h => kt h p l e R s m args below meth c H locs cells slots ls N A V hl hw hS hd hc hs) (fun h => kf h p l e R s m args below meth c H locs cells slots ls N A V hl hw hS hd hc hs)
theorem gx_icmp_ge {x y : Int32} {off : Int} {tgt : Nat} (hdg : decode M.2.1 pc = .ok (.if_icmp .ge off, 3)) (ht : (pc : Int) + off = (tgt : Int)) (kt : y ≤ x → gx_X F M d Q tgt L st w b) (kf : ¬ (y ≤ x) → gx_X F M d Q (pc + 3) L st w b) : gx_X F M d Q pc L (.int y :: .int x :: st) w b := fun p l e R s m args below meth c H locs cells slots ls N A V hl hw hS hd hc hs => lv_icmp_ge V.1 V.2.1 hdg ht (fun h => kt h p l e R s m args below meth c H locs cells slots ls N A V hl hw hS hd hc hs) (fun h => kf h p l e R s m args below meth c H locs cells slots ls N A V hl hw hS hd hc hs)
theorem gx_if_gt {x : Int32} {off : Int} {tgt : Nat} (hdg : decode M.2.1 pc = .ok (.ifCond .gt off, 3)) (ht : (pc : Int) + off = (tgt : Int)) (kt : 0 < x → gx_X F M d Q tgt L st w b) (kf : ¬ (0 < x) → gx_X F M d Q (pc + 3) L st w b) : gx_X F M d Q pc L (.int x :: st) w b := fun p l e R s m args below meth c H locs cells slots ls N A V hl hw hS hd hc hs => lv_if_gt V.1 V.2.1 hdg ht (fun h => kt h p l e R s m args below meth c H locs cells slots ls N A V hl hw hS hd hc hs) (fun h => kf h p l e R s m args below meth c H locs cells slots ls N A V hl hw hS hd hc hs)
theorem gx_icmp_gt {x y : Int32} {off : Int} {tgt : Nat} (hdg : decode M.2.1 pc = .ok (.if_icmp .gt off, 3)) (ht : (pc : Int) + off = (tgt : Int)) (kt : y < x → gx_X F M d Q tgt L st w b) (kf : ¬ (y < x) → gx_X F M d Q (pc + 3) L st w b) : gx_X F M d Q pc L (.int y :: .int x :: st) w b := fun p l e R s m args below meth c H locs cells slots ls N A V hl hw hS hd hc hs => lv_icmp_gt V.1 V.2.1 hdg ht (fun h => kt h p l e R s m args below meth c H locs cells slots ls N A V hl hw hS hd hc hs) (fun h => kf h p l e R s m args below meth c H locs cells slots ls N A V hl hw hS hd hc hs)
theorem gx_if_le {x : Int32} {off : Int} {tgt : Nat} (hdg : decode M.2.1 pc = .ok (.ifCond .le off, 3)) (ht : (pc : Int) + off = (tgt : Int)) (kt : x ≤ 0 → gx_X F M d Q tgt L st w b) (kf : ¬ (x ≤ 0) → gx_X F M d Q (pc + 3) L st w b) : gx_X F M d Q pc L (.int x :: st) w b := fun p l e R s m args below meth c H locs cells slots ls N A V hl hw hS hd hc hs => lv_if_le V.1 V.2.1 hdg ht (fun h => kt h p l e R s m args below meth c H locs cells slots ls N A V hl hw hS hd hc hs) (fun h => kf h p l e R s m args below meth c H locs cells slots ls N A V hl hw hS hd hc hs)
theorem gx_icmp_le {x y : Int32} {off : Int} {tgt : Nat} (hdg : decode M.2.1 pc = .ok (.if_icmp .le off, 3)) (ht : (pc : Int) + off = (tgt : Int)) (kt : x ≤ y → gx_X F M d Q tgt L st w b) (kf : ¬ (x ≤ y) → gx_X F M d Q (pc + 3) L st w b) : gx_X F M d Q pc L (.int y :: .int x :: st) w b := fun p l e R s m args below meth c H locs cells slots ls N A V hl hw hS hd hc hs => lv_icmp_le V.1 V.2.1 hdg ht (fun h => kt h p l e R s m args below meth c H locs cells slots ls N A V hl hw hS hd hc hs) (fun h => kf h p l e R s m args below meth c H locs cells slots ls N A V hl hw hS hd hc hs)
theorem gx_istore_n {j : Fin 4} {x : Int32} (hdg : decode M.2.1 pc = .ok (.istore_n j, 1)) (hn : (j : Nat) < M.2.2.1) (hc1 : gx_c1 L (j : Nat) = true) (k : gx_X F M d Q (pc + 1) (L.set (j : Nat) (some (.int x))) st w b) : gx_X F M d Q pc L (.int x :: st) w b := fun p l e R s m args below meth c H locs cells slots ls N A V hl hw hS hd hc hs => lv_istore_n V.1 V.2.1 hdg rfl hl.has hn rfl (fun ls' h' => k p l e R s m args below meth c H locs cells slots ls' N A V (gx_Lv.set hc1 h') hw hS hd hc hs)
theorem gx_istore {j : Nat} {x : Int32} (hdg : decode M.2.1 pc = .ok (.istore j, 2)) (hn : j < M.2.2.1) (hc1 : gx_c1 L j = true) (k : gx_X F M d Q (pc + 2) (L.set j (some (.int x))) st w b) : gx_X F M d Q pc L (.int x :: st) w b := fun p l e R s m args below meth c H locs cells slots ls N A V hl hw hS hd hc hs => lv_istore V.1 V.2.1 hdg hl.has hn rfl (fun ls' h' => k p l e R s m args below meth c H locs cells slots ls' N A V (gx_Lv.set hc1 h') hw hS hd hc hs)
theorem gx_astore_n {j : Fin 4} {x : Nat} (hdg : decode M.2.1 pc = .ok (.astore_n j, 1)) (hn : (j : Nat) < M.2.2.1) (hc1 : gx_c1 L (j : Nat) = true) (k : gx_X F M d Q (pc + 1) (L.set (j : Nat) (some (.ref x))) st w b) : gx_X F M d Q pc L (.ref x :: st) w b := fun p l e R s m args below meth c H locs cells slots ls N A V hl hw hS hd hc hs => lv_astore_n V.1 V.2.1 hdg rfl hl.has hn rfl (fun ls' h' => k p l e R s m args below meth c H locs cells slots ls' N A V (gx_Lv.set hc1 h') hw hS hd hc hs)
theorem gx_astore {j : Nat} {x : Nat} (hdg : decode M.2.1 pc = .ok (.astore j, 2)) (hn : j < M.2.2.1) (hc1 : gx_c1 L j = true) (k : gx_X F M d Q (pc + 2) (L.set j (some (.ref x))) st w b) : gx_X F M d Q pc L (.ref x :: st) w b := fun p l e R s m args below meth c H locs cells slots ls N A V hl hw hS hd hc hs => lv_astore V.1 V.2.1 hdg hl.has hn rfl (fun ls' h' => k p l e R s m args below meth c H locs cells slots ls' N A V (gx_Lv.set hc1 h') hw hS hd hc hs)
theorem gx_iinc {j : Nat} {n : Int} {x : Int32} (hdg : decode M.2.1 pc = .ok (.iinc j n, 3)) (hl0 : L[j]? = some (some (.int x))) (v : Int32) (hv : x + Int32.ofInt n = v) (hn : j < M.2.2.1) (hc1 : gx_c1 L j = true) (k : gx_X F M d Q (pc + 3) (L.set j (some (.int v))) st w b) : gx_X F M d Q pc L st w b := fun p l e R s m args below meth c H locs cells slots ls N A V hl hw hS hd hc hs => by
  have h5 := gx_en_of L 0 j _ hl0
  rw [Nat.zero_add] at h5
  obtain ⟨i, hi⟩ := List.getElem?_of_mem h5
  exact lv_iinc V.1 V.2.1 hdg hl.has hi hv hn rfl (fun ls' h' => k p l e R s m args below meth c H locs cells slots ls' N A V (gx_Lv.set hc1 h') hw hS hd hc hs)
theorem gx_ireturn {v : Int32} (hr : M.2.2.2 = some .int) (hdg : decode M.2.1 pc = .ok (.ireturn, 1)) (hq : Q.1 (some (.int v)) w) : gx_X F M d Q pc L [.int v] w b := fun p l e R s m args below meth c H locs cells slots ls N A V hl hw hS hd hc hs => by
  refine W.widen (k := R.cells) (n := R.slots) (by omega) (by omega) ?_
  exact gx_mono gx_Z.of (W.iret (v := v) V.1 V.2.1 (V.2.2.2.1.trans hr) (fun t ht _ => ⟨Or.inl ⟨_, w, rfl, hq, by rw [ht]; exact hw, hd⟩, hS.F ht⟩) hS.2.2 hdg V.2.2.2.2.1)
theorem gx_zreturn {v : Int32} {ty : FieldType} (hr : M.2.2.2 = some ty) (hn : narrow ty (.int v) = .int v) (hdg : decode M.2.1 pc = .ok (.ireturn, 1)) (hq : Q.1 (some (.int v)) w) : gx_X F M d Q pc L [.int v] w b := fun p l e R s m args below meth c H locs cells slots ls N A V hl hw hS hd hc hs => by
  refine W.widen (k := R.cells) (n := R.slots) (by omega) (by omega) ?_
  exact gx_mono gx_Z.of (W.zret (v := v) V.1 V.2.1 (V.2.2.2.1.trans hr) hn (fun t ht _ => ⟨Or.inl ⟨_, w, rfl, hq, by rw [ht]; exact hw, hd⟩, hS.F ht⟩) hS.2.2 hdg V.2.2.2.2.1)
theorem gx_areturn {v : Value} {rt : FieldType} (hr : M.2.2.2 = some rt) (hrt : (∃ n, rt = .object n) ∨ ∃ t, rt = .array t) (hv : v = .null ∨ ∃ a, v = .ref a) (hdg : decode M.2.1 pc = .ok (.areturn, 1)) (hq : Q.1 (some v) w) : gx_X F M d Q pc L [v] w b := fun p l e R s m args below meth c H locs cells slots ls N A V hl hw hS hd hc hs => by
  refine W.widen (k := R.cells) (n := R.slots) (by omega) (by omega) ?_
  exact gx_mono gx_Z.of (W.aret (v := v) V.1 V.2.1 (V.2.2.2.1.trans hr) hrt hv (fun t ht _ => ⟨Or.inl ⟨_, w, rfl, hq, by rw [ht]; exact hw, hd⟩, hS.F ht⟩) hS.2.2 hdg V.2.2.2.2.1)
theorem gx_return (hr : M.2.2.2 = none) (hdg : decode M.2.1 pc = .ok (.return_, 1)) (hq : Q.1 none w) : gx_X F M d Q pc L [] w b := fun p l e R s m args below meth c H locs cells slots ls N A V hl hw hS hd hc hs => by
  refine W.widen (k := R.cells) (n := R.slots) (by omega) (by omega) ?_
  exact gx_mono gx_Z.of (W.vret V.1 V.2.1 (V.2.2.2.1.trans hr) (fun t ht _ => ⟨Or.inl ⟨_, w, rfl, hq, by rw [ht]; exact hw, hd⟩, hS.F ht⟩) hS.2.2 hdg V.2.2.2.2.1)
theorem gx_top {x y : Int32} (h : x = y) (k : gx_X F M d Q pc L (.int y :: st) w b) : gx_X F M d Q pc L (.int x :: st) w b := h ▸ k
theorem gx_w {w' : gx_W} (h : w = w') (k : gx_X F M d Q pc L st w' b) : gx_X F M d Q pc L st w b := h ▸ k
/-- a text or a row is opened: its two cells -/
theorem gx_unbox {h ci cap : Nat} {l : List Nat} (hb : w.1 h = some (gx_bx ci cap l)) (k : ∀ f, gx_fn l f → l.length ≤ cap → cap < 65536 → gx_sm l → w.1 (h + 1) = none → gx_X F M d Q pc L st (gx_raw w h ci cap l.length f) b) : gx_X F M d Q pc L st w b := fun p l e R s m args below meth c H locs cells slots ls N A V hl hw hS hd hc hs => by
  obtain ⟨h1, h2, f, hf, hw'⟩ := hw.unbox hb
  exact k f hf h2.1 h2.2.1 h2.2.2 h1 p _ e R s m args below meth c H locs cells slots ls N A V hl hw' hS (fun q hq => hd q (gx_cv.raw hb hq)) hc hs
/-- and closed again -/
theorem gx_box {h ci cap n : Nat} {f : Nat → Int32} (l : List Nat) (h0 : w.1 (h + 1) = none) (hn : n = l.length) (hc0 : l.length ≤ cap) (hcap : cap < 65536) (hsm : gx_sm l) (hf : gx_fn l f) (k : gx_X F M d Q pc L st (gx_st w h (gx_bx ci cap l)) b) : gx_X F M d Q pc L st (gx_raw w h ci cap n f) b := fun p l' e R s m args below meth c H locs cells slots ls N A V hl hw hS hd hc hs => by
  refine k p l' e R s m args below meth c H locs cells slots ls N A V hl (hw.box h0 hn ⟨hc0, hcap, hsm⟩ hf) hS (fun q hq => hd q ?_) hc hs
  have key : ∀ q y, (gx_st w h (gx_bx ci cap l)).1 q = some y → q = h ∨ (q ≠ h ∧ q ≠ h + 1 ∧ w.1 q = some y) := fun q y hy => by
    by_cases e0 : q = h
    · exact Or.inl e0
    · rw [gx_st_ne e0] at hy
      exact Or.inr ⟨e0, (fun e1 => by rw [e1, h0] at hy; cases hy), hy⟩
  rcases hq with ⟨y, hy⟩ | ⟨q', y, e, hy, hw2⟩
  · rcases key q y hy with rfl | ⟨e0, e1, h1⟩
    · exact Or.inl ⟨_, gx_raw_h⟩
    · exact Or.inl ⟨y, by rw [gx_raw_ne e0 e1]; exact h1⟩
  · rcases key q' y hy with rfl | ⟨e0, e1, h1⟩
    · rw [e]; exact Or.inl ⟨_, gx_raw_h1⟩
    · exact Or.inr ⟨q', y, e, by rw [gx_raw_ne e0 e1]; exact h1, hw2⟩
theorem gx_P1 {D : va_G} {cl : List vw_C} {a : Nat} {x : va_E} {H : Heap} (h : va_at D cl (a, x) H) : va_P D cl [(a, x)] H := fun k q hk => by
  have hz : k < 1 := (List.getElem?_eq_some_iff.mp hk).1
  rw [show k = 0 by omega] at hk
  cases hk
  exact h
theorem gx_get {idx ci j a : Nat} {fs : List Value} {v : Value} (hf : gx_fl M.1.cls idx ci j) (hdg : decode M.2.1 pc = .ok (.getfield idx, 3)) (hw0 : w.1 a = some (gx_ob ci fs)) (hv : fs[j]? = some v) (k : gx_X F M d Q (pc + 3) L (v :: st) w b) : gx_X F M d Q pc L (.ref a :: st) w b := gx_go (fun V _ hw k => by
  obtain ⟨hx, hb, hml, hr, hlk, hown, hnm, hts, hK, hfr, hlo, hA, hF⟩ := V
  obtain ⟨C, T, n, h1, h2, h3, h4 | ⟨host, h4⟩⟩ := hf
  · exact va_get (ws := [(a, .inr (ci, fs))]) hx hb hts h3 hown hK.1 (gx_P1 (hw.2.2.2.1 a _ hw0).2) 0 rfl h1 j h2 (hts _ h4) (fun _ h => h) hv hdg k
  · exact va_getN (ws := [(a, .inr (ci, fs))]) hx hb hts h3 hown hK.1 (gx_P1 (hw.2.2.2.1 a _ hw0).2) 0 rfl h1 j h2 (va_Nw.use rfl (hK.2.1 _ h4)) (fun _ h => h) hv hdg k) k
end GXA
