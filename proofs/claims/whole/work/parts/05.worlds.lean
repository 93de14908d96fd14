/-! My calculus, first part: worlds as maps from addresses to abstract cells; a text or a row of numbers is one abstract cell -/
abbrev gx_E : Type := (Nat × vp_A) ⊕ (Nat × List Value) ⊕ (Nat × Nat × List Nat)
abbrev gx_W : Type := (Nat → Option gx_E) × Nat
/-- class numbers and slots; array classes; the heap at the law's start -/
abbrev gx_N : Type := va_G × (Nat → ClassId) × Heap
def gx_ta (N : gx_N) : List (ClassId × FieldType) := [(N.2.1 0, .int), (N.2.1 1, .char), (N.2.1 2, .boolean), (N.2.1 3, .object "PostChain$Word"), (N.2.1 4, .object "PostChain$Domino"), (N.2.1 5, .long)]
/-- which array kind a box of class number ci keeps: Word chars (kind 1), Row ints (kind 0) -/
def gx_bk (ci : Nat) : Nat := match ci with
  | 0 => 1
  | _ => 0
def gx_fn (l : List Nat) (f : Nat → Int32) : Prop := ∀ i, i < l.length → f i = nI (l.getD i 0)
def gx_sm (l : List Nat) : Prop := ∀ c ∈ l, c < 65536
def gx_is (N : gx_N) (q : Nat) (x : gx_E) (H : Heap) : Prop := match x with
  | .inl a => va_at N.1 gx_cl (q, .inl (N.2.1 a.1, a.2)) H
  | .inr (.inl o) => va_at N.1 gx_cl (q, .inr o) H
  | .inr (.inr t) => ∃ f : Nat → Int32, gx_fn t.2.2 f ∧ (t.2.2.length ≤ t.2.1 ∧ t.2.1 < 65536 ∧ gx_sm t.2.2) ∧ va_at N.1 gx_cl (q, .inr (t.1, [.ref (q + 1), .int (nI t.2.2.length)])) H ∧ va_at N.1 gx_cl (q + 1, .inl (N.2.1 (gx_bk t.1), t.2.1, .inl f)) H
def gx_wide (x : gx_E) : Bool := match x with
  | .inr (.inr _) => true
  | _ => false
def gx_Wd (N : gx_N) (w : gx_W) (H : Heap) : Prop :=
  H.size = w.2 ∧ N.2.2.size ≤ w.2 ∧ (∀ q : Nat, q < N.2.2.size → H[q]? = N.2.2[q]?) ∧ (∀ (q : Nat) (x : gx_E), w.1 q = some x → N.2.2.size ≤ q ∧ gx_is N q x H) ∧ ∀ (q : Nat) (x : gx_E), w.1 q = some x → gx_wide x = true → w.1 (q + 1) = none
def gx_cv (w : gx_W) (q : Nat) : Prop := (∃ x, w.1 q = some x) ∨ ∃ q' x, q = q' + 1 ∧ w.1 q' = some x ∧ gx_wide x = true
def gx_A (w : gx_W) : Nat → Prop := fun q => gx_cv w q ∨ w.2 ≤ q
def gx_st (w : gx_W) (a : Nat) (x : gx_E) : gx_W := (fun q => if q = a then some x else w.1 q, w.2)
def gx_al (w : gx_W) (x : gx_E) : gx_W := (fun q => if q = w.2 then some x else w.1 q, w.2 + 1)
abbrev gx_bx (ci cap : Nat) (l : List Nat) : gx_E := .inr (.inr (ci, cap, l))
abbrev gx_ob (ci : Nat) (fs : List Value) : gx_E := .inr (.inl (ci, fs))
abbrev gx_ai (k n : Nat) (f : Nat → Int32) : gx_E := .inl (k, n, .inl f)
abbrev gx_al8 (k n : Nat) (f : Nat → Int64) : gx_E := .inl (k, n, .inr (.inl f))
abbrev gx_ar (k n : Nat) (f : Nat → Option Nat) : gx_E := .inl (k, n, .inr (.inr (.inr (.inr f))))
def gx_raw (w : gx_W) (h ci cap n : Nat) (f : Nat → Int32) : gx_W := (fun q => if q = h then some (gx_ob ci [.ref (h + 1), .int (nI n)]) else if q = h + 1 then some (gx_ai (gx_bk ci) cap f) else w.1 q, w.2)
theorem gx_st_eq {w : gx_W} {a : Nat} {x : gx_E} : (gx_st w a x).1 a = some x := by simp [gx_st]
theorem gx_st_ne {w : gx_W} {a q : Nat} {x : gx_E} (h : q ≠ a) : (gx_st w a x).1 q = w.1 q := by simp [gx_st, h]
theorem gx_st_st {w : gx_W} {a : Nat} {x y : gx_E} : gx_st (gx_st w a x) a y = gx_st w a y := by
  unfold gx_st
  congr 1
  funext q
  by_cases h : q = a <;> simp [h]
theorem gx_st_id {w : gx_W} {a : Nat} {x : gx_E} (h : w.1 a = some x) : gx_st w a x = w := by
  unfold gx_st
  obtain ⟨f, n⟩ := w
  congr 1
  funext q
  by_cases hq : q = a
  · subst hq; simp; exact h.symm
  · simp [hq]
theorem gx_st_cm {w : gx_W} {a b : Nat} {x y : gx_E} (h : a ≠ b) : gx_st (gx_st w a x) b y = gx_st (gx_st w b y) a x := by
  unfold gx_st
  congr 1
  funext q
  by_cases h1 : q = a
  · subst h1; simp [h]
  · simp [h1]
theorem gx_raw_h {w : gx_W} {h ci cap n : Nat} {f : Nat → Int32} : (gx_raw w h ci cap n f).1 h = some (gx_ob ci [.ref (h + 1), .int (nI n)]) := by simp [gx_raw]
theorem gx_raw_h1 {w : gx_W} {h ci cap n : Nat} {f : Nat → Int32} : (gx_raw w h ci cap n f).1 (h + 1) = some (gx_ai (gx_bk ci) cap f) := by simp [gx_raw]
theorem gx_raw_ne {w : gx_W} {h ci cap n q : Nat} {f : Nat → Int32} (h0 : q ≠ h) (h1 : q ≠ h + 1) : (gx_raw w h ci cap n f).1 q = w.1 q := by simp [gx_raw, h0, h1]
theorem gx_raw_n {w : gx_W} {h ci cap n n' : Nat} {f : Nat → Int32} : gx_st (gx_raw w h ci cap n f) h (gx_ob ci [.ref (h + 1), .int (nI n')]) = gx_raw w h ci cap n' f := by
  unfold gx_st gx_raw
  congr 1
  funext q
  by_cases hq : q = h <;> simp [hq]
theorem gx_raw_f {w : gx_W} {h ci cap n : Nat} {f f' : Nat → Int32} : gx_st (gx_raw w h ci cap n f) (h + 1) (gx_ai (gx_bk ci) cap f') = gx_raw w h ci cap n f' := by
  unfold gx_st gx_raw
  congr 1
  funext q
  by_cases hq : q = h + 1
  · subst hq; simp
  · simp [hq]
theorem gx_is.kept {N : gx_N} {q : Nat} {x : gx_E} {H H1 : Heap} (h : gx_is N q x H) (h1 : H1[q]? = H[q]?) (h2 : gx_wide x = true → H1[q + 1]? = H[q + 1]?) : gx_is N q x H1 := by
  obtain a | o | t := x
  · exact va_at.kept (q := (q, .inl (N.2.1 a.1, a.2))) (show va_at N.1 gx_cl _ H from h) h1
  · exact va_at.kept (q := (q, .inr o)) (show va_at N.1 gx_cl _ H from h) h1
  · obtain ⟨f, hf, hl, ho, ha⟩ := h
    exact ⟨f, hf, hl, va_at.kept ho h1, va_at.kept ha (h2 rfl)⟩
theorem gx_is.lt {N : gx_N} {q : Nat} {x : gx_E} {H : Heap} (h : gx_is N q x H) : q < H.size := by
  obtain a | o | t := x
  · exact va_at.lt (q := (q, .inl (N.2.1 a.1, a.2))) (show va_at N.1 gx_cl _ H from h)
  · exact va_at.lt (q := (q, .inr o)) (show va_at N.1 gx_cl _ H from h)
  · obtain ⟨f, hf, hl, ho, ha⟩ := h
    exact va_at.lt ho
theorem gx_is.lt1 {N : gx_N} {q : Nat} {x : gx_E} {H : Heap} (h : gx_is N q x H) (hw : gx_wide x = true) : q + 1 < H.size := by
  obtain a | o | t := x
  · cases hw
  · cases hw
  · obtain ⟨f, hf, hl, ho, ha⟩ := h
    exact va_at.lt ha
theorem gx_Wd.lt {N : gx_N} {w : gx_W} {H : Heap} (h : gx_Wd N w H) {q : Nat} {x : gx_E} (hq : w.1 q = some x) : q < w.2 := by
  rw [← h.1]; exact (h.2.2.2.1 q x hq).2.lt
theorem gx_Wd.put {N : gx_N} {w : gx_W} {H H1 : Heap} {a : Nat} {x0 x : gx_E} (h : gx_Wd N w H) (ha : w.1 a = some x0) (hx0 : gx_wide x0 = false) (hx : gx_wide x = false) (hi : gx_is N a x H1) (hz : H1.size = H.size) (ho : ∀ q : Nat, q ≠ a → H1[q]? = H[q]?) : gx_Wd N (gx_st w a x) H1 := by
  obtain ⟨h1, h2, h3, h4, h5⟩ := h
  have hba := (h4 a x0 ha).1
  refine ⟨hz.trans h1, h2, fun q hq => by rw [ho q (by omega)]; exact h3 q hq, fun q y hq => ?_, fun q y hq hy => ?_⟩
  · by_cases hqa : q = a
    · subst hqa
      rw [gx_st_eq] at hq
      cases hq
      exact ⟨hba, hi⟩
    · rw [gx_st_ne hqa] at hq
      refine ⟨(h4 q y hq).1, (h4 q y hq).2.kept (ho q hqa) (fun hy => ho (q + 1) fun e => ?_)⟩
      have := h5 q y hq hy
      rw [e, ha] at this
      cases this
  · by_cases hqa : q = a
    · subst hqa
      rw [gx_st_eq] at hq
      cases hq
      rw [hx] at hy; cases hy
    · rw [gx_st_ne hqa] at hq
      have h6 := h5 q y hq hy
      by_cases hq1 : q + 1 = a
      · rw [hq1, ha] at h6; cases h6
      · rw [gx_st_ne hq1]; exact h6
theorem gx_Wd.al {N : gx_N} {w : gx_W} {H H1 : Heap} {x : gx_E} (h : gx_Wd N w H) (hx : gx_wide x = false) (hi : gx_is N w.2 x H1) (hz : H1.size = H.size + 1) (ho : ∀ q : Nat, q < H.size → H1[q]? = H[q]?) : gx_Wd N (gx_al w x) H1 := by
  have hlt := fun {q : Nat} {y : gx_E} (e : w.1 q = some y) => h.lt e
  obtain ⟨h1, h2, h3, h4, h5⟩ := h
  refine ⟨by rw [hz, h1]; rfl, Nat.le_succ_of_le h2, fun q hq => by rw [ho q (by omega)]; exact h3 q hq, fun q y hq => ?_, fun q y hq hy => ?_⟩
  · by_cases hqa : q = w.2
    · subst hqa
      simp [gx_al] at hq
      subst hq
      exact ⟨h2, hi⟩
    · simp [gx_al, hqa] at hq
      have h7 := (h4 q y hq).2
      refine ⟨(h4 q y hq).1, h7.kept (ho q h7.lt) (fun hy => ho (q + 1) (h7.lt1 hy))⟩
  · by_cases hqa : q = w.2
    · subst hqa
      simp [gx_al] at hq
      subst hq
      rw [hx] at hy; cases hy
    · simp [gx_al, hqa] at hq
      have h7 := (h4 q y hq).2.lt1 hy
      have h8 : q + 1 ≠ w.2 := by omega
      simp [gx_al, h8]
      exact h5 q y hq hy
theorem gx_Wd.unbox {N : gx_N} {w : gx_W} {H : Heap} {h ci cap : Nat} {l : List Nat} (hW : gx_Wd N w H) (hb : w.1 h = some (gx_bx ci cap l)) : w.1 (h + 1) = none ∧ (l.length ≤ cap ∧ cap < 65536 ∧ gx_sm l) ∧ ∃ f, gx_fn l f ∧ gx_Wd N (gx_raw w h ci cap l.length f) H := by
  obtain ⟨h1, h2, h3, h4, h5⟩ := hW
  obtain ⟨hb0, f, hf, hl, ho, ha⟩ := h4 h _ hb
  have h6 := h5 h _ hb rfl
  refine ⟨h6, hl, f, hf, h1, h2, h3, fun q y hq => ?_, fun q y hq hy => ?_⟩
  · by_cases e0 : q = h
    · subst e0
      rw [gx_raw_h] at hq; cases hq
      exact ⟨hb0, ho⟩
    · by_cases e1 : q = h + 1
      · subst e1
        rw [gx_raw_h1] at hq; cases hq
        exact ⟨by omega, ha⟩
      · rw [gx_raw_ne e0 e1] at hq
        exact h4 q y hq
  · by_cases e0 : q = h
    · subst e0
      rw [gx_raw_h] at hq; cases hq; cases hy
    · by_cases e1 : q = h + 1
      · subst e1
        rw [gx_raw_h1] at hq; cases hq; cases hy
      · rw [gx_raw_ne e0 e1] at hq
        have h7 := h5 q y hq hy
        have e2 : q + 1 ≠ h := fun e => by rw [e, hb] at h7; cases h7
        rw [gx_raw_ne e2 (by omega)]
        exact h7
theorem gx_Wd.box {N : gx_N} {w : gx_W} {H : Heap} {h ci cap n : Nat} {l : List Nat} {f : Nat → Int32} (hW : gx_Wd N (gx_raw w h ci cap n f) H) (h0 : w.1 (h + 1) = none) (hn : n = l.length) (hl : l.length ≤ cap ∧ cap < 65536 ∧ gx_sm l) (hf : gx_fn l f) : gx_Wd N (gx_st w h (gx_bx ci cap l)) H := by
  subst hn
  obtain ⟨h1, h2, h3, h4, h5⟩ := hW
  have a0 := h4 h _ gx_raw_h
  have a1 := h4 (h + 1) _ gx_raw_h1
  refine ⟨h1, h2, h3, fun q y hq => ?_, fun q y hq hy => ?_⟩
  · by_cases e0 : q = h
    · subst e0
      rw [gx_st_eq] at hq; cases hq
      exact ⟨a0.1, f, hf, hl, a0.2, a1.2⟩
    · rw [gx_st_ne e0] at hq
      have e1 : q ≠ h + 1 := fun e => by rw [e, h0] at hq; cases hq
      exact h4 q y (by rw [gx_raw_ne e0 e1]; exact hq)
  · by_cases e0 : q = h
    · subst e0
      rw [gx_st_ne (by omega)]; exact h0
    · rw [gx_st_ne e0] at hq
      have e1 : q ≠ h + 1 := fun e => by rw [e, h0] at hq; cases hq
      have h6 := h5 q y (by rw [gx_raw_ne e0 e1]; exact hq) hy
      have e2 : q + 1 ≠ h := fun e => by rw [e, gx_raw_h] at h6; cases h6
      rw [gx_st_ne e2]
      rw [gx_raw_ne e2 (by omega)] at h6
      exact h6
theorem gx_cv.st {w : gx_W} {a q : Nat} {x0 x : gx_E} (ha : w.1 a = some x0) (hx : gx_wide x = true → gx_wide x0 = true) (h : gx_cv (gx_st w a x) q) : gx_cv w q := by
  rcases h with ⟨y, hy⟩ | ⟨q', y, e, hy, hw⟩
  · by_cases hq : q = a
    · exact Or.inl ⟨x0, by rw [hq]; exact ha⟩
    · rw [gx_st_ne hq] at hy; exact Or.inl ⟨y, hy⟩
  · by_cases hq : q' = a
    · subst hq
      rw [gx_st_eq] at hy; cases hy
      exact Or.inr ⟨q', x0, e, ha, hx hw⟩
    · rw [gx_st_ne hq] at hy; exact Or.inr ⟨q', y, e, hy, hw⟩
theorem gx_cv.al {w : gx_W} {q : Nat} {x : gx_E} (hx : gx_wide x = false) (h : gx_cv (gx_al w x) q) : gx_cv w q ∨ w.2 ≤ q := by
  rcases h with ⟨y, hy⟩ | ⟨q', y, e, hy, hw⟩
  · by_cases hq : q = w.2
    · exact Or.inr (by omega)
    · simp [gx_al, hq] at hy; exact Or.inl (Or.inl ⟨y, hy⟩)
  · by_cases hq : q' = w.2
    · subst hq
      simp [gx_al] at hy
      subst hy
      rw [hx] at hw; cases hw
    · simp [gx_al, hq] at hy; exact Or.inl (Or.inr ⟨q', y, e, hy, hw⟩)
theorem gx_cv.raw {w : gx_W} {h ci cap cap' n q : Nat} {l : List Nat} {f : Nat → Int32} (hb : w.1 h = some (gx_bx ci cap' l)) (hc : gx_cv (gx_raw w h ci cap n f) q) : gx_cv w q := by
  rcases hc with ⟨y, hy⟩ | ⟨q', y, e, hy, hw⟩
  · by_cases e0 : q = h
    · exact Or.inl ⟨_, by rw [e0]; exact hb⟩
    · by_cases e1 : q = h + 1
      · exact Or.inr ⟨h, _, e1, hb, rfl⟩
      · rw [gx_raw_ne e0 e1] at hy; exact Or.inl ⟨y, hy⟩
  · by_cases e0 : q' = h
    · subst e0
      rw [gx_raw_h] at hy; cases hy; cases hw
    · by_cases e1 : q' = h + 1
      · subst e1
        rw [gx_raw_h1] at hy; cases hy; cases hw
      · rw [gx_raw_ne e0 e1] at hy; exact Or.inr ⟨q', y, e, hy, hw⟩
/-! locals by their places -/
def gx_en : Nat → List (Option Value) → List (Nat × Value)
  | _, [] => []
  | k, none :: t => gx_en (k + 1) t
  | k, some v :: t => (k, v) :: gx_en (k + 1) t
theorem gx_en_of : ∀ (L : List (Option Value)) (k i : Nat) (v : Value), L[i]? = some (some v) → (k + i, v) ∈ gx_en k L
  | [], k, i, v, h => by simp at h
  | none :: t, k, 0, v, h => by simp at h
  | none :: t, k, i + 1, v, h => by
    have := gx_en_of t (k + 1) i v (by simpa using h)
    rw [show k + (i + 1) = k + 1 + i by omega]
    exact this
  | some u :: t, k, 0, v, h => by
    simp at h
    subst h
    exact List.mem_cons_self
  | some u :: t, k, i + 1, v, h => by
    have := gx_en_of t (k + 1) i v (by simpa using h)
    rw [show k + (i + 1) = k + 1 + i by omega]
    exact List.mem_cons_of_mem _ this
theorem gx_en_to : ∀ (L : List (Option Value)) (k : Nat) (q : Nat × Value), q ∈ gx_en k L → ∃ i, q.1 = k + i ∧ L[i]? = some (some q.2)
  | [], k, q, h => by cases h
  | none :: t, k, q, h => by
    obtain ⟨i, h1, h2⟩ := gx_en_to t (k + 1) q h
    exact ⟨i + 1, by omega, by simpa using h2⟩
  | some u :: t, k, q, h => by
    rcases List.mem_cons.mp h with h | h
    · subst h; exact ⟨0, rfl, rfl⟩
    · obtain ⟨i, h1, h2⟩ := gx_en_to t (k + 1) q h
      exact ⟨i + 1, by omega, by simpa using h2⟩
def gx_Lv (ls : Array Slot) (nL : Nat) (L : List (Option Value)) : Prop := ls.size = nL ∧ lv_wf ls ∧ ∀ (i : Nat) (v : Value), L[i]? = some (some v) → ls[i]? = some (.val v)
theorem gx_Lv.has {ls : Array Slot} {nL : Nat} {L : List (Option Value)} (h : gx_Lv ls nL L) : lv_has ls nL (gx_en 0 L) := ⟨h.1, h.2.1, fun q hq => by
  obtain ⟨i, h1, h2⟩ := gx_en_to L 0 q hq
  rw [h1, Nat.zero_add]
  exact h.2.2 i q.2 h2⟩
/-- the slot before isn't a long one -/
def gx_c1 (L : List (Option Value)) (i : Nat) : Bool := match i with
  | 0 => true
  | j + 1 => match L[j]? with
    | some (some v) => v.category == 1
    | _ => true
theorem gx_Lv.set {ls' : Array Slot} {nL i : Nat} {L : List (Option Value)} {v : Value} (hc : gx_c1 L i = true) (h : lv_has ls' nL ((i, v) :: (gx_en 0 L).filter (fun q => !(q.1 == i) && !(q.1 + 1 == i && q.2.category == 2)))) : gx_Lv ls' nL (L.set i (some v)) := by
  obtain ⟨h1, h2, h3⟩ := h
  refine ⟨h1, h2, fun j u hj => ?_⟩
  by_cases e : j = i
  · subst e
    have hu : u = v := by
      rw [List.getElem?_set] at hj
      by_cases hl : j < L.length
      · simp [hl] at hj; exact hj.symm
      · simp [hl] at hj
    subst hu
    exact h3 (j, u) List.mem_cons_self
  · rw [List.getElem?_set_ne (Ne.symm e)] at hj
    refine h3 (j, u) (List.mem_cons_of_mem _ (List.mem_filter.mpr ⟨by have := gx_en_of L 0 j u hj; rwa [Nat.zero_add] at this, ?_⟩))
    have h5 : ¬ (j + 1 = i ∧ u.category = 2) := by
      rintro ⟨rfl, h6⟩
      simp only [gx_c1, hj] at hc
      rw [h6] at hc
      exact absurd hc (by decide)
    by_cases h7 : j + 1 = i
    · have h8 : ¬ u.category = 2 := fun h => h5 ⟨h7, h⟩
      simp [e, h8]
    · simp [e, h7]
def gx_sl : List Value → List (Option Value)
  | [] => []
  | v :: t => if v.category = 2 then some v :: none :: gx_sl t else some v :: gx_sl t
theorem gx_sl_of : ∀ (vs : List Value) (k i : Nat) (v : Value), (gx_sl vs)[i]? = some (some v) → (k + i, v) ∈ lv_args k vs
  | [], k, i, v, h => by simp [gx_sl] at h
  | u :: t, k, i, v, h => by
    unfold gx_sl at h
    unfold lv_args
    by_cases hc : u.category = 2
    · rw [if_pos hc] at h
      rw [if_pos hc]
      match i, h with
      | 0, h => simp at h; subst h; exact List.mem_cons_self
      | 1, h => simp at h
      | i + 2, h =>
        have := gx_sl_of t (k + 2) i v (by simpa using h)
        rw [show k + (i + 2) = k + 2 + i by omega]
        exact List.mem_cons_of_mem _ this
    · rw [if_neg hc] at h
      rw [if_neg hc]
      match i, h with
      | 0, h => simp at h; subst h; exact List.mem_cons_self
      | i + 1, h =>
        have := gx_sl_of t (k + 1) i v (by simpa using h)
        rw [show k + (i + 1) = k + 1 + i by omega]
        exact List.mem_cons_of_mem _ this
def gx_in (nL : Nat) (vs : List Value) : List (Option Value) := gx_sl vs ++ List.replicate (nL - (gx_sl vs).length) none
theorem gx_Lv.entry {ls : Array Slot} {nL : Nat} {vs : List Value} (h : lv_has ls nL (lv_args 0 vs)) : gx_Lv ls nL (gx_in nL vs) := by
  refine ⟨h.1, h.2.1, fun i v hi => ?_⟩
  unfold gx_in at hi
  by_cases hl : i < (gx_sl vs).length
  · rw [List.getElem?_append_left hl] at hi
    have := gx_sl_of vs 0 i v hi
    rw [Nat.zero_add] at this
    exact h.2.2 (i, v) this
  · rw [List.getElem?_append_right (by omega), List.getElem?_replicate] at hi
    split at hi <;> simp at hi
