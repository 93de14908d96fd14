section GXA
variable {F : gx_N → State → Prop} {M : gx_M} {d : Nat} {Q : gx_P} {pc : Nat} {L : List (Option Value)} {st rest : List Value} {w : gx_W} {b : Nat × Nat}
set_option maxHeartbeats 1000000 in
theorem gx_put {idx ci j a : Nat} {fs : List Value} {v : Value} {fin : Bool} {ty : FieldType} (hf : gx_fp M.1.cls idx ci j fin ty) (hfin : fin = true → M.1.name = "<init>") (hdg : decode M.2.1 pc = .ok (.putfield idx, 3)) (hw0 : w.1 a = some (gx_ob ci fs)) (hn : narrow ty v = v) (hfit : fits ty v = true) (hj : j < fs.length) (k : gx_X F M d Q (pc + 3) L st (gx_st w a (gx_ob ci (fs.set j v))) b) : gx_X F M d Q pc L (v :: .ref a :: st) w b := fun p l e R s m args below meth c H locs cells slots ls N A V hl hw hS hd hc hs => by
  have V0 := V
  obtain ⟨hx, hb, hml, hr, hlk, hown, hnm, hts, hK, hfr, hlo, hA, hF⟩ := V
  obtain ⟨C, T, n, ty0, h1, h2, h3, h4, h5, h6, h7, h8, h9⟩ := hf
  have hap := va_apart (own := M.1.cls) hts h3 ty0 h5 h6 hK.1 h1
  obtain ⟨r, g1, cell, q1, q2, q3, q4⟩ := (hw.2.2.2.1 a _ hw0).2
  have hrr : r = (C, T, n) := Option.some.inj (g1.symm.trans h1)
  subst hrr
  obtain ⟨hSl, hfc, kC, hkC, hkind⟩ := hK.1.1 ci _ h1
  obtain ⟨cf, kf, fi, f, hi, hsl⟩ := hSl j h2
  have hlay := hts _ (h3 _ (u_in_lay h2))
  have hst := (u_facts hfc hkC (u_lays hts h3 h2) hi).1
  have fin' : ∀ H' : Heap, H'[a]? = some (cell.setSlot f.slot v) → H'.size = H.size → (∀ q, q ≠ a → H'[q]? = H[q]?) → W p l e R s m args below meth c H' (locs ++ [⟨a, f.slot⟩]) cells slots (gx_Z N A Q below args s R) (F0 m (pc + 3) ls st) := by
    intro H' e1 e2 e3
    rw [hsl] at e1
    have hi2 : gx_is N a (gx_ob ci (fs.set j v)) H' := ⟨_, h1, t_OB.to (V := updV (vp_V fs) j v) ⟨_, e1, q2, q3, t_set q4 hap h2 v⟩ (fun i _ => vp_updV_set hj v i)⟩
    exact k p l e R s m args below meth c H' _ cells slots ls N A V0 hl (hw.put hw0 rfl rfl hi2 e2 e3) (hS.put e2 e3 (hd a (Or.inl ⟨_, hw0⟩))) (fun q hq => hd q (gx_cv.st hw0 (fun h => by cases h) hq)) hc hs
  unfold u_lay at hlay
  cases hfe : fin with
  | false =>
    rw [hfe] at h7
    rw [if_neg (by rw [h7]; decide)] at hlay
    have h10 := u_store hfc hkC hkind hlay hi h9 hn hfit
    exact W.putK hx hb (f := f) ⟨hown, hts _ h4, ⟨_, _, _, hi⟩, hst⟩ (by rw [q2]; exact h10) q1 q3 (by rw [hsl]; exact k2_hasslot (q4 j h2)) rfl rfl hdg fin'
  | true =>
    rw [hfe] at h7
    rw [if_pos h7] at hlay
    have hcf : m.cls = cf := by
      obtain ⟨_, _, c', _, _, _, -, -, hf', -, -, -, hown2, -⟩ := Cond.laysFinal_spec hlay
      have e1 : c' = cf := by have := hi.symm.trans hf'; simp at this; exact this.1.symm
      rw [h8] at hown2
      rw [← e1]; exact Option.some.inj (hown.symm.trans hown2)
    have h10 := u_fits hfc hkC hkind (Or.inr hlay) hi h9 hn hfit
    exact W.putFinK hx hb hown (hts _ h4) hi hst hcf (hnm.trans (hfin hfe)) (by rw [q2]; exact h10) q1 q3 (by rw [hsl]; exact k2_hasslot (q4 j h2)) rfl rfl hdg fin'
/-- the length of an opened text is written -/
theorem gx_bput {idx h ci cap n n' : Nat} {f : Nat → Int32} (hf : gx_fp M.1.cls idx ci 1 false .int) (hdg : decode M.2.1 pc = .ok (.putfield idx, 3)) (k : gx_X F M d Q (pc + 3) L st (gx_raw w h ci cap n' f) b) : gx_X F M d Q pc L (.int (nI n') :: .ref h :: st) (gx_raw w h ci cap n f) b :=
  gx_put hf (fun h => by cases h) hdg gx_raw_h rfl rfl (Nat.lt_succ_self 1) (gx_w gx_raw_n k)
/-! reads from a text or a row that stays closed -/
theorem gx_bln {idx h ci cap : Nat} {l : List Nat} (hf : gx_fl M.1.cls idx ci 1) (hdg : decode M.2.1 pc = .ok (.getfield idx, 3)) (hb0 : w.1 h = some (gx_bx ci cap l)) (k : gx_X F M d Q (pc + 3) L (.int (nI l.length) :: st) w b) : gx_X F M d Q pc L (.ref h :: st) w b := gx_go (fun V _ hw k => by
  obtain ⟨hx, hb, hml, hr, hlk, hown, hnm, hts, hK, hfr, hlo, hA, hF⟩ := V
  obtain ⟨C, T, n, h1, h2, h3, h4⟩ := hf
  obtain ⟨f, -, -, ho, -⟩ := (hw.2.2.2.1 h _ hb0).2
  rcases h4 with h4 | ⟨host, h4⟩
  · exact va_get (ws := [(h, .inr (ci, [.ref (h + 1), .int (nI l.length)]))]) hx hb hts h3 hown hK.1 (gx_P1 ho) 0 rfl h1 1 h2 (hts _ h4) (fun _ h => h) rfl hdg k
  · exact va_getN (ws := [(h, .inr (ci, [.ref (h + 1), .int (nI l.length)]))]) hx hb hts h3 hown hK.1 (gx_P1 ho) 0 rfl h1 1 h2 (va_Nw.use rfl (hK.2.1 _ h4)) (fun _ h => h) rfl hdg k) k
theorem gx_bar {idx h ci cap : Nat} {l : List Nat} (hf : gx_fl M.1.cls idx ci 0) (hdg : decode M.2.1 pc = .ok (.getfield idx, 3)) (hb0 : w.1 h = some (gx_bx ci cap l)) (k : gx_X F M d Q (pc + 3) L (.ref (h + 1) :: st) w b) : gx_X F M d Q pc L (.ref h :: st) w b := gx_go (fun V _ hw k => by
  obtain ⟨hx, hb, hml, hr, hlk, hown, hnm, hts, hK, hfr, hlo, hA, hF⟩ := V
  obtain ⟨C, T, n, h1, h2, h3, h4⟩ := hf
  obtain ⟨f, -, -, ho, -⟩ := (hw.2.2.2.1 h _ hb0).2
  rcases h4 with h4 | ⟨host, h4⟩
  · exact va_get (ws := [(h, .inr (ci, [.ref (h + 1), .int (nI l.length)]))]) hx hb hts h3 hown hK.1 (gx_P1 ho) 0 rfl h1 0 h2 (hts _ h4) (fun _ h => h) rfl hdg k
  · exact va_getN (ws := [(h, .inr (ci, [.ref (h + 1), .int (nI l.length)]))]) hx hb hts h3 hown hK.1 (gx_P1 ho) 0 rfl h1 0 h2 (va_Nw.use rfl (hK.2.1 _ h4)) (fun _ h => h) rfl hdg k) k
theorem gx_bcal {h cap j : Nat} {l : List Nat} (hdg : decode M.2.1 pc = .ok (.caload, 1)) (hb0 : w.1 h = some (gx_bx 0 cap l)) (hj : j < l.length) (k : gx_X F M d Q (pc + 1) L (.int (nI (l.getD j 0)) :: st) w b) : gx_X F M d Q pc L (.int (nI j) :: .ref (h + 1) :: st) w b := gx_go (fun V _ hw k => by
  obtain ⟨hx, hb, hml, hr, hlk, hown, hnm, hts, hK, hfr, hlo, hA, hF⟩ := V
  obtain ⟨f, hf, hl, -, ha⟩ := (hw.2.2.2.1 h _ hb0).2
  have hj2 : j < cap := Nat.lt_of_lt_of_le hj hl.1
  have hl2 : cap < 65536 := hl.2.1
  exact va_cald (ws := [(h + 1, .inl (_, cap, .inl f))]) hx hb hK.1 (gx_P1 ha) 0 1 rfl rfl (vp_in_nI hj2 (by omega)) hdg (by rw [nI_clamp (by omega), hf j hj]; exact k)) k
theorem gx_bial {h cap j : Nat} {l : List Nat} (hdg : decode M.2.1 pc = .ok (.iaload, 1)) (hb0 : w.1 h = some (gx_bx 1 cap l)) (hj : j < l.length) (k : gx_X F M d Q (pc + 1) L (.int (nI (l.getD j 0)) :: st) w b) : gx_X F M d Q pc L (.int (nI j) :: .ref (h + 1) :: st) w b := gx_go (fun V _ hw k => by
  obtain ⟨hx, hb, hml, hr, hlk, hown, hnm, hts, hK, hfr, hlo, hA, hF⟩ := V
  obtain ⟨f, hf, hl, -, ha⟩ := (hw.2.2.2.1 h _ hb0).2
  have hj2 : j < cap := Nat.lt_of_lt_of_le hj hl.1
  have hl2 : cap < 65536 := hl.2.1
  exact va_iald (ws := [(h + 1, .inl (_, cap, .inl f))]) hx hb hK.1 (gx_P1 ha) 0 0 rfl rfl (vp_in_nI hj2 (by omega)) hdg (by rw [nI_clamp (by omega), hf j hj]; exact k)) k
/-- what is known of a text's or a row's sizes -/
theorem gx_bsz {h ci cap : Nat} {l : List Nat} (hb0 : w.1 h = some (gx_bx ci cap l)) (k : l.length ≤ cap → cap < 65536 → gx_sm l → gx_X F M d Q pc L st w b) : gx_X F M d Q pc L st w b := fun p l' e R s m args below meth c H locs cells slots ls N A V hl hw hS hd hc hs => by
  obtain ⟨f, -, h1, -⟩ := (hw.2.2.2.1 h _ hb0).2
  exact k h1.1 h1.2.1 h1.2.2 p l' e R s m args below meth c H locs cells slots ls N A V hl hw hS hd hc hs
/-! loads from arrays -/
theorem gx_iald {a n j : Nat} {f : Nat → Int32} (hdg : decode M.2.1 pc = .ok (.iaload, 1)) (hw0 : w.1 a = some (gx_ai 0 n f)) (hj : j < n) (hn : n < 2 ^ 31) (k : gx_X F M d Q (pc + 1) L (.int (f j) :: st) w b) : gx_X F M d Q pc L (.int (nI j) :: .ref a :: st) w b := gx_go (fun V _ hw k => by
  obtain ⟨hx, hb, hml, hr, hlk, hown, hnm, hts, hK, hfr, hlo, hA, hF⟩ := V
  exact va_iald (ws := [(a, .inl (_, n, .inl f))]) hx hb hK.1 (gx_P1 (hw.2.2.2.1 a _ hw0).2) 0 0 rfl rfl (vp_in_nI hj hn) hdg (by rw [nI_clamp (by omega)]; exact k)) k
theorem gx_cald {a n j : Nat} {f : Nat → Int32} (hdg : decode M.2.1 pc = .ok (.caload, 1)) (hw0 : w.1 a = some (gx_ai 1 n f)) (hj : j < n) (hn : n < 2 ^ 31) (k : gx_X F M d Q (pc + 1) L (.int (f j) :: st) w b) : gx_X F M d Q pc L (.int (nI j) :: .ref a :: st) w b := gx_go (fun V _ hw k => by
  obtain ⟨hx, hb, hml, hr, hlk, hown, hnm, hts, hK, hfr, hlo, hA, hF⟩ := V
  exact va_cald (ws := [(a, .inl (_, n, .inl f))]) hx hb hK.1 (gx_P1 (hw.2.2.2.1 a _ hw0).2) 0 1 rfl rfl (vp_in_nI hj hn) hdg (by rw [nI_clamp (by omega)]; exact k)) k
theorem gx_zald {a n j : Nat} {f : Nat → Int32} (hdg : decode M.2.1 pc = .ok (.baload, 1)) (hw0 : w.1 a = some (gx_ai 2 n f)) (hj : j < n) (hn : n < 2 ^ 31) (k : gx_X F M d Q (pc + 1) L (.int (f j) :: st) w b) : gx_X F M d Q pc L (.int (nI j) :: .ref a :: st) w b := gx_go (fun V _ hw k => by
  obtain ⟨hx, hb, hml, hr, hlk, hown, hnm, hts, hK, hfr, hlo, hA, hF⟩ := V
  exact va_zald (ws := [(a, .inl (_, n, .inl f))]) hx hb hK.1 (gx_P1 (hw.2.2.2.1 a _ hw0).2) 0 2 rfl rfl (vp_in_nI hj hn) hdg (by rw [nI_clamp (by omega)]; exact k)) k
theorem gx_lald {a n j : Nat} {f : Nat → Int64} (hdg : decode M.2.1 pc = .ok (.laload, 1)) (hw0 : w.1 a = some (gx_al8 5 n f)) (hj : j < n) (hn : n < 2 ^ 31) (k : gx_X F M d Q (pc + 1) L (.long (f j) :: st) w b) : gx_X F M d Q pc L (.int (nI j) :: .ref a :: st) w b := gx_go (fun V _ hw k => by
  obtain ⟨hx, hb, hml, hr, hlk, hown, hnm, hts, hK, hfr, hlo, hA, hF⟩ := V
  exact va_lald (ws := [(a, .inl (_, n, .inr (.inl f)))]) hx hb hK.1 (gx_P1 (hw.2.2.2.1 a _ hw0).2) 0 5 rfl rfl (vp_in_nI hj hn) hdg (by rw [nI_clamp (by omega)]; exact k)) k
theorem gx_aald3 {a n j x : Nat} {f : Nat → Option Nat} (hdg : decode M.2.1 pc = .ok (.aaload, 1)) (hw0 : w.1 a = some (gx_ar 3 n f)) (hj : j < n) (hn : n < 2 ^ 31) (hx0 : f j = some x) (k : gx_X F M d Q (pc + 1) L (.ref x :: st) w b) : gx_X F M d Q pc L (.int (nI j) :: .ref a :: st) w b := gx_go (fun V _ hw k => by
  obtain ⟨hx, hb, hml, hr, hlk, hown, hnm, hts, hK, hfr, hlo, hA, hF⟩ := V
  exact va_aldq (ws := [(a, .inl (_, n, .inr (.inr (.inr (.inr f)))))]) hx hb hK.1 (gx_P1 (hw.2.2.2.1 a _ hw0).2) 0 3 rfl rfl (vp_in_nI hj hn) hdg (by rw [nI_clamp (by omega), hx0]; exact k)) k
theorem gx_aald4 {a n j x : Nat} {f : Nat → Option Nat} (hdg : decode M.2.1 pc = .ok (.aaload, 1)) (hw0 : w.1 a = some (gx_ar 4 n f)) (hj : j < n) (hn : n < 2 ^ 31) (hx0 : f j = some x) (k : gx_X F M d Q (pc + 1) L (.ref x :: st) w b) : gx_X F M d Q pc L (.int (nI j) :: .ref a :: st) w b := gx_go (fun V _ hw k => by
  obtain ⟨hx, hb, hml, hr, hlk, hown, hnm, hts, hK, hfr, hlo, hA, hF⟩ := V
  exact va_aldq (ws := [(a, .inl (_, n, .inr (.inr (.inr (.inr f)))))]) hx hb hK.1 (gx_P1 (hw.2.2.2.1 a _ hw0).2) 0 4 rfl rfl (vp_in_nI hj hn) hdg (by rw [nI_clamp (by omega), hx0]; exact k)) k
theorem gx_alen {a kd n : Nat} {y : (Nat → Int32) ⊕ (Nat → Int64) ⊕ (Nat → UInt32) ⊕ (Nat → UInt64) ⊕ (Nat → Option Nat)} (hkd : kd < 6) (hdg : decode M.2.1 pc = .ok (.arraylength, 1)) (hw0 : w.1 a = some (.inl (kd, n, y))) (k : gx_X F M d Q (pc + 1) L (.int (nI n) :: st) w b) : gx_X F M d Q pc L (.ref a :: st) w b := gx_go (fun {_ _ _ _ _ _ _ _ _ _ _ _ _ _ _ _ N _} V _ hw k => by
  obtain ⟨hx, hb, hml, hr, hlk, hown, hnm, hts, hK, hfr, hlo, hA, hF⟩ := V
  obtain ⟨ty, hty⟩ : ∃ ty, (gx_ta N)[kd]? = some (N.2.1 kd, ty) := by
    rcases (show kd = 0 ∨ kd = 1 ∨ kd = 2 ∨ kd = 3 ∨ kd = 4 ∨ kd = 5 by omega) with rfl | rfl | rfl | rfl | rfl | rfl <;> exact ⟨_, rfl⟩
  exact va_alen (ws := [(a, .inl (_, n, y))]) hx hb hK.1 (gx_P1 (hw.2.2.2.1 a _ hw0).2) 0 kd rfl hty rfl hdg k) k
/-! stores into arrays -/
/-- what every store shares: the cell behind it -/
theorem gx_wr {pc' : Nat} {a : Nat} {x0 x1 : gx_E} (hw0 : w.1 a = some x0) (hx0 : gx_wide x0 = false) (hx1 : gx_wide x1 = false)
    (h : ∀ {p : Program} {l : Launch} {e : Env} {R : Room} {s : State} {m : MethodId} {args : Array Value} {below : List Frame} {meth : Method} {c : Code} {H : Heap} {locs : List Loc} {cells slots : Nat} {Q0 : State → Prop} {ls : Array Slot} {N : gx_N} {A : Nat → Prop},
      gx_V F M d R p l s m args meth c N A → gx_is N a x0 H → (∀ (H1 : Heap) (i : Nat), gx_is N a x1 H1 → H1.size = H.size → (∀ q : Nat, q ≠ a → H1[q]? = H[q]?) → W p l e R s m args below meth c H1 (locs ++ [⟨a, i⟩]) cells slots Q0 (F0 m pc' ls rest)) → W p l e R s m args below meth c H locs cells slots Q0 (F0 m pc ls st))
    (k : gx_X F M d Q pc' L rest (gx_st w a x1) b) : gx_X F M d Q pc L st w b :=
  fun p l e R s m args below meth c H locs cells slots ls N A V hl hw hS hd hc hs => h V (hw.2.2.2.1 a _ hw0).2 (fun H1 i hi e2 e3 =>
    k p l e R s m args below meth c H1 _ cells slots ls N A V hl (hw.put hw0 hx0 hx1 hi e2 e3) (hS.put e2 e3 (hd a (Or.inl ⟨_, hw0⟩))) (fun q hq => hd q (gx_cv.st hw0 (fun h => by rw [hx1] at h; cases h) hq)) hc hs)
theorem gx_fe {f : Nat → Int32} {x : Int32} {j : Nat} {g : Nat → Value} (h : g = updV (fun i => Value.int (f i)) j (.int x)) : g = fun i => Value.int (upd f j x i) := by
  rw [h]
  funext q
  by_cases hq : q = j
  · subst hq; simp [updV, upd]
  · simp [updV, upd, hq]
theorem gx_iast {a n j : Nat} {f : Nat → Int32} {x : Int32} (hdg : decode M.2.1 pc = .ok (.iastore, 1)) (hw0 : w.1 a = some (gx_ai 0 n f)) (hj : j < n) (hn : n < 2 ^ 31) (k : gx_X F M d Q (pc + 1) L st (gx_st w a (gx_ai 0 n (upd f j x))) b) : gx_X F M d Q pc L (.int x :: .int (nI j) :: .ref a :: st) w b := gx_wr hw0 rfl rfl (fun V hi kk => by
  obtain ⟨hx, hb, hml, hr, hlk, hown, hnm, hts, hK, hfr, hlo, hA, hF⟩ := V
  refine W.iast hx hb hi ((hK.1.2 0 _ rfl).1 n (fun j => .int (f j))) (fun q => by cases q) (by show ¬ (_ < 0 ∨ (arrV _ _ _).slots.size ≤ _); rw [arrV_size]; exact vp_in_nI hj hn) rfl rfl hdg fun H1 e1 z oq => kk H1 _ ?_ z oq
  show H1[a]? = some (vp_cell _ _)
  rw [e1, vp_cell_i, vp_cell_i, arrV_store, nI_clamp (by omega)]
  congr 2
  exact gx_fe rfl) k
theorem gx_cast {a n j : Nat} {f : Nat → Int32} {x : Int32} (hdg : decode M.2.1 pc = .ok (.castore, 1)) (hw0 : w.1 a = some (gx_ai 1 n f)) (hj : j < n) (hn : n < 2 ^ 31) (hnx : narrow .char (.int x) = .int x) (k : gx_X F M d Q (pc + 1) L st (gx_st w a (gx_ai 1 n (upd f j x))) b) : gx_X F M d Q pc L (.int x :: .int (nI j) :: .ref a :: st) w b := gx_wr hw0 rfl rfl (fun V hi kk => by
  obtain ⟨hx, hb, hml, hr, hlk, hown, hnm, hts, hK, hfr, hlo, hA, hF⟩ := V
  refine W.cast hx hb hi ((hK.1.2 1 _ rfl).1 n (fun j => .int (f j))) (fun q => by cases q) (by show ¬ (_ < 0 ∨ (arrV _ _ _).slots.size ≤ _); rw [arrV_size]; exact vp_in_nI hj hn) rfl rfl hdg fun H1 e1 z oq => kk H1 _ ?_ z oq
  show H1[a]? = some (vp_cell _ _)
  rw [e1, hnx, vp_cell_i, vp_cell_i, arrV_store, nI_clamp (by omega)]
  congr 2
  exact gx_fe rfl) k
theorem gx_zast {a n j : Nat} {f : Nat → Int32} {x : Int32} (hdg : decode M.2.1 pc = .ok (.bastore, 1)) (hw0 : w.1 a = some (gx_ai 2 n f)) (hj : j < n) (hn : n < 2 ^ 31) (hnx : narrow .boolean (.int x) = .int x) (k : gx_X F M d Q (pc + 1) L st (gx_st w a (gx_ai 2 n (upd f j x))) b) : gx_X F M d Q pc L (.int x :: .int (nI j) :: .ref a :: st) w b := gx_wr hw0 rfl rfl (fun V hi kk => by
  obtain ⟨hx, hb, hml, hr, hlk, hown, hnm, hts, hK, hfr, hlo, hA, hF⟩ := V
  refine W.zast hx hb hi ((hK.1.2 2 _ rfl).1 n (fun j => .int (f j))) (fun q => by cases q) (by show ¬ (_ < 0 ∨ (arrV _ _ _).slots.size ≤ _); rw [arrV_size]; exact vp_in_nI hj hn) rfl rfl hdg fun H1 e1 z oq => kk H1 _ ?_ z oq
  show H1[a]? = some (vp_cell _ _)
  rw [e1, hnx, vp_cell_i, vp_cell_i, arrV_store, nI_clamp (by omega)]
  congr 2
  exact gx_fe rfl) k
theorem gx_last {a n j : Nat} {f : Nat → Int64} {x : Int64} (hdg : decode M.2.1 pc = .ok (.lastore, 1)) (hw0 : w.1 a = some (gx_al8 5 n f)) (hj : j < n) (hn : n < 2 ^ 31) (k : gx_X F M d Q (pc + 1) L st (gx_st w a (gx_al8 5 n (vp_updL f j x))) b) : gx_X F M d Q pc L (.long x :: .int (nI j) :: .ref a :: st) w b := gx_wr hw0 rfl rfl (fun V hi kk => by
  obtain ⟨hx, hb, hml, hr, hlk, hown, hnm, hts, hK, hfr, hlo, hA, hF⟩ := V
  refine W.last hx hb hi ((hK.1.2 5 _ rfl).1 n (fun j => .long (f j))) (fun q => by cases q) (by show ¬ (_ < 0 ∨ (arrV _ _ _).slots.size ≤ _); rw [arrV_size]; exact vp_in_nI hj hn) rfl rfl hdg fun H1 e1 z oq => kk H1 _ ?_ z oq
  show H1[a]? = some (vp_cell _ _)
  rw [e1, vp_cell_l, vp_cell_l, arrV_store, nI_clamp (by omega)]
  congr 2
  funext q
  by_cases hq : q = j
  · subst hq; simp [updV, vp_updL]
  · simp [updV, vp_updL, hq]) k
/-- a store into an opened text, an opened row -/
theorem gx_bcast {h cap n j : Nat} {f : Nat → Int32} {x : Int32} (hdg : decode M.2.1 pc = .ok (.castore, 1)) (hj : j < cap) (hn : cap < 2 ^ 31) (hnx : narrow .char (.int x) = .int x) (k : gx_X F M d Q (pc + 1) L st (gx_raw w h 0 cap n (upd f j x)) b) : gx_X F M d Q pc L (.int x :: .int (nI j) :: .ref (h + 1) :: st) (gx_raw w h 0 cap n f) b :=
  gx_cast hdg gx_raw_h1 hj hn hnx (gx_w gx_raw_f k)
theorem gx_biast {h cap n j : Nat} {f : Nat → Int32} {x : Int32} (hdg : decode M.2.1 pc = .ok (.iastore, 1)) (hj : j < cap) (hn : cap < 2 ^ 31) (k : gx_X F M d Q (pc + 1) L st (gx_raw w h 1 cap n (upd f j x)) b) : gx_X F M d Q pc L (.int x :: .int (nI j) :: .ref (h + 1) :: st) (gx_raw w h 1 cap n f) b :=
  gx_iast hdg gx_raw_h1 hj hn (gx_w gx_raw_f k)
/-! calls -/
theorem gx_np.use {Mc : gx_M} {n : Nat} (h : gx_np Mc n) : ∀ sig, parseMethodDescriptor Mc.1.desc = some sig → n = sig.parameters.length := fun sig hs => by
  unfold gx_np at h
  rw [hs] at h
  exact (Option.some.inj h).symm
theorem gx_pay {Mc : gx_M} {s : State} {args : Array Value} (hts : ∀ w ∈ gx_T, w.before args s = true) (hs : gx_cs Mc) : ∀ w ∈ gx_ws Mc, ∀ (a' : Array Value) (U : State), s.WarmedH U.vm → w.before a' U = true := by
  intro w hw a' U hW
  rcases List.mem_cons.mp hw with h | h
  · subst h
    exact word_at hW (gx_T_good hs.1) (hts _ hs.1)
  · exact word_at hW (gx_T_good h) (hts _ h)
theorem gx_blind {N : gx_N} {as : List Value} {w : gx_W} : FrameBlind (va_Pc as (fun U => gx_Wd N w U.heap ∧ gx_Kn N U)) := fun a U g mk q => ⟨q.1, q.2.1, gx_Kn.same (u := U) (U := U.calling g mk a) rfl q.2.2⟩
/-- behind a call -/
theorem gx_back {as : List Value} {mc ms : Nat} {Q' : Option Value → gx_W → Prop}
    (h : ∀ {p : Program} {l : Launch} {e : Env} {R : Room} {s : State} {m : MethodId} {args : Array Value} {below : List Frame} {meth : Method} {c : Code} {H : Heap} {locs : List Loc} {cells slots : Nat} {ls : Array Slot} {N : gx_N} {A : Nat → Prop},
      gx_V F M d R p l s m args meth c N A → ls.size = M.2.2.1 → gx_Wd N w H → cells + mc ≤ R.cells → slots + ms ≤ R.slots → va_Run p l e R s m args below meth c H locs cells slots mc ms (F0 m pc ls st) rest (gx_Qc N (gx_A w) (gx_nt Q') as.toArray) (gx_A w))
    (hb : mc ≤ b.1 ∧ ms ≤ b.2) (k : ∀ r w', Q' r w' → gx_X F M d Q (pc + 3) L (r.toList ++ rest) w' (b.1 - mc, b.2 - ms)) : gx_X F M d Q pc L st w b :=
  fun p l e R s m args below meth c H locs cells slots ls N A V hl hw hS hd hc hs => by
  intro T hT X
  obtain ⟨v, st₀, t, T', Lc, h0, X', hL, e1, e2, ⟨hor, hz, hkeep⟩, stp⟩ := h V hl.1 hw (by omega) (by omega) T hT X
  have hor' : ∃ (r : Option Value) (w' : gx_W), Outcome.returned v = .returned r ∧ Q' r w' ∧ gx_Wd N w' t.heap ∧ ∀ q, gx_cv w' q → gx_A w q := by
    rcases hor with h1 | ⟨_, _, _, _, hF, _⟩
    · exact h1
    · exact hF.elim
  obtain ⟨r, w', hv, hq, hw', hcv⟩ := hor'
  cases hv
  have hA := V.2.2.2.2.2.2.2.2.2.2.2.1
  have hsz : H.size = w.2 := hw.1
  have hup : ∀ q, gx_A w q → A q := fun q hq => by
    rcases hq with h1 | h1
    · exact hd q h1
    · exact hA q (Nat.le_trans hS.1 (by omega))
  rw [h0] at hz hkeep
  have hS' : va_S A s.heap T'.heap (locs ++ Lc) := ⟨Nat.le_trans hS.1 (by rw [e1]; exact hz), fun q h1 h2 => by
    rw [e1, hkeep q (Nat.lt_of_lt_of_le h1 hS.1) (fun h3 => h2 (hup q h3))]
    exact hS.2.1 q h1 h2, fun q hq => by
      rcases List.mem_append.mp hq with h1 | h1
      · exact hS.2.2 q h1
      · exact hup _ (hL q h1)⟩
  obtain ⟨t2, a1, b1⟩ := k v w' hq p l e R s m args below meth c T'.heap (locs ++ Lc) (cells + mc) (slots + ms) ls N A V hl (by rw [e1]; exact hw') hS' (fun q hq2 => hup q (hcv q hq2)) (by show cells + mc + (b.1 - mc) ≤ _; omega) (by show slots + ms + (b.2 - ms) ≤ _; omega) T' rfl X'
  exact ⟨t2, stp t2 a1, b1⟩
def gx_rc (w : gx_W) (a ci : Nat) : Prop := (∃ fs, w.1 a = some (gx_ob ci fs)) ∨ ∃ cap l, w.1 a = some (gx_bx ci cap l)
theorem gx_rc.cell {N : gx_N} {w : gx_W} {H : Heap} {a ci : Nat} {q : vw_C} {s : State} (hw : gx_Wd N w H) (hK : gx_Kn N s) (h : gx_rc w a ci) (hc : gx_cl[ci]? = some q) : ∃ cell : Cell, H[a]? = some cell ∧ cell.vm.isStatics = false ∧ s.vm.findClass q.1 = some cell.cls := by
  rcases h with ⟨fs, h⟩ | ⟨cap, l, h⟩
  · exact va_recv (ws := [(a, .inr (ci, fs))]) hK.1 (gx_P1 (show va_at N.1 gx_cl (a, .inr (ci, fs)) H from (hw.2.2.2.1 a _ h).2)) hc (q0 := 0) rfl
  · obtain ⟨f, -, -, ho, -⟩ := (hw.2.2.2.1 a _ h).2
    exact va_recv hK.1 (gx_P1 ho) hc (q0 := 0) rfl
theorem gx_callV {Mc : gx_M} {idx d' mc ms n ci a : Nat} {as : List Value} {Q' : Option Value → gx_W → Prop} (hS : gx_lV M.1.cls idx Mc n ci) (hdg : decode M.2.1 pc = .ok (.invokevirtual idx, 3)) (hC : gx_Ct Mc d' mc ms (.ref a :: as) w Q') (hrc : gx_rc w a ci) (hd' : d' + 1 ≤ d) (hn : as.length = n) (hst : st = as.reverse ++ .ref a :: rest) (hrm : (rest.map fun v => v.category).sum ≤ 8) (hbb : mc ≤ b.1 ∧ ms ≤ b.2) (k : ∀ r w', Q' r w' → gx_X F M d Q (pc + 3) L (r.toList ++ rest) w' (b.1 - mc, b.2 - ms)) : gx_X F M d Q pc L st w b := gx_back (as := .ref a :: as) (fun V hl hw hc hs => by
  obtain ⟨hx, hb, hml, hr, hlk, hown, hnm, hts, hK, hfr, hlo, hA, hF⟩ := V
  obtain ⟨hcs, hln, hnp, hin, hse, T, kk, hcl⟩ := hS
  have hpre := gx_rc.cell hw hK hrc hcl
  have h40 := hcs.2.2.2
  rcases hln with hln | ⟨host, hln⟩
  · exact va_runV (C := Mc.1.cls) (bytes := Mc.2.1) (maxL := Mc.2.2.1) (ret := Mc.2.2.2) (n := n) (nL := M.2.2.1) (Ts := gx_T) ⟨hx, hb, hml, hown, hts⟩ (hC _ _ hF.2.1) ⟨⟨rfl, rfl, by show d' + 1 ≤ _; omega, by show 8 + (Mc.2.2.1 + 11) + 32 * d' ≤ _; omega, gx_pay hts hcs, List.mem_cons_self, hts _ hcs.1, hts _ hcs.2.1, hcs.2.2.1, hnp.use, hts _ hln⟩, hts _ hin, hts _ hse⟩ ⟨gx_blind, hpre, fun U hU hW => ⟨rfl, by rw [hU]; exact hw, hK.moved hW⟩⟩ rfl hn hl hst (lv_room hrm) hdg ⟨hc, hs⟩
  · exact va_runVN (C := Mc.1.cls) (bytes := Mc.2.1) (maxL := Mc.2.2.1) (ret := Mc.2.2.2) (n := n) (nL := M.2.2.1) (Ts := gx_T) ⟨hx, hb, hml, hown, hts⟩ (hC _ _ hF.2.1) ⟨⟨⟨rfl, rfl, by show d' + 1 ≤ _; omega, by show 8 + (Mc.2.2.1 + 11) + 32 * d' ≤ _; omega, gx_pay hts hcs, List.mem_cons_self⟩, hts _ hcs.1, hts _ hcs.2.1, hcs.2.2.1, hnp.use, va_Nw.use rfl (hK.2.2.1 _ hln)⟩, hts _ hin, hts _ hse⟩ ⟨gx_blind, hpre, fun U hU hW => ⟨rfl, by rw [hU]; exact hw, hK.moved hW⟩⟩ rfl hn hl hst (lv_room hrm) hdg ⟨hc, hs⟩) hbb k
theorem gx_callS {Mc : gx_M} {idx d' mc ms n : Nat} {as : List Value} {Q' : Option Value → gx_W → Prop} (hS : gx_lS M.1.cls idx Mc n) (hdg : decode M.2.1 pc = .ok (.invokestatic idx, 3)) (hC : gx_Ct Mc d' mc ms as w Q') (hd' : d' + 1 ≤ d) (hn : as.length = n) (hst : st = as.reverse ++ rest) (hrm : (rest.map fun v => v.category).sum ≤ 8) (hbb : mc ≤ b.1 ∧ ms ≤ b.2) (k : ∀ r w', Q' r w' → gx_X F M d Q (pc + 3) L (r.toList ++ rest) w' (b.1 - mc, b.2 - ms)) : gx_X F M d Q pc L st w b := gx_back (as := as) (fun V hl hw hc hs => by
  obtain ⟨hx, hb, hml, hr, hlk, hown, hnm, hts, hK, hfr, hlo, hA, hF⟩ := V
  obtain ⟨hcs, hln, hnp, hst2⟩ := hS
  have h40 := hcs.2.2.2
  rcases hln with hln | ⟨host, hln⟩
  · exact va_runS (bytes := Mc.2.1) (maxL := Mc.2.2.1) (ret := Mc.2.2.2) (n := n) (nL := M.2.2.1) (Ts := gx_T) ⟨hx, hb, hml, hown, hts⟩ (hC _ _ hF.2.1) ⟨⟨rfl, rfl, by show d' + 1 ≤ _; omega, by show 8 + (Mc.2.2.1 + 11) + 32 * d' ≤ _; omega, gx_pay hts hcs, List.mem_cons_self, hts _ hcs.1, hts _ hcs.2.1, hcs.2.2.1, hnp.use, hts _ hln⟩, hts _ hst2⟩ ⟨gx_blind, fun U hU hW => ⟨rfl, by rw [hU]; exact hw, hK.moved hW⟩⟩ rfl hn hl hst (lv_room hrm) hdg ⟨hc, hs⟩
  · exact va_runSN (bytes := Mc.2.1) (maxL := Mc.2.2.1) (ret := Mc.2.2.2) (n := n) (nL := M.2.2.1) (Ts := gx_T) ⟨hx, hb, hml, hown, hts⟩ (hC _ _ hF.2.1) ⟨⟨⟨rfl, rfl, by show d' + 1 ≤ _; omega, by show 8 + (Mc.2.2.1 + 11) + 32 * d' ≤ _; omega, gx_pay hts hcs, List.mem_cons_self⟩, hts _ hcs.1, hts _ hcs.2.1, hcs.2.2.1, hnp.use, va_Nw.use rfl (hK.2.2.1 _ hln)⟩, hts _ hst2, trivial⟩ ⟨gx_blind, fun U hU hW => ⟨rfl, by rw [hU]; exact hw, hK.moved hW⟩⟩ rfl hn hl hst (lv_room hrm) hdg ⟨hc, hs⟩) hbb k
theorem gx_callI {Mc : gx_M} {idx d' mc ms n a : Nat} {as : List Value} {Q' : Option Value → gx_W → Prop} (hS : gx_lI M.1.cls idx Mc n) (hdg : decode M.2.1 pc = .ok (.invokespecial idx, 3)) (hC : gx_Ct Mc d' mc ms (.ref a :: as) w Q') (hd' : d' + 1 ≤ d) (hn : as.length = n) (hst : st = as.reverse ++ .ref a :: rest) (hrm : (rest.map fun v => v.category).sum ≤ 8) (hbb : mc ≤ b.1 ∧ ms ≤ b.2) (k : ∀ r w', Q' r w' → gx_X F M d Q (pc + 3) L (r.toList ++ rest) w' (b.1 - mc, b.2 - ms)) : gx_X F M d Q pc L st w b := gx_back (as := .ref a :: as) (fun V hl hw hc hs => by
  obtain ⟨hx, hb, hml, hr, hlk, hown, hnm, hts, hK, hfr, hlo, hA, hF⟩ := V
  obtain ⟨hcs, hln, hnp, hin, hini, hnone⟩ := hS
  have h40 := hcs.2.2.2
  have hmem : Cond.code Mc.1 Mc.2.1 Mc.2.2.1 none ∈ gx_ws Mc := by
    rw [← hnone]; exact List.mem_cons_self
  have hcode := hts _ hcs.1
  rw [hnone] at hcode
  rcases hln with hln | ⟨host, hln⟩
  · exact va_runI (bytes := Mc.2.1) (maxL := Mc.2.2.1) (n := n) (nL := M.2.2.1) (Ts := gx_T) ⟨hx, hb, hml, hown, hts⟩ (hC _ _ hF.2.1) ⟨⟨rfl, rfl, by show d' + 1 ≤ _; omega, by show 8 + (Mc.2.2.1 + 11) + 32 * d' ≤ _; omega, gx_pay hts hcs, hmem, hcode, hts _ hcs.2.1, hcs.2.2.1, hnp.use, hts _ hln⟩, hini, hts _ hin⟩ ⟨gx_blind, fun U hU hW => ⟨rfl, by rw [hU]; exact hw, hK.moved hW⟩⟩ rfl hn hl hst (lv_room hrm) hdg ⟨hc, hs⟩
  · exact va_runIN (bytes := Mc.2.1) (maxL := Mc.2.2.1) (n := n) (nL := M.2.2.1) (Ts := gx_T) ⟨hx, hb, hml, hown, hts⟩ (hC _ _ hF.2.1) ⟨⟨⟨rfl, rfl, by show d' + 1 ≤ _; omega, by show 8 + (Mc.2.2.1 + 11) + 32 * d' ≤ _; omega, gx_pay hts hcs, hmem⟩, hcode, hts _ hcs.2.1, hcs.2.2.1, hnp.use, va_Nw.use rfl (hK.2.2.1 _ hln)⟩, hini, hts _ hin⟩ ⟨gx_blind, fun U hU hW => ⟨rfl, by rw [hU]; exact hw, hK.moved hW⟩⟩ rfl hn hl hst (lv_room hrm) hdg ⟨hc, hs⟩) hbb k
/-! new cells -/
theorem gx_new {idx ci n b1 b2 : Nat} {fs : List Value} (hf : gx_nw M.1.cls idx ci n fs) (hdg : decode M.2.1 pc = .ok (.new idx, 3)) (k : gx_X F M d Q (pc + 3) L (.ref w.2 :: st) (gx_al w (gx_ob ci fs)) (b1, b2)) : gx_X F M d Q pc L st w (b1 + 1, b2 + n) := fun p l e R s m args below meth c H locs cells slots ls N A V hl hw hS hd hc hs => by
  have V0 := V
  obtain ⟨hx, hb, hml, hr, hlk, hown, hnm, hts, hK, hfr, hlo, hA, hF⟩ := V
  obtain ⟨C, T, ty, h1, h2, h3, h4, h5, h6, h7⟩ := hf
  have hKn := hK.1.1 ci _ h1
  have hsz : H.size = w.2 := hw.1
  have hc' : cells + (b1 + 1) ≤ R.cells := hc
  have hs' : slots + (b2 + n) ≤ R.slots := hs
  refine W.newcK hx hb hown (hts _ h3) (hts _ h4) (hts _ h5) rfl hdg (by omega) (by omega) hKn.2.1 hsz fun H1 kC hkC e1 z1 o1 => ?_
  refine k p l e R s m args below meth c H1 locs (cells + 1) (slots + n) ls N A V0 hl (hw.al rfl ⟨_, h1, (u_born ty hts h2 hKn hkC e1 h6).to h7⟩ (by rw [z1, hsz]) (fun q hq => o1 q (by rw [← hsz]; exact hq))) ⟨Nat.le_trans hS.1 (by omega), fun x g1 g2 => (o1 x (by have := hS.1; omega)).trans (hS.2.1 x g1 g2), hS.2.2⟩ (fun q hq => ?_) (by show cells + 1 + b1 ≤ _; omega) (by show slots + n + b2 ≤ _; omega)
  rcases gx_cv.al rfl hq with h | h
  · exact hd q h
  · exact hA q (by have := hS.1; omega)
theorem gx_newa {atype : ArrayType} {kd n b1 b2 : Nat} {ty : FieldType} {x : vp_A} (hty : newarray.typeOf atype = ty) (hkd : ∀ N : gx_N, (gx_ta N)[kd]? = some (N.2.1 kd, ty)) (hra : ∀ (s : State) (cA : ClassId), va_RA s cA ty → s.vm.findClass ("[" ++ ty.toString) = some cA) (hxc : ∀ cA : ClassId, vp_cell cA x = arrV cA n (fun _ => defaultValue ty)) (hac : Cond.arrayClass ty ∈ gx_T) (hn : n < 2 ^ 31) (hby : n * componentBytes ty ≤ 536870912) (hdg : decode M.2.1 pc = .ok (.newarray atype, 2)) (k : gx_X F M d Q (pc + 2) L (.ref w.2 :: st) (gx_al w (.inl (kd, x))) (b1, b2)) : gx_X F M d Q pc L (.int (nI n) :: st) w (b1 + 1, b2 + n) := fun p l e R s m args below meth c H locs cells slots ls N A V hl hw hS hd hc hs => by
  subst hty
  have V0 := V
  obtain ⟨hx, hb, hml, hr, hlk, hown, hnm, hts, hK, hfr, hlo, hA, hF⟩ := V
  have hsz : H.size = w.2 := hw.1
  have hc' : cells + (b1 + 1) ≤ R.cells := hc
  have hs' : slots + (b2 + n) ≤ R.slots := hs
  refine va_newaK hx hb (hts _ hac) rfl hdg rfl (nI_pos hn) (nI_clamp hn) hby (by omega) (by omega) hsz fun H1 cA e1 z1 o1 hAr hNm => ?_
  have hcA : N.2.1 kd = cA := by
    have h1 := hra _ _ (hK.1.2 kd _ (hkd N)).2
    exact Option.some.inj (h1.symm.trans hNm)
  refine k p l e R s m args below meth c H1 locs (cells + 1) (slots + n) ls N A V0 hl (hw.al rfl (by show H1[w.2]? = some (vp_cell _ _); rw [hxc, hcA]; exact e1) (by rw [z1, hsz]) (fun q hq => o1 q (by rw [← hsz]; exact hq))) ⟨Nat.le_trans hS.1 (by omega), fun x g1 g2 => (o1 x (by have := hS.1; omega)).trans (hS.2.1 x g1 g2), hS.2.2⟩ (fun q hq => ?_) (by show cells + 1 + b1 ≤ _; omega) (by show slots + n + b2 ≤ _; omega)
  rcases gx_cv.al rfl hq with h | h
  · exact hd q h
  · exact hA q (by have := hS.1; omega)
theorem gx_anew {kd idx n b1 b2 : Nat} {C : String} (hkd : ∀ N : gx_N, (gx_ta N)[kd]? = some (N.2.1 kd, .object C)) (hcl : Cond.classLink M.1.cls idx C ∈ gx_T) (hao : ∀ (N : gx_N) (U : State), gx_Kn N U → va_AO C U) (hn : n < 2 ^ 31) (hby : n * 4 ≤ 536870912) (hdg : decode M.2.1 pc = .ok (.anewarray idx, 3)) (k : gx_X F M d Q (pc + 3) L (.ref w.2 :: st) (gx_al w (gx_ar kd n (fun _ => none))) (b1, b2)) : gx_X F M d Q pc L (.int (nI n) :: st) w (b1 + 1, b2 + n) := fun p l e R s m args below meth c H locs cells slots ls N A V hl hw hS hd hc hs => by
  have V0 := V
  obtain ⟨hx, hb, hml, hr, hlk, hown, hnm, hts, hK, hfr, hlo, hA, hF⟩ := V
  have hsz : H.size = w.2 := hw.1
  have hcn := nI_clamp hn
  have hc' : cells + (b1 + 1) ≤ R.cells := hc
  have hs' : slots + (b2 + n) ≤ R.slots := hs
  refine W.anew hx hb hown (hts _ hcl) (va_AO.use (hao N s hK)) rfl hdg rfl (nI_pos hn) (by rw [hcn]; exact hby) (by omega) (by rw [hcn]; omega) fun cA kA comp f1 f2 f3 f4 => ?_
  have hcA : N.2.1 kd = cA := by
    obtain ⟨-, -, -, -, -, h1⟩ := (hK.1.2 kd _ (hkd N)).2
    exact Option.some.inj (h1.symm.trans f1)
  rw [hcn]
  have e1 : (H.push ({ cls := cA, slots := Array.replicate n .null, vm := .none } : Cell))[w.2]? = some (arrV cA n (fun _ => .null)) := by rw [← hsz, Array.getElem?_push_size, ← arrV_new]
  have o1 : ∀ q : Nat, q < H.size → (H.push ({ cls := cA, slots := Array.replicate n .null, vm := .none } : Cell))[q]? = H[q]? := fun q hq => by rw [Array.getElem?_push, if_neg (Nat.ne_of_lt hq)]
  have z1 : (H.push ({ cls := cA, slots := Array.replicate n .null, vm := .none } : Cell)).size = H.size + 1 := Array.size_push ..
  generalize H.push ({ cls := cA, slots := Array.replicate n .null, vm := .none } : Cell) = H1 at e1 o1 z1 ⊢
  rw [hsz]
  refine k p l e R s m args below meth c H1 locs (cells + 1) (slots + n) ls N A V0 hl (hw.al rfl (by show H1[w.2]? = some (vp_cell _ _); rw [vp_cell_q, hcA]; exact e1) z1 o1) ⟨Nat.le_trans hS.1 (by omega), fun x g1 g2 => (o1 x (by have := hS.1; omega)).trans (hS.2.1 x g1 g2), hS.2.2⟩ (fun q hq => ?_) (by show cells + 1 + b1 ≤ _; omega) (by show slots + n + b2 ≤ _; omega)
  rcases gx_cv.al rfl hq with h | h
  · exact hd q h
  · exact hA q (by have := hS.1; omega)
theorem gx_aast {a n j v kd ci : Nat} {f : Nat → Option Nat} {r : vw_C} (hdg : decode M.2.1 pc = .ok (.aastore, 1)) (hkd : ∀ N : gx_N, (gx_ta N)[kd]? = some (N.2.1 kd, .object r.1)) (hcl : gx_cl[ci]? = some r) (hw0 : w.1 a = some (gx_ar kd n f)) (hv : gx_rc w v ci) (hj : j < n) (hn : n < 2 ^ 31) (k : gx_X F M d Q (pc + 1) L st (gx_st w a (gx_ar kd n (va_up f j (some v)))) b) : gx_X F M d Q pc L (.ref v :: .int (nI j) :: .ref a :: st) w b := fun p l e R s m args below meth c H locs cells slots ls N A V hl hw hS hd hc hs => by
  have V0 := V
  obtain ⟨hx, hb, hml, hr, hlk, hown, hnm, hts, hK, hfr, hlo, hA, hF⟩ := V
  have hcn := nI_clamp (show j < 2 ^ 31 by omega)
  have hcls := (hK.1.1 ci r hcl).2
  obtain ⟨cellV, g1, g3, g2⟩ := gx_rc.cell hw hK hv hcl
  have g2' : cellV.cls = N.1.1 ci := (Option.some.inj (g2.symm.trans hcls.1))
  obtain ⟨kA, comp, k1, k2, k3, -⟩ := (hK.1.2 kd _ (hkd N)).2
  have hcomp : comp = N.1.1 ci := Option.some.inj (k3.symm.trans hcls.1)
  subst hcomp
  obtain ⟨kC, hkC, -⟩ := hcls.2
  refine W.aast hx hb (hw.2.2.2.1 a _ hw0).2 (fun q h => by cases h) (fun h => by cases h) k1 k2 rfl hkC ⟨nI_pos (by omega), by show _ < (arrV _ _ _).slots.size; rw [arrV_size, hcn]; exact hj⟩ g1 (fun q h => by rw [h] at g3; cases g3) (by rw [g2']; exact hkC) (by rw [g2']; exact va_assign hcls) rfl rfl hdg fun H1 e1 z oq => ?_
  have hi : gx_is N a (gx_ar kd n (va_up f j (some v))) H1 := by
    show H1[a]? = some (vp_cell _ _)
    rw [e1, vp_cell_q, vp_cell_q, arrV_store, hcn]
    congr 2
    funext q
    by_cases hq : q = j
    · subst hq; simp [updV, va_up, va_rf]
    · simp [updV, va_up, hq]
  exact k p l e R s m args below meth c H1 _ cells slots ls N A V0 hl (hw.put hw0 rfl rfl hi z oq) (hS.put z oq (hd a (Or.inl ⟨_, hw0⟩))) (fun q hq => hd q (gx_cv.st hw0 (fun h => by cases h) hq)) hc hs
/-! calls of the library -/
theorem gx_objInit {idx a : Nat} (hf : gx_lO M.1.cls idx) (hd1 : 1 ≤ d) (hrm : (st.map fun v => v.category).sum + 12 ≤ 32 * d) (hdg : decode M.2.1 pc = .ok (.invokespecial idx, 3)) (k : gx_X F M d Q (pc + 3) L st w b) : gx_X F M d Q pc L (.ref a :: st) w b := gx_go (fun V hl _ k => by
  obtain ⟨hx, hb, hml, hr, hlk, hown, hnm, hts, hK, hfr, hlo, hA, hF⟩ := V
  exact W.objInit hx hb hown (hts _ hf.1) (hts _ hf.2.1) (hts _ hf.2.2) rfl (by rw [hml]; exact hl.1) rfl hdg (by omega) (by show 2 * 0 + _ + 12 ≤ _; omega) k) k
theorem gx_min {idx : Nat} {x y : Int32} (hf : gx_lM M.1.cls idx Lib.Math.min.name Lib.Math.min.code) (hd1 : 1 ≤ d) (hrm : (st.map fun v => v.category).sum + 13 ≤ 32 * d) (hdg : decode M.2.1 pc = .ok (.invokestatic idx, 3)) (k : gx_X F M d Q (pc + 3) L (.int (if y < x then y else x) :: st) w b) : gx_X F M d Q pc L (.int y :: .int x :: st) w b := fun p l e R s m args below meth c H locs cells slots ls N A V hl hw hS hd hc hs => by
  have V0 := V
  obtain ⟨hx, hb, hml, hr, hlk, hown, hnm, hts, hK, hfr, hlo, hA, hF⟩ := V
  exact va_mmin hx hb (by rw [hml]; exact hl.1.symm) hown (hts _ hf.1) (hts _ hf.2.1) (hts _ hf.2.2.1) (hts _ hf.2.2.2) (by omega) (by omega) (by omega) (by omega) hdg (k p l e R s m args below meth c H locs cells slots ls N A V0 hl hw hS hd hc hs)
theorem gx_max {idx : Nat} {x y : Int32} (hf : gx_lM M.1.cls idx Lib.Math.max.name Lib.Math.max.code) (hd1 : 1 ≤ d) (hrm : (st.map fun v => v.category).sum + 13 ≤ 32 * d) (hdg : decode M.2.1 pc = .ok (.invokestatic idx, 3)) (k : gx_X F M d Q (pc + 3) L (.int (if x < y then y else x) :: st) w b) : gx_X F M d Q pc L (.int y :: .int x :: st) w b := fun p l e R s m args below meth c H locs cells slots ls N A V hl hw hS hd hc hs => by
  have V0 := V
  obtain ⟨hx, hb, hml, hr, hlk, hown, hnm, hts, hK, hfr, hlo, hA, hF⟩ := V
  exact va_mmax hx hb (by rw [hml]; exact hl.1.symm) hown (hts _ hf.1) (hts _ hf.2.1) (hts _ hf.2.2.1) (hts _ hf.2.2.2) (by omega) (by omega) (by omega) (by omega) hdg (k p l e R s m args below meth c H locs cells slots ls N A V0 hl hw hS hd hc hs)
theorem gx_lcmp {x y : Int64} (hdg : decode M.2.1 pc = .ok (.lcmp, 1)) (k : gx_X F M d Q (pc + 1) L (.int (lg_cmp x y) :: st) w b) : gx_X F M d Q pc L (.long y :: .long x :: st) w b := gx_go (fun V _ _ k => W.lcmp V.1 V.2.1 hdg k) k
theorem gx_ldc2 {idx : Nat} {v : Int64} (hf : Cond.constantLong M.1.cls idx v ∈ gx_T) (hdg : decode M.2.1 pc = .ok (.ldc2_w idx, 3)) (k : gx_X F M d Q (pc + 3) L (.long v :: st) w b) : gx_X F M d Q pc L st w b := gx_go (fun V _ _ k => by
  obtain ⟨hx, hb, hml, hr, hlk, hown, hnm, hts, hK, hfr, hlo, hA, hF⟩ := V
  exact lv_ldc2 hx hb hown (hts _ hf) hdg k) k
/-! numbers that are natural -/
theorem gx_iaddN {x y : Nat} (hdg : decode M.2.1 pc = .ok (.iadd, 1)) (k : gx_X F M d Q (pc + 1) L (.int (nI (x + y)) :: st) w b) : gx_X F M d Q pc L (.int (nI y) :: .int (nI x) :: st) w b := gx_iadd hdg (gx_top (nI_add x y) k)
theorem gx_isubN {x y : Nat} (h : y ≤ x) (hdg : decode M.2.1 pc = .ok (.isub, 1)) (k : gx_X F M d Q (pc + 1) L (.int (nI (x - y)) :: st) w b) : gx_X F M d Q pc L (.int (nI y) :: .int (nI x) :: st) w b := gx_isub hdg (gx_top (pk_sub h) k)
theorem gx_imulN {x y : Nat} (hdg : decode M.2.1 pc = .ok (.imul, 1)) (k : gx_X F M d Q (pc + 1) L (.int (nI (x * y)) :: st) w b) : gx_X F M d Q pc L (.int (nI y) :: .int (nI x) :: st) w b := gx_imul hdg (gx_top (pk_mul x y) k)
theorem gx_idivN {x y : Nat} (hx : x < 2 ^ 31) (h0 : 0 < y) (hy : y < 2 ^ 31) (hdg : decode M.2.1 pc = .ok (.idiv, 1)) (k : gx_X F M d Q (pc + 1) L (.int (nI (x / y)) :: st) w b) : gx_X F M d Q pc L (.int (nI y) :: .int (nI x) :: st) w b := gx_idiv hdg (nI_ne0 h0 hy) (gx_top (pk_div hx h0 hy) k)
theorem gx_iremN {x y : Nat} (hx : x < 2 ^ 31) (h0 : 0 < y) (hy : y < 2 ^ 31) (hdg : decode M.2.1 pc = .ok (.irem, 1)) (k : gx_X F M d Q (pc + 1) L (.int (nI (x % y)) :: st) w b) : gx_X F M d Q pc L (.int (nI y) :: .int (nI x) :: st) w b := gx_irem hdg (nI_ne0 h0 hy) (gx_top (pk_rem hx h0 hy) k)
theorem gx_i2cN {x : Nat} (hx : x < 65536) (hdg : decode M.2.1 pc = .ok (.i2c, 1)) (k : gx_X F M d Q (pc + 1) L (.int (nI x) :: st) w b) : gx_X F M d Q pc L (.int (nI x) :: st) w b := gx_i2c hdg (gx_top (by rw [pk_char, pk_tn (by omega), Nat.mod_eq_of_lt hx]) k)
theorem gx_iincN {j x n : Nat} {n' : Int} (hdg : decode M.2.1 pc = .ok (.iinc j n', 3)) (hl0 : L[j]? = some (some (.int (nI x)))) (hv : Int32.ofInt n' = nI n) (hn : j < M.2.2.1) (hc1 : gx_c1 L j = true) (k : gx_X F M d Q (pc + 3) (L.set j (some (.int (nI (x + n))))) st w b) : gx_X F M d Q pc L st w b := gx_iinc hdg hl0 _ (by rw [hv]; exact nI_add x n) hn hc1 k
theorem gx_iincM {j x : Nat} {n' : Int} (hdg : decode M.2.1 pc = .ok (.iinc j n', 3)) (hl0 : L[j]? = some (some (.int (nI (x + 1))))) (hv : Int32.ofInt n' = -1) (hn : j < M.2.2.1) (hc1 : gx_c1 L j = true) (k : gx_X F M d Q (pc + 3) (L.set j (some (.int (nI x)))) st w b) : gx_X F M d Q pc L st w b := gx_iinc hdg hl0 _ (by rw [hv]; exact pk_m1 x) hn hc1 k
theorem gx_icmp_eqN {x y : Nat} {off : Int} {tgt : Nat} (hx : x < 2 ^ 31) (hy : y < 2 ^ 31) (hdg : decode M.2.1 pc = .ok (.if_icmp .eq off, 3)) (ht : (pc : Int) + off = (tgt : Int)) (kt : x = y → gx_X F M d Q tgt L st w b) (kf : ¬ x = y → gx_X F M d Q (pc + 3) L st w b) : gx_X F M d Q pc L (.int (nI y) :: .int (nI x) :: st) w b := gx_icmp_eq hdg ht (fun h => kt ((nI_eq hx hy).mp h)) (fun h => kf (fun g => h ((nI_eq hx hy).mpr g)))
theorem gx_icmp_ltN {x y : Nat} {off : Int} {tgt : Nat} (hx : x < 2 ^ 31) (hy : y < 2 ^ 31) (hdg : decode M.2.1 pc = .ok (.if_icmp .lt off, 3)) (ht : (pc : Int) + off = (tgt : Int)) (kt : x < y → gx_X F M d Q tgt L st w b) (kf : ¬ x < y → gx_X F M d Q (pc + 3) L st w b) : gx_X F M d Q pc L (.int (nI y) :: .int (nI x) :: st) w b := gx_icmp_lt hdg ht (fun h => kt ((nI_ltI hx hy).mp h)) (fun h => kf (fun g => h ((nI_ltI hx hy).mpr g)))
theorem gx_icmp_leN {x y : Nat} {off : Int} {tgt : Nat} (hx : x < 2 ^ 31) (hy : y < 2 ^ 31) (hdg : decode M.2.1 pc = .ok (.if_icmp .le off, 3)) (ht : (pc : Int) + off = (tgt : Int)) (kt : x ≤ y → gx_X F M d Q tgt L st w b) (kf : ¬ x ≤ y → gx_X F M d Q (pc + 3) L st w b) : gx_X F M d Q pc L (.int (nI y) :: .int (nI x) :: st) w b := gx_icmp_le hdg ht (fun h => kt ((nI_leI hx hy).mp h)) (fun h => kf (fun g => h ((nI_leI hx hy).mpr g)))
theorem gx_icmp_neN {x y : Nat} {off : Int} {tgt : Nat} (hx : x < 2 ^ 31) (hy : y < 2 ^ 31) (hdg : decode M.2.1 pc = .ok (.if_icmp .ne off, 3)) (ht : (pc : Int) + off = (tgt : Int)) (kt : ¬ x = y → gx_X F M d Q tgt L st w b) (kf : x = y → gx_X F M d Q (pc + 3) L st w b) : gx_X F M d Q pc L (.int (nI y) :: .int (nI x) :: st) w b := gx_icmp_ne hdg ht (fun h => kt (fun g => h ((nI_eq hx hy).mpr g))) (fun h => kf ((nI_eq hx hy).mp h))
theorem gx_icmp_geN {x y : Nat} {off : Int} {tgt : Nat} (hx : x < 2 ^ 31) (hy : y < 2 ^ 31) (hdg : decode M.2.1 pc = .ok (.if_icmp .ge off, 3)) (ht : (pc : Int) + off = (tgt : Int)) (kt : y ≤ x → gx_X F M d Q tgt L st w b) (kf : ¬ y ≤ x → gx_X F M d Q (pc + 3) L st w b) : gx_X F M d Q pc L (.int (nI y) :: .int (nI x) :: st) w b := gx_icmp_ge hdg ht (fun h => kt ((nI_leI hy hx).mp h)) (fun h => kf (fun g => h ((nI_leI hy hx).mpr g)))
theorem gx_icmp_gtN {x y : Nat} {off : Int} {tgt : Nat} (hx : x < 2 ^ 31) (hy : y < 2 ^ 31) (hdg : decode M.2.1 pc = .ok (.if_icmp .gt off, 3)) (ht : (pc : Int) + off = (tgt : Int)) (kt : y < x → gx_X F M d Q tgt L st w b) (kf : ¬ y < x → gx_X F M d Q (pc + 3) L st w b) : gx_X F M d Q pc L (.int (nI y) :: .int (nI x) :: st) w b := gx_icmp_gt hdg ht (fun h => kt ((nI_ltI hy hx).mp h)) (fun h => kf (fun g => h ((nI_ltI hy hx).mpr g)))
theorem gx_z0 {x : Nat} (hx : x < 2 ^ 31) : nI x = 0 ↔ x = 0 := by
  rw [← nI_0]; exact nI_eq hx (by omega)
theorem gx_if_eqN {x : Nat} {off : Int} {tgt : Nat} (hx : x < 2 ^ 31) (hdg : decode M.2.1 pc = .ok (.ifCond .eq off, 3)) (ht : (pc : Int) + off = (tgt : Int)) (kt : x = 0 → gx_X F M d Q tgt L st w b) (kf : ¬ x = 0 → gx_X F M d Q (pc + 3) L st w b) : gx_X F M d Q pc L (.int (nI x) :: st) w b := gx_if_eq hdg ht (fun h => kt ((gx_z0 hx).mp h)) (fun h => kf (fun g => h ((gx_z0 hx).mpr g)))
theorem gx_if_neN {x : Nat} {off : Int} {tgt : Nat} (hx : x < 2 ^ 31) (hdg : decode M.2.1 pc = .ok (.ifCond .ne off, 3)) (ht : (pc : Int) + off = (tgt : Int)) (kt : ¬ x = 0 → gx_X F M d Q tgt L st w b) (kf : x = 0 → gx_X F M d Q (pc + 3) L st w b) : gx_X F M d Q pc L (.int (nI x) :: st) w b := gx_if_ne hdg ht (fun h => kt (fun g => h ((gx_z0 hx).mpr g))) (fun h => kf ((gx_z0 hx).mp h))
theorem gx_if_ltN {x : Nat} {off : Int} (hx : x < 2 ^ 31) {tgt : Nat} (hdg : decode M.2.1 pc = .ok (.ifCond .lt off, 3)) (ht : (pc : Int) + off = (tgt : Int)) (kf : gx_X F M d Q (pc + 3) L st w b) : gx_X F M d Q pc L (.int (nI x) :: st) w b := gx_if_lt hdg ht (fun h => absurd h (nI_pos hx)) (fun _ => kf)
theorem gx_if_geN {x : Nat} {off : Int} (hx : x < 2 ^ 31) {tgt : Nat} (hdg : decode M.2.1 pc = .ok (.ifCond .ge off, 3)) (ht : (pc : Int) + off = (tgt : Int)) (kt : gx_X F M d Q tgt L st w b) : gx_X F M d Q pc L (.int (nI x) :: st) w b := gx_if_ge hdg ht (fun _ => kt) (fun h => absurd (nI_pos' hx) h)
theorem gx_if_leN {x : Nat} {off : Int} {tgt : Nat} (hx : x < 2 ^ 31) (hdg : decode M.2.1 pc = .ok (.ifCond .le off, 3)) (ht : (pc : Int) + off = (tgt : Int)) (kt : x = 0 → gx_X F M d Q tgt L st w b) (kf : 0 < x → gx_X F M d Q (pc + 3) L st w b) : gx_X F M d Q pc L (.int (nI x) :: st) w b := gx_if_le hdg ht (fun h => kt (Nat.eq_zero_of_not_pos fun g => nI_nle g hx h)) (fun h => kf (Nat.pos_of_ne_zero fun g => h (by rw [g, nI_0]; exact Int32.le_refl 0)))
theorem gx_if_gtN {x : Nat} {off : Int} {tgt : Nat} (hx : x < 2 ^ 31) (hdg : decode M.2.1 pc = .ok (.ifCond .gt off, 3)) (ht : (pc : Int) + off = (tgt : Int)) (kt : 0 < x → gx_X F M d Q tgt L st w b) (kf : x = 0 → gx_X F M d Q (pc + 3) L st w b) : gx_X F M d Q pc L (.int (nI x) :: st) w b := gx_if_gt hdg ht (fun h => kt (Nat.pos_of_ne_zero fun g => by rw [g, nI_0] at h; exact absurd h (by decide))) (fun h => kf (Nat.eq_zero_of_not_pos fun g => h (by rw [← nI_0]; exact nI_lt g hx)))
end GXA
