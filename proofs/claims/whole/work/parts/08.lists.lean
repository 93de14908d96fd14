/-! lists and functions -/
theorem gx_fn_nil {f : Nat → Int32} : gx_fn [] f := fun i h => absurd h (Nat.not_lt_zero i)
theorem gx_gd_app {l k : List Nat} {i : Nat} (h : i < l.length) : (l ++ k).getD i 0 = l.getD i 0 := by
  simp [List.getD_eq_getElem?_getD, List.getElem?_append_left h]
theorem gx_gd_mid {l k : List Nat} {c : Nat} : (l ++ c :: k).getD l.length 0 = c := by
  simp [List.getD_eq_getElem?_getD]
theorem gx_gd_app2 {l k : List Nat} {i : Nat} : (l ++ k).getD (l.length + i) 0 = k.getD i 0 := by
  rw [List.getD_eq_getElem?_getD, List.getElem?_append_right (by omega), List.getD_eq_getElem?_getD, Nat.add_sub_cancel_left]
theorem gx_fn_snoc {l : List Nat} {f : Nat → Int32} {c : Nat} (h : gx_fn l f) : gx_fn (l ++ [c]) (upd f l.length (nI c)) := by
  intro i hi
  rw [List.length_append, List.length_singleton] at hi
  by_cases e : i = l.length
  · subst e; rw [pk_us, gx_gd_mid]
  · rw [pk_un e, h i (by omega), gx_gd_app (by omega)]
theorem gx_gd_take {l : List Nat} {i n : Nat} (h : i < n) : (l.take n).getD i 0 = l.getD i 0 := by
  simp [List.getD_eq_getElem?_getD, h]
theorem gx_gd_mem {l : List Nat} {i : Nat} (h : i < l.length) : l.getD i 0 ∈ l := by
  rw [List.getD_eq_getElem?_getD, List.getElem?_eq_getElem h]
  exact List.getElem_mem h
theorem gx_take_succ {l : List Nat} {n : Nat} (h : n < l.length) : l.take (n + 1) = l.take n ++ [l.getD n 0] := by
  rw [List.take_succ, List.getD_eq_getElem?_getD, List.getElem?_eq_getElem h]
  rfl
theorem gx_ext {l k : List Nat} (h : l.length = k.length) (h2 : ∀ i, i < l.length → l.getD i 0 = k.getD i 0) : l = k := by
  apply List.ext_getElem h
  intro i h3 h4
  have := h2 i h3
  simpa [List.getD_eq_getElem?_getD, List.getElem?_eq_getElem h3, List.getElem?_eq_getElem h4] using this
theorem gx_sm_app {l k : List Nat} (h : gx_sm l) (h2 : gx_sm k) : gx_sm (l ++ k) := fun c hc => (List.mem_append.mp hc).elim (h c) (h2 c)
theorem gx_sm_1 {c : Nat} (h : c < 65536) : gx_sm [c] := fun x hx => by rw [List.mem_singleton.mp hx]; exact h
theorem gx_sm_nil : gx_sm [] := fun _ h => by cases h
theorem gx_sm_at {l : List Nat} (h : gx_sm l) (j : Nat) : l.getD j 0 < 65536 := by
  by_cases hj : j < l.length
  · exact h _ (gx_gd_mem hj)
  · rw [List.getD_eq_getElem?_getD, List.getElem?_eq_none (by omega)]; decide
theorem gx_nc {c : Nat} (h : c < 65536) : narrow .char (.int (nI c)) = .int (nI c) := (pk_charN h).1
theorem gx_gd_ge {l : List Nat} {j : Nat} (h : l.length ≤ j) : l.getD j 0 = 0 := by
  rw [List.getD_eq_getElem?_getD, List.getElem?_eq_none h]; rfl
theorem gx_upd_ge {l : List Nat} {f : Nat → Int32} {j : Nat} {x : Int32} (h : gx_fn l f) (hj : l.length ≤ j) : gx_fn l (upd f j x) := fun i hi => by rw [pk_un (by omega)]; exact h i hi
theorem gx_nz1 : narrow .boolean (.int (nI 1)) = .int (nI 1) := by decide
theorem gx_nz0 : narrow .boolean (.int (nI 0)) = .int (nI 0) := by decide
theorem gx_drop_step {l : List Nat} {i b : Nat} (h : i < b) (hb : b ≤ l.length) : (l.take b).drop i = l.getD i 0 :: (l.take b).drop (i + 1) := by
  have h1 : i < (l.take b).length := by rw [List.length_take]; omega
  rw [List.drop_eq_getElem_cons h1]
  congr 1
  rw [List.getElem_take, List.getD_eq_getElem?_getD, List.getElem?_eq_getElem (by omega)]
  rfl
theorem gx_drop_cons {l : List Nat} {i : Nat} (h : i < l.length) : l.drop i = l.getD i 0 :: l.drop (i + 1) := by
  rw [List.drop_eq_getElem_cons h, List.getD_eq_getElem?_getD, List.getElem?_eq_getElem h]
  rfl
theorem gx_drop_nil {l : List Nat} {i b : Nat} (h : b ≤ i) : (l.take b).drop i = [] := by
  apply List.drop_eq_nil_of_le
  rw [List.length_take]; omega
theorem gx_gd_er {l : List Nat} {p j : Nat} : (l.eraseIdx p).getD j 0 = if j < p then l.getD j 0 else l.getD (j + 1) 0 := by
  rw [List.getD_eq_getElem?_getD, List.getElem?_eraseIdx]
  split <;> rw [List.getD_eq_getElem?_getD]
theorem gx_sm_er {l : List Nat} {p : Nat} (h : gx_sm l) : gx_sm (l.eraseIdx p) := fun c hc => h c (List.mem_of_mem_eraseIdx hc)
theorem gx_sm_take {l : List Nat} {n : Nat} (h : gx_sm l) : gx_sm (l.take n) := fun c hc => h c (List.mem_of_mem_take hc)
def sp_ask (l : List Nat) (i : Int32) : Int32 := if i = -1 then nI l.length else if 0 ≤ i ∧ i < nI l.length then nI (l.getD i.toNatClampNeg 0) else -1
theorem sp_ask_m1 {l : List Nat} : sp_ask l (-1) = nI l.length := by simp [sp_ask]
theorem sp_ask_lt {l : List Nat} {i : Int32} (h : ¬ i = -1) (h2 : i < 0) : sp_ask l i = -1 := by
  unfold sp_ask
  rw [if_neg h, if_neg (fun g => absurd g.1 (by rw [Int32.le_iff_toInt_le]; rw [Int32.lt_iff_toInt_lt] at h2; omega))]
theorem sp_ask_ge {l : List Nat} {i : Int32} (h : ¬ i = -1) (h2 : nI l.length ≤ i) : sp_ask l i = -1 := by
  unfold sp_ask
  rw [if_neg h, if_neg (fun g => absurd g.2 (by rw [Int32.lt_iff_toInt_lt]; rw [Int32.le_iff_toInt_le] at h2; omega))]
theorem sp_ask_in {l : List Nat} {j : Nat} (hj : j < l.length) (hl : l.length < 2 ^ 31) : sp_ask l (nI j) = nI (l.getD j 0) := by
  unfold sp_ask
  have h1 : ¬ nI j = -1 := fun g => by
    have := nI_toInt (show j < 2 ^ 31 by omega)
    rw [g] at this
    have h2 : (-1 : Int32).toInt = -1 := by decide
    omega
  rw [if_neg h1, if_pos ⟨nI_pos' (by omega), nI_lt hj hl⟩, nI_clamp (by omega)]
/-- one of the two is a beginning of the other -/
def sp_agb : List Nat → List Nat → Bool
  | a :: l, b :: k => (a == b) && sp_agb l k
  | _, _ => true
theorem sp_agb_nil {k : List Nat} : sp_agb [] k = true := by unfold sp_agb; rfl
theorem sp_agb_nil2 {l : List Nat} : sp_agb l [] = true := by cases l <;> (unfold sp_agb; rfl)
theorem sp_agb_eq : ∀ {l k : List Nat}, l.length = k.length → (sp_agb l k = true ↔ l = k)
  | [], [], _ => by simp [sp_agb]
  | a :: l, b :: k, h => by
    have ih := sp_agb_eq (l := l) (k := k) (by simpa using h)
    simp [sp_agb, ih]
  | [], b :: k, h => by simp at h
  | a :: l, [], h => by simp at h
def gx_gr (w : gx_W) (n : Nat) : gx_W := (w.1, w.2 + n)
theorem gx_clz {n : Nat} (h : n < 2 ^ 31) : (nI n).toNatClampNeg = n := nI_clamp h
section GXC
variable {F : gx_N → State → Prop} {M : gx_M} {d : Nat} {Q : gx_P} {pc : Nat} {L : List (Option Value)} {st rest : List Value} {w : gx_W} {b : Nat × Nat}
theorem gx_cV1 {Mc : gx_M} {idx d' n ci a : Nat} {as : List Value} {v : Value} {w1 : gx_W} (hS : gx_lV M.1.cls idx Mc n ci) (hdg : decode M.2.1 pc = .ok (.invokevirtual idx, 3)) (hC : gx_Ct Mc d' 0 0 (.ref a :: as) w (gx_eq (some v) w1)) (hrc : gx_rc w a ci) (hd' : d' + 1 ≤ d) (hn : as.length = n) (hst : st = as.reverse ++ .ref a :: rest) (hrm : (rest.map fun v => v.category).sum ≤ 8) (k : gx_X F M d Q (pc + 3) L (v :: rest) w1 b) : gx_X F M d Q pc L st w b := gx_callV hS hdg hC hrc hd' hn hst hrm ⟨Nat.zero_le _, Nat.zero_le _⟩ (fun r w' h => by obtain ⟨rfl, rfl⟩ := h; exact k)
theorem gx_cV0 {Mc : gx_M} {idx d' n ci a : Nat} {as : List Value} {w1 : gx_W} (hS : gx_lV M.1.cls idx Mc n ci) (hdg : decode M.2.1 pc = .ok (.invokevirtual idx, 3)) (hC : gx_Ct Mc d' 0 0 (.ref a :: as) w (gx_eq none w1)) (hrc : gx_rc w a ci) (hd' : d' + 1 ≤ d) (hn : as.length = n) (hst : st = as.reverse ++ .ref a :: rest) (hrm : (rest.map fun v => v.category).sum ≤ 8) (k : gx_X F M d Q (pc + 3) L rest w1 b) : gx_X F M d Q pc L st w b := gx_callV hS hdg hC hrc hd' hn hst hrm ⟨Nat.zero_le _, Nat.zero_le _⟩ (fun r w' h => by obtain ⟨rfl, rfl⟩ := h; exact k)
theorem gx_cVr {Mc : gx_M} {idx d' n ci a : Nat} {as : List Value} {Q' : Option Value → gx_W → Prop} (hS : gx_lV M.1.cls idx Mc n ci) (hdg : decode M.2.1 pc = .ok (.invokevirtual idx, 3)) (hC : gx_Ct Mc d' 0 0 (.ref a :: as) w Q') (hrc : gx_rc w a ci) (hd' : d' + 1 ≤ d) (hn : as.length = n) (hst : st = as.reverse ++ .ref a :: rest) (hrm : (rest.map fun v => v.category).sum ≤ 8) (k : ∀ r w', Q' r w' → gx_X F M d Q (pc + 3) L (r.toList ++ rest) w' b) : gx_X F M d Q pc L st w b := gx_callV hS hdg hC hrc hd' hn hst hrm ⟨Nat.zero_le _, Nat.zero_le _⟩ k
theorem gx_cS1 {Mc : gx_M} {idx d' n : Nat} {as : List Value} {v : Value} {w1 : gx_W} (hS : gx_lS M.1.cls idx Mc n) (hdg : decode M.2.1 pc = .ok (.invokestatic idx, 3)) (hC : gx_Ct Mc d' 0 0 as w (gx_eq (some v) w1)) (hd' : d' + 1 ≤ d) (hn : as.length = n) (hst : st = as.reverse ++ rest) (hrm : (rest.map fun v => v.category).sum ≤ 8) (k : gx_X F M d Q (pc + 3) L (v :: rest) w1 b) : gx_X F M d Q pc L st w b := gx_callS hS hdg hC hd' hn hst hrm ⟨Nat.zero_le _, Nat.zero_le _⟩ (fun r w' h => by obtain ⟨rfl, rfl⟩ := h; exact k)
theorem gx_cS0 {Mc : gx_M} {idx d' n : Nat} {as : List Value} {w1 : gx_W} (hS : gx_lS M.1.cls idx Mc n) (hdg : decode M.2.1 pc = .ok (.invokestatic idx, 3)) (hC : gx_Ct Mc d' 0 0 as w (gx_eq none w1)) (hd' : d' + 1 ≤ d) (hn : as.length = n) (hst : st = as.reverse ++ rest) (hrm : (rest.map fun v => v.category).sum ≤ 8) (k : gx_X F M d Q (pc + 3) L rest w1 b) : gx_X F M d Q pc L st w b := gx_callS hS hdg hC hd' hn hst hrm ⟨Nat.zero_le _, Nat.zero_le _⟩ (fun r w' h => by obtain ⟨rfl, rfl⟩ := h; exact k)
theorem gx_cSr {Mc : gx_M} {idx d' n : Nat} {as : List Value} {Q' : Option Value → gx_W → Prop} (hS : gx_lS M.1.cls idx Mc n) (hdg : decode M.2.1 pc = .ok (.invokestatic idx, 3)) (hC : gx_Ct Mc d' 0 0 as w Q') (hd' : d' + 1 ≤ d) (hn : as.length = n) (hst : st = as.reverse ++ rest) (hrm : (rest.map fun v => v.category).sum ≤ 8) (k : ∀ r w', Q' r w' → gx_X F M d Q (pc + 3) L (r.toList ++ rest) w' b) : gx_X F M d Q pc L st w b := gx_callS hS hdg hC hd' hn hst hrm ⟨Nat.zero_le _, Nat.zero_le _⟩ k
/-- a contract says more than another -/
theorem gx_Ct.weaken {Mc : gx_M} {d' mc ms : Nat} {as : List Value} {Q1 Q2 : Option Value → gx_W → Prop} (h : gx_Ct Mc d' mc ms as w Q1) (hq : ∀ r w', Q1 r w' → Q2 r w') : gx_Ct Mc d' mc ms as w Q2 := by
  intro l N hlt p e ha hc hk s m args below hf happ hP hK
  obtain ⟨n, o, h1, h2, h3, h4, h5⟩ := h l N hlt p e ha hc hk s m args below hf happ hP hK
  refine ⟨n, o, h1, h2, h3, ⟨?_, h4.2⟩, h5⟩
  rcases h4.1 with ⟨r, w', a1, a2, a3⟩ | ⟨_, _, _, _, hF, _⟩
  · exact Or.inl ⟨r, w', a1, hq r w' a2, a3⟩
  · exact hF.elim
/-- nothing lies from the world's end on -/
theorem gx_fr (k : (∀ q, w.2 ≤ q → w.1 q = none) → gx_X F M d Q pc L st w b) : gx_X F M d Q pc L st w b := fun p l e R s m args below meth c H locs cells slots ls N A V hl hw hS hd hc hs => by
  refine k (fun q hq => ?_) p l e R s m args below meth c H locs cells slots ls N A V hl hw hS hd hc hs
  cases hx : w.1 q with
  | none => rfl
  | some x => have := hw.lt hx; omega
theorem gx_newc {n b1 b2 : Nat} (hn : n < 65536) (hdg : decode M.2.1 pc = .ok (.newarray .char, 2)) (k : gx_X F M d Q (pc + 2) L (.ref w.2 :: st) (gx_al w (gx_ai 1 n (fun _ => 0))) (b1, b2)) : gx_X F M d Q pc L (.int (nI n) :: st) w (b1 + 1, b2 + n) := gx_newa (ty := .char) rfl (fun _ => rfl) (fun _ _ h => h) (fun _ => rfl) ac_char (by omega) (by simp [componentBytes]; omega) hdg k
theorem gx_newi {n b1 b2 : Nat} (hn : n < 65536) (hdg : decode M.2.1 pc = .ok (.newarray .int, 2)) (k : gx_X F M d Q (pc + 2) L (.ref w.2 :: st) (gx_al w (gx_ai 0 n (fun _ => 0))) (b1, b2)) : gx_X F M d Q pc L (.int (nI n) :: st) w (b1 + 1, b2 + n) := gx_newa (ty := .int) rfl (fun _ => rfl) (fun _ _ h => h) (fun _ => rfl) ac_int (by omega) (by simp [componentBytes]; omega) hdg k
theorem gx_newz {n b1 b2 : Nat} (hn : n < 65536) (hdg : decode M.2.1 pc = .ok (.newarray .boolean, 2)) (k : gx_X F M d Q (pc + 2) L (.ref w.2 :: st) (gx_al w (gx_ai 2 n (fun _ => 0))) (b1, b2)) : gx_X F M d Q pc L (.int (nI n) :: st) w (b1 + 1, b2 + n) := gx_newa (ty := .boolean) rfl (fun _ => rfl) (fun _ _ h => h) (fun _ => rfl) ac_boolean (by omega) (by simp [componentBytes]; omega) hdg k
theorem gx_newl {n b1 b2 : Nat} (hn : n < 65536) (hdg : decode M.2.1 pc = .ok (.newarray .long, 2)) (k : gx_X F M d Q (pc + 2) L (.ref w.2 :: st) (gx_al w (gx_al8 5 n (fun _ => 0))) (b1, b2)) : gx_X F M d Q pc L (.int (nI n) :: st) w (b1 + 1, b2 + n) := gx_newa (ty := .long) rfl (fun _ => rfl) (fun _ _ h => h) (fun _ => rfl) ac_long (by omega) (by simp [componentBytes]; omega) hdg k
end GXC
