section
-- ===== PART A: goes FIRST, ahead of the names: the tables' words, and 'selects' of the private methods out of them =====
/-- a private method of a class that the tables say can be made, by its rows of tables_1 -/
def lw_okq (q : MethodName × Nat) : Prop := (q.1.cls ≠ "java/lang/invoke/MethodHandle" ∧ q.1.cls ≠ "java/lang/invoke/VarHandle") ∧ Cond.instantiable q.1.cls q.2 ∈ tables_1 ∧ Cond.privateMethod q.1 ∈ tables_1 ∧ Cond.instanceMethod q.1 ∈ tables_1
theorem lw_p0 : lw_okq (⟨"PostChain", "startOver", "()V"⟩, 9) := ⟨⟨by decide +kernel, by decide +kernel⟩, List.mem_of_getElem? (i := 23) (by decide +kernel), List.mem_of_getElem? (i := 202) (by decide +kernel), List.mem_of_getElem? (i := 203) (by decide +kernel)⟩
theorem lw_p1 : lw_okq (⟨"PostChain$Box", "open", "()LPostChain$Domino;"⟩, 3) := ⟨⟨by decide +kernel, by decide +kernel⟩, List.mem_of_getElem? (i := 99) (by decide +kernel), List.mem_of_getElem? (i := 267) (by decide +kernel), List.mem_of_getElem? (i := 268) (by decide +kernel)⟩
theorem lw_p2 : lw_okq (⟨"PostChain$Box", "addCopy", "(C)V"⟩, 3) := ⟨⟨by decide +kernel, by decide +kernel⟩, List.mem_of_getElem? (i := 99) (by decide +kernel), List.mem_of_getElem? (i := 278) (by decide +kernel), List.mem_of_getElem? (i := 279) (by decide +kernel)⟩
theorem lw_p3 : lw_okq (⟨"PostChain$Box", "addRule", "(LPostChain$Machine;IC)V"⟩, 3) := ⟨⟨by decide +kernel, by decide +kernel⟩, List.mem_of_getElem? (i := 99) (by decide +kernel), List.mem_of_getElem? (i := 283) (by decide +kernel), List.mem_of_getElem? (i := 284) (by decide +kernel)⟩
theorem lw_p4 : lw_okq (⟨"PostChain$Box", "addRight", "(LPostChain$Machine;IC)V"⟩, 3) := ⟨⟨by decide +kernel, by decide +kernel⟩, List.mem_of_getElem? (i := 99) (by decide +kernel), List.mem_of_getElem? (i := 287) (by decide +kernel), List.mem_of_getElem? (i := 288) (by decide +kernel)⟩
theorem lw_p5 : lw_okq (⟨"PostChain$Box", "addLeft", "(LPostChain$Machine;ICC)V"⟩, 3) := ⟨⟨by decide +kernel, by decide +kernel⟩, List.mem_of_getElem? (i := 99) (by decide +kernel), List.mem_of_getElem? (i := 295) (by decide +kernel), List.mem_of_getElem? (i := 296) (by decide +kernel)⟩
theorem lw_p6 : lw_okq (⟨"PostChain$Box", "addEnding", "()V"⟩, 3) := ⟨⟨by decide +kernel, by decide +kernel⟩, List.mem_of_getElem? (i := 99) (by decide +kernel), List.mem_of_getElem? (i := 299) (by decide +kernel), List.mem_of_getElem? (i := 300) (by decide +kernel)⟩
theorem lw_p7 : lw_okq (⟨"PostChain$Way", "passStep", "(LPostChain$Machine;LPostChain$Word;LPostChain$Box;)V"⟩, 2) := ⟨⟨by decide +kernel, by decide +kernel⟩, List.mem_of_getElem? (i := 137) (by decide +kernel), List.mem_of_getElem? (i := 335) (by decide +kernel), List.mem_of_getElem? (i := 336) (by decide +kernel)⟩
theorem lw_p8 : lw_okq (⟨"PostChain$Way", "pass", "(LPostChain$Word;III)V"⟩, 2) := ⟨⟨by decide +kernel, by decide +kernel⟩, List.mem_of_getElem? (i := 137) (by decide +kernel), List.mem_of_getElem? (i := 348) (by decide +kernel), List.mem_of_getElem? (i := 349) (by decide +kernel)⟩
theorem lw_p9 : lw_okq (⟨"PostChain$Way", "copySymbols", "(LPostChain$Word;II)V"⟩, 2) := ⟨⟨by decide +kernel, by decide +kernel⟩, List.mem_of_getElem? (i := 137) (by decide +kernel), List.mem_of_getElem? (i := 352) (by decide +kernel), List.mem_of_getElem? (i := 353) (by decide +kernel)⟩
theorem lw_p10 : lw_okq (⟨"PostChain$Way", "passShorter", "(LPostChain$Box;)V"⟩, 2) := ⟨⟨by decide +kernel, by decide +kernel⟩, List.mem_of_getElem? (i := 137) (by decide +kernel), List.mem_of_getElem? (i := 357) (by decide +kernel), List.mem_of_getElem? (i := 358) (by decide +kernel)⟩
theorem lw_p11 : lw_okq (⟨"PostChain", "spellLaid", "()V"⟩, 9) := ⟨⟨by decide +kernel, by decide +kernel⟩, List.mem_of_getElem? (i := 23) (by decide +kernel), List.mem_of_getElem? (i := 463) (by decide +kernel), List.mem_of_getElem? (i := 464) (by decide +kernel)⟩
theorem lw_p12 : lw_okq (⟨"PostChain$Hunt", "keep", "(IILPostChain$Domino;)V"⟩, 8) := ⟨⟨by decide +kernel, by decide +kernel⟩, List.mem_of_getElem? (i := 165) (by decide +kernel), List.mem_of_getElem? (i := 600) (by decide +kernel), List.mem_of_getElem? (i := 601) (by decide +kernel)⟩
theorem lw_p13 : lw_okq (⟨"PostChain$Hunt", "openOr", "(LPostChain$Word;I)C"⟩, 8) := ⟨⟨by decide +kernel, by decide +kernel⟩, List.mem_of_getElem? (i := 165) (by decide +kernel), List.mem_of_getElem? (i := 606) (by decide +kernel), List.mem_of_getElem? (i := 607) (by decide +kernel)⟩
theorem lw_p14 : lw_okq (⟨"PostChain$Hunt", "goOn", "(ILPostChain$Box;)V"⟩, 8) := ⟨⟨by decide +kernel, by decide +kernel⟩, List.mem_of_getElem? (i := 165) (by decide +kernel), List.mem_of_getElem? (i := 611) (by decide +kernel), List.mem_of_getElem? (i := 612) (by decide +kernel)⟩
theorem lw_p15 : lw_okq (⟨"PostChain$Hunt", "fits", "(LPostChain$Domino;)Z"⟩, 8) := ⟨⟨by decide +kernel, by decide +kernel⟩, List.mem_of_getElem? (i := 165) (by decide +kernel), List.mem_of_getElem? (i := 617) (by decide +kernel), List.mem_of_getElem? (i := 618) (by decide +kernel)⟩
def lw_privs_1 : List (MethodName × Nat) := [(⟨"PostChain", "startOver", "()V"⟩, 9), (⟨"PostChain$Box", "open", "()LPostChain$Domino;"⟩, 3), (⟨"PostChain$Box", "addCopy", "(C)V"⟩, 3), (⟨"PostChain$Box", "addRule", "(LPostChain$Machine;IC)V"⟩, 3), (⟨"PostChain$Box", "addRight", "(LPostChain$Machine;IC)V"⟩, 3), (⟨"PostChain$Box", "addLeft", "(LPostChain$Machine;ICC)V"⟩, 3), (⟨"PostChain$Box", "addEnding", "()V"⟩, 3), (⟨"PostChain$Way", "passStep", "(LPostChain$Machine;LPostChain$Word;LPostChain$Box;)V"⟩, 2), (⟨"PostChain$Way", "pass", "(LPostChain$Word;III)V"⟩, 2), (⟨"PostChain$Way", "copySymbols", "(LPostChain$Word;II)V"⟩, 2), (⟨"PostChain$Way", "passShorter", "(LPostChain$Box;)V"⟩, 2), (⟨"PostChain", "spellLaid", "()V"⟩, 9), (⟨"PostChain$Hunt", "keep", "(IILPostChain$Domino;)V"⟩, 8), (⟨"PostChain$Hunt", "openOr", "(LPostChain$Word;I)C"⟩, 8), (⟨"PostChain$Hunt", "goOn", "(ILPostChain$Box;)V"⟩, 8), (⟨"PostChain$Hunt", "fits", "(LPostChain$Domino;)Z"⟩, 8)]
theorem lw_r1 : ∀ q ∈ lw_privs_1, lw_okq q := List.forall_mem_cons.mpr ⟨lw_p0, List.forall_mem_cons.mpr ⟨lw_p1, List.forall_mem_cons.mpr ⟨lw_p2, List.forall_mem_cons.mpr ⟨lw_p3, List.forall_mem_cons.mpr ⟨lw_p4, List.forall_mem_cons.mpr ⟨lw_p5, List.forall_mem_cons.mpr ⟨lw_p6, List.forall_mem_cons.mpr ⟨lw_p7, List.forall_mem_cons.mpr ⟨lw_p8, List.forall_mem_cons.mpr ⟨lw_p9, List.forall_mem_cons.mpr ⟨lw_p10, List.forall_mem_cons.mpr ⟨lw_p11, List.forall_mem_cons.mpr ⟨lw_p12, List.forall_mem_cons.mpr ⟨lw_p13, List.forall_mem_cons.mpr ⟨lw_p14, List.forall_mem_cons.mpr ⟨lw_p15, fun _ h => absurd h List.not_mem_nil⟩⟩⟩⟩⟩⟩⟩⟩⟩⟩⟩⟩⟩⟩⟩⟩
theorem lw_p16 : lw_okq (⟨"java/lang/Throwable", "fillInStackTrace", "(I)Ljava/lang/Throwable;"⟩, 6) := ⟨⟨by decide +kernel, by decide +kernel⟩, List.mem_of_getElem? (i := 691) (by decide +kernel), List.mem_of_getElem? (i := 689) (by decide +kernel), List.mem_of_getElem? (i := 690) (by decide +kernel)⟩
theorem lw_p17 : lw_okq (⟨"PostChainModel", "change", "()V"⟩, 33) := ⟨⟨by decide +kernel, by decide +kernel⟩, List.mem_of_getElem? (i := 793) (by decide +kernel), List.mem_of_getElem? (i := 799) (by decide +kernel), List.mem_of_getElem? (i := 800) (by decide +kernel)⟩
theorem lw_p18 : lw_okq (⟨"PostChainModel", "step", "(I)Z"⟩, 33) := ⟨⟨by decide +kernel, by decide +kernel⟩, List.mem_of_getElem? (i := 793) (by decide +kernel), List.mem_of_getElem? (i := 803) (by decide +kernel), List.mem_of_getElem? (i := 804) (by decide +kernel)⟩
theorem lw_p19 : lw_okq (⟨"PostChainModel", "ruleOf", "(I)I"⟩, 33) := ⟨⟨by decide +kernel, by decide +kernel⟩, List.mem_of_getElem? (i := 793) (by decide +kernel), List.mem_of_getElem? (i := 807) (by decide +kernel), List.mem_of_getElem? (i := 808) (by decide +kernel)⟩
theorem lw_p20 : lw_okq (⟨"PostChainModel", "head", "(I)I"⟩, 33) := ⟨⟨by decide +kernel, by decide +kernel⟩, List.mem_of_getElem? (i := 793) (by decide +kernel), List.mem_of_getElem? (i := 811) (by decide +kernel), List.mem_of_getElem? (i := 812) (by decide +kernel)⟩
theorem lw_p21 : lw_okq (⟨"PostChainModel", "makeDominoes", "()V"⟩, 33) := ⟨⟨by decide +kernel, by decide +kernel⟩, List.mem_of_getElem? (i := 793) (by decide +kernel), List.mem_of_getElem? (i := 821) (by decide +kernel), List.mem_of_getElem? (i := 822) (by decide +kernel)⟩
theorem lw_p22 : lw_okq (⟨"PostChainModel", "addUpper", "(I)V"⟩, 33) := ⟨⟨by decide +kernel, by decide +kernel⟩, List.mem_of_getElem? (i := 793) (by decide +kernel), List.mem_of_getElem? (i := 825) (by decide +kernel), List.mem_of_getElem? (i := 826) (by decide +kernel)⟩
theorem lw_p23 : lw_okq (⟨"PostChainModel", "addLower", "(I)V"⟩, 33) := ⟨⟨by decide +kernel, by decide +kernel⟩, List.mem_of_getElem? (i := 793) (by decide +kernel), List.mem_of_getElem? (i := 829) (by decide +kernel), List.mem_of_getElem? (i := 830) (by decide +kernel)⟩
theorem lw_p24 : lw_okq (⟨"PostChainModel", "make", "(IIIIIII)V"⟩, 33) := ⟨⟨by decide +kernel, by decide +kernel⟩, List.mem_of_getElem? (i := 793) (by decide +kernel), List.mem_of_getElem? (i := 833) (by decide +kernel), List.mem_of_getElem? (i := 834) (by decide +kernel)⟩
theorem lw_p25 : lw_okq (⟨"PostChainModel", "makeRule", "(II)V"⟩, 33) := ⟨⟨by decide +kernel, by decide +kernel⟩, List.mem_of_getElem? (i := 793) (by decide +kernel), List.mem_of_getElem? (i := 837) (by decide +kernel), List.mem_of_getElem? (i := 838) (by decide +kernel)⟩
theorem lw_p26 : lw_okq (⟨"PostChainModel", "halted", "()Z"⟩, 33) := ⟨⟨by decide +kernel, by decide +kernel⟩, List.mem_of_getElem? (i := 793) (by decide +kernel), List.mem_of_getElem? (i := 841) (by decide +kernel), List.mem_of_getElem? (i := 842) (by decide +kernel)⟩
theorem lw_p27 : lw_okq (⟨"PostChainModel", "makeWay", "()V"⟩, 33) := ⟨⟨by decide +kernel, by decide +kernel⟩, List.mem_of_getElem? (i := 793) (by decide +kernel), List.mem_of_getElem? (i := 845) (by decide +kernel), List.mem_of_getElem? (i := 846) (by decide +kernel)⟩
theorem lw_p28 : lw_okq (⟨"PostChainModel", "goOn", "(I)V"⟩, 33) := ⟨⟨by decide +kernel, by decide +kernel⟩, List.mem_of_getElem? (i := 793) (by decide +kernel), List.mem_of_getElem? (i := 849) (by decide +kernel), List.mem_of_getElem? (i := 850) (by decide +kernel)⟩
theorem lw_p29 : lw_okq (⟨"PostChainModel", "wayStep", "(I)V"⟩, 33) := ⟨⟨by decide +kernel, by decide +kernel⟩, List.mem_of_getElem? (i := 793) (by decide +kernel), List.mem_of_getElem? (i := 853) (by decide +kernel), List.mem_of_getElem? (i := 854) (by decide +kernel)⟩
theorem lw_p30 : lw_okq (⟨"PostChainModel", "find", "(III)I"⟩, 33) := ⟨⟨by decide +kernel, by decide +kernel⟩, List.mem_of_getElem? (i := 793) (by decide +kernel), List.mem_of_getElem? (i := 857) (by decide +kernel), List.mem_of_getElem? (i := 858) (by decide +kernel)⟩
theorem lw_p31 : lw_okq (⟨"PostChainModel", "kind", "()I"⟩, 33) := ⟨⟨by decide +kernel, by decide +kernel⟩, List.mem_of_getElem? (i := 793) (by decide +kernel), List.mem_of_getElem? (i := 1020) (by decide +kernel), List.mem_of_getElem? (i := 1021) (by decide +kernel)⟩
def lw_privs_2 : List (MethodName × Nat) := [(⟨"java/lang/Throwable", "fillInStackTrace", "(I)Ljava/lang/Throwable;"⟩, 6), (⟨"PostChainModel", "change", "()V"⟩, 33), (⟨"PostChainModel", "step", "(I)Z"⟩, 33), (⟨"PostChainModel", "ruleOf", "(I)I"⟩, 33), (⟨"PostChainModel", "head", "(I)I"⟩, 33), (⟨"PostChainModel", "makeDominoes", "()V"⟩, 33), (⟨"PostChainModel", "addUpper", "(I)V"⟩, 33), (⟨"PostChainModel", "addLower", "(I)V"⟩, 33), (⟨"PostChainModel", "make", "(IIIIIII)V"⟩, 33), (⟨"PostChainModel", "makeRule", "(II)V"⟩, 33), (⟨"PostChainModel", "halted", "()Z"⟩, 33), (⟨"PostChainModel", "makeWay", "()V"⟩, 33), (⟨"PostChainModel", "goOn", "(I)V"⟩, 33), (⟨"PostChainModel", "wayStep", "(I)V"⟩, 33), (⟨"PostChainModel", "find", "(III)I"⟩, 33), (⟨"PostChainModel", "kind", "()I"⟩, 33)]
theorem lw_r2 : ∀ q ∈ lw_privs_2, lw_okq q := List.forall_mem_cons.mpr ⟨lw_p16, List.forall_mem_cons.mpr ⟨lw_p17, List.forall_mem_cons.mpr ⟨lw_p18, List.forall_mem_cons.mpr ⟨lw_p19, List.forall_mem_cons.mpr ⟨lw_p20, List.forall_mem_cons.mpr ⟨lw_p21, List.forall_mem_cons.mpr ⟨lw_p22, List.forall_mem_cons.mpr ⟨lw_p23, List.forall_mem_cons.mpr ⟨lw_p24, List.forall_mem_cons.mpr ⟨lw_p25, List.forall_mem_cons.mpr ⟨lw_p26, List.forall_mem_cons.mpr ⟨lw_p27, List.forall_mem_cons.mpr ⟨lw_p28, List.forall_mem_cons.mpr ⟨lw_p29, List.forall_mem_cons.mpr ⟨lw_p30, List.forall_mem_cons.mpr ⟨lw_p31, fun _ h => absurd h List.not_mem_nil⟩⟩⟩⟩⟩⟩⟩⟩⟩⟩⟩⟩⟩⟩⟩⟩
theorem lw_p32 : lw_okq (⟨"PostChainModel", "word", "(Z)I"⟩, 33) := ⟨⟨by decide +kernel, by decide +kernel⟩, List.mem_of_getElem? (i := 793) (by decide +kernel), List.mem_of_getElem? (i := 1024) (by decide +kernel), List.mem_of_getElem? (i := 1025) (by decide +kernel)⟩
theorem lw_p33 : lw_okq (⟨"PostChainModel", "join", "(II)V"⟩, 33) := ⟨⟨by decide +kernel, by decide +kernel⟩, List.mem_of_getElem? (i := 793) (by decide +kernel), List.mem_of_getElem? (i := 1044) (by decide +kernel), List.mem_of_getElem? (i := 1045) (by decide +kernel)⟩
theorem lw_p34 : lw_okq (⟨"PostChainModel", "take", "(I)V"⟩, 33) := ⟨⟨by decide +kernel, by decide +kernel⟩, List.mem_of_getElem? (i := 793) (by decide +kernel), List.mem_of_getElem? (i := 1048) (by decide +kernel), List.mem_of_getElem? (i := 1049) (by decide +kernel)⟩
def lw_privs_3 : List (MethodName × Nat) := [(⟨"PostChainModel", "word", "(Z)I"⟩, 33), (⟨"PostChainModel", "join", "(II)V"⟩, 33), (⟨"PostChainModel", "take", "(I)V"⟩, 33)]
theorem lw_r3 : ∀ q ∈ lw_privs_3, lw_okq q := List.forall_mem_cons.mpr ⟨lw_p32, List.forall_mem_cons.mpr ⟨lw_p33, List.forall_mem_cons.mpr ⟨lw_p34, fun _ h => absurd h List.not_mem_nil⟩⟩⟩
def lw_privs : List (MethodName × Nat) := lw_privs_1 ++ (lw_privs_2 ++ (lw_privs_3))
def lw_tbl : List Cond := k2_sels lw_privs ++ tables_1
theorem lw_privs_ok : ∀ q ∈ lw_privs, lw_okq q := by
  show ∀ q ∈ lw_privs_1 ++ (lw_privs_2 ++ (lw_privs_3)), lw_okq q
  exact List.forall_mem_append.mpr ⟨lw_r1, List.forall_mem_append.mpr ⟨lw_r2, lw_r3⟩⟩
end
section
def R_Word : String := "PostChain$Word"
def T_Word : u_T := fun k => match k with
  | 0 => ("PostChain$Word", "characters", "[C", true)
  | _ => ("PostChain$Word", "length", "I", false)
def t_Word : Nat → FieldType := fun k => match k with
  | 0 => (.array .char)
  | _ => .int
theorem n_Word : ∀ a, a < 2 → ∀ b, b < 2 → a ≠ b → (T_Word a).2.1 ≠ (T_Word b).2.1 := by decide +kernel
theorem t_Word_ok : ∀ k, k < 2 → parseFieldDescriptor (T_Word k).2.2.1 = some (t_Word k) := by decide +kernel
def R_Row : String := "PostChain$Row"
def T_Row : u_T := fun k => match k with
  | 0 => ("PostChain$Row", "numbers", "[I", true)
  | _ => ("PostChain$Row", "length", "I", false)
def t_Row : Nat → FieldType := fun k => match k with
  | 0 => (.array .int)
  | _ => .int
theorem n_Row : ∀ a, a < 2 → ∀ b, b < 2 → a ≠ b → (T_Row a).2.1 ≠ (T_Row b).2.1 := by decide +kernel
theorem t_Row_ok : ∀ k, k < 2 → parseFieldDescriptor (T_Row k).2.2.1 = some (t_Row k) := by decide +kernel
def R_Machine : String := "PostChain$Machine"
def T_Machine : u_T := fun k => match k with
  | 0 => ("PostChain$Machine", "known", "[Z", true)
  | 1 => ("PostChain$Machine", "right", "[Z", true)
  | 2 => ("PostChain$Machine", "write", "[I", true)
  | 3 => ("PostChain$Machine", "next", "[I", true)
  | _ => ("PostChain$Machine", "first", "LPostChain$Word;", true)
def t_Machine : Nat → FieldType := fun k => match k with
  | 0 => (.array .boolean)
  | 1 => (.array .boolean)
  | 2 => (.array .int)
  | 3 => (.array .int)
  | _ => (.object "PostChain$Word")
theorem n_Machine : ∀ a, a < 5 → ∀ b, b < 5 → a ≠ b → (T_Machine a).2.1 ≠ (T_Machine b).2.1 := by decide +kernel
theorem t_Machine_ok : ∀ k, k < 5 → parseFieldDescriptor (T_Machine k).2.2.1 = some (t_Machine k) := by decide +kernel
def R_Run : String := "PostChain$Run"
def T_Run : u_T := fun k => match k with
  | 0 => ("PostChain$Run", "texts", "[LPostChain$Word;", true)
  | _ => ("PostChain$Run", "last", "I", false)
def t_Run : Nat → FieldType := fun k => match k with
  | 0 => (.array (.object "PostChain$Word"))
  | _ => .int
theorem n_Run : ∀ a, a < 2 → ∀ b, b < 2 → a ≠ b → (T_Run a).2.1 ≠ (T_Run b).2.1 := by decide +kernel
theorem t_Run_ok : ∀ k, k < 2 → parseFieldDescriptor (T_Run k).2.2.1 = some (t_Run k) := by decide +kernel
def R_Domino : String := "PostChain$Domino"
def T_Domino : u_T := fun k => match k with
  | 0 => ("PostChain$Domino", "upper", "LPostChain$Word;", true)
  | _ => ("PostChain$Domino", "lower", "LPostChain$Word;", true)
def t_Domino : Nat → FieldType := fun k => match k with
  | 0 => (.object "PostChain$Word")
  | _ => (.object "PostChain$Word")
theorem n_Domino : ∀ a, a < 2 → ∀ b, b < 2 → a ≠ b → (T_Domino a).2.1 ≠ (T_Domino b).2.1 := by decide +kernel
theorem t_Domino_ok : ∀ k, k < 2 → parseFieldDescriptor (T_Domino k).2.2.1 = some (t_Domino k) := by decide +kernel
def R_Box : String := "PostChain$Box"
def T_Box : u_T := fun k => match k with
  | 0 => ("PostChain$Box", "pieces", "[LPostChain$Domino;", true)
  | 1 => ("PostChain$Box", "firstOfRule", "[I", true)
  | _ => ("PostChain$Box", "count", "I", false)
def t_Box : Nat → FieldType := fun k => match k with
  | 0 => (.array (.object "PostChain$Domino"))
  | 1 => (.array .int)
  | _ => .int
theorem n_Box : ∀ a, a < 3 → ∀ b, b < 3 → a ≠ b → (T_Box a).2.1 ≠ (T_Box b).2.1 := by decide +kernel
theorem t_Box_ok : ∀ k, k < 3 → parseFieldDescriptor (T_Box k).2.2.1 = some (t_Box k) := by decide +kernel
def R_Way : String := "PostChain$Way"
def T_Way : u_T := fun k => match k with
  | 0 => ("PostChain$Way", "passes", "LPostChain$Row;", true)
  | _ => ("PostChain$Way", "rest", "LPostChain$Word;", true)
def t_Way : Nat → FieldType := fun k => match k with
  | 0 => (.object "PostChain$Row")
  | _ => (.object "PostChain$Word")
theorem n_Way : ∀ a, a < 2 → ∀ b, b < 2 → a ≠ b → (T_Way a).2.1 ≠ (T_Way b).2.1 := by decide +kernel
theorem t_Way_ok : ∀ k, k < 2 → parseFieldDescriptor (T_Way k).2.2.1 = some (t_Way k) := by decide +kernel
def R_Hunt : String := "PostChain$Hunt"
def T_Hunt : u_T := fun k => match k with
  | 0 => ("PostChain$Hunt", "from", "[I", true)
  | 1 => ("PostChain$Hunt", "last", "[I", true)
  | 2 => ("PostChain$Hunt", "size", "[I", true)
  | 3 => ("PostChain$Hunt", "ahead", "[I", true)
  | 4 => ("PostChain$Hunt", "more", "[C", true)
  | 5 => ("PostChain$Hunt", "open", "LPostChain$Word;", true)
  | 6 => ("PostChain$Hunt", "count", "I", false)
  | _ => ("PostChain$Hunt", "lookedAt", "I", false)
def t_Hunt : Nat → FieldType := fun k => match k with
  | 0 => (.array .int)
  | 1 => (.array .int)
  | 2 => (.array .int)
  | 3 => (.array .int)
  | 4 => (.array .char)
  | 5 => (.object "PostChain$Word")
  | 6 => .int
  | _ => .int
theorem n_Hunt : ∀ a, a < 8 → ∀ b, b < 8 → a ≠ b → (T_Hunt a).2.1 ≠ (T_Hunt b).2.1 := by decide +kernel
theorem t_Hunt_ok : ∀ k, k < 8 → parseFieldDescriptor (T_Hunt k).2.2.1 = some (t_Hunt k) := by decide +kernel
def R_PC : String := "PostChain"
def T_PC : u_T := fun k => match k with
  | 0 => ("PostChain", "machine", "LPostChain$Machine;", true)
  | 1 => ("PostChain", "configurations", "LPostChain$Run;", true)
  | 2 => ("PostChain", "box", "LPostChain$Box;", true)
  | 3 => ("PostChain", "wayOfRun", "LPostChain$Way;", true)
  | 4 => ("PostChain", "hunt", "LPostChain$Hunt;", true)
  | 5 => ("PostChain", "laid", "LPostChain$Row;", true)
  | 6 => ("PostChain", "typed", "LPostChain$Word;", true)
  | 7 => ("PostChain", "upperWord", "LPostChain$Word;", true)
  | _ => ("PostChain", "lowerWord", "LPostChain$Word;", true)
def t_PC : Nat → FieldType := fun k => match k with
  | 0 => (.object "PostChain$Machine")
  | 1 => (.object "PostChain$Run")
  | 2 => (.object "PostChain$Box")
  | 3 => (.object "PostChain$Way")
  | 4 => (.object "PostChain$Hunt")
  | 5 => (.object "PostChain$Row")
  | 6 => (.object "PostChain$Word")
  | 7 => (.object "PostChain$Word")
  | _ => (.object "PostChain$Word")
theorem n_PC : ∀ a, a < 9 → ∀ b, b < 9 → a ≠ b → (T_PC a).2.1 ≠ (T_PC b).2.1 := by decide +kernel
theorem t_PC_ok : ∀ k, k < 9 → parseFieldDescriptor (T_PC k).2.2.1 = some (t_PC k) := by decide +kernel
def R_Mo : String := "PostChainModel"
def T_Mo : u_T := fun k => match k with
  | 0 => ("PostChainModel", "thrown", "I", false)
  | 1 => ("PostChainModel", "has", "[Z", false)
  | 2 => ("PostChainModel", "writes", "[I", false)
  | 3 => ("PostChainModel", "right", "[Z", false)
  | 4 => ("PostChainModel", "next", "[I", false)
  | 5 => ("PostChainModel", "inputs", "I", false)
  | 6 => ("PostChainModel", "input", "[I", false)
  | 7 => ("PostChainModel", "steps", "I", false)
  | 8 => ("PostChainModel", "size", "[I", false)
  | 9 => ("PostChainModel", "text", "[I", false)
  | 10 => ("PostChainModel", "dominoes", "I", false)
  | 11 => ("PostChainModel", "upperSize", "[I", false)
  | 12 => ("PostChainModel", "upper", "[I", false)
  | 13 => ("PostChainModel", "lowerSize", "[I", false)
  | 14 => ("PostChainModel", "lower", "[I", false)
  | 15 => ("PostChainModel", "ways", "I", false)
  | 16 => ("PostChainModel", "way", "[I", false)
  | 17 => ("PostChainModel", "laid", "I", false)
  | 18 => ("PostChainModel", "tray", "[I", false)
  | 19 => ("PostChainModel", "typed", "I", false)
  | 20 => ("PostChainModel", "typing", "[I", false)
  | 21 => ("PostChainModel", "upperWord", "[I", false)
  | 22 => ("PostChainModel", "lowerWord", "[I", false)
  | 23 => ("PostChainModel", "looked", "I", false)
  | 24 => ("PostChainModel", "waiting", "I", false)
  | 25 => ("PostChainModel", "from", "[I", false)
  | 26 => ("PostChainModel", "last", "[I", false)
  | 27 => ("PostChainModel", "depth", "[I", false)
  | 28 => ("PostChainModel", "side", "[I", false)
  | 29 => ("PostChainModel", "over", "[I", false)
  | 30 => ("PostChainModel", "rest", "[I", false)
  | 31 => ("PostChainModel", "joinUpper", "[I", false)
  | _ => ("PostChainModel", "joinLower", "[I", false)
def t_Mo : Nat → FieldType := fun k => match k with
  | 0 => .int
  | 1 => (.array .boolean)
  | 2 => (.array .int)
  | 3 => (.array .boolean)
  | 4 => (.array .int)
  | 5 => .int
  | 6 => (.array .int)
  | 7 => .int
  | 8 => (.array .int)
  | 9 => (.array .int)
  | 10 => .int
  | 11 => (.array .int)
  | 12 => (.array .int)
  | 13 => (.array .int)
  | 14 => (.array .int)
  | 15 => .int
  | 16 => (.array .int)
  | 17 => .int
  | 18 => (.array .int)
  | 19 => .int
  | 20 => (.array .int)
  | 21 => (.array .int)
  | 22 => (.array .int)
  | 23 => .int
  | 24 => .int
  | 25 => (.array .int)
  | 26 => (.array .int)
  | 27 => (.array .int)
  | 28 => (.array .int)
  | 29 => (.array .int)
  | 30 => (.array .int)
  | 31 => (.array .int)
  | _ => (.array .int)
theorem n_Mo : ∀ a, a < 33 → ∀ b, b < 33 → a ≠ b → (T_Mo a).2.1 ≠ (T_Mo b).2.1 := by decide +kernel
theorem t_Mo_ok : ∀ k, k < 33 → parseFieldDescriptor (T_Mo k).2.2.1 = some (t_Mo k) := by decide +kernel
/-- the classes whose objects the worlds hold: an object names its class by its place here -/
def gx_cl : List vw_C := [(R_Word, T_Word, 2), (R_Row, T_Row, 2), (R_Machine, T_Machine, 5), (R_Run, T_Run, 2), (R_Domino, T_Domino, 2), (R_Box, T_Box, 3), (R_Way, T_Way, 2), (R_Hunt, T_Hunt, 8), (R_PC, T_PC, 9), (R_Mo, T_Mo, 33)]
def gx_nf : List (String × Nat × String × String × String × String) := [("PostChain$Box", 84, "PostChain$Machine", "known", "[Z", "PostChain"), ("PostChain$Way", 74, "PostChain$Machine", "right", "[Z", "PostChain"), ("PostChain$Box", 88, "PostChain$Machine", "right", "[Z", "PostChain"), ("PostChain$Box", 101, "PostChain$Machine", "write", "[I", "PostChain"), ("PostChain$Box", 104, "PostChain$Machine", "next", "[I", "PostChain"), ("PostChain$Run", 48, "PostChain$Machine", "first", "LPostChain$Word;", "PostChain"), ("PostChain$Box", 47, "PostChain$Machine", "first", "LPostChain$Word;", "PostChain"), ("PostChain$Box", 34, "PostChain$Domino", "upper", "LPostChain$Word;", "PostChain"), ("PostChain$Hunt", 83, "PostChain$Domino", "upper", "LPostChain$Word;", "PostChain"), ("PostChain", 128, "PostChain$Domino", "upper", "LPostChain$Word;", "PostChain"), ("PostChain$Box", 44, "PostChain$Domino", "lower", "LPostChain$Word;", "PostChain"), ("PostChain$Hunt", 89, "PostChain$Domino", "lower", "LPostChain$Word;", "PostChain"), ("PostChain", 133, "PostChain$Domino", "lower", "LPostChain$Word;", "PostChain")]
def gx_nm : List (String × Nat × MethodName × String) := [("PostChain$Machine", 34, ⟨"PostChain", "letter", "(I)C"⟩, "PostChain"), ("PostChain$Box", 21, ⟨"PostChain$Domino", "<init>", "()V"⟩, "PostChain"), ("PostChain", 32, ⟨"PostChain$Way", "<init>", "()V"⟩, "PostChain"), ("PostChain", 39, ⟨"PostChain$Hunt", "<init>", "()V"⟩, "PostChain"), ("PostChain$Machine", 64, ⟨"PostChain", "symbolOf", "(C)I"⟩, "PostChain"), ("PostChain$Machine", 68, ⟨"PostChain", "isState", "(I)Z"⟩, "PostChain"), ("PostChain$Machine", 72, ⟨"PostChain", "isSymbol", "(I)Z"⟩, "PostChain"), ("PostChain$Machine", 75, ⟨"PostChain", "ruleNumber", "(II)I"⟩, "PostChain"), ("PostChain$Machine", 45, ⟨"PostChain", "digit", "(I)C"⟩, "PostChain"), ("PostChain$Box", 64, ⟨"PostChain", "digit", "(I)C"⟩, "PostChain"), ("PostChain$Box", 98, ⟨"PostChain", "letter", "(I)C"⟩, "PostChain"), ("PostChain$Run", 45, ⟨"PostChain", "letter", "(I)C"⟩, "PostChain"), ("PostChain$Way", 82, ⟨"PostChain", "symbolOf", "(C)I"⟩, "PostChain")]
end
section
/-! what the tables say of links, in words of mine -/
/-- a method: its name, its bytes, its locals, what it returns -/
abbrev gx_M : Type := MethodName × ByteArray × Nat × Option FieldType
def gx_T : List Cond := lw_tbl.filter goodWord
theorem gx_T_in {w : Cond} (h : w ∈ lw_tbl) (hg : goodWord w = true) : w ∈ gx_T := List.mem_filter.mpr ⟨h, hg⟩
theorem gx_T_good {w : Cond} (h : w ∈ gx_T) : (w.onTables && w.keeps) = true ∨ ∃ ty, w = .arrayClass ty := good_of_word (List.mem_filter.mp h).2
def gx_fl (own : String) (idx ci k : Nat) : Prop := ∃ (C : String) (T : u_T) (n : Nat), gx_cl[ci]? = some (C, T, n) ∧ k < n ∧ (∀ w ∈ u_ws C T n, w ∈ gx_T) ∧ (Cond.fieldLink own idx (T k).1 (T k).2.1 (T k).2.2.1 ∈ gx_T ∨ ∃ host, (own, idx, (T k).1, (T k).2.1, (T k).2.2.1, host) ∈ gx_nf)
def gx_fp (own : String) (idx ci k : Nat) (fin : Bool) (ty : FieldType) : Prop := ∃ (C : String) (T : u_T) (n : Nat) (ty0 : Nat → FieldType), gx_cl[ci]? = some (C, T, n) ∧ k < n ∧ (∀ w ∈ u_ws C T n, w ∈ gx_T) ∧ Cond.fieldLink own idx (T k).1 (T k).2.1 (T k).2.2.1 ∈ gx_T ∧ (∀ k, k < n → parseFieldDescriptor (T k).2.2.1 = some (ty0 k)) ∧ (∀ a, a < n → ∀ b, b < n → a ≠ b → (T a).2.1 ≠ (T b).2.1) ∧ (T k).2.2.2 = fin ∧ (T k).1 = own ∧ parseFieldDescriptor (T k).2.2.1 = some ty
def gx_cs (Mc : gx_M) : Prop := Cond.code Mc.1 Mc.2.1 Mc.2.2.1 Mc.2.2.2 ∈ gx_T ∧ Cond.initialized Mc.1.cls ∈ gx_T ∧ (Mc.1.cls ≠ "java/lang/invoke/MethodHandle" ∧ Mc.1.cls ≠ "java/lang/invoke/VarHandle") ∧ Mc.2.2.1 ≤ 13
def gx_ln (own : String) (idx : Nat) (Mc : gx_M) : Prop := Cond.methodLink own idx Mc.1 ∈ gx_T ∨ ∃ host, (own, idx, Mc.1, host) ∈ gx_nm
def gx_np (Mc : gx_M) (n : Nat) : Prop := (parseMethodDescriptor Mc.1.desc).map (fun d => d.parameters.length) = some n
def gx_lV (own : String) (idx : Nat) (Mc : gx_M) (n ci : Nat) : Prop := gx_cs Mc ∧ gx_ln own idx Mc ∧ gx_np Mc n ∧ Cond.instanceMethod Mc.1 ∈ gx_T ∧ Cond.selects Mc.1.cls Mc.1 Mc.1 ∈ gx_T ∧ ∃ T k, gx_cl[ci]? = some (Mc.1.cls, T, k)
def gx_lS (own : String) (idx : Nat) (Mc : gx_M) (n : Nat) : Prop := gx_cs Mc ∧ gx_ln own idx Mc ∧ gx_np Mc n ∧ Cond.static Mc.1 ∈ gx_T
def gx_lI (own : String) (idx : Nat) (Mc : gx_M) (n : Nat) : Prop := gx_cs Mc ∧ gx_ln own idx Mc ∧ gx_np Mc n ∧ Cond.instanceMethod Mc.1 ∈ gx_T ∧ Mc.1.name = "<init>" ∧ Mc.2.2.2 = none
def gx_nw (own : String) (idx ci n : Nat) (fs : List Value) : Prop := ∃ (C : String) (T : u_T) (ty : Nat → FieldType), gx_cl[ci]? = some (C, T, n) ∧ (∀ w ∈ u_ws C T n, w ∈ gx_T) ∧ Cond.classLink own idx C ∈ gx_T ∧ Cond.instantiable C n ∈ gx_T ∧ Cond.initialized C ∈ gx_T ∧ (∀ k, k < n → parseFieldDescriptor (T k).2.2.1 = some (ty k)) ∧ ∀ j, j < n → defaultValue (ty j) = vp_V fs j
def gx_lO (own : String) (idx : Nat) : Prop := Cond.methodLink own idx Lib.objectInit ∈ gx_T ∧ Cond.instanceMethod Lib.objectInit ∈ gx_T ∧ Cond.code Lib.objectInit ⟨#[0xb1]⟩ 1 none ∈ gx_T
def gx_lM (own : String) (idx : Nat) (y : MethodName) (cd : ByteArray) : Prop := Cond.methodLink own idx y ∈ gx_T ∧ Cond.static y ∈ gx_T ∧ Cond.initialized "java/lang/Math" ∈ gx_T ∧ Cond.code y cd 2 (some .int) ∈ gx_T
end
section
theorem uc_Word : ∀ w ∈ u_ws R_Word T_Word 2, w ∈ gx_T := by
  intro w hw
  obtain ⟨k, hk, rfl⟩ := List.mem_map.mp hw
  have hk := List.mem_range.mp hk
  rcases (show k = 0 ∨ k = 1 by omega) with rfl | rfl
  · exact gx_T_in (List.mem_append_right _ (show _ ∈ tables_1 from (List.mem_append_left _ (List.mem_of_getElem? (i := 44) (by decide +kernel))))) (by decide +kernel)
  · exact gx_T_in (List.mem_append_right _ (show _ ∈ tables_1 from (List.mem_append_left _ (List.mem_of_getElem? (i := 46) (by decide +kernel))))) (by decide +kernel)
theorem uc_Row : ∀ w ∈ u_ws R_Row T_Row 2, w ∈ gx_T := by
  intro w hw
  obtain ⟨k, hk, rfl⟩ := List.mem_map.mp hw
  have hk := List.mem_range.mp hk
  rcases (show k = 0 ∨ k = 1 by omega) with rfl | rfl
  · exact gx_T_in (List.mem_append_right _ (show _ ∈ tables_1 from (List.mem_append_left _ (List.mem_of_getElem? (i := 150) (by decide +kernel))))) (by decide +kernel)
  · exact gx_T_in (List.mem_append_right _ (show _ ∈ tables_1 from (List.mem_append_left _ (List.mem_of_getElem? (i := 152) (by decide +kernel))))) (by decide +kernel)
theorem uc_Machine : ∀ w ∈ u_ws R_Machine T_Machine 5, w ∈ gx_T := by
  intro w hw
  obtain ⟨k, hk, rfl⟩ := List.mem_map.mp hw
  have hk := List.mem_range.mp hk
  rcases (show k = 0 ∨ k = 1 ∨ k = 2 ∨ k = 3 ∨ k = 4 by omega) with rfl | rfl | rfl | rfl | rfl
  · exact gx_T_in (List.mem_append_right _ (show _ ∈ tables_1 from (List.mem_append_left _ (List.mem_of_getElem? (i := 71) (by decide +kernel))))) (by decide +kernel)
  · exact gx_T_in (List.mem_append_right _ (show _ ∈ tables_1 from (List.mem_append_left _ (List.mem_of_getElem? (i := 73) (by decide +kernel))))) (by decide +kernel)
  · exact gx_T_in (List.mem_append_right _ (show _ ∈ tables_1 from (List.mem_append_left _ (List.mem_of_getElem? (i := 75) (by decide +kernel))))) (by decide +kernel)
  · exact gx_T_in (List.mem_append_right _ (show _ ∈ tables_1 from (List.mem_append_left _ (List.mem_of_getElem? (i := 77) (by decide +kernel))))) (by decide +kernel)
  · exact gx_T_in (List.mem_append_right _ (show _ ∈ tables_1 from (List.mem_append_left _ (List.mem_of_getElem? (i := 79) (by decide +kernel))))) (by decide +kernel)
theorem uc_Run : ∀ w ∈ u_ws R_Run T_Run 2, w ∈ gx_T := by
  intro w hw
  obtain ⟨k, hk, rfl⟩ := List.mem_map.mp hw
  have hk := List.mem_range.mp hk
  rcases (show k = 0 ∨ k = 1 by omega) with rfl | rfl
  · exact gx_T_in (List.mem_append_right _ (show _ ∈ tables_1 from (List.mem_append_left _ (List.mem_of_getElem? (i := 93) (by decide +kernel))))) (by decide +kernel)
  · exact gx_T_in (List.mem_append_right _ (show _ ∈ tables_1 from (List.mem_append_left _ (List.mem_of_getElem? (i := 95) (by decide +kernel))))) (by decide +kernel)
theorem uc_Domino : ∀ w ∈ u_ws R_Domino T_Domino 2, w ∈ gx_T := by
  intro w hw
  obtain ⟨k, hk, rfl⟩ := List.mem_map.mp hw
  have hk := List.mem_range.mp hk
  rcases (show k = 0 ∨ k = 1 by omega) with rfl | rfl
  · exact gx_T_in (List.mem_append_right _ (show _ ∈ tables_1 from (List.mem_append_left _ (List.mem_of_getElem? (i := 121) (by decide +kernel))))) (by decide +kernel)
  · exact gx_T_in (List.mem_append_right _ (show _ ∈ tables_1 from (List.mem_append_left _ (List.mem_of_getElem? (i := 123) (by decide +kernel))))) (by decide +kernel)
theorem uc_Box : ∀ w ∈ u_ws R_Box T_Box 3, w ∈ gx_T := by
  intro w hw
  obtain ⟨k, hk, rfl⟩ := List.mem_map.mp hw
  have hk := List.mem_range.mp hk
  rcases (show k = 0 ∨ k = 1 ∨ k = 2 by omega) with rfl | rfl | rfl
  · exact gx_T_in (List.mem_append_right _ (show _ ∈ tables_1 from (List.mem_append_left _ (List.mem_of_getElem? (i := 129) (by decide +kernel))))) (by decide +kernel)
  · exact gx_T_in (List.mem_append_right _ (show _ ∈ tables_1 from (List.mem_append_left _ (List.mem_of_getElem? (i := 131) (by decide +kernel))))) (by decide +kernel)
  · exact gx_T_in (List.mem_append_right _ (show _ ∈ tables_1 from (List.mem_append_left _ (List.mem_of_getElem? (i := 133) (by decide +kernel))))) (by decide +kernel)
theorem uc_Way : ∀ w ∈ u_ws R_Way T_Way 2, w ∈ gx_T := by
  intro w hw
  obtain ⟨k, hk, rfl⟩ := List.mem_map.mp hw
  have hk := List.mem_range.mp hk
  rcases (show k = 0 ∨ k = 1 by omega) with rfl | rfl
  · exact gx_T_in (List.mem_append_right _ (show _ ∈ tables_1 from (List.mem_append_left _ (List.mem_of_getElem? (i := 159) (by decide +kernel))))) (by decide +kernel)
  · exact gx_T_in (List.mem_append_right _ (show _ ∈ tables_1 from (List.mem_append_left _ (List.mem_of_getElem? (i := 161) (by decide +kernel))))) (by decide +kernel)
theorem uc_Hunt : ∀ w ∈ u_ws R_Hunt T_Hunt 8, w ∈ gx_T := by
  intro w hw
  obtain ⟨k, hk, rfl⟩ := List.mem_map.mp hw
  have hk := List.mem_range.mp hk
  rcases (show k = 0 ∨ k = 1 ∨ k = 2 ∨ k = 3 ∨ k = 4 ∨ k = 5 ∨ k = 6 ∨ k = 7 by omega) with rfl | rfl | rfl | rfl | rfl | rfl | rfl | rfl
  · exact gx_T_in (List.mem_append_right _ (show _ ∈ tables_1 from (List.mem_append_left _ (List.mem_of_getElem? (i := 180) (by decide +kernel))))) (by decide +kernel)
  · exact gx_T_in (List.mem_append_right _ (show _ ∈ tables_1 from (List.mem_append_left _ (List.mem_of_getElem? (i := 182) (by decide +kernel))))) (by decide +kernel)
  · exact gx_T_in (List.mem_append_right _ (show _ ∈ tables_1 from (List.mem_append_left _ (List.mem_of_getElem? (i := 184) (by decide +kernel))))) (by decide +kernel)
  · exact gx_T_in (List.mem_append_right _ (show _ ∈ tables_1 from (List.mem_append_left _ (List.mem_of_getElem? (i := 186) (by decide +kernel))))) (by decide +kernel)
  · exact gx_T_in (List.mem_append_right _ (show _ ∈ tables_1 from (List.mem_append_left _ (List.mem_of_getElem? (i := 188) (by decide +kernel))))) (by decide +kernel)
  · exact gx_T_in (List.mem_append_right _ (show _ ∈ tables_1 from (List.mem_append_left _ (List.mem_of_getElem? (i := 190) (by decide +kernel))))) (by decide +kernel)
  · exact gx_T_in (List.mem_append_right _ (show _ ∈ tables_1 from (List.mem_append_left _ (List.mem_of_getElem? (i := 192) (by decide +kernel))))) (by decide +kernel)
  · exact gx_T_in (List.mem_append_right _ (show _ ∈ tables_1 from (List.mem_append_left _ (List.mem_of_getElem? (i := 194) (by decide +kernel))))) (by decide +kernel)
theorem uc_PC : ∀ w ∈ u_ws R_PC T_PC 9, w ∈ gx_T := by
  intro w hw
  obtain ⟨k, hk, rfl⟩ := List.mem_map.mp hw
  have hk := List.mem_range.mp hk
  rcases (show k = 0 ∨ k = 1 ∨ k = 2 ∨ k = 3 ∨ k = 4 ∨ k = 5 ∨ k = 6 ∨ k = 7 ∨ k = 8 by omega) with rfl | rfl | rfl | rfl | rfl | rfl | rfl | rfl | rfl
  · exact gx_T_in (List.mem_append_right _ (show _ ∈ tables_1 from (List.mem_append_right _ (List.mem_append_left _ (List.mem_of_getElem? (i := 149) (by decide +kernel)))))) (by decide +kernel)
  · exact gx_T_in (List.mem_append_right _ (show _ ∈ tables_1 from (List.mem_append_right _ (List.mem_append_left _ (List.mem_of_getElem? (i := 151) (by decide +kernel)))))) (by decide +kernel)
  · exact gx_T_in (List.mem_append_right _ (show _ ∈ tables_1 from (List.mem_append_right _ (List.mem_append_left _ (List.mem_of_getElem? (i := 153) (by decide +kernel)))))) (by decide +kernel)
  · exact gx_T_in (List.mem_append_right _ (show _ ∈ tables_1 from (List.mem_append_right _ (List.mem_append_left _ (List.mem_of_getElem? (i := 155) (by decide +kernel)))))) (by decide +kernel)
  · exact gx_T_in (List.mem_append_right _ (show _ ∈ tables_1 from (List.mem_append_right _ (List.mem_append_left _ (List.mem_of_getElem? (i := 157) (by decide +kernel)))))) (by decide +kernel)
  · exact gx_T_in (List.mem_append_right _ (show _ ∈ tables_1 from (List.mem_append_right _ (List.mem_append_left _ (List.mem_of_getElem? (i := 159) (by decide +kernel)))))) (by decide +kernel)
  · exact gx_T_in (List.mem_append_right _ (show _ ∈ tables_1 from (List.mem_append_right _ (List.mem_append_left _ (List.mem_of_getElem? (i := 161) (by decide +kernel)))))) (by decide +kernel)
  · exact gx_T_in (List.mem_append_right _ (show _ ∈ tables_1 from (List.mem_append_right _ (List.mem_append_left _ (List.mem_of_getElem? (i := 163) (by decide +kernel)))))) (by decide +kernel)
  · exact gx_T_in (List.mem_append_right _ (show _ ∈ tables_1 from (List.mem_append_right _ (List.mem_append_left _ (List.mem_of_getElem? (i := 165) (by decide +kernel)))))) (by decide +kernel)
theorem uc_Mo : ∀ w ∈ u_ws R_Mo T_Mo 33, w ∈ gx_T := by
  intro w hw
  obtain ⟨k, hk, rfl⟩ := List.mem_map.mp hw
  have hk := List.mem_range.mp hk
  rcases (show k = 0 ∨ k = 1 ∨ k = 2 ∨ k = 3 ∨ k = 4 ∨ k = 5 ∨ k = 6 ∨ k = 7 ∨ k = 8 ∨ k = 9 ∨ k = 10 ∨ k = 11 ∨ k = 12 ∨ k = 13 ∨ k = 14 ∨ k = 15 ∨ k = 16 ∨ k = 17 ∨ k = 18 ∨ k = 19 ∨ k = 20 ∨ k = 21 ∨ k = 22 ∨ k = 23 ∨ k = 24 ∨ k = 25 ∨ k = 26 ∨ k = 27 ∨ k = 28 ∨ k = 29 ∨ k = 30 ∨ k = 31 ∨ k = 32 by omega) with rfl | rfl | rfl | rfl | rfl | rfl | rfl | rfl | rfl | rfl | rfl | rfl | rfl | rfl | rfl | rfl | rfl | rfl | rfl | rfl | rfl | rfl | rfl | rfl | rfl | rfl | rfl | rfl | rfl | rfl | rfl | rfl | rfl
  · exact gx_T_in (List.mem_append_right _ (show _ ∈ tables_1 from (List.mem_append_right _ (List.mem_append_right _ (List.mem_append_right _ (List.mem_append_left _ (List.mem_of_getElem? (i := 173) (by decide +kernel)))))))) (by decide +kernel)
  · exact gx_T_in (List.mem_append_right _ (show _ ∈ tables_1 from (List.mem_append_right _ (List.mem_append_right _ (List.mem_append_right _ (List.mem_append_left _ (List.mem_of_getElem? (i := 175) (by decide +kernel)))))))) (by decide +kernel)
  · exact gx_T_in (List.mem_append_right _ (show _ ∈ tables_1 from (List.mem_append_right _ (List.mem_append_right _ (List.mem_append_right _ (List.mem_append_left _ (List.mem_of_getElem? (i := 177) (by decide +kernel)))))))) (by decide +kernel)
  · exact gx_T_in (List.mem_append_right _ (show _ ∈ tables_1 from (List.mem_append_right _ (List.mem_append_right _ (List.mem_append_right _ (List.mem_append_left _ (List.mem_of_getElem? (i := 179) (by decide +kernel)))))))) (by decide +kernel)
  · exact gx_T_in (List.mem_append_right _ (show _ ∈ tables_1 from (List.mem_append_right _ (List.mem_append_right _ (List.mem_append_right _ (List.mem_append_left _ (List.mem_of_getElem? (i := 181) (by decide +kernel)))))))) (by decide +kernel)
  · exact gx_T_in (List.mem_append_right _ (show _ ∈ tables_1 from (List.mem_append_right _ (List.mem_append_right _ (List.mem_append_right _ (List.mem_append_left _ (List.mem_of_getElem? (i := 183) (by decide +kernel)))))))) (by decide +kernel)
  · exact gx_T_in (List.mem_append_right _ (show _ ∈ tables_1 from (List.mem_append_right _ (List.mem_append_right _ (List.mem_append_right _ (List.mem_append_left _ (List.mem_of_getElem? (i := 185) (by decide +kernel)))))))) (by decide +kernel)
  · exact gx_T_in (List.mem_append_right _ (show _ ∈ tables_1 from (List.mem_append_right _ (List.mem_append_right _ (List.mem_append_right _ (List.mem_append_left _ (List.mem_of_getElem? (i := 187) (by decide +kernel)))))))) (by decide +kernel)
  · exact gx_T_in (List.mem_append_right _ (show _ ∈ tables_1 from (List.mem_append_right _ (List.mem_append_right _ (List.mem_append_right _ (List.mem_append_left _ (List.mem_of_getElem? (i := 189) (by decide +kernel)))))))) (by decide +kernel)
  · exact gx_T_in (List.mem_append_right _ (show _ ∈ tables_1 from (List.mem_append_right _ (List.mem_append_right _ (List.mem_append_right _ (List.mem_append_left _ (List.mem_of_getElem? (i := 191) (by decide +kernel)))))))) (by decide +kernel)
  · exact gx_T_in (List.mem_append_right _ (show _ ∈ tables_1 from (List.mem_append_right _ (List.mem_append_right _ (List.mem_append_right _ (List.mem_append_left _ (List.mem_of_getElem? (i := 193) (by decide +kernel)))))))) (by decide +kernel)
  · exact gx_T_in (List.mem_append_right _ (show _ ∈ tables_1 from (List.mem_append_right _ (List.mem_append_right _ (List.mem_append_right _ (List.mem_append_left _ (List.mem_of_getElem? (i := 195) (by decide +kernel)))))))) (by decide +kernel)
  · exact gx_T_in (List.mem_append_right _ (show _ ∈ tables_1 from (List.mem_append_right _ (List.mem_append_right _ (List.mem_append_right _ (List.mem_append_left _ (List.mem_of_getElem? (i := 197) (by decide +kernel)))))))) (by decide +kernel)
  · exact gx_T_in (List.mem_append_right _ (show _ ∈ tables_1 from (List.mem_append_right _ (List.mem_append_right _ (List.mem_append_right _ (List.mem_append_left _ (List.mem_of_getElem? (i := 199) (by decide +kernel)))))))) (by decide +kernel)
  · exact gx_T_in (List.mem_append_right _ (show _ ∈ tables_1 from (List.mem_append_right _ (List.mem_append_right _ (List.mem_append_right _ (List.mem_append_left _ (List.mem_of_getElem? (i := 201) (by decide +kernel)))))))) (by decide +kernel)
  · exact gx_T_in (List.mem_append_right _ (show _ ∈ tables_1 from (List.mem_append_right _ (List.mem_append_right _ (List.mem_append_right _ (List.mem_append_left _ (List.mem_of_getElem? (i := 203) (by decide +kernel)))))))) (by decide +kernel)
  · exact gx_T_in (List.mem_append_right _ (show _ ∈ tables_1 from (List.mem_append_right _ (List.mem_append_right _ (List.mem_append_right _ (List.mem_append_left _ (List.mem_of_getElem? (i := 205) (by decide +kernel)))))))) (by decide +kernel)
  · exact gx_T_in (List.mem_append_right _ (show _ ∈ tables_1 from (List.mem_append_right _ (List.mem_append_right _ (List.mem_append_right _ (List.mem_append_left _ (List.mem_of_getElem? (i := 207) (by decide +kernel)))))))) (by decide +kernel)
  · exact gx_T_in (List.mem_append_right _ (show _ ∈ tables_1 from (List.mem_append_right _ (List.mem_append_right _ (List.mem_append_right _ (List.mem_append_left _ (List.mem_of_getElem? (i := 209) (by decide +kernel)))))))) (by decide +kernel)
  · exact gx_T_in (List.mem_append_right _ (show _ ∈ tables_1 from (List.mem_append_right _ (List.mem_append_right _ (List.mem_append_right _ (List.mem_append_left _ (List.mem_of_getElem? (i := 211) (by decide +kernel)))))))) (by decide +kernel)
  · exact gx_T_in (List.mem_append_right _ (show _ ∈ tables_1 from (List.mem_append_right _ (List.mem_append_right _ (List.mem_append_right _ (List.mem_append_left _ (List.mem_of_getElem? (i := 213) (by decide +kernel)))))))) (by decide +kernel)
  · exact gx_T_in (List.mem_append_right _ (show _ ∈ tables_1 from (List.mem_append_right _ (List.mem_append_right _ (List.mem_append_right _ (List.mem_append_left _ (List.mem_of_getElem? (i := 215) (by decide +kernel)))))))) (by decide +kernel)
  · exact gx_T_in (List.mem_append_right _ (show _ ∈ tables_1 from (List.mem_append_right _ (List.mem_append_right _ (List.mem_append_right _ (List.mem_append_left _ (List.mem_of_getElem? (i := 217) (by decide +kernel)))))))) (by decide +kernel)
  · exact gx_T_in (List.mem_append_right _ (show _ ∈ tables_1 from (List.mem_append_right _ (List.mem_append_right _ (List.mem_append_right _ (List.mem_append_left _ (List.mem_of_getElem? (i := 219) (by decide +kernel)))))))) (by decide +kernel)
  · exact gx_T_in (List.mem_append_right _ (show _ ∈ tables_1 from (List.mem_append_right _ (List.mem_append_right _ (List.mem_append_right _ (List.mem_append_left _ (List.mem_of_getElem? (i := 221) (by decide +kernel)))))))) (by decide +kernel)
  · exact gx_T_in (List.mem_append_right _ (show _ ∈ tables_1 from (List.mem_append_right _ (List.mem_append_right _ (List.mem_append_right _ (List.mem_append_left _ (List.mem_of_getElem? (i := 223) (by decide +kernel)))))))) (by decide +kernel)
  · exact gx_T_in (List.mem_append_right _ (show _ ∈ tables_1 from (List.mem_append_right _ (List.mem_append_right _ (List.mem_append_right _ (List.mem_append_left _ (List.mem_of_getElem? (i := 225) (by decide +kernel)))))))) (by decide +kernel)
  · exact gx_T_in (List.mem_append_right _ (show _ ∈ tables_1 from (List.mem_append_right _ (List.mem_append_right _ (List.mem_append_right _ (List.mem_append_left _ (List.mem_of_getElem? (i := 227) (by decide +kernel)))))))) (by decide +kernel)
  · exact gx_T_in (List.mem_append_right _ (show _ ∈ tables_1 from (List.mem_append_right _ (List.mem_append_right _ (List.mem_append_right _ (List.mem_append_left _ (List.mem_of_getElem? (i := 229) (by decide +kernel)))))))) (by decide +kernel)
  · exact gx_T_in (List.mem_append_right _ (show _ ∈ tables_1 from (List.mem_append_right _ (List.mem_append_right _ (List.mem_append_right _ (List.mem_append_left _ (List.mem_of_getElem? (i := 231) (by decide +kernel)))))))) (by decide +kernel)
  · exact gx_T_in (List.mem_append_right _ (show _ ∈ tables_1 from (List.mem_append_right _ (List.mem_append_right _ (List.mem_append_right _ (List.mem_append_left _ (List.mem_of_getElem? (i := 233) (by decide +kernel)))))))) (by decide +kernel)
  · exact gx_T_in (List.mem_append_right _ (show _ ∈ tables_1 from (List.mem_append_right _ (List.mem_append_right _ (List.mem_append_right _ (List.mem_append_left _ (List.mem_of_getElem? (i := 235) (by decide +kernel)))))))) (by decide +kernel)
  · exact gx_T_in (List.mem_append_right _ (show _ ∈ tables_1 from (List.mem_append_right _ (List.mem_append_right _ (List.mem_append_right _ (List.mem_append_left _ (List.mem_of_getElem? (i := 237) (by decide +kernel)))))))) (by decide +kernel)
theorem ac_int : Cond.arrayClass .int ∈ gx_T := gx_T_in (List.mem_append_right _ (show _ ∈ tables_1 from (List.mem_append_left _ (List.mem_of_getElem? (i := 50) (by decide +kernel))))) (by decide +kernel)
theorem ac_char : Cond.arrayClass .char ∈ gx_T := gx_T_in (List.mem_append_right _ (show _ ∈ tables_1 from (List.mem_append_left _ (List.mem_of_getElem? (i := 51) (by decide +kernel))))) (by decide +kernel)
theorem ac_boolean : Cond.arrayClass .boolean ∈ gx_T := gx_T_in (List.mem_append_right _ (show _ ∈ tables_1 from (List.mem_append_left _ (List.mem_of_getElem? (i := 49) (by decide +kernel))))) (by decide +kernel)
theorem ac_long : Cond.arrayClass .long ∈ gx_T := gx_T_in (List.mem_append_right _ (show _ ∈ tables_1 from (List.mem_append_right _ (List.mem_append_right _ (List.mem_append_right _ (List.mem_append_right _ (List.mem_of_getElem? (i := 96) (by decide +kernel)))))))) (by decide +kernel)
theorem in_Word : Cond.initialized "PostChain$Word" ∈ gx_T := gx_T_in (List.mem_append_right _ (show _ ∈ tables_1 from (List.mem_append_left _ (List.mem_of_getElem? (i := 3) (by decide +kernel))))) (by decide +kernel)
theorem in_Row : Cond.initialized "PostChain$Row" ∈ gx_T := gx_T_in (List.mem_append_right _ (show _ ∈ tables_1 from (List.mem_append_left _ (List.mem_of_getElem? (i := 8) (by decide +kernel))))) (by decide +kernel)
theorem in_Machine : Cond.initialized "PostChain$Machine" ∈ gx_T := gx_T_in (List.mem_append_right _ (show _ ∈ tables_1 from (List.mem_append_left _ (List.mem_of_getElem? (i := 2) (by decide +kernel))))) (by decide +kernel)
theorem in_Run : Cond.initialized "PostChain$Run" ∈ gx_T := gx_T_in (List.mem_append_right _ (show _ ∈ tables_1 from (List.mem_append_left _ (List.mem_of_getElem? (i := 4) (by decide +kernel))))) (by decide +kernel)
theorem in_Domino : Cond.initialized "PostChain$Domino" ∈ gx_T := gx_T_in (List.mem_append_right _ (show _ ∈ tables_1 from (List.mem_append_left _ (List.mem_of_getElem? (i := 6) (by decide +kernel))))) (by decide +kernel)
theorem in_Box : Cond.initialized "PostChain$Box" ∈ gx_T := gx_T_in (List.mem_append_right _ (show _ ∈ tables_1 from (List.mem_append_left _ (List.mem_of_getElem? (i := 5) (by decide +kernel))))) (by decide +kernel)
theorem in_Way : Cond.initialized "PostChain$Way" ∈ gx_T := gx_T_in (List.mem_append_right _ (show _ ∈ tables_1 from (List.mem_append_left _ (List.mem_of_getElem? (i := 7) (by decide +kernel))))) (by decide +kernel)
theorem in_Hunt : Cond.initialized "PostChain$Hunt" ∈ gx_T := gx_T_in (List.mem_append_right _ (show _ ∈ tables_1 from (List.mem_append_left _ (List.mem_of_getElem? (i := 9) (by decide +kernel))))) (by decide +kernel)
theorem in_PC : Cond.initialized "PostChain" ∈ gx_T := gx_T_in (List.mem_append_right _ (show _ ∈ tables_1 from (List.mem_append_left _ (List.mem_of_getElem? (i := 1) (by decide +kernel))))) (by decide +kernel)
theorem in_Mo : Cond.initialized "PostChainModel" ∈ gx_T := gx_T_in (List.mem_append_right _ (show _ ∈ tables_1 from (List.mem_append_left _ (List.mem_of_getElem? (i := 11) (by decide +kernel))))) (by decide +kernel)
theorem in_Law : Cond.initialized "PostChainLaw" ∈ gx_T := gx_T_in (List.mem_append_right _ (show _ ∈ tables_1 from (List.mem_append_left _ (List.mem_of_getElem? (i := 0) (by decide +kernel))))) (by decide +kernel)
theorem in_Math : Cond.initialized "java/lang/Math" ∈ gx_T := gx_T_in (List.mem_append_right _ (show _ ∈ tables_1 from (List.mem_append_left _ (List.mem_of_getElem? (i := 10) (by decide +kernel))))) (by decide +kernel)
theorem it_Word : Cond.instantiable "PostChain$Word" 2 ∈ gx_T := gx_T_in (List.mem_append_right _ (show _ ∈ tables_1 from (List.mem_append_left _ (List.mem_of_getElem? (i := 37) (by decide +kernel))))) (by decide +kernel)
theorem it_Row : Cond.instantiable "PostChain$Row" 2 ∈ gx_T := gx_T_in (List.mem_append_right _ (show _ ∈ tables_1 from (List.mem_append_left _ (List.mem_of_getElem? (i := 143) (by decide +kernel))))) (by decide +kernel)
theorem it_Machine : Cond.instantiable "PostChain$Machine" 5 ∈ gx_T := gx_T_in (List.mem_append_right _ (show _ ∈ tables_1 from (List.mem_append_left _ (List.mem_of_getElem? (i := 31) (by decide +kernel))))) (by decide +kernel)
theorem it_Run : Cond.instantiable "PostChain$Run" 2 ∈ gx_T := gx_T_in (List.mem_append_right _ (show _ ∈ tables_1 from (List.mem_append_left _ (List.mem_of_getElem? (i := 83) (by decide +kernel))))) (by decide +kernel)
theorem it_Domino : Cond.instantiable "PostChain$Domino" 2 ∈ gx_T := gx_T_in (List.mem_append_right _ (show _ ∈ tables_1 from (List.mem_append_left _ (List.mem_of_getElem? (i := 106) (by decide +kernel))))) (by decide +kernel)
theorem it_Box : Cond.instantiable "PostChain$Box" 3 ∈ gx_T := gx_T_in (List.mem_append_right _ (show _ ∈ tables_1 from (List.mem_append_left _ (List.mem_of_getElem? (i := 99) (by decide +kernel))))) (by decide +kernel)
theorem it_Way : Cond.instantiable "PostChain$Way" 2 ∈ gx_T := gx_T_in (List.mem_append_right _ (show _ ∈ tables_1 from (List.mem_append_left _ (List.mem_of_getElem? (i := 137) (by decide +kernel))))) (by decide +kernel)
theorem it_Hunt : Cond.instantiable "PostChain$Hunt" 8 ∈ gx_T := gx_T_in (List.mem_append_right _ (show _ ∈ tables_1 from (List.mem_append_left _ (List.mem_of_getElem? (i := 165) (by decide +kernel))))) (by decide +kernel)
theorem it_PC : Cond.instantiable "PostChain" 9 ∈ gx_T := gx_T_in (List.mem_append_right _ (show _ ∈ tables_1 from (List.mem_append_left _ (List.mem_of_getElem? (i := 23) (by decide +kernel))))) (by decide +kernel)
theorem it_Mo : Cond.instantiable "PostChainModel" 33 ∈ gx_T := gx_T_in (List.mem_append_right _ (show _ ∈ tables_1 from (List.mem_append_right _ (List.mem_append_right _ (List.mem_append_right _ (List.mem_append_left _ (List.mem_of_getElem? (i := 73) (by decide +kernel)))))))) (by decide +kernel)
abbrev M_PC_init : gx_M := (⟨"PostChain", "<init>", "()V"⟩, prog_1_method_1_code, 1, none)
theorem cs_PC_init : gx_cs M_PC_init := ⟨gx_T_in (List.mem_append_right _ (show _ ∈ tables_1 from (List.mem_append_left _ (List.mem_of_getElem? (i := 26) (by decide +kernel))))) (by decide +kernel), in_PC, ⟨by decide +kernel, by decide +kernel⟩, by decide⟩
theorem im_PC_init : Cond.instanceMethod M_PC_init.1 ∈ gx_T := gx_T_in (List.mem_append_right _ (show _ ∈ tables_1 from (List.mem_append_left _ (List.mem_of_getElem? (i := 25) (by decide +kernel))))) (by decide +kernel)
abbrev M_Machine_init : gx_M := (⟨"PostChain$Machine", "<init>", "()V"⟩, prog_5_method_1_code, 1, none)
theorem cs_Machine_init : gx_cs M_Machine_init := ⟨gx_T_in (List.mem_append_right _ (show _ ∈ tables_1 from (List.mem_append_left _ (List.mem_of_getElem? (i := 34) (by decide +kernel))))) (by decide +kernel), in_Machine, ⟨by decide +kernel, by decide +kernel⟩, by decide⟩
theorem im_Machine_init : Cond.instanceMethod M_Machine_init.1 ∈ gx_T := gx_T_in (List.mem_append_right _ (show _ ∈ tables_1 from (List.mem_append_left _ (List.mem_of_getElem? (i := 33) (by decide +kernel))))) (by decide +kernel)
abbrev M_Word_init : gx_M := (⟨"PostChain$Word", "<init>", "(I)V"⟩, prog_9_method_1_code, 2, none)
theorem cs_Word_init : gx_cs M_Word_init := ⟨gx_T_in (List.mem_append_right _ (show _ ∈ tables_1 from (List.mem_append_left _ (List.mem_of_getElem? (i := 40) (by decide +kernel))))) (by decide +kernel), in_Word, ⟨by decide +kernel, by decide +kernel⟩, by decide⟩
theorem im_Word_init : Cond.instanceMethod M_Word_init.1 ∈ gx_T := gx_T_in (List.mem_append_right _ (show _ ∈ tables_1 from (List.mem_append_left _ (List.mem_of_getElem? (i := 39) (by decide +kernel))))) (by decide +kernel)
abbrev M_PC_letter : gx_M := (⟨"PostChain", "letter", "(I)C"⟩, prog_1_method_27_code, 1, (some .char))
theorem cs_PC_letter : gx_cs M_PC_letter := ⟨gx_T_in (List.mem_append_right _ (show _ ∈ tables_1 from (List.mem_append_left _ (List.mem_of_getElem? (i := 54) (by decide +kernel))))) (by decide +kernel), in_PC, ⟨by decide +kernel, by decide +kernel⟩, by decide⟩
theorem st_PC_letter : Cond.static M_PC_letter.1 ∈ gx_T := gx_T_in (List.mem_append_right _ (show _ ∈ tables_1 from (List.mem_append_left _ (List.mem_of_getElem? (i := 53) (by decide +kernel))))) (by decide +kernel)
abbrev M_Word_add : gx_M := (⟨"PostChain$Word", "add", "(C)LPostChain$Word;"⟩, prog_9_method_6_code, 2, (some ( .object "PostChain$Word")))
theorem cs_Word_add : gx_cs M_Word_add := ⟨gx_T_in (List.mem_append_right _ (show _ ∈ tables_1 from (List.mem_append_left _ (List.mem_of_getElem? (i := 58) (by decide +kernel))))) (by decide +kernel), in_Word, ⟨by decide +kernel, by decide +kernel⟩, by decide⟩
theorem im_Word_add : Cond.instanceMethod M_Word_add.1 ∈ gx_T := gx_T_in (List.mem_append_right _ (show _ ∈ tables_1 from (List.mem_append_left _ (List.mem_of_getElem? (i := 56) (by decide +kernel))))) (by decide +kernel)
theorem se_Word_add : Cond.selects M_Word_add.1.cls M_Word_add.1 M_Word_add.1 ∈ gx_T := gx_T_in (List.mem_append_right _ (show _ ∈ tables_1 from (List.mem_append_left _ (List.mem_of_getElem? (i := 57) (by decide +kernel))))) (by decide +kernel)
abbrev M_Run_init : gx_M := (⟨"PostChain$Run", "<init>", "()V"⟩, prog_7_method_1_code, 2, none)
theorem cs_Run_init : gx_cs M_Run_init := ⟨gx_T_in (List.mem_append_right _ (show _ ∈ tables_1 from (List.mem_append_left _ (List.mem_of_getElem? (i := 86) (by decide +kernel))))) (by decide +kernel), in_Run, ⟨by decide +kernel, by decide +kernel⟩, by decide⟩
theorem im_Run_init : Cond.instanceMethod M_Run_init.1 ∈ gx_T := gx_T_in (List.mem_append_right _ (show _ ∈ tables_1 from (List.mem_append_left _ (List.mem_of_getElem? (i := 85) (by decide +kernel))))) (by decide +kernel)
abbrev M_Box_init : gx_M := (⟨"PostChain$Box", "<init>", "()V"⟩, prog_2_method_1_code, 2, none)
theorem cs_Box_init : gx_cs M_Box_init := ⟨gx_T_in (List.mem_append_right _ (show _ ∈ tables_1 from (List.mem_append_left _ (List.mem_of_getElem? (i := 102) (by decide +kernel))))) (by decide +kernel), in_Box, ⟨by decide +kernel, by decide +kernel⟩, by decide⟩
theorem im_Box_init : Cond.instanceMethod M_Box_init.1 ∈ gx_T := gx_T_in (List.mem_append_right _ (show _ ∈ tables_1 from (List.mem_append_left _ (List.mem_of_getElem? (i := 101) (by decide +kernel))))) (by decide +kernel)
abbrev M_Domino_init : gx_M := (⟨"PostChain$Domino", "<init>", "()V"⟩, prog_3_method_1_code, 1, none)
theorem cs_Domino_init : gx_cs M_Domino_init := ⟨gx_T_in (List.mem_append_right _ (show _ ∈ tables_1 from (List.mem_append_left _ (List.mem_of_getElem? (i := 109) (by decide +kernel))))) (by decide +kernel), in_Domino, ⟨by decide +kernel, by decide +kernel⟩, by decide⟩
theorem im_Domino_init : Cond.instanceMethod M_Domino_init.1 ∈ gx_T := gx_T_in (List.mem_append_right _ (show _ ∈ tables_1 from (List.mem_append_left _ (List.mem_of_getElem? (i := 108) (by decide +kernel))))) (by decide +kernel)
abbrev M_Way_init : gx_M := (⟨"PostChain$Way", "<init>", "()V"⟩, prog_8_method_1_code, 1, none)
theorem cs_Way_init : gx_cs M_Way_init := ⟨gx_T_in (List.mem_append_right _ (show _ ∈ tables_1 from (List.mem_append_left _ (List.mem_of_getElem? (i := 140) (by decide +kernel))))) (by decide +kernel), in_Way, ⟨by decide +kernel, by decide +kernel⟩, by decide⟩
theorem im_Way_init : Cond.instanceMethod M_Way_init.1 ∈ gx_T := gx_T_in (List.mem_append_right _ (show _ ∈ tables_1 from (List.mem_append_left _ (List.mem_of_getElem? (i := 139) (by decide +kernel))))) (by decide +kernel)
abbrev M_Row_init : gx_M := (⟨"PostChain$Row", "<init>", "(I)V"⟩, prog_6_method_1_code, 2, none)
theorem cs_Row_init : gx_cs M_Row_init := ⟨gx_T_in (List.mem_append_right _ (show _ ∈ tables_1 from (List.mem_append_left _ (List.mem_of_getElem? (i := 146) (by decide +kernel))))) (by decide +kernel), in_Row, ⟨by decide +kernel, by decide +kernel⟩, by decide⟩
theorem im_Row_init : Cond.instanceMethod M_Row_init.1 ∈ gx_T := gx_T_in (List.mem_append_right _ (show _ ∈ tables_1 from (List.mem_append_left _ (List.mem_of_getElem? (i := 145) (by decide +kernel))))) (by decide +kernel)
abbrev M_Hunt_init : gx_M := (⟨"PostChain$Hunt", "<init>", "()V"⟩, prog_4_method_1_code, 1, none)
theorem cs_Hunt_init : gx_cs M_Hunt_init := ⟨gx_T_in (List.mem_append_right _ (show _ ∈ tables_1 from (List.mem_append_left _ (List.mem_of_getElem? (i := 168) (by decide +kernel))))) (by decide +kernel), in_Hunt, ⟨by decide +kernel, by decide +kernel⟩, by decide⟩
theorem im_Hunt_init : Cond.instanceMethod M_Hunt_init.1 ∈ gx_T := gx_T_in (List.mem_append_right _ (show _ ∈ tables_1 from (List.mem_append_left _ (List.mem_of_getElem? (i := 167) (by decide +kernel))))) (by decide +kernel)
abbrev M_PC_startOver : gx_M := (⟨"PostChain", "startOver", "()V"⟩, prog_1_method_20_code, 1, none)
theorem cs_PC_startOver : gx_cs M_PC_startOver := ⟨gx_T_in (List.mem_append_right _ (show _ ∈ tables_1 from (List.mem_append_left _ (List.mem_of_getElem? (i := 204) (by decide +kernel))))) (by decide +kernel), in_PC, ⟨by decide +kernel, by decide +kernel⟩, by decide⟩
theorem im_PC_startOver : Cond.instanceMethod M_PC_startOver.1 ∈ gx_T := gx_T_in (List.mem_append_right _ (show _ ∈ tables_1 from (List.mem_append_left _ (List.mem_of_getElem? (i := 203) (by decide +kernel))))) (by decide +kernel)
theorem se_PC_startOver : Cond.selects M_PC_startOver.1.cls M_PC_startOver.1 M_PC_startOver.1 ∈ gx_T := gx_T_in (List.mem_append_left _ (List.mem_of_getElem? (i := 0) (by decide +kernel))) (by decide +kernel)
abbrev M_Run_follow : gx_M := (⟨"PostChain$Run", "follow", "(LPostChain$Machine;)V"⟩, prog_7_method_5_code, 3, none)
theorem cs_Run_follow : gx_cs M_Run_follow := ⟨gx_T_in (List.mem_append_right _ (show _ ∈ tables_1 from (List.mem_append_left _ (List.mem_of_getElem? (i := 208) (by decide +kernel))))) (by decide +kernel), in_Run, ⟨by decide +kernel, by decide +kernel⟩, by decide⟩
theorem im_Run_follow : Cond.instanceMethod M_Run_follow.1 ∈ gx_T := gx_T_in (List.mem_append_right _ (show _ ∈ tables_1 from (List.mem_append_left _ (List.mem_of_getElem? (i := 206) (by decide +kernel))))) (by decide +kernel)
theorem se_Run_follow : Cond.selects M_Run_follow.1.cls M_Run_follow.1 M_Run_follow.1 ∈ gx_T := gx_T_in (List.mem_append_right _ (show _ ∈ tables_1 from (List.mem_append_left _ (List.mem_of_getElem? (i := 207) (by decide +kernel))))) (by decide +kernel)
abbrev M_Word_copy : gx_M := (⟨"PostChain$Word", "copy", "(LPostChain$Word;)V"⟩, prog_9_method_8_code, 2, none)
theorem cs_Word_copy : gx_cs M_Word_copy := ⟨gx_T_in (List.mem_append_right _ (show _ ∈ tables_1 from (List.mem_append_left _ (List.mem_of_getElem? (i := 212) (by decide +kernel))))) (by decide +kernel), in_Word, ⟨by decide +kernel, by decide +kernel⟩, by decide⟩
theorem im_Word_copy : Cond.instanceMethod M_Word_copy.1 ∈ gx_T := gx_T_in (List.mem_append_right _ (show _ ∈ tables_1 from (List.mem_append_left _ (List.mem_of_getElem? (i := 210) (by decide +kernel))))) (by decide +kernel)
theorem se_Word_copy : Cond.selects M_Word_copy.1.cls M_Word_copy.1 M_Word_copy.1 ∈ gx_T := gx_T_in (List.mem_append_right _ (show _ ∈ tables_1 from (List.mem_append_left _ (List.mem_of_getElem? (i := 211) (by decide +kernel))))) (by decide +kernel)
abbrev M_Word_empty : gx_M := (⟨"PostChain$Word", "empty", "()V"⟩, prog_9_method_5_code, 1, none)
theorem cs_Word_empty : gx_cs M_Word_empty := ⟨gx_T_in (List.mem_append_right _ (show _ ∈ tables_1 from (List.mem_append_left _ (List.mem_of_getElem? (i := 216) (by decide +kernel))))) (by decide +kernel), in_Word, ⟨by decide +kernel, by decide +kernel⟩, by decide⟩
theorem im_Word_empty : Cond.instanceMethod M_Word_empty.1 ∈ gx_T := gx_T_in (List.mem_append_right _ (show _ ∈ tables_1 from (List.mem_append_left _ (List.mem_of_getElem? (i := 214) (by decide +kernel))))) (by decide +kernel)
theorem se_Word_empty : Cond.selects M_Word_empty.1.cls M_Word_empty.1 M_Word_empty.1 ∈ gx_T := gx_T_in (List.mem_append_right _ (show _ ∈ tables_1 from (List.mem_append_left _ (List.mem_of_getElem? (i := 215) (by decide +kernel))))) (by decide +kernel)
abbrev M_Word_size : gx_M := (⟨"PostChain$Word", "size", "()I"⟩, prog_9_method_2_code, 1, (some .int))
theorem cs_Word_size : gx_cs M_Word_size := ⟨gx_T_in (List.mem_append_right _ (show _ ∈ tables_1 from (List.mem_append_left _ (List.mem_of_getElem? (i := 220) (by decide +kernel))))) (by decide +kernel), in_Word, ⟨by decide +kernel, by decide +kernel⟩, by decide⟩
theorem im_Word_size : Cond.instanceMethod M_Word_size.1 ∈ gx_T := gx_T_in (List.mem_append_right _ (show _ ∈ tables_1 from (List.mem_append_left _ (List.mem_of_getElem? (i := 218) (by decide +kernel))))) (by decide +kernel)
theorem se_Word_size : Cond.selects M_Word_size.1.cls M_Word_size.1 M_Word_size.1 ∈ gx_T := gx_T_in (List.mem_append_right _ (show _ ∈ tables_1 from (List.mem_append_left _ (List.mem_of_getElem? (i := 219) (by decide +kernel))))) (by decide +kernel)
abbrev M_Word_addPart : gx_M := (⟨"PostChain$Word", "addPart", "(LPostChain$Word;II)V"⟩, prog_9_method_7_code, 5, none)
theorem cs_Word_addPart : gx_cs M_Word_addPart := ⟨gx_T_in (List.mem_append_right _ (show _ ∈ tables_1 from (List.mem_append_left _ (List.mem_of_getElem? (i := 224) (by decide +kernel))))) (by decide +kernel), in_Word, ⟨by decide +kernel, by decide +kernel⟩, by decide⟩
theorem im_Word_addPart : Cond.instanceMethod M_Word_addPart.1 ∈ gx_T := gx_T_in (List.mem_append_right _ (show _ ∈ tables_1 from (List.mem_append_left _ (List.mem_of_getElem? (i := 222) (by decide +kernel))))) (by decide +kernel)
theorem se_Word_addPart : Cond.selects M_Word_addPart.1.cls M_Word_addPart.1 M_Word_addPart.1 ∈ gx_T := gx_T_in (List.mem_append_right _ (show _ ∈ tables_1 from (List.mem_append_left _ (List.mem_of_getElem? (i := 223) (by decide +kernel))))) (by decide +kernel)
abbrev M_Word_at : gx_M := (⟨"PostChain$Word", "at", "(I)C"⟩, prog_9_method_3_code, 2, (some .char))
theorem cs_Word_at : gx_cs M_Word_at := ⟨gx_T_in (List.mem_append_right _ (show _ ∈ tables_1 from (List.mem_append_left _ (List.mem_of_getElem? (i := 228) (by decide +kernel))))) (by decide +kernel), in_Word, ⟨by decide +kernel, by decide +kernel⟩, by decide⟩
theorem im_Word_at : Cond.instanceMethod M_Word_at.1 ∈ gx_T := gx_T_in (List.mem_append_right _ (show _ ∈ tables_1 from (List.mem_append_left _ (List.mem_of_getElem? (i := 226) (by decide +kernel))))) (by decide +kernel)
theorem se_Word_at : Cond.selects M_Word_at.1.cls M_Word_at.1 M_Word_at.1 ∈ gx_T := gx_T_in (List.mem_append_right _ (show _ ∈ tables_1 from (List.mem_append_left _ (List.mem_of_getElem? (i := 227) (by decide +kernel))))) (by decide +kernel)
abbrev M_Machine_step : gx_M := (⟨"PostChain$Machine", "step", "(LPostChain$Word;LPostChain$Word;)Z"⟩, prog_5_method_6_code, 5, (some .boolean))
theorem cs_Machine_step : gx_cs M_Machine_step := ⟨gx_T_in (List.mem_append_right _ (show _ ∈ tables_1 from (List.mem_append_left _ (List.mem_of_getElem? (i := 233) (by decide +kernel))))) (by decide +kernel), in_Machine, ⟨by decide +kernel, by decide +kernel⟩, by decide⟩
theorem im_Machine_step : Cond.instanceMethod M_Machine_step.1 ∈ gx_T := gx_T_in (List.mem_append_right _ (show _ ∈ tables_1 from (List.mem_append_left _ (List.mem_of_getElem? (i := 231) (by decide +kernel))))) (by decide +kernel)
theorem se_Machine_step : Cond.selects M_Machine_step.1.cls M_Machine_step.1 M_Machine_step.1 ∈ gx_T := gx_T_in (List.mem_append_right _ (show _ ∈ tables_1 from (List.mem_append_left _ (List.mem_of_getElem? (i := 232) (by decide +kernel))))) (by decide +kernel)
abbrev M_Machine_ruleFor : gx_M := (⟨"PostChain$Machine", "ruleFor", "(LPostChain$Word;)I"⟩, prog_5_method_5_code, 5, (some .int))
theorem cs_Machine_ruleFor : gx_cs M_Machine_ruleFor := ⟨gx_T_in (List.mem_append_right _ (show _ ∈ tables_1 from (List.mem_append_left _ (List.mem_of_getElem? (i := 237) (by decide +kernel))))) (by decide +kernel), in_Machine, ⟨by decide +kernel, by decide +kernel⟩, by decide⟩
theorem im_Machine_ruleFor : Cond.instanceMethod M_Machine_ruleFor.1 ∈ gx_T := gx_T_in (List.mem_append_right _ (show _ ∈ tables_1 from (List.mem_append_left _ (List.mem_of_getElem? (i := 235) (by decide +kernel))))) (by decide +kernel)
theorem se_Machine_ruleFor : Cond.selects M_Machine_ruleFor.1.cls M_Machine_ruleFor.1 M_Machine_ruleFor.1 ∈ gx_T := gx_T_in (List.mem_append_right _ (show _ ∈ tables_1 from (List.mem_append_left _ (List.mem_of_getElem? (i := 236) (by decide +kernel))))) (by decide +kernel)
abbrev M_Word_head : gx_M := (⟨"PostChain$Word", "head", "()I"⟩, prog_9_method_12_code, 2, (some .int))
theorem cs_Word_head : gx_cs M_Word_head := ⟨gx_T_in (List.mem_append_right _ (show _ ∈ tables_1 from (List.mem_append_right _ (List.mem_append_left _ (List.mem_of_getElem? (i := 1) (by decide +kernel)))))) (by decide +kernel), in_Word, ⟨by decide +kernel, by decide +kernel⟩, by decide⟩
theorem im_Word_head : Cond.instanceMethod M_Word_head.1 ∈ gx_T := gx_T_in (List.mem_append_right _ (show _ ∈ tables_1 from (List.mem_append_left _ (List.mem_of_getElem? (i := 239) (by decide +kernel))))) (by decide +kernel)
theorem se_Word_head : Cond.selects M_Word_head.1.cls M_Word_head.1 M_Word_head.1 ∈ gx_T := gx_T_in (List.mem_append_right _ (show _ ∈ tables_1 from (List.mem_append_right _ (List.mem_append_left _ (List.mem_of_getElem? (i := 0) (by decide +kernel)))))) (by decide +kernel)
abbrev M_PC_symbolOf : gx_M := (⟨"PostChain", "symbolOf", "(C)I"⟩, prog_1_method_29_code, 1, (some .int))
theorem cs_PC_symbolOf : gx_cs M_PC_symbolOf := ⟨gx_T_in (List.mem_append_right _ (show _ ∈ tables_1 from (List.mem_append_right _ (List.mem_append_left _ (List.mem_of_getElem? (i := 6) (by decide +kernel)))))) (by decide +kernel), in_PC, ⟨by decide +kernel, by decide +kernel⟩, by decide⟩
theorem st_PC_symbolOf : Cond.static M_PC_symbolOf.1 ∈ gx_T := gx_T_in (List.mem_append_right _ (show _ ∈ tables_1 from (List.mem_append_right _ (List.mem_append_left _ (List.mem_of_getElem? (i := 5) (by decide +kernel)))))) (by decide +kernel)
abbrev M_PC_isState : gx_M := (⟨"PostChain", "isState", "(I)Z"⟩, prog_1_method_24_code, 1, (some .boolean))
theorem cs_PC_isState : gx_cs M_PC_isState := ⟨gx_T_in (List.mem_append_right _ (show _ ∈ tables_1 from (List.mem_append_right _ (List.mem_append_left _ (List.mem_of_getElem? (i := 9) (by decide +kernel)))))) (by decide +kernel), in_PC, ⟨by decide +kernel, by decide +kernel⟩, by decide⟩
theorem st_PC_isState : Cond.static M_PC_isState.1 ∈ gx_T := gx_T_in (List.mem_append_right _ (show _ ∈ tables_1 from (List.mem_append_right _ (List.mem_append_left _ (List.mem_of_getElem? (i := 8) (by decide +kernel)))))) (by decide +kernel)
abbrev M_PC_isSymbol : gx_M := (⟨"PostChain", "isSymbol", "(I)Z"⟩, prog_1_method_25_code, 1, (some .boolean))
theorem cs_PC_isSymbol : gx_cs M_PC_isSymbol := ⟨gx_T_in (List.mem_append_right _ (show _ ∈ tables_1 from (List.mem_append_right _ (List.mem_append_left _ (List.mem_of_getElem? (i := 12) (by decide +kernel)))))) (by decide +kernel), in_PC, ⟨by decide +kernel, by decide +kernel⟩, by decide⟩
theorem st_PC_isSymbol : Cond.static M_PC_isSymbol.1 ∈ gx_T := gx_T_in (List.mem_append_right _ (show _ ∈ tables_1 from (List.mem_append_right _ (List.mem_append_left _ (List.mem_of_getElem? (i := 11) (by decide +kernel)))))) (by decide +kernel)
abbrev M_PC_ruleNumber : gx_M := (⟨"PostChain", "ruleNumber", "(II)I"⟩, prog_1_method_26_code, 2, (some .int))
theorem cs_PC_ruleNumber : gx_cs M_PC_ruleNumber := ⟨gx_T_in (List.mem_append_right _ (show _ ∈ tables_1 from (List.mem_append_right _ (List.mem_append_left _ (List.mem_of_getElem? (i := 15) (by decide +kernel)))))) (by decide +kernel), in_PC, ⟨by decide +kernel, by decide +kernel⟩, by decide⟩
theorem st_PC_ruleNumber : Cond.static M_PC_ruleNumber.1 ∈ gx_T := gx_T_in (List.mem_append_right _ (show _ ∈ tables_1 from (List.mem_append_right _ (List.mem_append_left _ (List.mem_of_getElem? (i := 14) (by decide +kernel)))))) (by decide +kernel)
abbrev M_PC_digit : gx_M := (⟨"PostChain", "digit", "(I)C"⟩, prog_1_method_28_code, 1, (some .char))
theorem cs_PC_digit : gx_cs M_PC_digit := ⟨gx_T_in (List.mem_append_right _ (show _ ∈ tables_1 from (List.mem_append_right _ (List.mem_append_left _ (List.mem_of_getElem? (i := 20) (by decide +kernel)))))) (by decide +kernel), in_PC, ⟨by decide +kernel, by decide +kernel⟩, by decide⟩
theorem st_PC_digit : Cond.static M_PC_digit.1 ∈ gx_T := gx_T_in (List.mem_append_right _ (show _ ∈ tables_1 from (List.mem_append_right _ (List.mem_append_left _ (List.mem_of_getElem? (i := 19) (by decide +kernel)))))) (by decide +kernel)
abbrev M_Box_fill : gx_M := (⟨"PostChain$Box", "fill", "(LPostChain$Machine;)V"⟩, prog_2_method_5_code, 4, none)
theorem cs_Box_fill : gx_cs M_Box_fill := ⟨gx_T_in (List.mem_append_right _ (show _ ∈ tables_1 from (List.mem_append_right _ (List.mem_append_left _ (List.mem_of_getElem? (i := 25) (by decide +kernel)))))) (by decide +kernel), in_Box, ⟨by decide +kernel, by decide +kernel⟩, by decide⟩
theorem im_Box_fill : Cond.instanceMethod M_Box_fill.1 ∈ gx_T := gx_T_in (List.mem_append_right _ (show _ ∈ tables_1 from (List.mem_append_right _ (List.mem_append_left _ (List.mem_of_getElem? (i := 23) (by decide +kernel)))))) (by decide +kernel)
theorem se_Box_fill : Cond.selects M_Box_fill.1.cls M_Box_fill.1 M_Box_fill.1 ∈ gx_T := gx_T_in (List.mem_append_right _ (show _ ∈ tables_1 from (List.mem_append_right _ (List.mem_append_left _ (List.mem_of_getElem? (i := 24) (by decide +kernel)))))) (by decide +kernel)
abbrev M_Box_open : gx_M := (⟨"PostChain$Box", "open", "()LPostChain$Domino;"⟩, prog_2_method_8_code, 2, (some ( .object "PostChain$Domino")))
theorem cs_Box_open : gx_cs M_Box_open := ⟨gx_T_in (List.mem_append_right _ (show _ ∈ tables_1 from (List.mem_append_right _ (List.mem_append_left _ (List.mem_of_getElem? (i := 29) (by decide +kernel)))))) (by decide +kernel), in_Box, ⟨by decide +kernel, by decide +kernel⟩, by decide⟩
theorem im_Box_open : Cond.instanceMethod M_Box_open.1 ∈ gx_T := gx_T_in (List.mem_append_right _ (show _ ∈ tables_1 from (List.mem_append_right _ (List.mem_append_left _ (List.mem_of_getElem? (i := 28) (by decide +kernel)))))) (by decide +kernel)
theorem se_Box_open : Cond.selects M_Box_open.1.cls M_Box_open.1 M_Box_open.1 ∈ gx_T := gx_T_in (List.mem_append_left _ (List.mem_of_getElem? (i := 1) (by decide +kernel))) (by decide +kernel)
abbrev M_Box_addCopy : gx_M := (⟨"PostChain$Box", "addCopy", "(C)V"⟩, prog_2_method_9_code, 3, none)
theorem cs_Box_addCopy : gx_cs M_Box_addCopy := ⟨gx_T_in (List.mem_append_right _ (show _ ∈ tables_1 from (List.mem_append_right _ (List.mem_append_left _ (List.mem_of_getElem? (i := 40) (by decide +kernel)))))) (by decide +kernel), in_Box, ⟨by decide +kernel, by decide +kernel⟩, by decide⟩
theorem im_Box_addCopy : Cond.instanceMethod M_Box_addCopy.1 ∈ gx_T := gx_T_in (List.mem_append_right _ (show _ ∈ tables_1 from (List.mem_append_right _ (List.mem_append_left _ (List.mem_of_getElem? (i := 39) (by decide +kernel)))))) (by decide +kernel)
theorem se_Box_addCopy : Cond.selects M_Box_addCopy.1.cls M_Box_addCopy.1 M_Box_addCopy.1 ∈ gx_T := gx_T_in (List.mem_append_left _ (List.mem_of_getElem? (i := 2) (by decide +kernel))) (by decide +kernel)
abbrev M_Box_addRule : gx_M := (⟨"PostChain$Box", "addRule", "(LPostChain$Machine;IC)V"⟩, prog_2_method_10_code, 5, none)
theorem cs_Box_addRule : gx_cs M_Box_addRule := ⟨gx_T_in (List.mem_append_right _ (show _ ∈ tables_1 from (List.mem_append_right _ (List.mem_append_left _ (List.mem_of_getElem? (i := 45) (by decide +kernel)))))) (by decide +kernel), in_Box, ⟨by decide +kernel, by decide +kernel⟩, by decide⟩
theorem im_Box_addRule : Cond.instanceMethod M_Box_addRule.1 ∈ gx_T := gx_T_in (List.mem_append_right _ (show _ ∈ tables_1 from (List.mem_append_right _ (List.mem_append_left _ (List.mem_of_getElem? (i := 44) (by decide +kernel)))))) (by decide +kernel)
theorem se_Box_addRule : Cond.selects M_Box_addRule.1.cls M_Box_addRule.1 M_Box_addRule.1 ∈ gx_T := gx_T_in (List.mem_append_left _ (List.mem_of_getElem? (i := 3) (by decide +kernel))) (by decide +kernel)
abbrev M_Box_addRight : gx_M := (⟨"PostChain$Box", "addRight", "(LPostChain$Machine;IC)V"⟩, prog_2_method_11_code, 5, none)
theorem cs_Box_addRight : gx_cs M_Box_addRight := ⟨gx_T_in (List.mem_append_right _ (show _ ∈ tables_1 from (List.mem_append_right _ (List.mem_append_left _ (List.mem_of_getElem? (i := 49) (by decide +kernel)))))) (by decide +kernel), in_Box, ⟨by decide +kernel, by decide +kernel⟩, by decide⟩
theorem im_Box_addRight : Cond.instanceMethod M_Box_addRight.1 ∈ gx_T := gx_T_in (List.mem_append_right _ (show _ ∈ tables_1 from (List.mem_append_right _ (List.mem_append_left _ (List.mem_of_getElem? (i := 48) (by decide +kernel)))))) (by decide +kernel)
theorem se_Box_addRight : Cond.selects M_Box_addRight.1.cls M_Box_addRight.1 M_Box_addRight.1 ∈ gx_T := gx_T_in (List.mem_append_left _ (List.mem_of_getElem? (i := 4) (by decide +kernel))) (by decide +kernel)
abbrev M_Box_keepHash : gx_M := (⟨"PostChain$Box", "keepHash", "(LPostChain$Domino;C)V"⟩, prog_2_method_13_code, 2, none)
theorem cs_Box_keepHash : gx_cs M_Box_keepHash := ⟨gx_T_in (List.mem_append_right _ (show _ ∈ tables_1 from (List.mem_append_right _ (List.mem_append_left _ (List.mem_of_getElem? (i := 53) (by decide +kernel)))))) (by decide +kernel), in_Box, ⟨by decide +kernel, by decide +kernel⟩, by decide⟩
theorem st_Box_keepHash : Cond.static M_Box_keepHash.1 ∈ gx_T := gx_T_in (List.mem_append_right _ (show _ ∈ tables_1 from (List.mem_append_right _ (List.mem_append_left _ (List.mem_of_getElem? (i := 52) (by decide +kernel)))))) (by decide +kernel)
abbrev M_Box_addLeft : gx_M := (⟨"PostChain$Box", "addLeft", "(LPostChain$Machine;ICC)V"⟩, prog_2_method_12_code, 6, none)
theorem cs_Box_addLeft : gx_cs M_Box_addLeft := ⟨gx_T_in (List.mem_append_right _ (show _ ∈ tables_1 from (List.mem_append_right _ (List.mem_append_left _ (List.mem_of_getElem? (i := 57) (by decide +kernel)))))) (by decide +kernel), in_Box, ⟨by decide +kernel, by decide +kernel⟩, by decide⟩
theorem im_Box_addLeft : Cond.instanceMethod M_Box_addLeft.1 ∈ gx_T := gx_T_in (List.mem_append_right _ (show _ ∈ tables_1 from (List.mem_append_right _ (List.mem_append_left _ (List.mem_of_getElem? (i := 56) (by decide +kernel)))))) (by decide +kernel)
theorem se_Box_addLeft : Cond.selects M_Box_addLeft.1.cls M_Box_addLeft.1 M_Box_addLeft.1 ∈ gx_T := gx_T_in (List.mem_append_left _ (List.mem_of_getElem? (i := 5) (by decide +kernel))) (by decide +kernel)
abbrev M_Box_addEnding : gx_M := (⟨"PostChain$Box", "addEnding", "()V"⟩, prog_2_method_14_code, 4, none)
theorem cs_Box_addEnding : gx_cs M_Box_addEnding := ⟨gx_T_in (List.mem_append_right _ (show _ ∈ tables_1 from (List.mem_append_right _ (List.mem_append_left _ (List.mem_of_getElem? (i := 61) (by decide +kernel)))))) (by decide +kernel), in_Box, ⟨by decide +kernel, by decide +kernel⟩, by decide⟩
theorem im_Box_addEnding : Cond.instanceMethod M_Box_addEnding.1 ∈ gx_T := gx_T_in (List.mem_append_right _ (show _ ∈ tables_1 from (List.mem_append_right _ (List.mem_append_left _ (List.mem_of_getElem? (i := 60) (by decide +kernel)))))) (by decide +kernel)
theorem se_Box_addEnding : Cond.selects M_Box_addEnding.1.cls M_Box_addEnding.1 M_Box_addEnding.1 ∈ gx_T := gx_T_in (List.mem_append_left _ (List.mem_of_getElem? (i := 6) (by decide +kernel))) (by decide +kernel)
abbrev M_Way_trace : gx_M := (⟨"PostChain$Way", "trace", "(LPostChain$Machine;LPostChain$Run;LPostChain$Box;)V"⟩, prog_8_method_3_code, 5, none)
theorem cs_Way_trace : gx_cs M_Way_trace := ⟨gx_T_in (List.mem_append_right _ (show _ ∈ tables_1 from (List.mem_append_right _ (List.mem_append_left _ (List.mem_of_getElem? (i := 65) (by decide +kernel)))))) (by decide +kernel), in_Way, ⟨by decide +kernel, by decide +kernel⟩, by decide⟩
theorem im_Way_trace : Cond.instanceMethod M_Way_trace.1 ∈ gx_T := gx_T_in (List.mem_append_right _ (show _ ∈ tables_1 from (List.mem_append_right _ (List.mem_append_left _ (List.mem_of_getElem? (i := 63) (by decide +kernel)))))) (by decide +kernel)
theorem se_Way_trace : Cond.selects M_Way_trace.1.cls M_Way_trace.1 M_Way_trace.1 ∈ gx_T := gx_T_in (List.mem_append_right _ (show _ ∈ tables_1 from (List.mem_append_right _ (List.mem_append_left _ (List.mem_of_getElem? (i := 64) (by decide +kernel)))))) (by decide +kernel)
abbrev M_Row_empty : gx_M := (⟨"PostChain$Row", "empty", "()V"⟩, prog_6_method_4_code, 1, none)
theorem cs_Row_empty : gx_cs M_Row_empty := ⟨gx_T_in (List.mem_append_right _ (show _ ∈ tables_1 from (List.mem_append_right _ (List.mem_append_left _ (List.mem_of_getElem? (i := 69) (by decide +kernel)))))) (by decide +kernel), in_Row, ⟨by decide +kernel, by decide +kernel⟩, by decide⟩
theorem im_Row_empty : Cond.instanceMethod M_Row_empty.1 ∈ gx_T := gx_T_in (List.mem_append_right _ (show _ ∈ tables_1 from (List.mem_append_right _ (List.mem_append_left _ (List.mem_of_getElem? (i := 67) (by decide +kernel)))))) (by decide +kernel)
theorem se_Row_empty : Cond.selects M_Row_empty.1.cls M_Row_empty.1 M_Row_empty.1 ∈ gx_T := gx_T_in (List.mem_append_right _ (show _ ∈ tables_1 from (List.mem_append_right _ (List.mem_append_left _ (List.mem_of_getElem? (i := 68) (by decide +kernel)))))) (by decide +kernel)
abbrev M_Run_isHalted : gx_M := (⟨"PostChain$Run", "isHalted", "()Z"⟩, prog_7_method_4_code, 2, (some .boolean))
theorem cs_Run_isHalted : gx_cs M_Run_isHalted := ⟨gx_T_in (List.mem_append_right _ (show _ ∈ tables_1 from (List.mem_append_right _ (List.mem_append_left _ (List.mem_of_getElem? (i := 73) (by decide +kernel)))))) (by decide +kernel), in_Run, ⟨by decide +kernel, by decide +kernel⟩, by decide⟩
theorem im_Run_isHalted : Cond.instanceMethod M_Run_isHalted.1 ∈ gx_T := gx_T_in (List.mem_append_right _ (show _ ∈ tables_1 from (List.mem_append_right _ (List.mem_append_left _ (List.mem_of_getElem? (i := 71) (by decide +kernel)))))) (by decide +kernel)
theorem se_Run_isHalted : Cond.selects M_Run_isHalted.1.cls M_Run_isHalted.1 M_Run_isHalted.1 ∈ gx_T := gx_T_in (List.mem_append_right _ (show _ ∈ tables_1 from (List.mem_append_right _ (List.mem_append_left _ (List.mem_of_getElem? (i := 72) (by decide +kernel)))))) (by decide +kernel)
abbrev M_Run_text : gx_M := (⟨"PostChain$Run", "text", "(I)LPostChain$Word;"⟩, prog_7_method_3_code, 2, (some ( .object "PostChain$Word")))
theorem cs_Run_text : gx_cs M_Run_text := ⟨gx_T_in (List.mem_append_right _ (show _ ∈ tables_1 from (List.mem_append_right _ (List.mem_append_left _ (List.mem_of_getElem? (i := 77) (by decide +kernel)))))) (by decide +kernel), in_Run, ⟨by decide +kernel, by decide +kernel⟩, by decide⟩
theorem im_Run_text : Cond.instanceMethod M_Run_text.1 ∈ gx_T := gx_T_in (List.mem_append_right _ (show _ ∈ tables_1 from (List.mem_append_right _ (List.mem_append_left _ (List.mem_of_getElem? (i := 75) (by decide +kernel)))))) (by decide +kernel)
theorem se_Run_text : Cond.selects M_Run_text.1.cls M_Run_text.1 M_Run_text.1 ∈ gx_T := gx_T_in (List.mem_append_right _ (show _ ∈ tables_1 from (List.mem_append_right _ (List.mem_append_left _ (List.mem_of_getElem? (i := 76) (by decide +kernel)))))) (by decide +kernel)
abbrev M_Row_add : gx_M := (⟨"PostChain$Row", "add", "(I)V"⟩, prog_6_method_5_code, 2, none)
theorem cs_Row_add : gx_cs M_Row_add := ⟨gx_T_in (List.mem_append_right _ (show _ ∈ tables_1 from (List.mem_append_right _ (List.mem_append_left _ (List.mem_of_getElem? (i := 88) (by decide +kernel)))))) (by decide +kernel), in_Row, ⟨by decide +kernel, by decide +kernel⟩, by decide⟩
theorem im_Row_add : Cond.instanceMethod M_Row_add.1 ∈ gx_T := gx_T_in (List.mem_append_right _ (show _ ∈ tables_1 from (List.mem_append_right _ (List.mem_append_left _ (List.mem_of_getElem? (i := 86) (by decide +kernel)))))) (by decide +kernel)
theorem se_Row_add : Cond.selects M_Row_add.1.cls M_Row_add.1 M_Row_add.1 ∈ gx_T := gx_T_in (List.mem_append_right _ (show _ ∈ tables_1 from (List.mem_append_right _ (List.mem_append_left _ (List.mem_of_getElem? (i := 87) (by decide +kernel)))))) (by decide +kernel)
abbrev M_Run_stepCount : gx_M := (⟨"PostChain$Run", "stepCount", "()I"⟩, prog_7_method_2_code, 1, (some .int))
theorem cs_Run_stepCount : gx_cs M_Run_stepCount := ⟨gx_T_in (List.mem_append_right _ (show _ ∈ tables_1 from (List.mem_append_right _ (List.mem_append_left _ (List.mem_of_getElem? (i := 92) (by decide +kernel)))))) (by decide +kernel), in_Run, ⟨by decide +kernel, by decide +kernel⟩, by decide⟩
theorem im_Run_stepCount : Cond.instanceMethod M_Run_stepCount.1 ∈ gx_T := gx_T_in (List.mem_append_right _ (show _ ∈ tables_1 from (List.mem_append_right _ (List.mem_append_left _ (List.mem_of_getElem? (i := 90) (by decide +kernel)))))) (by decide +kernel)
theorem se_Run_stepCount : Cond.selects M_Run_stepCount.1.cls M_Run_stepCount.1 M_Run_stepCount.1 ∈ gx_T := gx_T_in (List.mem_append_right _ (show _ ∈ tables_1 from (List.mem_append_right _ (List.mem_append_left _ (List.mem_of_getElem? (i := 91) (by decide +kernel)))))) (by decide +kernel)
abbrev M_Way_passStep : gx_M := (⟨"PostChain$Way", "passStep", "(LPostChain$Machine;LPostChain$Word;LPostChain$Box;)V"⟩, prog_8_method_4_code, 9, none)
theorem cs_Way_passStep : gx_cs M_Way_passStep := ⟨gx_T_in (List.mem_append_right _ (show _ ∈ tables_1 from (List.mem_append_right _ (List.mem_append_left _ (List.mem_of_getElem? (i := 97) (by decide +kernel)))))) (by decide +kernel), in_Way, ⟨by decide +kernel, by decide +kernel⟩, by decide⟩
theorem im_Way_passStep : Cond.instanceMethod M_Way_passStep.1 ∈ gx_T := gx_T_in (List.mem_append_right _ (show _ ∈ tables_1 from (List.mem_append_right _ (List.mem_append_left _ (List.mem_of_getElem? (i := 96) (by decide +kernel)))))) (by decide +kernel)
theorem se_Way_passStep : Cond.selects M_Way_passStep.1.cls M_Way_passStep.1 M_Way_passStep.1 ∈ gx_T := gx_T_in (List.mem_append_left _ (List.mem_of_getElem? (i := 7) (by decide +kernel))) (by decide +kernel)
abbrev M_Box_ofRule : gx_M := (⟨"PostChain$Box", "ofRule", "(IZIZ)I"⟩, prog_2_method_6_code, 5, (some .int))
theorem cs_Box_ofRule : gx_cs M_Box_ofRule := ⟨gx_T_in (List.mem_append_right _ (show _ ∈ tables_1 from (List.mem_append_right _ (List.mem_append_left _ (List.mem_of_getElem? (i := 106) (by decide +kernel)))))) (by decide +kernel), in_Box, ⟨by decide +kernel, by decide +kernel⟩, by decide⟩
theorem im_Box_ofRule : Cond.instanceMethod M_Box_ofRule.1 ∈ gx_T := gx_T_in (List.mem_append_right _ (show _ ∈ tables_1 from (List.mem_append_right _ (List.mem_append_left _ (List.mem_of_getElem? (i := 104) (by decide +kernel)))))) (by decide +kernel)
theorem se_Box_ofRule : Cond.selects M_Box_ofRule.1.cls M_Box_ofRule.1 M_Box_ofRule.1 ∈ gx_T := gx_T_in (List.mem_append_right _ (show _ ∈ tables_1 from (List.mem_append_right _ (List.mem_append_left _ (List.mem_of_getElem? (i := 105) (by decide +kernel)))))) (by decide +kernel)
abbrev M_Way_pass : gx_M := (⟨"PostChain$Way", "pass", "(LPostChain$Word;III)V"⟩, prog_8_method_6_code, 5, none)
theorem cs_Way_pass : gx_cs M_Way_pass := ⟨gx_T_in (List.mem_append_right _ (show _ ∈ tables_1 from (List.mem_append_right _ (List.mem_append_left _ (List.mem_of_getElem? (i := 110) (by decide +kernel)))))) (by decide +kernel), in_Way, ⟨by decide +kernel, by decide +kernel⟩, by decide⟩
theorem im_Way_pass : Cond.instanceMethod M_Way_pass.1 ∈ gx_T := gx_T_in (List.mem_append_right _ (show _ ∈ tables_1 from (List.mem_append_right _ (List.mem_append_left _ (List.mem_of_getElem? (i := 109) (by decide +kernel)))))) (by decide +kernel)
theorem se_Way_pass : Cond.selects M_Way_pass.1.cls M_Way_pass.1 M_Way_pass.1 ∈ gx_T := gx_T_in (List.mem_append_left _ (List.mem_of_getElem? (i := 8) (by decide +kernel))) (by decide +kernel)
abbrev M_Way_copySymbols : gx_M := (⟨"PostChain$Way", "copySymbols", "(LPostChain$Word;II)V"⟩, prog_8_method_7_code, 5, none)
theorem cs_Way_copySymbols : gx_cs M_Way_copySymbols := ⟨gx_T_in (List.mem_append_right _ (show _ ∈ tables_1 from (List.mem_append_right _ (List.mem_append_left _ (List.mem_of_getElem? (i := 114) (by decide +kernel)))))) (by decide +kernel), in_Way, ⟨by decide +kernel, by decide +kernel⟩, by decide⟩
theorem im_Way_copySymbols : Cond.instanceMethod M_Way_copySymbols.1 ∈ gx_T := gx_T_in (List.mem_append_right _ (show _ ∈ tables_1 from (List.mem_append_right _ (List.mem_append_left _ (List.mem_of_getElem? (i := 113) (by decide +kernel)))))) (by decide +kernel)
theorem se_Way_copySymbols : Cond.selects M_Way_copySymbols.1.cls M_Way_copySymbols.1 M_Way_copySymbols.1 ∈ gx_T := gx_T_in (List.mem_append_left _ (List.mem_of_getElem? (i := 9) (by decide +kernel))) (by decide +kernel)
abbrev M_Way_passShorter : gx_M := (⟨"PostChain$Way", "passShorter", "(LPostChain$Box;)V"⟩, prog_8_method_5_code, 6, none)
theorem cs_Way_passShorter : gx_cs M_Way_passShorter := ⟨gx_T_in (List.mem_append_right _ (show _ ∈ tables_1 from (List.mem_append_right _ (List.mem_append_left _ (List.mem_of_getElem? (i := 119) (by decide +kernel)))))) (by decide +kernel), in_Way, ⟨by decide +kernel, by decide +kernel⟩, by decide⟩
theorem im_Way_passShorter : Cond.instanceMethod M_Way_passShorter.1 ∈ gx_T := gx_T_in (List.mem_append_right _ (show _ ∈ tables_1 from (List.mem_append_right _ (List.mem_append_left _ (List.mem_of_getElem? (i := 118) (by decide +kernel)))))) (by decide +kernel)
theorem se_Way_passShorter : Cond.selects M_Way_passShorter.1.cls M_Way_passShorter.1 M_Way_passShorter.1 ∈ gx_T := gx_T_in (List.mem_append_left _ (List.mem_of_getElem? (i := 10) (by decide +kernel))) (by decide +kernel)
abbrev M_Box_firstEnding : gx_M := (⟨"PostChain$Box", "firstEnding", "()I"⟩, prog_2_method_7_code, 1, (some .int))
theorem cs_Box_firstEnding : gx_cs M_Box_firstEnding := ⟨gx_T_in (List.mem_append_right _ (show _ ∈ tables_1 from (List.mem_append_right _ (List.mem_append_left _ (List.mem_of_getElem? (i := 123) (by decide +kernel)))))) (by decide +kernel), in_Box, ⟨by decide +kernel, by decide +kernel⟩, by decide⟩
theorem im_Box_firstEnding : Cond.instanceMethod M_Box_firstEnding.1 ∈ gx_T := gx_T_in (List.mem_append_right _ (show _ ∈ tables_1 from (List.mem_append_right _ (List.mem_append_left _ (List.mem_of_getElem? (i := 121) (by decide +kernel)))))) (by decide +kernel)
theorem se_Box_firstEnding : Cond.selects M_Box_firstEnding.1.cls M_Box_firstEnding.1 M_Box_firstEnding.1 ∈ gx_T := gx_T_in (List.mem_append_right _ (show _ ∈ tables_1 from (List.mem_append_right _ (List.mem_append_left _ (List.mem_of_getElem? (i := 122) (by decide +kernel)))))) (by decide +kernel)
abbrev M_Word_remove : gx_M := (⟨"PostChain$Word", "remove", "(I)V"⟩, prog_9_method_9_code, 3, none)
theorem cs_Word_remove : gx_cs M_Word_remove := ⟨gx_T_in (List.mem_append_right _ (show _ ∈ tables_1 from (List.mem_append_right _ (List.mem_append_left _ (List.mem_of_getElem? (i := 129) (by decide +kernel)))))) (by decide +kernel), in_Word, ⟨by decide +kernel, by decide +kernel⟩, by decide⟩
theorem im_Word_remove : Cond.instanceMethod M_Word_remove.1 ∈ gx_T := gx_T_in (List.mem_append_right _ (show _ ∈ tables_1 from (List.mem_append_right _ (List.mem_append_left _ (List.mem_of_getElem? (i := 127) (by decide +kernel)))))) (by decide +kernel)
theorem se_Word_remove : Cond.selects M_Word_remove.1.cls M_Word_remove.1 M_Word_remove.1 ∈ gx_T := gx_T_in (List.mem_append_right _ (show _ ∈ tables_1 from (List.mem_append_right _ (List.mem_append_left _ (List.mem_of_getElem? (i := 128) (by decide +kernel)))))) (by decide +kernel)
abbrev M_Box_size : gx_M := (⟨"PostChain$Box", "size", "()I"⟩, prog_2_method_2_code, 1, (some .int))
theorem cs_Box_size : gx_cs M_Box_size := ⟨gx_T_in (List.mem_append_right _ (show _ ∈ tables_1 from (List.mem_append_right _ (List.mem_append_left _ (List.mem_of_getElem? (i := 133) (by decide +kernel)))))) (by decide +kernel), in_Box, ⟨by decide +kernel, by decide +kernel⟩, by decide⟩
theorem im_Box_size : Cond.instanceMethod M_Box_size.1 ∈ gx_T := gx_T_in (List.mem_append_right _ (show _ ∈ tables_1 from (List.mem_append_right _ (List.mem_append_left _ (List.mem_of_getElem? (i := 131) (by decide +kernel)))))) (by decide +kernel)
theorem se_Box_size : Cond.selects M_Box_size.1.cls M_Box_size.1 M_Box_size.1 ∈ gx_T := gx_T_in (List.mem_append_right _ (show _ ∈ tables_1 from (List.mem_append_right _ (List.mem_append_left _ (List.mem_of_getElem? (i := 132) (by decide +kernel)))))) (by decide +kernel)
abbrev M_Hunt_forget : gx_M := (⟨"PostChain$Hunt", "forget", "()V"⟩, prog_4_method_3_code, 1, none)
theorem cs_Hunt_forget : gx_cs M_Hunt_forget := ⟨gx_T_in (List.mem_append_right _ (show _ ∈ tables_1 from (List.mem_append_right _ (List.mem_append_left _ (List.mem_of_getElem? (i := 137) (by decide +kernel)))))) (by decide +kernel), in_Hunt, ⟨by decide +kernel, by decide +kernel⟩, by decide⟩
theorem im_Hunt_forget : Cond.instanceMethod M_Hunt_forget.1 ∈ gx_T := gx_T_in (List.mem_append_right _ (show _ ∈ tables_1 from (List.mem_append_right _ (List.mem_append_left _ (List.mem_of_getElem? (i := 135) (by decide +kernel)))))) (by decide +kernel)
theorem se_Hunt_forget : Cond.selects M_Hunt_forget.1.cls M_Hunt_forget.1 M_Hunt_forget.1 ∈ gx_T := gx_T_in (List.mem_append_right _ (show _ ∈ tables_1 from (List.mem_append_right _ (List.mem_append_left _ (List.mem_of_getElem? (i := 136) (by decide +kernel)))))) (by decide +kernel)
abbrev M_PC_steps : gx_M := (⟨"PostChain", "steps", "()I"⟩, prog_1_method_5_code, 1, (some .int))
theorem cs_PC_steps : gx_cs M_PC_steps := ⟨gx_T_in (List.mem_append_right _ (show _ ∈ tables_1 from (List.mem_append_right _ (List.mem_append_left _ (List.mem_of_getElem? (i := 171) (by decide +kernel)))))) (by decide +kernel), in_PC, ⟨by decide +kernel, by decide +kernel⟩, by decide⟩
theorem im_PC_steps : Cond.instanceMethod M_PC_steps.1 ∈ gx_T := gx_T_in (List.mem_append_right _ (show _ ∈ tables_1 from (List.mem_append_right _ (List.mem_append_left _ (List.mem_of_getElem? (i := 169) (by decide +kernel)))))) (by decide +kernel)
theorem se_PC_steps : Cond.selects M_PC_steps.1.cls M_PC_steps.1 M_PC_steps.1 ∈ gx_T := gx_T_in (List.mem_append_right _ (show _ ∈ tables_1 from (List.mem_append_right _ (List.mem_append_left _ (List.mem_of_getElem? (i := 170) (by decide +kernel)))))) (by decide +kernel)
abbrev M_PC_halts : gx_M := (⟨"PostChain", "halts", "()Z"⟩, prog_1_method_6_code, 1, (some .boolean))
theorem cs_PC_halts : gx_cs M_PC_halts := ⟨gx_T_in (List.mem_append_right _ (show _ ∈ tables_1 from (List.mem_append_right _ (List.mem_append_left _ (List.mem_of_getElem? (i := 176) (by decide +kernel)))))) (by decide +kernel), in_PC, ⟨by decide +kernel, by decide +kernel⟩, by decide⟩
theorem im_PC_halts : Cond.instanceMethod M_PC_halts.1 ∈ gx_T := gx_T_in (List.mem_append_right _ (show _ ∈ tables_1 from (List.mem_append_right _ (List.mem_append_left _ (List.mem_of_getElem? (i := 174) (by decide +kernel)))))) (by decide +kernel)
theorem se_PC_halts : Cond.selects M_PC_halts.1.cls M_PC_halts.1 M_PC_halts.1 ∈ gx_T := gx_T_in (List.mem_append_right _ (show _ ∈ tables_1 from (List.mem_append_right _ (List.mem_append_left _ (List.mem_of_getElem? (i := 175) (by decide +kernel)))))) (by decide +kernel)
abbrev M_PC_run : gx_M := (⟨"PostChain", "run", "(II)I"⟩, prog_1_method_7_code, 3, (some .int))
theorem cs_PC_run : gx_cs M_PC_run := ⟨gx_T_in (List.mem_append_right _ (show _ ∈ tables_1 from (List.mem_append_right _ (List.mem_append_left _ (List.mem_of_getElem? (i := 181) (by decide +kernel)))))) (by decide +kernel), in_PC, ⟨by decide +kernel, by decide +kernel⟩, by decide⟩
theorem im_PC_run : Cond.instanceMethod M_PC_run.1 ∈ gx_T := gx_T_in (List.mem_append_right _ (show _ ∈ tables_1 from (List.mem_append_right _ (List.mem_append_left _ (List.mem_of_getElem? (i := 179) (by decide +kernel)))))) (by decide +kernel)
theorem se_PC_run : Cond.selects M_PC_run.1.cls M_PC_run.1 M_PC_run.1 ∈ gx_T := gx_T_in (List.mem_append_right _ (show _ ∈ tables_1 from (List.mem_append_right _ (List.mem_append_left _ (List.mem_of_getElem? (i := 180) (by decide +kernel)))))) (by decide +kernel)
abbrev M_Word_ask : gx_M := (⟨"PostChain$Word", "ask", "(I)I"⟩, prog_9_method_4_code, 2, (some .int))
theorem cs_Word_ask : gx_cs M_Word_ask := ⟨gx_T_in (List.mem_append_right _ (show _ ∈ tables_1 from (List.mem_append_right _ (List.mem_append_left _ (List.mem_of_getElem? (i := 186) (by decide +kernel)))))) (by decide +kernel), in_Word, ⟨by decide +kernel, by decide +kernel⟩, by decide⟩
theorem im_Word_ask : Cond.instanceMethod M_Word_ask.1 ∈ gx_T := gx_T_in (List.mem_append_right _ (show _ ∈ tables_1 from (List.mem_append_right _ (List.mem_append_left _ (List.mem_of_getElem? (i := 184) (by decide +kernel)))))) (by decide +kernel)
theorem se_Word_ask : Cond.selects M_Word_ask.1.cls M_Word_ask.1 M_Word_ask.1 ∈ gx_T := gx_T_in (List.mem_append_right _ (show _ ∈ tables_1 from (List.mem_append_right _ (List.mem_append_left _ (List.mem_of_getElem? (i := 185) (by decide +kernel)))))) (by decide +kernel)
abbrev M_PC_dominoes : gx_M := (⟨"PostChain", "dominoes", "()I"⟩, prog_1_method_8_code, 1, (some .int))
theorem cs_PC_dominoes : gx_cs M_PC_dominoes := ⟨gx_T_in (List.mem_append_right _ (show _ ∈ tables_1 from (List.mem_append_right _ (List.mem_append_left _ (List.mem_of_getElem? (i := 190) (by decide +kernel)))))) (by decide +kernel), in_PC, ⟨by decide +kernel, by decide +kernel⟩, by decide⟩
theorem im_PC_dominoes : Cond.instanceMethod M_PC_dominoes.1 ∈ gx_T := gx_T_in (List.mem_append_right _ (show _ ∈ tables_1 from (List.mem_append_right _ (List.mem_append_left _ (List.mem_of_getElem? (i := 188) (by decide +kernel)))))) (by decide +kernel)
theorem se_PC_dominoes : Cond.selects M_PC_dominoes.1.cls M_PC_dominoes.1 M_PC_dominoes.1 ∈ gx_T := gx_T_in (List.mem_append_right _ (show _ ∈ tables_1 from (List.mem_append_right _ (List.mem_append_left _ (List.mem_of_getElem? (i := 189) (by decide +kernel)))))) (by decide +kernel)
abbrev M_PC_domino : gx_M := (⟨"PostChain", "domino", "(IZI)I"⟩, prog_1_method_9_code, 4, (some .int))
theorem cs_PC_domino : gx_cs M_PC_domino := ⟨gx_T_in (List.mem_append_right _ (show _ ∈ tables_1 from (List.mem_append_right _ (List.mem_append_left _ (List.mem_of_getElem? (i := 195) (by decide +kernel)))))) (by decide +kernel), in_PC, ⟨by decide +kernel, by decide +kernel⟩, by decide⟩
theorem im_PC_domino : Cond.instanceMethod M_PC_domino.1 ∈ gx_T := gx_T_in (List.mem_append_right _ (show _ ∈ tables_1 from (List.mem_append_right _ (List.mem_append_left _ (List.mem_of_getElem? (i := 193) (by decide +kernel)))))) (by decide +kernel)
theorem se_PC_domino : Cond.selects M_PC_domino.1.cls M_PC_domino.1 M_PC_domino.1 ∈ gx_T := gx_T_in (List.mem_append_right _ (show _ ∈ tables_1 from (List.mem_append_right _ (List.mem_append_left _ (List.mem_of_getElem? (i := 194) (by decide +kernel)))))) (by decide +kernel)
abbrev M_Box_has : gx_M := (⟨"PostChain$Box", "has", "(I)Z"⟩, prog_2_method_3_code, 2, (some .boolean))
theorem cs_Box_has : gx_cs M_Box_has := ⟨gx_T_in (List.mem_append_right _ (show _ ∈ tables_1 from (List.mem_append_right _ (List.mem_append_left _ (List.mem_of_getElem? (i := 199) (by decide +kernel)))))) (by decide +kernel), in_Box, ⟨by decide +kernel, by decide +kernel⟩, by decide⟩
theorem im_Box_has : Cond.instanceMethod M_Box_has.1 ∈ gx_T := gx_T_in (List.mem_append_right _ (show _ ∈ tables_1 from (List.mem_append_right _ (List.mem_append_left _ (List.mem_of_getElem? (i := 197) (by decide +kernel)))))) (by decide +kernel)
theorem se_Box_has : Cond.selects M_Box_has.1.cls M_Box_has.1 M_Box_has.1 ∈ gx_T := gx_T_in (List.mem_append_right _ (show _ ∈ tables_1 from (List.mem_append_right _ (List.mem_append_left _ (List.mem_of_getElem? (i := 198) (by decide +kernel)))))) (by decide +kernel)
abbrev M_Box_get : gx_M := (⟨"PostChain$Box", "get", "(I)LPostChain$Domino;"⟩, prog_2_method_4_code, 2, (some ( .object "PostChain$Domino")))
theorem cs_Box_get : gx_cs M_Box_get := ⟨gx_T_in (List.mem_append_right _ (show _ ∈ tables_1 from (List.mem_append_right _ (List.mem_append_left _ (List.mem_of_getElem? (i := 203) (by decide +kernel)))))) (by decide +kernel), in_Box, ⟨by decide +kernel, by decide +kernel⟩, by decide⟩
theorem im_Box_get : Cond.instanceMethod M_Box_get.1 ∈ gx_T := gx_T_in (List.mem_append_right _ (show _ ∈ tables_1 from (List.mem_append_right _ (List.mem_append_left _ (List.mem_of_getElem? (i := 201) (by decide +kernel)))))) (by decide +kernel)
theorem se_Box_get : Cond.selects M_Box_get.1.cls M_Box_get.1 M_Box_get.1 ∈ gx_T := gx_T_in (List.mem_append_right _ (show _ ∈ tables_1 from (List.mem_append_right _ (List.mem_append_left _ (List.mem_of_getElem? (i := 202) (by decide +kernel)))))) (by decide +kernel)
abbrev M_PC_lay : gx_M := (⟨"PostChain", "lay", "(I)I"⟩, prog_1_method_11_code, 2, (some .int))
theorem cs_PC_lay : gx_cs M_PC_lay := ⟨gx_T_in (List.mem_append_right _ (show _ ∈ tables_1 from (List.mem_append_right _ (List.mem_append_left _ (List.mem_of_getElem? (i := 208) (by decide +kernel)))))) (by decide +kernel), in_PC, ⟨by decide +kernel, by decide +kernel⟩, by decide⟩
theorem im_PC_lay : Cond.instanceMethod M_PC_lay.1 ∈ gx_T := gx_T_in (List.mem_append_right _ (show _ ∈ tables_1 from (List.mem_append_right _ (List.mem_append_left _ (List.mem_of_getElem? (i := 206) (by decide +kernel)))))) (by decide +kernel)
theorem se_PC_lay : Cond.selects M_PC_lay.1.cls M_PC_lay.1 M_PC_lay.1 ∈ gx_T := gx_T_in (List.mem_append_right _ (show _ ∈ tables_1 from (List.mem_append_right _ (List.mem_append_left _ (List.mem_of_getElem? (i := 207) (by decide +kernel)))))) (by decide +kernel)
abbrev M_Row_size : gx_M := (⟨"PostChain$Row", "size", "()I"⟩, prog_6_method_2_code, 1, (some .int))
theorem cs_Row_size : gx_cs M_Row_size := ⟨gx_T_in (List.mem_append_right _ (show _ ∈ tables_1 from (List.mem_append_right _ (List.mem_append_left _ (List.mem_of_getElem? (i := 212) (by decide +kernel)))))) (by decide +kernel), in_Row, ⟨by decide +kernel, by decide +kernel⟩, by decide⟩
theorem im_Row_size : Cond.instanceMethod M_Row_size.1 ∈ gx_T := gx_T_in (List.mem_append_right _ (show _ ∈ tables_1 from (List.mem_append_right _ (List.mem_append_left _ (List.mem_of_getElem? (i := 210) (by decide +kernel)))))) (by decide +kernel)
theorem se_Row_size : Cond.selects M_Row_size.1.cls M_Row_size.1 M_Row_size.1 ∈ gx_T := gx_T_in (List.mem_append_right _ (show _ ∈ tables_1 from (List.mem_append_right _ (List.mem_append_left _ (List.mem_of_getElem? (i := 211) (by decide +kernel)))))) (by decide +kernel)
abbrev M_PC_clear : gx_M := (⟨"PostChain", "clear", "()V"⟩, prog_1_method_13_code, 1, none)
theorem cs_PC_clear : gx_cs M_PC_clear := ⟨gx_T_in (List.mem_append_right _ (show _ ∈ tables_1 from (List.mem_append_right _ (List.mem_append_left _ (List.mem_of_getElem? (i := 217) (by decide +kernel)))))) (by decide +kernel), in_PC, ⟨by decide +kernel, by decide +kernel⟩, by decide⟩
theorem im_PC_clear : Cond.instanceMethod M_PC_clear.1 ∈ gx_T := gx_T_in (List.mem_append_right _ (show _ ∈ tables_1 from (List.mem_append_right _ (List.mem_append_left _ (List.mem_of_getElem? (i := 215) (by decide +kernel)))))) (by decide +kernel)
theorem se_PC_clear : Cond.selects M_PC_clear.1.cls M_PC_clear.1 M_PC_clear.1 ∈ gx_T := gx_T_in (List.mem_append_right _ (show _ ∈ tables_1 from (List.mem_append_right _ (List.mem_append_left _ (List.mem_of_getElem? (i := 216) (by decide +kernel)))))) (by decide +kernel)
abbrev M_PC_tray : gx_M := (⟨"PostChain", "tray", "()I"⟩, prog_1_method_14_code, 1, (some .int))
theorem cs_PC_tray : gx_cs M_PC_tray := ⟨gx_T_in (List.mem_append_right _ (show _ ∈ tables_1 from (List.mem_append_right _ (List.mem_append_left _ (List.mem_of_getElem? (i := 221) (by decide +kernel)))))) (by decide +kernel), in_PC, ⟨by decide +kernel, by decide +kernel⟩, by decide⟩
theorem im_PC_tray : Cond.instanceMethod M_PC_tray.1 ∈ gx_T := gx_T_in (List.mem_append_right _ (show _ ∈ tables_1 from (List.mem_append_right _ (List.mem_append_left _ (List.mem_of_getElem? (i := 219) (by decide +kernel)))))) (by decide +kernel)
theorem se_PC_tray : Cond.selects M_PC_tray.1.cls M_PC_tray.1 M_PC_tray.1 ∈ gx_T := gx_T_in (List.mem_append_right _ (show _ ∈ tables_1 from (List.mem_append_right _ (List.mem_append_left _ (List.mem_of_getElem? (i := 220) (by decide +kernel)))))) (by decide +kernel)
abbrev M_PC_spellLaid : gx_M := (⟨"PostChain", "spellLaid", "()V"⟩, prog_1_method_21_code, 3, none)
theorem cs_PC_spellLaid : gx_cs M_PC_spellLaid := ⟨gx_T_in (List.mem_append_right _ (show _ ∈ tables_1 from (List.mem_append_right _ (List.mem_append_left _ (List.mem_of_getElem? (i := 225) (by decide +kernel)))))) (by decide +kernel), in_PC, ⟨by decide +kernel, by decide +kernel⟩, by decide⟩
theorem im_PC_spellLaid : Cond.instanceMethod M_PC_spellLaid.1 ∈ gx_T := gx_T_in (List.mem_append_right _ (show _ ∈ tables_1 from (List.mem_append_right _ (List.mem_append_left _ (List.mem_of_getElem? (i := 224) (by decide +kernel)))))) (by decide +kernel)
theorem se_PC_spellLaid : Cond.selects M_PC_spellLaid.1.cls M_PC_spellLaid.1 M_PC_spellLaid.1 ∈ gx_T := gx_T_in (List.mem_append_left _ (List.mem_of_getElem? (i := 11) (by decide +kernel))) (by decide +kernel)
abbrev M_Row_ask : gx_M := (⟨"PostChain$Row", "ask", "(I)I"⟩, prog_6_method_3_code, 2, (some .int))
theorem cs_Row_ask : gx_cs M_Row_ask := ⟨gx_T_in (List.mem_append_right _ (show _ ∈ tables_1 from (List.mem_append_right _ (List.mem_append_left _ (List.mem_of_getElem? (i := 229) (by decide +kernel)))))) (by decide +kernel), in_Row, ⟨by decide +kernel, by decide +kernel⟩, by decide⟩
theorem im_Row_ask : Cond.instanceMethod M_Row_ask.1 ∈ gx_T := gx_T_in (List.mem_append_right _ (show _ ∈ tables_1 from (List.mem_append_right _ (List.mem_append_left _ (List.mem_of_getElem? (i := 227) (by decide +kernel)))))) (by decide +kernel)
theorem se_Row_ask : Cond.selects M_Row_ask.1.cls M_Row_ask.1 M_Row_ask.1 ∈ gx_T := gx_T_in (List.mem_append_right _ (show _ ∈ tables_1 from (List.mem_append_right _ (List.mem_append_left _ (List.mem_of_getElem? (i := 228) (by decide +kernel)))))) (by decide +kernel)
abbrev M_Word_agrees : gx_M := (⟨"PostChain$Word", "agrees", "(LPostChain$Word;)Z"⟩, prog_9_method_10_code, 4, (some .boolean))
theorem cs_Word_agrees : gx_cs M_Word_agrees := ⟨gx_T_in (List.mem_append_right _ (show _ ∈ tables_1 from (List.mem_append_right _ (List.mem_append_left _ (List.mem_of_getElem? (i := 235) (by decide +kernel)))))) (by decide +kernel), in_Word, ⟨by decide +kernel, by decide +kernel⟩, by decide⟩
theorem im_Word_agrees : Cond.instanceMethod M_Word_agrees.1 ∈ gx_T := gx_T_in (List.mem_append_right _ (show _ ∈ tables_1 from (List.mem_append_right _ (List.mem_append_left _ (List.mem_of_getElem? (i := 233) (by decide +kernel)))))) (by decide +kernel)
theorem se_Word_agrees : Cond.selects M_Word_agrees.1.cls M_Word_agrees.1 M_Word_agrees.1 ∈ gx_T := gx_T_in (List.mem_append_right _ (show _ ∈ tables_1 from (List.mem_append_right _ (List.mem_append_left _ (List.mem_of_getElem? (i := 234) (by decide +kernel)))))) (by decide +kernel)
abbrev M_Word_same : gx_M := (⟨"PostChain$Word", "same", "(LPostChain$Word;)Z"⟩, prog_9_method_11_code, 2, (some .boolean))
theorem cs_Word_same : gx_cs M_Word_same := ⟨gx_T_in (List.mem_append_right _ (show _ ∈ tables_1 from (List.mem_append_right _ (List.mem_append_right _ (List.mem_append_left _ (List.mem_of_getElem? (i := 0) (by decide +kernel))))))) (by decide +kernel), in_Word, ⟨by decide +kernel, by decide +kernel⟩, by decide⟩
theorem im_Word_same : Cond.instanceMethod M_Word_same.1 ∈ gx_T := gx_T_in (List.mem_append_right _ (show _ ∈ tables_1 from (List.mem_append_right _ (List.mem_append_left _ (List.mem_of_getElem? (i := 238) (by decide +kernel)))))) (by decide +kernel)
theorem se_Word_same : Cond.selects M_Word_same.1.cls M_Word_same.1 M_Word_same.1 ∈ gx_T := gx_T_in (List.mem_append_right _ (show _ ∈ tables_1 from (List.mem_append_right _ (List.mem_append_left _ (List.mem_of_getElem? (i := 239) (by decide +kernel)))))) (by decide +kernel)
abbrev M_PC_back : gx_M := (⟨"PostChain", "back", "()I"⟩, prog_1_method_15_code, 1, (some .int))
theorem cs_PC_back : gx_cs M_PC_back := ⟨gx_T_in (List.mem_append_right _ (show _ ∈ tables_1 from (List.mem_append_right _ (List.mem_append_right _ (List.mem_append_left _ (List.mem_of_getElem? (i := 5) (by decide +kernel))))))) (by decide +kernel), in_PC, ⟨by decide +kernel, by decide +kernel⟩, by decide⟩
theorem im_PC_back : Cond.instanceMethod M_PC_back.1 ∈ gx_T := gx_T_in (List.mem_append_right _ (show _ ∈ tables_1 from (List.mem_append_right _ (List.mem_append_right _ (List.mem_append_left _ (List.mem_of_getElem? (i := 3) (by decide +kernel))))))) (by decide +kernel)
theorem se_PC_back : Cond.selects M_PC_back.1.cls M_PC_back.1 M_PC_back.1 ∈ gx_T := gx_T_in (List.mem_append_right _ (show _ ∈ tables_1 from (List.mem_append_right _ (List.mem_append_right _ (List.mem_append_left _ (List.mem_of_getElem? (i := 4) (by decide +kernel))))))) (by decide +kernel)
abbrev M_PC_hashesAheadOfHalt : gx_M := (⟨"PostChain", "hashesAheadOfHalt", "(LPostChain$Word;)I"⟩, prog_1_method_22_code, 3, (some .int))
theorem cs_PC_hashesAheadOfHalt : gx_cs M_PC_hashesAheadOfHalt := ⟨gx_T_in (List.mem_append_right _ (show _ ∈ tables_1 from (List.mem_append_right _ (List.mem_append_right _ (List.mem_append_left _ (List.mem_of_getElem? (i := 9) (by decide +kernel))))))) (by decide +kernel), in_PC, ⟨by decide +kernel, by decide +kernel⟩, by decide⟩
theorem st_PC_hashesAheadOfHalt : Cond.static M_PC_hashesAheadOfHalt.1 ∈ gx_T := gx_T_in (List.mem_append_right _ (show _ ∈ tables_1 from (List.mem_append_right _ (List.mem_append_right _ (List.mem_append_left _ (List.mem_of_getElem? (i := 8) (by decide +kernel))))))) (by decide +kernel)
abbrev M_PC_type : gx_M := (⟨"PostChain", "type", "(J)Z"⟩, prog_1_method_16_code, 6, (some .boolean))
theorem cs_PC_type : gx_cs M_PC_type := ⟨gx_T_in (List.mem_append_right _ (show _ ∈ tables_1 from (List.mem_append_right _ (List.mem_append_right _ (List.mem_append_left _ (List.mem_of_getElem? (i := 15) (by decide +kernel))))))) (by decide +kernel), in_PC, ⟨by decide +kernel, by decide +kernel⟩, by decide⟩
theorem im_PC_type : Cond.instanceMethod M_PC_type.1 ∈ gx_T := gx_T_in (List.mem_append_right _ (show _ ∈ tables_1 from (List.mem_append_right _ (List.mem_append_right _ (List.mem_append_left _ (List.mem_of_getElem? (i := 13) (by decide +kernel))))))) (by decide +kernel)
theorem se_PC_type : Cond.selects M_PC_type.1.cls M_PC_type.1 M_PC_type.1 ∈ gx_T := gx_T_in (List.mem_append_right _ (show _ ∈ tables_1 from (List.mem_append_right _ (List.mem_append_right _ (List.mem_append_left _ (List.mem_of_getElem? (i := 14) (by decide +kernel))))))) (by decide +kernel)
abbrev M_PC_byteOf : gx_M := (⟨"PostChain", "byteOf", "(JI)C"⟩, prog_1_method_23_code, 3, (some .char))
theorem cs_PC_byteOf : gx_cs M_PC_byteOf := ⟨gx_T_in (List.mem_append_right _ (show _ ∈ tables_1 from (List.mem_append_right _ (List.mem_append_right _ (List.mem_append_left _ (List.mem_of_getElem? (i := 18) (by decide +kernel))))))) (by decide +kernel), in_PC, ⟨by decide +kernel, by decide +kernel⟩, by decide⟩
theorem st_PC_byteOf : Cond.static M_PC_byteOf.1 ∈ gx_T := gx_T_in (List.mem_append_right _ (show _ ∈ tables_1 from (List.mem_append_right _ (List.mem_append_right _ (List.mem_append_left _ (List.mem_of_getElem? (i := 17) (by decide +kernel))))))) (by decide +kernel)
abbrev M_PC_trees : gx_M := (⟨"PostChain", "trees", "()I"⟩, prog_1_method_17_code, 1, (some .int))
theorem cs_PC_trees : gx_cs M_PC_trees := ⟨gx_T_in (List.mem_append_right _ (show _ ∈ tables_1 from (List.mem_append_right _ (List.mem_append_right _ (List.mem_append_left _ (List.mem_of_getElem? (i := 108) (by decide +kernel))))))) (by decide +kernel), in_PC, ⟨by decide +kernel, by decide +kernel⟩, by decide⟩
theorem im_PC_trees : Cond.instanceMethod M_PC_trees.1 ∈ gx_T := gx_T_in (List.mem_append_right _ (show _ ∈ tables_1 from (List.mem_append_right _ (List.mem_append_right _ (List.mem_append_left _ (List.mem_of_getElem? (i := 106) (by decide +kernel))))))) (by decide +kernel)
theorem se_PC_trees : Cond.selects M_PC_trees.1.cls M_PC_trees.1 M_PC_trees.1 ∈ gx_T := gx_T_in (List.mem_append_right _ (show _ ∈ tables_1 from (List.mem_append_right _ (List.mem_append_right _ (List.mem_append_left _ (List.mem_of_getElem? (i := 107) (by decide +kernel))))))) (by decide +kernel)
abbrev M_PC_search : gx_M := (⟨"PostChain", "search", "(I)I"⟩, prog_1_method_18_code, 3, (some .int))
theorem cs_PC_search : gx_cs M_PC_search := ⟨gx_T_in (List.mem_append_right _ (show _ ∈ tables_1 from (List.mem_append_right _ (List.mem_append_right _ (List.mem_append_left _ (List.mem_of_getElem? (i := 112) (by decide +kernel))))))) (by decide +kernel), in_PC, ⟨by decide +kernel, by decide +kernel⟩, by decide⟩
theorem im_PC_search : Cond.instanceMethod M_PC_search.1 ∈ gx_T := gx_T_in (List.mem_append_right _ (show _ ∈ tables_1 from (List.mem_append_right _ (List.mem_append_right _ (List.mem_append_left _ (List.mem_of_getElem? (i := 110) (by decide +kernel))))))) (by decide +kernel)
theorem se_PC_search : Cond.selects M_PC_search.1.cls M_PC_search.1 M_PC_search.1 ∈ gx_T := gx_T_in (List.mem_append_right _ (show _ ∈ tables_1 from (List.mem_append_right _ (List.mem_append_right _ (List.mem_append_left _ (List.mem_of_getElem? (i := 111) (by decide +kernel))))))) (by decide +kernel)
abbrev M_Hunt_look : gx_M := (⟨"PostChain$Hunt", "look", "(LPostChain$Box;I)I"⟩, prog_4_method_4_code, 4, (some .int))
theorem cs_Hunt_look : gx_cs M_Hunt_look := ⟨gx_T_in (List.mem_append_right _ (show _ ∈ tables_1 from (List.mem_append_right _ (List.mem_append_right _ (List.mem_append_left _ (List.mem_of_getElem? (i := 116) (by decide +kernel))))))) (by decide +kernel), in_Hunt, ⟨by decide +kernel, by decide +kernel⟩, by decide⟩
theorem im_Hunt_look : Cond.instanceMethod M_Hunt_look.1 ∈ gx_T := gx_T_in (List.mem_append_right _ (show _ ∈ tables_1 from (List.mem_append_right _ (List.mem_append_right _ (List.mem_append_left _ (List.mem_of_getElem? (i := 114) (by decide +kernel))))))) (by decide +kernel)
theorem se_Hunt_look : Cond.selects M_Hunt_look.1.cls M_Hunt_look.1 M_Hunt_look.1 ∈ gx_T := gx_T_in (List.mem_append_right _ (show _ ∈ tables_1 from (List.mem_append_right _ (List.mem_append_right _ (List.mem_append_left _ (List.mem_of_getElem? (i := 115) (by decide +kernel))))))) (by decide +kernel)
abbrev M_Hunt_keep : gx_M := (⟨"PostChain$Hunt", "keep", "(IILPostChain$Domino;)V"⟩, prog_4_method_9_code, 7, none)
theorem cs_Hunt_keep : gx_cs M_Hunt_keep := ⟨gx_T_in (List.mem_append_right _ (show _ ∈ tables_1 from (List.mem_append_right _ (List.mem_append_right _ (List.mem_append_left _ (List.mem_of_getElem? (i := 122) (by decide +kernel))))))) (by decide +kernel), in_Hunt, ⟨by decide +kernel, by decide +kernel⟩, by decide⟩
theorem im_Hunt_keep : Cond.instanceMethod M_Hunt_keep.1 ∈ gx_T := gx_T_in (List.mem_append_right _ (show _ ∈ tables_1 from (List.mem_append_right _ (List.mem_append_right _ (List.mem_append_left _ (List.mem_of_getElem? (i := 121) (by decide +kernel))))))) (by decide +kernel)
theorem se_Hunt_keep : Cond.selects M_Hunt_keep.1.cls M_Hunt_keep.1 M_Hunt_keep.1 ∈ gx_T := gx_T_in (List.mem_append_left _ (List.mem_of_getElem? (i := 12) (by decide +kernel))) (by decide +kernel)
abbrev M_Hunt_openOr : gx_M := (⟨"PostChain$Hunt", "openOr", "(LPostChain$Word;I)C"⟩, prog_4_method_10_code, 3, (some .char))
theorem cs_Hunt_openOr : gx_cs M_Hunt_openOr := ⟨gx_T_in (List.mem_append_right _ (show _ ∈ tables_1 from (List.mem_append_right _ (List.mem_append_right _ (List.mem_append_left _ (List.mem_of_getElem? (i := 128) (by decide +kernel))))))) (by decide +kernel), in_Hunt, ⟨by decide +kernel, by decide +kernel⟩, by decide⟩
theorem im_Hunt_openOr : Cond.instanceMethod M_Hunt_openOr.1 ∈ gx_T := gx_T_in (List.mem_append_right _ (show _ ∈ tables_1 from (List.mem_append_right _ (List.mem_append_right _ (List.mem_append_left _ (List.mem_of_getElem? (i := 127) (by decide +kernel))))))) (by decide +kernel)
theorem se_Hunt_openOr : Cond.selects M_Hunt_openOr.1.cls M_Hunt_openOr.1 M_Hunt_openOr.1 ∈ gx_T := gx_T_in (List.mem_append_left _ (List.mem_of_getElem? (i := 13) (by decide +kernel))) (by decide +kernel)
abbrev M_Hunt_goOn : gx_M := (⟨"PostChain$Hunt", "goOn", "(ILPostChain$Box;)V"⟩, prog_4_method_7_code, 4, none)
theorem cs_Hunt_goOn : gx_cs M_Hunt_goOn := ⟨gx_T_in (List.mem_append_right _ (show _ ∈ tables_1 from (List.mem_append_right _ (List.mem_append_right _ (List.mem_append_left _ (List.mem_of_getElem? (i := 133) (by decide +kernel))))))) (by decide +kernel), in_Hunt, ⟨by decide +kernel, by decide +kernel⟩, by decide⟩
theorem im_Hunt_goOn : Cond.instanceMethod M_Hunt_goOn.1 ∈ gx_T := gx_T_in (List.mem_append_right _ (show _ ∈ tables_1 from (List.mem_append_right _ (List.mem_append_right _ (List.mem_append_left _ (List.mem_of_getElem? (i := 132) (by decide +kernel))))))) (by decide +kernel)
theorem se_Hunt_goOn : Cond.selects M_Hunt_goOn.1.cls M_Hunt_goOn.1 M_Hunt_goOn.1 ∈ gx_T := gx_T_in (List.mem_append_left _ (List.mem_of_getElem? (i := 14) (by decide +kernel))) (by decide +kernel)
abbrev M_Hunt_fits : gx_M := (⟨"PostChain$Hunt", "fits", "(LPostChain$Domino;)Z"⟩, prog_4_method_8_code, 4, (some .boolean))
theorem cs_Hunt_fits : gx_cs M_Hunt_fits := ⟨gx_T_in (List.mem_append_right _ (show _ ∈ tables_1 from (List.mem_append_right _ (List.mem_append_right _ (List.mem_append_left _ (List.mem_of_getElem? (i := 139) (by decide +kernel))))))) (by decide +kernel), in_Hunt, ⟨by decide +kernel, by decide +kernel⟩, by decide⟩
theorem im_Hunt_fits : Cond.instanceMethod M_Hunt_fits.1 ∈ gx_T := gx_T_in (List.mem_append_right _ (show _ ∈ tables_1 from (List.mem_append_right _ (List.mem_append_right _ (List.mem_append_left _ (List.mem_of_getElem? (i := 138) (by decide +kernel))))))) (by decide +kernel)
theorem se_Hunt_fits : Cond.selects M_Hunt_fits.1.cls M_Hunt_fits.1 M_Hunt_fits.1 ∈ gx_T := gx_T_in (List.mem_append_left _ (List.mem_of_getElem? (i := 15) (by decide +kernel))) (by decide +kernel)
abbrev M_Hunt_foundSize : gx_M := (⟨"PostChain$Hunt", "foundSize", "()I"⟩, prog_4_method_5_code, 1, (some .int))
theorem cs_Hunt_foundSize : gx_cs M_Hunt_foundSize := ⟨gx_T_in (List.mem_append_right _ (show _ ∈ tables_1 from (List.mem_append_right _ (List.mem_append_right _ (List.mem_append_left _ (List.mem_of_getElem? (i := 143) (by decide +kernel))))))) (by decide +kernel), in_Hunt, ⟨by decide +kernel, by decide +kernel⟩, by decide⟩
theorem im_Hunt_foundSize : Cond.instanceMethod M_Hunt_foundSize.1 ∈ gx_T := gx_T_in (List.mem_append_right _ (show _ ∈ tables_1 from (List.mem_append_right _ (List.mem_append_right _ (List.mem_append_left _ (List.mem_of_getElem? (i := 141) (by decide +kernel))))))) (by decide +kernel)
theorem se_Hunt_foundSize : Cond.selects M_Hunt_foundSize.1.cls M_Hunt_foundSize.1 M_Hunt_foundSize.1 ∈ gx_T := gx_T_in (List.mem_append_right _ (show _ ∈ tables_1 from (List.mem_append_right _ (List.mem_append_right _ (List.mem_append_left _ (List.mem_of_getElem? (i := 142) (by decide +kernel))))))) (by decide +kernel)
abbrev M_Hunt_layFound : gx_M := (⟨"PostChain$Hunt", "layFound", "(LPostChain$Row;)V"⟩, prog_4_method_6_code, 4, none)
theorem cs_Hunt_layFound : gx_cs M_Hunt_layFound := ⟨gx_T_in (List.mem_append_right _ (show _ ∈ tables_1 from (List.mem_append_right _ (List.mem_append_right _ (List.mem_append_left _ (List.mem_of_getElem? (i := 147) (by decide +kernel))))))) (by decide +kernel), in_Hunt, ⟨by decide +kernel, by decide +kernel⟩, by decide⟩
theorem im_Hunt_layFound : Cond.instanceMethod M_Hunt_layFound.1 ∈ gx_T := gx_T_in (List.mem_append_right _ (show _ ∈ tables_1 from (List.mem_append_right _ (List.mem_append_right _ (List.mem_append_left _ (List.mem_of_getElem? (i := 145) (by decide +kernel))))))) (by decide +kernel)
theorem se_Hunt_layFound : Cond.selects M_Hunt_layFound.1.cls M_Hunt_layFound.1 M_Hunt_layFound.1 ∈ gx_T := gx_T_in (List.mem_append_right _ (show _ ∈ tables_1 from (List.mem_append_right _ (List.mem_append_right _ (List.mem_append_left _ (List.mem_of_getElem? (i := 146) (by decide +kernel))))))) (by decide +kernel)
abbrev M_Row_turn : gx_M := (⟨"PostChain$Row", "turn", "()V"⟩, prog_6_method_7_code, 3, none)
theorem cs_Row_turn : gx_cs M_Row_turn := ⟨gx_T_in (List.mem_append_right _ (show _ ∈ tables_1 from (List.mem_append_right _ (List.mem_append_right _ (List.mem_append_left _ (List.mem_of_getElem? (i := 154) (by decide +kernel))))))) (by decide +kernel), in_Row, ⟨by decide +kernel, by decide +kernel⟩, by decide⟩
theorem im_Row_turn : Cond.instanceMethod M_Row_turn.1 ∈ gx_T := gx_T_in (List.mem_append_right _ (show _ ∈ tables_1 from (List.mem_append_right _ (List.mem_append_right _ (List.mem_append_left _ (List.mem_of_getElem? (i := 152) (by decide +kernel))))))) (by decide +kernel)
theorem se_Row_turn : Cond.selects M_Row_turn.1.cls M_Row_turn.1 M_Row_turn.1 ∈ gx_T := gx_T_in (List.mem_append_right _ (show _ ∈ tables_1 from (List.mem_append_right _ (List.mem_append_right _ (List.mem_append_left _ (List.mem_of_getElem? (i := 153) (by decide +kernel))))))) (by decide +kernel)
abbrev M_PC_looked : gx_M := (⟨"PostChain", "looked", "()I"⟩, prog_1_method_19_code, 1, (some .int))
theorem cs_PC_looked : gx_cs M_PC_looked := ⟨gx_T_in (List.mem_append_right _ (show _ ∈ tables_1 from (List.mem_append_right _ (List.mem_append_right _ (List.mem_append_left _ (List.mem_of_getElem? (i := 158) (by decide +kernel))))))) (by decide +kernel), in_PC, ⟨by decide +kernel, by decide +kernel⟩, by decide⟩
theorem im_PC_looked : Cond.instanceMethod M_PC_looked.1 ∈ gx_T := gx_T_in (List.mem_append_right _ (show _ ∈ tables_1 from (List.mem_append_right _ (List.mem_append_right _ (List.mem_append_left _ (List.mem_of_getElem? (i := 156) (by decide +kernel))))))) (by decide +kernel)
theorem se_PC_looked : Cond.selects M_PC_looked.1.cls M_PC_looked.1 M_PC_looked.1 ∈ gx_T := gx_T_in (List.mem_append_right _ (show _ ∈ tables_1 from (List.mem_append_right _ (List.mem_append_right _ (List.mem_append_left _ (List.mem_of_getElem? (i := 157) (by decide +kernel))))))) (by decide +kernel)
abbrev M_Hunt_lookedAt : gx_M := (⟨"PostChain$Hunt", "lookedAt", "()I"⟩, prog_4_method_2_code, 1, (some .int))
theorem cs_Hunt_lookedAt : gx_cs M_Hunt_lookedAt := ⟨gx_T_in (List.mem_append_right _ (show _ ∈ tables_1 from (List.mem_append_right _ (List.mem_append_right _ (List.mem_append_left _ (List.mem_of_getElem? (i := 162) (by decide +kernel))))))) (by decide +kernel), in_Hunt, ⟨by decide +kernel, by decide +kernel⟩, by decide⟩
theorem im_Hunt_lookedAt : Cond.instanceMethod M_Hunt_lookedAt.1 ∈ gx_T := gx_T_in (List.mem_append_right _ (show _ ∈ tables_1 from (List.mem_append_right _ (List.mem_append_right _ (List.mem_append_left _ (List.mem_of_getElem? (i := 160) (by decide +kernel))))))) (by decide +kernel)
theorem se_Hunt_lookedAt : Cond.selects M_Hunt_lookedAt.1.cls M_Hunt_lookedAt.1 M_Hunt_lookedAt.1 ∈ gx_T := gx_T_in (List.mem_append_right _ (show _ ∈ tables_1 from (List.mem_append_right _ (List.mem_append_right _ (List.mem_append_left _ (List.mem_of_getElem? (i := 161) (by decide +kernel))))))) (by decide +kernel)
abbrev M_Law_rule : gx_M := (⟨"PostChainLaw", "rule", "(LPostChain;IIIZI[J)I"⟩, method_3_code, 8, (some .int))
abbrev M_PC_rule : gx_M := (⟨"PostChain", "rule", "(IIIZI)Z"⟩, prog_1_method_2_code, 6, (some .boolean))
theorem cs_PC_rule : gx_cs M_PC_rule := ⟨gx_T_in (List.mem_append_right _ (show _ ∈ tables_1 from (List.mem_append_right _ (List.mem_append_right _ (List.mem_append_left _ (List.mem_of_getElem? (i := 170) (by decide +kernel))))))) (by decide +kernel), in_PC, ⟨by decide +kernel, by decide +kernel⟩, by decide⟩
theorem im_PC_rule : Cond.instanceMethod M_PC_rule.1 ∈ gx_T := gx_T_in (List.mem_append_right _ (show _ ∈ tables_1 from (List.mem_append_right _ (List.mem_append_right _ (List.mem_append_left _ (List.mem_of_getElem? (i := 168) (by decide +kernel))))))) (by decide +kernel)
theorem se_PC_rule : Cond.selects M_PC_rule.1.cls M_PC_rule.1 M_PC_rule.1 ∈ gx_T := gx_T_in (List.mem_append_right _ (show _ ∈ tables_1 from (List.mem_append_right _ (List.mem_append_right _ (List.mem_append_left _ (List.mem_of_getElem? (i := 169) (by decide +kernel))))))) (by decide +kernel)
abbrev M_Machine_learn : gx_M := (⟨"PostChain$Machine", "learn", "(IIZI)Z"⟩, prog_5_method_2_code, 5, (some .boolean))
theorem cs_Machine_learn : gx_cs M_Machine_learn := ⟨gx_T_in (List.mem_append_right _ (show _ ∈ tables_1 from (List.mem_append_right _ (List.mem_append_right _ (List.mem_append_right _ (List.mem_append_left _ (List.mem_of_getElem? (i := 4) (by decide +kernel)))))))) (by decide +kernel), in_Machine, ⟨by decide +kernel, by decide +kernel⟩, by decide⟩
theorem im_Machine_learn : Cond.instanceMethod M_Machine_learn.1 ∈ gx_T := gx_T_in (List.mem_append_right _ (show _ ∈ tables_1 from (List.mem_append_right _ (List.mem_append_right _ (List.mem_append_right _ (List.mem_append_left _ (List.mem_of_getElem? (i := 2) (by decide +kernel)))))))) (by decide +kernel)
theorem se_Machine_learn : Cond.selects M_Machine_learn.1.cls M_Machine_learn.1 M_Machine_learn.1 ∈ gx_T := gx_T_in (List.mem_append_right _ (show _ ∈ tables_1 from (List.mem_append_right _ (List.mem_append_right _ (List.mem_append_right _ (List.mem_append_left _ (List.mem_of_getElem? (i := 3) (by decide +kernel)))))))) (by decide +kernel)
abbrev M_Law_drop : gx_M := (⟨"PostChainLaw", "drop", "(LPostChain;II[J)I"⟩, method_4_code, 5, (some .int))
abbrev M_PC_drop : gx_M := (⟨"PostChain", "drop", "(II)Z"⟩, prog_1_method_3_code, 3, (some .boolean))
theorem cs_PC_drop : gx_cs M_PC_drop := ⟨gx_T_in (List.mem_append_right _ (show _ ∈ tables_1 from (List.mem_append_right _ (List.mem_append_right _ (List.mem_append_right _ (List.mem_append_left _ (List.mem_of_getElem? (i := 11) (by decide +kernel)))))))) (by decide +kernel), in_PC, ⟨by decide +kernel, by decide +kernel⟩, by decide⟩
theorem im_PC_drop : Cond.instanceMethod M_PC_drop.1 ∈ gx_T := gx_T_in (List.mem_append_right _ (show _ ∈ tables_1 from (List.mem_append_right _ (List.mem_append_right _ (List.mem_append_right _ (List.mem_append_left _ (List.mem_of_getElem? (i := 9) (by decide +kernel)))))))) (by decide +kernel)
theorem se_PC_drop : Cond.selects M_PC_drop.1.cls M_PC_drop.1 M_PC_drop.1 ∈ gx_T := gx_T_in (List.mem_append_right _ (show _ ∈ tables_1 from (List.mem_append_right _ (List.mem_append_right _ (List.mem_append_right _ (List.mem_append_left _ (List.mem_of_getElem? (i := 10) (by decide +kernel)))))))) (by decide +kernel)
abbrev M_Machine_forget : gx_M := (⟨"PostChain$Machine", "forget", "(I)Z"⟩, prog_5_method_3_code, 3, (some .boolean))
theorem cs_Machine_forget : gx_cs M_Machine_forget := ⟨gx_T_in (List.mem_append_right _ (show _ ∈ tables_1 from (List.mem_append_right _ (List.mem_append_right _ (List.mem_append_right _ (List.mem_append_left _ (List.mem_of_getElem? (i := 15) (by decide +kernel)))))))) (by decide +kernel), in_Machine, ⟨by decide +kernel, by decide +kernel⟩, by decide⟩
theorem im_Machine_forget : Cond.instanceMethod M_Machine_forget.1 ∈ gx_T := gx_T_in (List.mem_append_right _ (show _ ∈ tables_1 from (List.mem_append_right _ (List.mem_append_right _ (List.mem_append_right _ (List.mem_append_left _ (List.mem_of_getElem? (i := 13) (by decide +kernel)))))))) (by decide +kernel)
theorem se_Machine_forget : Cond.selects M_Machine_forget.1.cls M_Machine_forget.1 M_Machine_forget.1 ∈ gx_T := gx_T_in (List.mem_append_right _ (show _ ∈ tables_1 from (List.mem_append_right _ (List.mem_append_right _ (List.mem_append_right _ (List.mem_append_left _ (List.mem_of_getElem? (i := 14) (by decide +kernel)))))))) (by decide +kernel)
abbrev M_Law_input : gx_M := (⟨"PostChainLaw", "input", "(LPostChain;II[J)I"⟩, method_5_code, 5, (some .int))
abbrev M_PC_input : gx_M := (⟨"PostChain", "input", "(II)Z"⟩, prog_1_method_4_code, 3, (some .boolean))
theorem cs_PC_input : gx_cs M_PC_input := ⟨gx_T_in (List.mem_append_right _ (show _ ∈ tables_1 from (List.mem_append_right _ (List.mem_append_right _ (List.mem_append_right _ (List.mem_append_left _ (List.mem_of_getElem? (i := 22) (by decide +kernel)))))))) (by decide +kernel), in_PC, ⟨by decide +kernel, by decide +kernel⟩, by decide⟩
theorem im_PC_input : Cond.instanceMethod M_PC_input.1 ∈ gx_T := gx_T_in (List.mem_append_right _ (show _ ∈ tables_1 from (List.mem_append_right _ (List.mem_append_right _ (List.mem_append_right _ (List.mem_append_left _ (List.mem_of_getElem? (i := 20) (by decide +kernel)))))))) (by decide +kernel)
theorem se_PC_input : Cond.selects M_PC_input.1.cls M_PC_input.1 M_PC_input.1 ∈ gx_T := gx_T_in (List.mem_append_right _ (show _ ∈ tables_1 from (List.mem_append_right _ (List.mem_append_right _ (List.mem_append_right _ (List.mem_append_left _ (List.mem_of_getElem? (i := 21) (by decide +kernel)))))))) (by decide +kernel)
abbrev M_Machine_take : gx_M := (⟨"PostChain$Machine", "take", "(II)V"⟩, prog_5_method_4_code, 5, none)
theorem cs_Machine_take : gx_cs M_Machine_take := ⟨gx_T_in (List.mem_append_right _ (show _ ∈ tables_1 from (List.mem_append_right _ (List.mem_append_right _ (List.mem_append_right _ (List.mem_append_left _ (List.mem_of_getElem? (i := 27) (by decide +kernel)))))))) (by decide +kernel), in_Machine, ⟨by decide +kernel, by decide +kernel⟩, by decide⟩
theorem im_Machine_take : Cond.instanceMethod M_Machine_take.1 ∈ gx_T := gx_T_in (List.mem_append_right _ (show _ ∈ tables_1 from (List.mem_append_right _ (List.mem_append_right _ (List.mem_append_right _ (List.mem_append_left _ (List.mem_of_getElem? (i := 25) (by decide +kernel)))))))) (by decide +kernel)
theorem se_Machine_take : Cond.selects M_Machine_take.1.cls M_Machine_take.1 M_Machine_take.1 ∈ gx_T := gx_T_in (List.mem_append_right _ (show _ ∈ tables_1 from (List.mem_append_right _ (List.mem_append_right _ (List.mem_append_right _ (List.mem_append_left _ (List.mem_of_getElem? (i := 26) (by decide +kernel)))))))) (by decide +kernel)
abbrev M_Law_way : gx_M := (⟨"PostChainLaw", "way", "(LPostChain;I[J)I"⟩, method_6_code, 4, (some .int))
abbrev M_PC_way : gx_M := (⟨"PostChain", "way", "(I)I"⟩, prog_1_method_10_code, 2, (some .int))
theorem cs_PC_way : gx_cs M_PC_way := ⟨gx_T_in (List.mem_append_right _ (show _ ∈ tables_1 from (List.mem_append_right _ (List.mem_append_right _ (List.mem_append_right _ (List.mem_append_left _ (List.mem_of_getElem? (i := 36) (by decide +kernel)))))))) (by decide +kernel), in_PC, ⟨by decide +kernel, by decide +kernel⟩, by decide⟩
theorem im_PC_way : Cond.instanceMethod M_PC_way.1 ∈ gx_T := gx_T_in (List.mem_append_right _ (show _ ∈ tables_1 from (List.mem_append_right _ (List.mem_append_right _ (List.mem_append_right _ (List.mem_append_left _ (List.mem_of_getElem? (i := 34) (by decide +kernel)))))))) (by decide +kernel)
theorem se_PC_way : Cond.selects M_PC_way.1.cls M_PC_way.1 M_PC_way.1 ∈ gx_T := gx_T_in (List.mem_append_right _ (show _ ∈ tables_1 from (List.mem_append_right _ (List.mem_append_right _ (List.mem_append_right _ (List.mem_append_left _ (List.mem_of_getElem? (i := 35) (by decide +kernel)))))))) (by decide +kernel)
abbrev M_Way_row : gx_M := (⟨"PostChain$Way", "row", "()LPostChain$Row;"⟩, prog_8_method_2_code, 1, (some ( .object "PostChain$Row")))
theorem cs_Way_row : gx_cs M_Way_row := ⟨gx_T_in (List.mem_append_right _ (show _ ∈ tables_1 from (List.mem_append_right _ (List.mem_append_right _ (List.mem_append_right _ (List.mem_append_left _ (List.mem_of_getElem? (i := 56) (by decide +kernel)))))))) (by decide +kernel), in_Way, ⟨by decide +kernel, by decide +kernel⟩, by decide⟩
theorem im_Way_row : Cond.instanceMethod M_Way_row.1 ∈ gx_T := gx_T_in (List.mem_append_right _ (show _ ∈ tables_1 from (List.mem_append_right _ (List.mem_append_right _ (List.mem_append_right _ (List.mem_append_left _ (List.mem_of_getElem? (i := 54) (by decide +kernel)))))))) (by decide +kernel)
theorem se_Way_row : Cond.selects M_Way_row.1.cls M_Way_row.1 M_Way_row.1 ∈ gx_T := gx_T_in (List.mem_append_right _ (show _ ∈ tables_1 from (List.mem_append_right _ (List.mem_append_right _ (List.mem_append_right _ (List.mem_append_left _ (List.mem_of_getElem? (i := 55) (by decide +kernel)))))))) (by decide +kernel)
abbrev M_Law_layWay : gx_M := (⟨"PostChainLaw", "layWay", "(LPostChain;[J)I"⟩, method_7_code, 3, (some .int))
abbrev M_PC_layWay : gx_M := (⟨"PostChain", "layWay", "()I"⟩, prog_1_method_12_code, 1, (some .int))
theorem cs_PC_layWay : gx_cs M_PC_layWay := ⟨gx_T_in (List.mem_append_right _ (show _ ∈ tables_1 from (List.mem_append_right _ (List.mem_append_right _ (List.mem_append_right _ (List.mem_append_left _ (List.mem_of_getElem? (i := 63) (by decide +kernel)))))))) (by decide +kernel), in_PC, ⟨by decide +kernel, by decide +kernel⟩, by decide⟩
theorem im_PC_layWay : Cond.instanceMethod M_PC_layWay.1 ∈ gx_T := gx_T_in (List.mem_append_right _ (show _ ∈ tables_1 from (List.mem_append_right _ (List.mem_append_right _ (List.mem_append_right _ (List.mem_append_left _ (List.mem_of_getElem? (i := 61) (by decide +kernel)))))))) (by decide +kernel)
theorem se_PC_layWay : Cond.selects M_PC_layWay.1.cls M_PC_layWay.1 M_PC_layWay.1 ∈ gx_T := gx_T_in (List.mem_append_right _ (show _ ∈ tables_1 from (List.mem_append_right _ (List.mem_append_right _ (List.mem_append_right _ (List.mem_append_left _ (List.mem_of_getElem? (i := 62) (by decide +kernel)))))))) (by decide +kernel)
abbrev M_Row_copy : gx_M := (⟨"PostChain$Row", "copy", "(LPostChain$Row;)V"⟩, prog_6_method_6_code, 3, none)
theorem cs_Row_copy : gx_cs M_Row_copy := ⟨gx_T_in (List.mem_append_right _ (show _ ∈ tables_1 from (List.mem_append_right _ (List.mem_append_right _ (List.mem_append_right _ (List.mem_append_left _ (List.mem_of_getElem? (i := 67) (by decide +kernel)))))))) (by decide +kernel), in_Row, ⟨by decide +kernel, by decide +kernel⟩, by decide⟩
theorem im_Row_copy : Cond.instanceMethod M_Row_copy.1 ∈ gx_T := gx_T_in (List.mem_append_right _ (show _ ∈ tables_1 from (List.mem_append_right _ (List.mem_append_right _ (List.mem_append_right _ (List.mem_append_left _ (List.mem_of_getElem? (i := 65) (by decide +kernel)))))))) (by decide +kernel)
theorem se_Row_copy : Cond.selects M_Row_copy.1.cls M_Row_copy.1 M_Row_copy.1 ∈ gx_T := gx_T_in (List.mem_append_right _ (show _ ∈ tables_1 from (List.mem_append_right _ (List.mem_append_right _ (List.mem_append_right _ (List.mem_append_left _ (List.mem_of_getElem? (i := 66) (by decide +kernel)))))))) (by decide +kernel)
abbrev M_Mo_init : gx_M := (⟨"PostChainModel", "<init>", "()V"⟩, prog_11_method_1_code, 1, none)
theorem cs_Mo_init : gx_cs M_Mo_init := ⟨gx_T_in (List.mem_append_right _ (show _ ∈ tables_1 from (List.mem_append_right _ (List.mem_append_right _ (List.mem_append_right _ (List.mem_append_left _ (List.mem_of_getElem? (i := 76) (by decide +kernel)))))))) (by decide +kernel), in_Mo, ⟨by decide +kernel, by decide +kernel⟩, by decide⟩
theorem im_Mo_init : Cond.instanceMethod M_Mo_init.1 ∈ gx_T := gx_T_in (List.mem_append_right _ (show _ ∈ tables_1 from (List.mem_append_right _ (List.mem_append_right _ (List.mem_append_right _ (List.mem_append_left _ (List.mem_of_getElem? (i := 75) (by decide +kernel)))))))) (by decide +kernel)
abbrev M_Mo_change : gx_M := (⟨"PostChainModel", "change", "()V"⟩, prog_11_method_8_code, 3, none)
theorem cs_Mo_change : gx_cs M_Mo_change := ⟨gx_T_in (List.mem_append_right _ (show _ ∈ tables_1 from (List.mem_append_right _ (List.mem_append_right _ (List.mem_append_right _ (List.mem_append_left _ (List.mem_of_getElem? (i := 81) (by decide +kernel)))))))) (by decide +kernel), in_Mo, ⟨by decide +kernel, by decide +kernel⟩, by decide⟩
theorem im_Mo_change : Cond.instanceMethod M_Mo_change.1 ∈ gx_T := gx_T_in (List.mem_append_right _ (show _ ∈ tables_1 from (List.mem_append_right _ (List.mem_append_right _ (List.mem_append_right _ (List.mem_append_left _ (List.mem_of_getElem? (i := 80) (by decide +kernel)))))))) (by decide +kernel)
theorem se_Mo_change : Cond.selects M_Mo_change.1.cls M_Mo_change.1 M_Mo_change.1 ∈ gx_T := gx_T_in (List.mem_append_left _ (List.mem_of_getElem? (i := 17) (by decide +kernel))) (by decide +kernel)
abbrev M_Mo_step : gx_M := (⟨"PostChainModel", "step", "(I)Z"⟩, prog_11_method_7_code, 10, (some .boolean))
theorem cs_Mo_step : gx_cs M_Mo_step := ⟨gx_T_in (List.mem_append_right _ (show _ ∈ tables_1 from (List.mem_append_right _ (List.mem_append_right _ (List.mem_append_right _ (List.mem_append_left _ (List.mem_of_getElem? (i := 85) (by decide +kernel)))))))) (by decide +kernel), in_Mo, ⟨by decide +kernel, by decide +kernel⟩, by decide⟩
theorem im_Mo_step : Cond.instanceMethod M_Mo_step.1 ∈ gx_T := gx_T_in (List.mem_append_right _ (show _ ∈ tables_1 from (List.mem_append_right _ (List.mem_append_right _ (List.mem_append_right _ (List.mem_append_left _ (List.mem_of_getElem? (i := 84) (by decide +kernel)))))))) (by decide +kernel)
theorem se_Mo_step : Cond.selects M_Mo_step.1.cls M_Mo_step.1 M_Mo_step.1 ∈ gx_T := gx_T_in (List.mem_append_left _ (List.mem_of_getElem? (i := 18) (by decide +kernel))) (by decide +kernel)
abbrev M_Mo_ruleOf : gx_M := (⟨"PostChainModel", "ruleOf", "(I)I"⟩, prog_11_method_5_code, 5, (some .int))
theorem cs_Mo_ruleOf : gx_cs M_Mo_ruleOf := ⟨gx_T_in (List.mem_append_right _ (show _ ∈ tables_1 from (List.mem_append_right _ (List.mem_append_right _ (List.mem_append_right _ (List.mem_append_left _ (List.mem_of_getElem? (i := 89) (by decide +kernel)))))))) (by decide +kernel), in_Mo, ⟨by decide +kernel, by decide +kernel⟩, by decide⟩
theorem im_Mo_ruleOf : Cond.instanceMethod M_Mo_ruleOf.1 ∈ gx_T := gx_T_in (List.mem_append_right _ (show _ ∈ tables_1 from (List.mem_append_right _ (List.mem_append_right _ (List.mem_append_right _ (List.mem_append_left _ (List.mem_of_getElem? (i := 88) (by decide +kernel)))))))) (by decide +kernel)
theorem se_Mo_ruleOf : Cond.selects M_Mo_ruleOf.1.cls M_Mo_ruleOf.1 M_Mo_ruleOf.1 ∈ gx_T := gx_T_in (List.mem_append_left _ (List.mem_of_getElem? (i := 19) (by decide +kernel))) (by decide +kernel)
abbrev M_Mo_head : gx_M := (⟨"PostChainModel", "head", "(I)I"⟩, prog_11_method_4_code, 3, (some .int))
theorem cs_Mo_head : gx_cs M_Mo_head := ⟨gx_T_in (List.mem_append_right _ (show _ ∈ tables_1 from (List.mem_append_right _ (List.mem_append_right _ (List.mem_append_right _ (List.mem_append_left _ (List.mem_of_getElem? (i := 93) (by decide +kernel)))))))) (by decide +kernel), in_Mo, ⟨by decide +kernel, by decide +kernel⟩, by decide⟩
theorem im_Mo_head : Cond.instanceMethod M_Mo_head.1 ∈ gx_T := gx_T_in (List.mem_append_right _ (show _ ∈ tables_1 from (List.mem_append_right _ (List.mem_append_right _ (List.mem_append_right _ (List.mem_append_left _ (List.mem_of_getElem? (i := 92) (by decide +kernel)))))))) (by decide +kernel)
theorem se_Mo_head : Cond.selects M_Mo_head.1.cls M_Mo_head.1 M_Mo_head.1 ∈ gx_T := gx_T_in (List.mem_append_left _ (List.mem_of_getElem? (i := 20) (by decide +kernel))) (by decide +kernel)
abbrev M_Mo_isSymbol : gx_M := (⟨"PostChainModel", "isSymbol", "(I)Z"⟩, prog_11_method_3_code, 1, (some .boolean))
theorem cs_Mo_isSymbol : gx_cs M_Mo_isSymbol := ⟨gx_T_in (List.mem_append_right _ (show _ ∈ tables_1 from (List.mem_append_right _ (List.mem_append_right _ (List.mem_append_right _ (List.mem_append_left _ (List.mem_of_getElem? (i := 96) (by decide +kernel)))))))) (by decide +kernel), in_Mo, ⟨by decide +kernel, by decide +kernel⟩, by decide⟩
theorem st_Mo_isSymbol : Cond.static M_Mo_isSymbol.1 ∈ gx_T := gx_T_in (List.mem_append_right _ (show _ ∈ tables_1 from (List.mem_append_right _ (List.mem_append_right _ (List.mem_append_right _ (List.mem_append_left _ (List.mem_of_getElem? (i := 95) (by decide +kernel)))))))) (by decide +kernel)
abbrev M_Mo_letter : gx_M := (⟨"PostChainModel", "letter", "(I)I"⟩, prog_11_method_6_code, 1, (some .int))
theorem cs_Mo_letter : gx_cs M_Mo_letter := ⟨gx_T_in (List.mem_append_right _ (show _ ∈ tables_1 from (List.mem_append_right _ (List.mem_append_right _ (List.mem_append_right _ (List.mem_append_left _ (List.mem_of_getElem? (i := 99) (by decide +kernel)))))))) (by decide +kernel), in_Mo, ⟨by decide +kernel, by decide +kernel⟩, by decide⟩
theorem st_Mo_letter : Cond.static M_Mo_letter.1 ∈ gx_T := gx_T_in (List.mem_append_right _ (show _ ∈ tables_1 from (List.mem_append_right _ (List.mem_append_right _ (List.mem_append_right _ (List.mem_append_left _ (List.mem_of_getElem? (i := 98) (by decide +kernel)))))))) (by decide +kernel)
abbrev M_Mo_makeDominoes : gx_M := (⟨"PostChainModel", "makeDominoes", "()V"⟩, prog_11_method_21_code, 3, none)
theorem cs_Mo_makeDominoes : gx_cs M_Mo_makeDominoes := ⟨gx_T_in (List.mem_append_right _ (show _ ∈ tables_1 from (List.mem_append_right _ (List.mem_append_right _ (List.mem_append_right _ (List.mem_append_left _ (List.mem_of_getElem? (i := 103) (by decide +kernel)))))))) (by decide +kernel), in_Mo, ⟨by decide +kernel, by decide +kernel⟩, by decide⟩
theorem im_Mo_makeDominoes : Cond.instanceMethod M_Mo_makeDominoes.1 ∈ gx_T := gx_T_in (List.mem_append_right _ (show _ ∈ tables_1 from (List.mem_append_right _ (List.mem_append_right _ (List.mem_append_right _ (List.mem_append_left _ (List.mem_of_getElem? (i := 102) (by decide +kernel)))))))) (by decide +kernel)
theorem se_Mo_makeDominoes : Cond.selects M_Mo_makeDominoes.1.cls M_Mo_makeDominoes.1 M_Mo_makeDominoes.1 ∈ gx_T := gx_T_in (List.mem_append_left _ (List.mem_of_getElem? (i := 21) (by decide +kernel))) (by decide +kernel)
abbrev M_Mo_addUpper : gx_M := (⟨"PostChainModel", "addUpper", "(I)V"⟩, prog_11_method_17_code, 2, none)
theorem cs_Mo_addUpper : gx_cs M_Mo_addUpper := ⟨gx_T_in (List.mem_append_right _ (show _ ∈ tables_1 from (List.mem_append_right _ (List.mem_append_right _ (List.mem_append_right _ (List.mem_append_left _ (List.mem_of_getElem? (i := 107) (by decide +kernel)))))))) (by decide +kernel), in_Mo, ⟨by decide +kernel, by decide +kernel⟩, by decide⟩
theorem im_Mo_addUpper : Cond.instanceMethod M_Mo_addUpper.1 ∈ gx_T := gx_T_in (List.mem_append_right _ (show _ ∈ tables_1 from (List.mem_append_right _ (List.mem_append_right _ (List.mem_append_right _ (List.mem_append_left _ (List.mem_of_getElem? (i := 106) (by decide +kernel)))))))) (by decide +kernel)
theorem se_Mo_addUpper : Cond.selects M_Mo_addUpper.1.cls M_Mo_addUpper.1 M_Mo_addUpper.1 ∈ gx_T := gx_T_in (List.mem_append_left _ (List.mem_of_getElem? (i := 22) (by decide +kernel))) (by decide +kernel)
abbrev M_Mo_addLower : gx_M := (⟨"PostChainModel", "addLower", "(I)V"⟩, prog_11_method_18_code, 2, none)
theorem cs_Mo_addLower : gx_cs M_Mo_addLower := ⟨gx_T_in (List.mem_append_right _ (show _ ∈ tables_1 from (List.mem_append_right _ (List.mem_append_right _ (List.mem_append_right _ (List.mem_append_left _ (List.mem_of_getElem? (i := 111) (by decide +kernel)))))))) (by decide +kernel), in_Mo, ⟨by decide +kernel, by decide +kernel⟩, by decide⟩
theorem im_Mo_addLower : Cond.instanceMethod M_Mo_addLower.1 ∈ gx_T := gx_T_in (List.mem_append_right _ (show _ ∈ tables_1 from (List.mem_append_right _ (List.mem_append_right _ (List.mem_append_right _ (List.mem_append_left _ (List.mem_of_getElem? (i := 110) (by decide +kernel)))))))) (by decide +kernel)
theorem se_Mo_addLower : Cond.selects M_Mo_addLower.1.cls M_Mo_addLower.1 M_Mo_addLower.1 ∈ gx_T := gx_T_in (List.mem_append_left _ (List.mem_of_getElem? (i := 23) (by decide +kernel))) (by decide +kernel)
abbrev M_Mo_make : gx_M := (⟨"PostChainModel", "make", "(IIIIIII)V"⟩, prog_11_method_19_code, 10, none)
theorem cs_Mo_make : gx_cs M_Mo_make := ⟨gx_T_in (List.mem_append_right _ (show _ ∈ tables_1 from (List.mem_append_right _ (List.mem_append_right _ (List.mem_append_right _ (List.mem_append_left _ (List.mem_of_getElem? (i := 115) (by decide +kernel)))))))) (by decide +kernel), in_Mo, ⟨by decide +kernel, by decide +kernel⟩, by decide⟩
theorem im_Mo_make : Cond.instanceMethod M_Mo_make.1 ∈ gx_T := gx_T_in (List.mem_append_right _ (show _ ∈ tables_1 from (List.mem_append_right _ (List.mem_append_right _ (List.mem_append_right _ (List.mem_append_left _ (List.mem_of_getElem? (i := 114) (by decide +kernel)))))))) (by decide +kernel)
theorem se_Mo_make : Cond.selects M_Mo_make.1.cls M_Mo_make.1 M_Mo_make.1 ∈ gx_T := gx_T_in (List.mem_append_left _ (List.mem_of_getElem? (i := 24) (by decide +kernel))) (by decide +kernel)
abbrev M_Mo_makeRule : gx_M := (⟨"PostChainModel", "makeRule", "(II)V"⟩, prog_11_method_20_code, 11, none)
theorem cs_Mo_makeRule : gx_cs M_Mo_makeRule := ⟨gx_T_in (List.mem_append_right _ (show _ ∈ tables_1 from (List.mem_append_right _ (List.mem_append_right _ (List.mem_append_right _ (List.mem_append_left _ (List.mem_of_getElem? (i := 119) (by decide +kernel)))))))) (by decide +kernel), in_Mo, ⟨by decide +kernel, by decide +kernel⟩, by decide⟩
theorem im_Mo_makeRule : Cond.instanceMethod M_Mo_makeRule.1 ∈ gx_T := gx_T_in (List.mem_append_right _ (show _ ∈ tables_1 from (List.mem_append_right _ (List.mem_append_right _ (List.mem_append_right _ (List.mem_append_left _ (List.mem_of_getElem? (i := 118) (by decide +kernel)))))))) (by decide +kernel)
theorem se_Mo_makeRule : Cond.selects M_Mo_makeRule.1.cls M_Mo_makeRule.1 M_Mo_makeRule.1 ∈ gx_T := gx_T_in (List.mem_append_left _ (List.mem_of_getElem? (i := 25) (by decide +kernel))) (by decide +kernel)
abbrev M_Mo_halted : gx_M := (⟨"PostChainModel", "halted", "()Z"⟩, prog_11_method_9_code, 1, (some .boolean))
theorem cs_Mo_halted : gx_cs M_Mo_halted := ⟨gx_T_in (List.mem_append_right _ (show _ ∈ tables_1 from (List.mem_append_right _ (List.mem_append_right _ (List.mem_append_right _ (List.mem_append_left _ (List.mem_of_getElem? (i := 123) (by decide +kernel)))))))) (by decide +kernel), in_Mo, ⟨by decide +kernel, by decide +kernel⟩, by decide⟩
theorem im_Mo_halted : Cond.instanceMethod M_Mo_halted.1 ∈ gx_T := gx_T_in (List.mem_append_right _ (show _ ∈ tables_1 from (List.mem_append_right _ (List.mem_append_right _ (List.mem_append_right _ (List.mem_append_left _ (List.mem_of_getElem? (i := 122) (by decide +kernel)))))))) (by decide +kernel)
theorem se_Mo_halted : Cond.selects M_Mo_halted.1.cls M_Mo_halted.1 M_Mo_halted.1 ∈ gx_T := gx_T_in (List.mem_append_left _ (List.mem_of_getElem? (i := 26) (by decide +kernel))) (by decide +kernel)
abbrev M_Mo_makeWay : gx_M := (⟨"PostChainModel", "makeWay", "()V"⟩, prog_11_method_27_code, 6, none)
theorem cs_Mo_makeWay : gx_cs M_Mo_makeWay := ⟨gx_T_in (List.mem_append_right _ (show _ ∈ tables_1 from (List.mem_append_right _ (List.mem_append_right _ (List.mem_append_right _ (List.mem_append_left _ (List.mem_of_getElem? (i := 127) (by decide +kernel)))))))) (by decide +kernel), in_Mo, ⟨by decide +kernel, by decide +kernel⟩, by decide⟩
theorem im_Mo_makeWay : Cond.instanceMethod M_Mo_makeWay.1 ∈ gx_T := gx_T_in (List.mem_append_right _ (show _ ∈ tables_1 from (List.mem_append_right _ (List.mem_append_right _ (List.mem_append_right _ (List.mem_append_left _ (List.mem_of_getElem? (i := 126) (by decide +kernel)))))))) (by decide +kernel)
theorem se_Mo_makeWay : Cond.selects M_Mo_makeWay.1.cls M_Mo_makeWay.1 M_Mo_makeWay.1 ∈ gx_T := gx_T_in (List.mem_append_left _ (List.mem_of_getElem? (i := 27) (by decide +kernel))) (by decide +kernel)
abbrev M_Mo_goOn : gx_M := (⟨"PostChainModel", "goOn", "(I)V"⟩, prog_11_method_24_code, 2, none)
theorem cs_Mo_goOn : gx_cs M_Mo_goOn := ⟨gx_T_in (List.mem_append_right _ (show _ ∈ tables_1 from (List.mem_append_right _ (List.mem_append_right _ (List.mem_append_right _ (List.mem_append_left _ (List.mem_of_getElem? (i := 131) (by decide +kernel)))))))) (by decide +kernel), in_Mo, ⟨by decide +kernel, by decide +kernel⟩, by decide⟩
theorem im_Mo_goOn : Cond.instanceMethod M_Mo_goOn.1 ∈ gx_T := gx_T_in (List.mem_append_right _ (show _ ∈ tables_1 from (List.mem_append_right _ (List.mem_append_right _ (List.mem_append_right _ (List.mem_append_left _ (List.mem_of_getElem? (i := 130) (by decide +kernel)))))))) (by decide +kernel)
theorem se_Mo_goOn : Cond.selects M_Mo_goOn.1.cls M_Mo_goOn.1 M_Mo_goOn.1 ∈ gx_T := gx_T_in (List.mem_append_left _ (List.mem_of_getElem? (i := 28) (by decide +kernel))) (by decide +kernel)
abbrev M_Mo_wayStep : gx_M := (⟨"PostChainModel", "wayStep", "(I)V"⟩, prog_11_method_26_code, 9, none)
theorem cs_Mo_wayStep : gx_cs M_Mo_wayStep := ⟨gx_T_in (List.mem_append_right _ (show _ ∈ tables_1 from (List.mem_append_right _ (List.mem_append_right _ (List.mem_append_right _ (List.mem_append_left _ (List.mem_of_getElem? (i := 135) (by decide +kernel)))))))) (by decide +kernel), in_Mo, ⟨by decide +kernel, by decide +kernel⟩, by decide⟩
theorem im_Mo_wayStep : Cond.instanceMethod M_Mo_wayStep.1 ∈ gx_T := gx_T_in (List.mem_append_right _ (show _ ∈ tables_1 from (List.mem_append_right _ (List.mem_append_right _ (List.mem_append_right _ (List.mem_append_left _ (List.mem_of_getElem? (i := 134) (by decide +kernel)))))))) (by decide +kernel)
theorem se_Mo_wayStep : Cond.selects M_Mo_wayStep.1.cls M_Mo_wayStep.1 M_Mo_wayStep.1 ∈ gx_T := gx_T_in (List.mem_append_left _ (List.mem_of_getElem? (i := 29) (by decide +kernel))) (by decide +kernel)
abbrev M_Mo_find : gx_M := (⟨"PostChainModel", "find", "(III)I"⟩, prog_11_method_25_code, 8, (some .int))
theorem cs_Mo_find : gx_cs M_Mo_find := ⟨gx_T_in (List.mem_append_right _ (show _ ∈ tables_1 from (List.mem_append_right _ (List.mem_append_right _ (List.mem_append_right _ (List.mem_append_left _ (List.mem_of_getElem? (i := 139) (by decide +kernel)))))))) (by decide +kernel), in_Mo, ⟨by decide +kernel, by decide +kernel⟩, by decide⟩
theorem im_Mo_find : Cond.instanceMethod M_Mo_find.1 ∈ gx_T := gx_T_in (List.mem_append_right _ (show _ ∈ tables_1 from (List.mem_append_right _ (List.mem_append_right _ (List.mem_append_right _ (List.mem_append_left _ (List.mem_of_getElem? (i := 138) (by decide +kernel)))))))) (by decide +kernel)
theorem se_Mo_find : Cond.selects M_Mo_find.1.cls M_Mo_find.1 M_Mo_find.1 ∈ gx_T := gx_T_in (List.mem_append_left _ (List.mem_of_getElem? (i := 30) (by decide +kernel))) (by decide +kernel)
abbrev M_Mo_thrown : gx_M := (⟨"PostChainModel", "thrown", "()I"⟩, prog_11_method_2_code, 1, (some .int))
theorem cs_Mo_thrown : gx_cs M_Mo_thrown := ⟨gx_T_in (List.mem_append_right _ (show _ ∈ tables_1 from (List.mem_append_right _ (List.mem_append_right _ (List.mem_append_right _ (List.mem_append_right _ (List.mem_of_getElem? (i := 3) (by decide +kernel)))))))) (by decide +kernel), in_Mo, ⟨by decide +kernel, by decide +kernel⟩, by decide⟩
theorem im_Mo_thrown : Cond.instanceMethod M_Mo_thrown.1 ∈ gx_T := gx_T_in (List.mem_append_right _ (show _ ∈ tables_1 from (List.mem_append_right _ (List.mem_append_right _ (List.mem_append_right _ (List.mem_append_right _ (List.mem_of_getElem? (i := 1) (by decide +kernel)))))))) (by decide +kernel)
theorem se_Mo_thrown : Cond.selects M_Mo_thrown.1.cls M_Mo_thrown.1 M_Mo_thrown.1 ∈ gx_T := gx_T_in (List.mem_append_right _ (show _ ∈ tables_1 from (List.mem_append_right _ (List.mem_append_right _ (List.mem_append_right _ (List.mem_append_right _ (List.mem_of_getElem? (i := 2) (by decide +kernel)))))))) (by decide +kernel)
abbrev M_Mo_rule : gx_M := (⟨"PostChainModel", "rule", "(IIIZI)Z"⟩, prog_11_method_11_code, 7, (some .boolean))
theorem cs_Mo_rule : gx_cs M_Mo_rule := ⟨gx_T_in (List.mem_append_right _ (show _ ∈ tables_1 from (List.mem_append_right _ (List.mem_append_right _ (List.mem_append_right _ (List.mem_append_right _ (List.mem_of_getElem? (i := 7) (by decide +kernel)))))))) (by decide +kernel), in_Mo, ⟨by decide +kernel, by decide +kernel⟩, by decide⟩
theorem im_Mo_rule : Cond.instanceMethod M_Mo_rule.1 ∈ gx_T := gx_T_in (List.mem_append_right _ (show _ ∈ tables_1 from (List.mem_append_right _ (List.mem_append_right _ (List.mem_append_right _ (List.mem_append_right _ (List.mem_of_getElem? (i := 5) (by decide +kernel)))))))) (by decide +kernel)
theorem se_Mo_rule : Cond.selects M_Mo_rule.1.cls M_Mo_rule.1 M_Mo_rule.1 ∈ gx_T := gx_T_in (List.mem_append_right _ (show _ ∈ tables_1 from (List.mem_append_right _ (List.mem_append_right _ (List.mem_append_right _ (List.mem_append_right _ (List.mem_of_getElem? (i := 6) (by decide +kernel)))))))) (by decide +kernel)
abbrev M_Mo_isRule : gx_M := (⟨"PostChainModel", "isRule", "(II)Z"⟩, prog_11_method_10_code, 2, (some .boolean))
theorem cs_Mo_isRule : gx_cs M_Mo_isRule := ⟨gx_T_in (List.mem_append_right _ (show _ ∈ tables_1 from (List.mem_append_right _ (List.mem_append_right _ (List.mem_append_right _ (List.mem_append_right _ (List.mem_of_getElem? (i := 10) (by decide +kernel)))))))) (by decide +kernel), in_Mo, ⟨by decide +kernel, by decide +kernel⟩, by decide⟩
theorem st_Mo_isRule : Cond.static M_Mo_isRule.1 ∈ gx_T := gx_T_in (List.mem_append_right _ (show _ ∈ tables_1 from (List.mem_append_right _ (List.mem_append_right _ (List.mem_append_right _ (List.mem_append_right _ (List.mem_of_getElem? (i := 9) (by decide +kernel)))))))) (by decide +kernel)
abbrev M_Mo_drop : gx_M := (⟨"PostChainModel", "drop", "(II)Z"⟩, prog_11_method_12_code, 3, (some .boolean))
theorem cs_Mo_drop : gx_cs M_Mo_drop := ⟨gx_T_in (List.mem_append_right _ (show _ ∈ tables_1 from (List.mem_append_right _ (List.mem_append_right _ (List.mem_append_right _ (List.mem_append_right _ (List.mem_of_getElem? (i := 14) (by decide +kernel)))))))) (by decide +kernel), in_Mo, ⟨by decide +kernel, by decide +kernel⟩, by decide⟩
theorem im_Mo_drop : Cond.instanceMethod M_Mo_drop.1 ∈ gx_T := gx_T_in (List.mem_append_right _ (show _ ∈ tables_1 from (List.mem_append_right _ (List.mem_append_right _ (List.mem_append_right _ (List.mem_append_right _ (List.mem_of_getElem? (i := 12) (by decide +kernel)))))))) (by decide +kernel)
theorem se_Mo_drop : Cond.selects M_Mo_drop.1.cls M_Mo_drop.1 M_Mo_drop.1 ∈ gx_T := gx_T_in (List.mem_append_right _ (show _ ∈ tables_1 from (List.mem_append_right _ (List.mem_append_right _ (List.mem_append_right _ (List.mem_append_right _ (List.mem_of_getElem? (i := 13) (by decide +kernel)))))))) (by decide +kernel)
abbrev M_Mo_input : gx_M := (⟨"PostChainModel", "input", "(II)Z"⟩, prog_11_method_13_code, 5, (some .boolean))
theorem cs_Mo_input : gx_cs M_Mo_input := ⟨gx_T_in (List.mem_append_right _ (show _ ∈ tables_1 from (List.mem_append_right _ (List.mem_append_right _ (List.mem_append_right _ (List.mem_append_right _ (List.mem_of_getElem? (i := 18) (by decide +kernel)))))))) (by decide +kernel), in_Mo, ⟨by decide +kernel, by decide +kernel⟩, by decide⟩
theorem im_Mo_input : Cond.instanceMethod M_Mo_input.1 ∈ gx_T := gx_T_in (List.mem_append_right _ (show _ ∈ tables_1 from (List.mem_append_right _ (List.mem_append_right _ (List.mem_append_right _ (List.mem_append_right _ (List.mem_of_getElem? (i := 16) (by decide +kernel)))))))) (by decide +kernel)
theorem se_Mo_input : Cond.selects M_Mo_input.1.cls M_Mo_input.1 M_Mo_input.1 ∈ gx_T := gx_T_in (List.mem_append_right _ (show _ ∈ tables_1 from (List.mem_append_right _ (List.mem_append_right _ (List.mem_append_right _ (List.mem_append_right _ (List.mem_of_getElem? (i := 17) (by decide +kernel)))))))) (by decide +kernel)
abbrev M_Mo_steps : gx_M := (⟨"PostChainModel", "steps", "()I"⟩, prog_11_method_14_code, 1, (some .int))
theorem cs_Mo_steps : gx_cs M_Mo_steps := ⟨gx_T_in (List.mem_append_right _ (show _ ∈ tables_1 from (List.mem_append_right _ (List.mem_append_right _ (List.mem_append_right _ (List.mem_append_right _ (List.mem_of_getElem? (i := 22) (by decide +kernel)))))))) (by decide +kernel), in_Mo, ⟨by decide +kernel, by decide +kernel⟩, by decide⟩
theorem im_Mo_steps : Cond.instanceMethod M_Mo_steps.1 ∈ gx_T := gx_T_in (List.mem_append_right _ (show _ ∈ tables_1 from (List.mem_append_right _ (List.mem_append_right _ (List.mem_append_right _ (List.mem_append_right _ (List.mem_of_getElem? (i := 20) (by decide +kernel)))))))) (by decide +kernel)
theorem se_Mo_steps : Cond.selects M_Mo_steps.1.cls M_Mo_steps.1 M_Mo_steps.1 ∈ gx_T := gx_T_in (List.mem_append_right _ (show _ ∈ tables_1 from (List.mem_append_right _ (List.mem_append_right _ (List.mem_append_right _ (List.mem_append_right _ (List.mem_of_getElem? (i := 21) (by decide +kernel)))))))) (by decide +kernel)
abbrev M_Mo_halts : gx_M := (⟨"PostChainModel", "halts", "()Z"⟩, prog_11_method_15_code, 1, (some .boolean))
theorem cs_Mo_halts : gx_cs M_Mo_halts := ⟨gx_T_in (List.mem_append_right _ (show _ ∈ tables_1 from (List.mem_append_right _ (List.mem_append_right _ (List.mem_append_right _ (List.mem_append_right _ (List.mem_of_getElem? (i := 26) (by decide +kernel)))))))) (by decide +kernel), in_Mo, ⟨by decide +kernel, by decide +kernel⟩, by decide⟩
theorem im_Mo_halts : Cond.instanceMethod M_Mo_halts.1 ∈ gx_T := gx_T_in (List.mem_append_right _ (show _ ∈ tables_1 from (List.mem_append_right _ (List.mem_append_right _ (List.mem_append_right _ (List.mem_append_right _ (List.mem_of_getElem? (i := 24) (by decide +kernel)))))))) (by decide +kernel)
theorem se_Mo_halts : Cond.selects M_Mo_halts.1.cls M_Mo_halts.1 M_Mo_halts.1 ∈ gx_T := gx_T_in (List.mem_append_right _ (show _ ∈ tables_1 from (List.mem_append_right _ (List.mem_append_right _ (List.mem_append_right _ (List.mem_append_right _ (List.mem_of_getElem? (i := 25) (by decide +kernel)))))))) (by decide +kernel)
abbrev M_Mo_run : gx_M := (⟨"PostChainModel", "run", "(II)I"⟩, prog_11_method_16_code, 3, (some .int))
theorem cs_Mo_run : gx_cs M_Mo_run := ⟨gx_T_in (List.mem_append_right _ (show _ ∈ tables_1 from (List.mem_append_right _ (List.mem_append_right _ (List.mem_append_right _ (List.mem_append_right _ (List.mem_of_getElem? (i := 30) (by decide +kernel)))))))) (by decide +kernel), in_Mo, ⟨by decide +kernel, by decide +kernel⟩, by decide⟩
theorem im_Mo_run : Cond.instanceMethod M_Mo_run.1 ∈ gx_T := gx_T_in (List.mem_append_right _ (show _ ∈ tables_1 from (List.mem_append_right _ (List.mem_append_right _ (List.mem_append_right _ (List.mem_append_right _ (List.mem_of_getElem? (i := 28) (by decide +kernel)))))))) (by decide +kernel)
theorem se_Mo_run : Cond.selects M_Mo_run.1.cls M_Mo_run.1 M_Mo_run.1 ∈ gx_T := gx_T_in (List.mem_append_right _ (show _ ∈ tables_1 from (List.mem_append_right _ (List.mem_append_right _ (List.mem_append_right _ (List.mem_append_right _ (List.mem_of_getElem? (i := 29) (by decide +kernel)))))))) (by decide +kernel)
abbrev M_Mo_dominoes : gx_M := (⟨"PostChainModel", "dominoes", "()I"⟩, prog_11_method_22_code, 1, (some .int))
theorem cs_Mo_dominoes : gx_cs M_Mo_dominoes := ⟨gx_T_in (List.mem_append_right _ (show _ ∈ tables_1 from (List.mem_append_right _ (List.mem_append_right _ (List.mem_append_right _ (List.mem_append_right _ (List.mem_of_getElem? (i := 34) (by decide +kernel)))))))) (by decide +kernel), in_Mo, ⟨by decide +kernel, by decide +kernel⟩, by decide⟩
theorem im_Mo_dominoes : Cond.instanceMethod M_Mo_dominoes.1 ∈ gx_T := gx_T_in (List.mem_append_right _ (show _ ∈ tables_1 from (List.mem_append_right _ (List.mem_append_right _ (List.mem_append_right _ (List.mem_append_right _ (List.mem_of_getElem? (i := 32) (by decide +kernel)))))))) (by decide +kernel)
theorem se_Mo_dominoes : Cond.selects M_Mo_dominoes.1.cls M_Mo_dominoes.1 M_Mo_dominoes.1 ∈ gx_T := gx_T_in (List.mem_append_right _ (show _ ∈ tables_1 from (List.mem_append_right _ (List.mem_append_right _ (List.mem_append_right _ (List.mem_append_right _ (List.mem_of_getElem? (i := 33) (by decide +kernel)))))))) (by decide +kernel)
abbrev M_Mo_domino : gx_M := (⟨"PostChainModel", "domino", "(IZI)I"⟩, prog_11_method_23_code, 5, (some .int))
theorem cs_Mo_domino : gx_cs M_Mo_domino := ⟨gx_T_in (List.mem_append_right _ (show _ ∈ tables_1 from (List.mem_append_right _ (List.mem_append_right _ (List.mem_append_right _ (List.mem_append_right _ (List.mem_of_getElem? (i := 38) (by decide +kernel)))))))) (by decide +kernel), in_Mo, ⟨by decide +kernel, by decide +kernel⟩, by decide⟩
theorem im_Mo_domino : Cond.instanceMethod M_Mo_domino.1 ∈ gx_T := gx_T_in (List.mem_append_right _ (show _ ∈ tables_1 from (List.mem_append_right _ (List.mem_append_right _ (List.mem_append_right _ (List.mem_append_right _ (List.mem_of_getElem? (i := 36) (by decide +kernel)))))))) (by decide +kernel)
theorem se_Mo_domino : Cond.selects M_Mo_domino.1.cls M_Mo_domino.1 M_Mo_domino.1 ∈ gx_T := gx_T_in (List.mem_append_right _ (show _ ∈ tables_1 from (List.mem_append_right _ (List.mem_append_right _ (List.mem_append_right _ (List.mem_append_right _ (List.mem_of_getElem? (i := 37) (by decide +kernel)))))))) (by decide +kernel)
abbrev M_Mo_way : gx_M := (⟨"PostChainModel", "way", "(I)I"⟩, prog_11_method_28_code, 2, (some .int))
theorem cs_Mo_way : gx_cs M_Mo_way := ⟨gx_T_in (List.mem_append_right _ (show _ ∈ tables_1 from (List.mem_append_right _ (List.mem_append_right _ (List.mem_append_right _ (List.mem_append_right _ (List.mem_of_getElem? (i := 42) (by decide +kernel)))))))) (by decide +kernel), in_Mo, ⟨by decide +kernel, by decide +kernel⟩, by decide⟩
theorem im_Mo_way : Cond.instanceMethod M_Mo_way.1 ∈ gx_T := gx_T_in (List.mem_append_right _ (show _ ∈ tables_1 from (List.mem_append_right _ (List.mem_append_right _ (List.mem_append_right _ (List.mem_append_right _ (List.mem_of_getElem? (i := 40) (by decide +kernel)))))))) (by decide +kernel)
theorem se_Mo_way : Cond.selects M_Mo_way.1.cls M_Mo_way.1 M_Mo_way.1 ∈ gx_T := gx_T_in (List.mem_append_right _ (show _ ∈ tables_1 from (List.mem_append_right _ (List.mem_append_right _ (List.mem_append_right _ (List.mem_append_right _ (List.mem_of_getElem? (i := 41) (by decide +kernel)))))))) (by decide +kernel)
abbrev M_Mo_lay : gx_M := (⟨"PostChainModel", "lay", "(I)I"⟩, prog_11_method_29_code, 2, (some .int))
theorem cs_Mo_lay : gx_cs M_Mo_lay := ⟨gx_T_in (List.mem_append_right _ (show _ ∈ tables_1 from (List.mem_append_right _ (List.mem_append_right _ (List.mem_append_right _ (List.mem_append_right _ (List.mem_of_getElem? (i := 46) (by decide +kernel)))))))) (by decide +kernel), in_Mo, ⟨by decide +kernel, by decide +kernel⟩, by decide⟩
theorem im_Mo_lay : Cond.instanceMethod M_Mo_lay.1 ∈ gx_T := gx_T_in (List.mem_append_right _ (show _ ∈ tables_1 from (List.mem_append_right _ (List.mem_append_right _ (List.mem_append_right _ (List.mem_append_right _ (List.mem_of_getElem? (i := 44) (by decide +kernel)))))))) (by decide +kernel)
theorem se_Mo_lay : Cond.selects M_Mo_lay.1.cls M_Mo_lay.1 M_Mo_lay.1 ∈ gx_T := gx_T_in (List.mem_append_right _ (show _ ∈ tables_1 from (List.mem_append_right _ (List.mem_append_right _ (List.mem_append_right _ (List.mem_append_right _ (List.mem_of_getElem? (i := 45) (by decide +kernel)))))))) (by decide +kernel)
abbrev M_Mo_layWay : gx_M := (⟨"PostChainModel", "layWay", "()I"⟩, prog_11_method_30_code, 2, (some .int))
theorem cs_Mo_layWay : gx_cs M_Mo_layWay := ⟨gx_T_in (List.mem_append_right _ (show _ ∈ tables_1 from (List.mem_append_right _ (List.mem_append_right _ (List.mem_append_right _ (List.mem_append_right _ (List.mem_of_getElem? (i := 50) (by decide +kernel)))))))) (by decide +kernel), in_Mo, ⟨by decide +kernel, by decide +kernel⟩, by decide⟩
theorem im_Mo_layWay : Cond.instanceMethod M_Mo_layWay.1 ∈ gx_T := gx_T_in (List.mem_append_right _ (show _ ∈ tables_1 from (List.mem_append_right _ (List.mem_append_right _ (List.mem_append_right _ (List.mem_append_right _ (List.mem_of_getElem? (i := 48) (by decide +kernel)))))))) (by decide +kernel)
theorem se_Mo_layWay : Cond.selects M_Mo_layWay.1.cls M_Mo_layWay.1 M_Mo_layWay.1 ∈ gx_T := gx_T_in (List.mem_append_right _ (show _ ∈ tables_1 from (List.mem_append_right _ (List.mem_append_right _ (List.mem_append_right _ (List.mem_append_right _ (List.mem_of_getElem? (i := 49) (by decide +kernel)))))))) (by decide +kernel)
abbrev M_Mo_clear : gx_M := (⟨"PostChainModel", "clear", "()V"⟩, prog_11_method_31_code, 1, none)
theorem cs_Mo_clear : gx_cs M_Mo_clear := ⟨gx_T_in (List.mem_append_right _ (show _ ∈ tables_1 from (List.mem_append_right _ (List.mem_append_right _ (List.mem_append_right _ (List.mem_append_right _ (List.mem_of_getElem? (i := 54) (by decide +kernel)))))))) (by decide +kernel), in_Mo, ⟨by decide +kernel, by decide +kernel⟩, by decide⟩
theorem im_Mo_clear : Cond.instanceMethod M_Mo_clear.1 ∈ gx_T := gx_T_in (List.mem_append_right _ (show _ ∈ tables_1 from (List.mem_append_right _ (List.mem_append_right _ (List.mem_append_right _ (List.mem_append_right _ (List.mem_of_getElem? (i := 52) (by decide +kernel)))))))) (by decide +kernel)
theorem se_Mo_clear : Cond.selects M_Mo_clear.1.cls M_Mo_clear.1 M_Mo_clear.1 ∈ gx_T := gx_T_in (List.mem_append_right _ (show _ ∈ tables_1 from (List.mem_append_right _ (List.mem_append_right _ (List.mem_append_right _ (List.mem_append_right _ (List.mem_of_getElem? (i := 53) (by decide +kernel)))))))) (by decide +kernel)
abbrev M_Mo_tray : gx_M := (⟨"PostChainModel", "tray", "()I"⟩, prog_11_method_34_code, 1, (some .int))
theorem cs_Mo_tray : gx_cs M_Mo_tray := ⟨gx_T_in (List.mem_append_right _ (show _ ∈ tables_1 from (List.mem_append_right _ (List.mem_append_right _ (List.mem_append_right _ (List.mem_append_right _ (List.mem_of_getElem? (i := 58) (by decide +kernel)))))))) (by decide +kernel), in_Mo, ⟨by decide +kernel, by decide +kernel⟩, by decide⟩
theorem im_Mo_tray : Cond.instanceMethod M_Mo_tray.1 ∈ gx_T := gx_T_in (List.mem_append_right _ (show _ ∈ tables_1 from (List.mem_append_right _ (List.mem_append_right _ (List.mem_append_right _ (List.mem_append_right _ (List.mem_of_getElem? (i := 56) (by decide +kernel)))))))) (by decide +kernel)
theorem se_Mo_tray : Cond.selects M_Mo_tray.1.cls M_Mo_tray.1 M_Mo_tray.1 ∈ gx_T := gx_T_in (List.mem_append_right _ (show _ ∈ tables_1 from (List.mem_append_right _ (List.mem_append_right _ (List.mem_append_right _ (List.mem_append_right _ (List.mem_of_getElem? (i := 57) (by decide +kernel)))))))) (by decide +kernel)
abbrev M_Mo_kind : gx_M := (⟨"PostChainModel", "kind", "()I"⟩, prog_11_method_33_code, 5, (some .int))
theorem cs_Mo_kind : gx_cs M_Mo_kind := ⟨gx_T_in (List.mem_append_right _ (show _ ∈ tables_1 from (List.mem_append_right _ (List.mem_append_right _ (List.mem_append_right _ (List.mem_append_right _ (List.mem_of_getElem? (i := 62) (by decide +kernel)))))))) (by decide +kernel), in_Mo, ⟨by decide +kernel, by decide +kernel⟩, by decide⟩
theorem im_Mo_kind : Cond.instanceMethod M_Mo_kind.1 ∈ gx_T := gx_T_in (List.mem_append_right _ (show _ ∈ tables_1 from (List.mem_append_right _ (List.mem_append_right _ (List.mem_append_right _ (List.mem_append_right _ (List.mem_of_getElem? (i := 61) (by decide +kernel)))))))) (by decide +kernel)
theorem se_Mo_kind : Cond.selects M_Mo_kind.1.cls M_Mo_kind.1 M_Mo_kind.1 ∈ gx_T := gx_T_in (List.mem_append_left _ (List.mem_of_getElem? (i := 31) (by decide +kernel))) (by decide +kernel)
abbrev M_Mo_word : gx_M := (⟨"PostChainModel", "word", "(Z)I"⟩, prog_11_method_32_code, 7, (some .int))
theorem cs_Mo_word : gx_cs M_Mo_word := ⟨gx_T_in (List.mem_append_right _ (show _ ∈ tables_1 from (List.mem_append_right _ (List.mem_append_right _ (List.mem_append_right _ (List.mem_append_right _ (List.mem_of_getElem? (i := 66) (by decide +kernel)))))))) (by decide +kernel), in_Mo, ⟨by decide +kernel, by decide +kernel⟩, by decide⟩
theorem im_Mo_word : Cond.instanceMethod M_Mo_word.1 ∈ gx_T := gx_T_in (List.mem_append_right _ (show _ ∈ tables_1 from (List.mem_append_right _ (List.mem_append_right _ (List.mem_append_right _ (List.mem_append_right _ (List.mem_of_getElem? (i := 65) (by decide +kernel)))))))) (by decide +kernel)
theorem se_Mo_word : Cond.selects M_Mo_word.1.cls M_Mo_word.1 M_Mo_word.1 ∈ gx_T := gx_T_in (List.mem_append_left _ (List.mem_of_getElem? (i := 32) (by decide +kernel))) (by decide +kernel)
abbrev M_Mo_back : gx_M := (⟨"PostChainModel", "back", "()I"⟩, prog_11_method_35_code, 4, (some .int))
theorem cs_Mo_back : gx_cs M_Mo_back := ⟨gx_T_in (List.mem_append_right _ (show _ ∈ tables_1 from (List.mem_append_right _ (List.mem_append_right _ (List.mem_append_right _ (List.mem_append_right _ (List.mem_of_getElem? (i := 70) (by decide +kernel)))))))) (by decide +kernel), in_Mo, ⟨by decide +kernel, by decide +kernel⟩, by decide⟩
theorem im_Mo_back : Cond.instanceMethod M_Mo_back.1 ∈ gx_T := gx_T_in (List.mem_append_right _ (show _ ∈ tables_1 from (List.mem_append_right _ (List.mem_append_right _ (List.mem_append_right _ (List.mem_append_right _ (List.mem_of_getElem? (i := 68) (by decide +kernel)))))))) (by decide +kernel)
theorem se_Mo_back : Cond.selects M_Mo_back.1.cls M_Mo_back.1 M_Mo_back.1 ∈ gx_T := gx_T_in (List.mem_append_right _ (show _ ∈ tables_1 from (List.mem_append_right _ (List.mem_append_right _ (List.mem_append_right _ (List.mem_append_right _ (List.mem_of_getElem? (i := 69) (by decide +kernel)))))))) (by decide +kernel)
abbrev M_Mo_type : gx_M := (⟨"PostChainModel", "type", "(J)Z"⟩, prog_11_method_36_code, 7, (some .boolean))
theorem cs_Mo_type : gx_cs M_Mo_type := ⟨gx_T_in (List.mem_append_right _ (show _ ∈ tables_1 from (List.mem_append_right _ (List.mem_append_right _ (List.mem_append_right _ (List.mem_append_right _ (List.mem_of_getElem? (i := 74) (by decide +kernel)))))))) (by decide +kernel), in_Mo, ⟨by decide +kernel, by decide +kernel⟩, by decide⟩
theorem im_Mo_type : Cond.instanceMethod M_Mo_type.1 ∈ gx_T := gx_T_in (List.mem_append_right _ (show _ ∈ tables_1 from (List.mem_append_right _ (List.mem_append_right _ (List.mem_append_right _ (List.mem_append_right _ (List.mem_of_getElem? (i := 72) (by decide +kernel)))))))) (by decide +kernel)
theorem se_Mo_type : Cond.selects M_Mo_type.1.cls M_Mo_type.1 M_Mo_type.1 ∈ gx_T := gx_T_in (List.mem_append_right _ (show _ ∈ tables_1 from (List.mem_append_right _ (List.mem_append_right _ (List.mem_append_right _ (List.mem_append_right _ (List.mem_of_getElem? (i := 73) (by decide +kernel)))))))) (by decide +kernel)
abbrev M_Mo_trees : gx_M := (⟨"PostChainModel", "trees", "()I"⟩, prog_11_method_37_code, 6, (some .int))
theorem cs_Mo_trees : gx_cs M_Mo_trees := ⟨gx_T_in (List.mem_append_right _ (show _ ∈ tables_1 from (List.mem_append_right _ (List.mem_append_right _ (List.mem_append_right _ (List.mem_append_right _ (List.mem_of_getElem? (i := 78) (by decide +kernel)))))))) (by decide +kernel), in_Mo, ⟨by decide +kernel, by decide +kernel⟩, by decide⟩
theorem im_Mo_trees : Cond.instanceMethod M_Mo_trees.1 ∈ gx_T := gx_T_in (List.mem_append_right _ (show _ ∈ tables_1 from (List.mem_append_right _ (List.mem_append_right _ (List.mem_append_right _ (List.mem_append_right _ (List.mem_of_getElem? (i := 76) (by decide +kernel)))))))) (by decide +kernel)
theorem se_Mo_trees : Cond.selects M_Mo_trees.1.cls M_Mo_trees.1 M_Mo_trees.1 ∈ gx_T := gx_T_in (List.mem_append_right _ (show _ ∈ tables_1 from (List.mem_append_right _ (List.mem_append_right _ (List.mem_append_right _ (List.mem_append_right _ (List.mem_of_getElem? (i := 77) (by decide +kernel)))))))) (by decide +kernel)
abbrev M_Mo_search : gx_M := (⟨"PostChainModel", "search", "(I)I"⟩, prog_11_method_39_code, 4, (some .int))
theorem cs_Mo_search : gx_cs M_Mo_search := ⟨gx_T_in (List.mem_append_right _ (show _ ∈ tables_1 from (List.mem_append_right _ (List.mem_append_right _ (List.mem_append_right _ (List.mem_append_right _ (List.mem_of_getElem? (i := 82) (by decide +kernel)))))))) (by decide +kernel), in_Mo, ⟨by decide +kernel, by decide +kernel⟩, by decide⟩
theorem im_Mo_search : Cond.instanceMethod M_Mo_search.1 ∈ gx_T := gx_T_in (List.mem_append_right _ (show _ ∈ tables_1 from (List.mem_append_right _ (List.mem_append_right _ (List.mem_append_right _ (List.mem_append_right _ (List.mem_of_getElem? (i := 80) (by decide +kernel)))))))) (by decide +kernel)
theorem se_Mo_search : Cond.selects M_Mo_search.1.cls M_Mo_search.1 M_Mo_search.1 ∈ gx_T := gx_T_in (List.mem_append_right _ (show _ ∈ tables_1 from (List.mem_append_right _ (List.mem_append_right _ (List.mem_append_right _ (List.mem_append_right _ (List.mem_of_getElem? (i := 81) (by decide +kernel)))))))) (by decide +kernel)
abbrev M_Mo_join : gx_M := (⟨"PostChainModel", "join", "(II)V"⟩, prog_11_method_38_code, 8, none)
theorem cs_Mo_join : gx_cs M_Mo_join := ⟨gx_T_in (List.mem_append_right _ (show _ ∈ tables_1 from (List.mem_append_right _ (List.mem_append_right _ (List.mem_append_right _ (List.mem_append_right _ (List.mem_of_getElem? (i := 86) (by decide +kernel)))))))) (by decide +kernel), in_Mo, ⟨by decide +kernel, by decide +kernel⟩, by decide⟩
theorem im_Mo_join : Cond.instanceMethod M_Mo_join.1 ∈ gx_T := gx_T_in (List.mem_append_right _ (show _ ∈ tables_1 from (List.mem_append_right _ (List.mem_append_right _ (List.mem_append_right _ (List.mem_append_right _ (List.mem_of_getElem? (i := 85) (by decide +kernel)))))))) (by decide +kernel)
theorem se_Mo_join : Cond.selects M_Mo_join.1.cls M_Mo_join.1 M_Mo_join.1 ∈ gx_T := gx_T_in (List.mem_append_left _ (List.mem_of_getElem? (i := 33) (by decide +kernel))) (by decide +kernel)
abbrev M_Mo_take : gx_M := (⟨"PostChainModel", "take", "(I)V"⟩, prog_11_method_40_code, 4, none)
theorem cs_Mo_take : gx_cs M_Mo_take := ⟨gx_T_in (List.mem_append_right _ (show _ ∈ tables_1 from (List.mem_append_right _ (List.mem_append_right _ (List.mem_append_right _ (List.mem_append_right _ (List.mem_of_getElem? (i := 90) (by decide +kernel)))))))) (by decide +kernel), in_Mo, ⟨by decide +kernel, by decide +kernel⟩, by decide⟩
theorem im_Mo_take : Cond.instanceMethod M_Mo_take.1 ∈ gx_T := gx_T_in (List.mem_append_right _ (show _ ∈ tables_1 from (List.mem_append_right _ (List.mem_append_right _ (List.mem_append_right _ (List.mem_append_right _ (List.mem_of_getElem? (i := 89) (by decide +kernel)))))))) (by decide +kernel)
theorem se_Mo_take : Cond.selects M_Mo_take.1.cls M_Mo_take.1 M_Mo_take.1 ∈ gx_T := gx_T_in (List.mem_append_left _ (List.mem_of_getElem? (i := 34) (by decide +kernel))) (by decide +kernel)
abbrev M_Mo_looked : gx_M := (⟨"PostChainModel", "looked", "()I"⟩, prog_11_method_41_code, 1, (some .int))
theorem cs_Mo_looked : gx_cs M_Mo_looked := ⟨gx_T_in (List.mem_append_right _ (show _ ∈ tables_1 from (List.mem_append_right _ (List.mem_append_right _ (List.mem_append_right _ (List.mem_append_right _ (List.mem_of_getElem? (i := 94) (by decide +kernel)))))))) (by decide +kernel), in_Mo, ⟨by decide +kernel, by decide +kernel⟩, by decide⟩
theorem im_Mo_looked : Cond.instanceMethod M_Mo_looked.1 ∈ gx_T := gx_T_in (List.mem_append_right _ (show _ ∈ tables_1 from (List.mem_append_right _ (List.mem_append_right _ (List.mem_append_right _ (List.mem_append_right _ (List.mem_of_getElem? (i := 92) (by decide +kernel)))))))) (by decide +kernel)
theorem se_Mo_looked : Cond.selects M_Mo_looked.1.cls M_Mo_looked.1 M_Mo_looked.1 ∈ gx_T := gx_T_in (List.mem_append_right _ (show _ ∈ tables_1 from (List.mem_append_right _ (List.mem_append_right _ (List.mem_append_right _ (List.mem_append_right _ (List.mem_of_getElem? (i := 93) (by decide +kernel)))))))) (by decide +kernel)
theorem im_Obj : Cond.instanceMethod Lib.objectInit ∈ gx_T := gx_T_in (List.mem_append_right _ (show _ ∈ tables_1 from (List.mem_append_left _ (List.mem_of_getElem? (i := 28) (by decide +kernel))))) (by decide +kernel)
theorem co_Obj : Cond.code Lib.objectInit ⟨#[0xb1]⟩ 1 none ∈ gx_T := gx_T_in (List.mem_append_right _ (show _ ∈ tables_1 from (List.mem_append_left _ (List.mem_of_getElem? (i := 29) (by decide +kernel))))) (by decide +kernel)
theorem st_Math_min : Cond.static Lib.Math.min.name ∈ gx_T := gx_T_in (List.mem_append_right _ (show _ ∈ tables_1 from (List.mem_append_right _ (List.mem_append_left _ (List.mem_of_getElem? (i := 31) (by decide +kernel)))))) (by decide +kernel)
theorem co_Math_min : Cond.code Lib.Math.min.name Lib.Math.min.code 2 (some .int) ∈ gx_T := gx_T_in (List.mem_append_right _ (show _ ∈ tables_1 from (List.mem_append_right _ (List.mem_append_left _ (List.mem_of_getElem? (i := 32) (by decide +kernel)))))) (by decide +kernel)
theorem st_Math_max : Cond.static Lib.Math.max.name ∈ gx_T := gx_T_in (List.mem_append_right _ (show _ ∈ tables_1 from (List.mem_append_right _ (List.mem_append_left _ (List.mem_of_getElem? (i := 80) (by decide +kernel)))))) (by decide +kernel)
theorem co_Math_max : Cond.code Lib.Math.max.name Lib.Math.max.code 2 (some .int) ∈ gx_T := gx_T_in (List.mem_append_right _ (show _ ∈ tables_1 from (List.mem_append_right _ (List.mem_append_left _ (List.mem_of_getElem? (i := 81) (by decide +kernel)))))) (by decide +kernel)
theorem lk_PC_3 : gx_lO "PostChain" 3 := ⟨gx_T_in (List.mem_append_right _ (show _ ∈ tables_1 from (List.mem_append_left _ (List.mem_of_getElem? (i := 27) (by decide +kernel))))) (by decide +kernel), im_Obj, co_Obj⟩
theorem lk_PC_11 : gx_lI "PostChain" 11 M_Machine_init 0 := ⟨cs_Machine_init, Or.inl (gx_T_in (List.mem_append_right _ (show _ ∈ tables_1 from (List.mem_append_left _ (List.mem_of_getElem? (i := 32) (by decide +kernel))))) (by decide +kernel)), by unfold gx_np; decide +kernel, im_Machine_init, rfl, rfl⟩
theorem lk_PC_18 : gx_lI "PostChain" 18 M_Run_init 0 := ⟨cs_Run_init, Or.inl (gx_T_in (List.mem_append_right _ (show _ ∈ tables_1 from (List.mem_append_left _ (List.mem_of_getElem? (i := 84) (by decide +kernel))))) (by decide +kernel)), by unfold gx_np; decide +kernel, im_Run_init, rfl, rfl⟩
theorem lk_PC_25 : gx_lI "PostChain" 25 M_Box_init 0 := ⟨cs_Box_init, Or.inl (gx_T_in (List.mem_append_right _ (show _ ∈ tables_1 from (List.mem_append_left _ (List.mem_of_getElem? (i := 100) (by decide +kernel))))) (by decide +kernel)), by unfold gx_np; decide +kernel, im_Box_init, rfl, rfl⟩
theorem lk_PC_32 : gx_lI "PostChain" 32 M_Way_init 0 := ⟨cs_Way_init, Or.inr ⟨"PostChain", by decide +kernel⟩, by unfold gx_np; decide +kernel, im_Way_init, rfl, rfl⟩
theorem lk_PC_39 : gx_lI "PostChain" 39 M_Hunt_init 0 := ⟨cs_Hunt_init, Or.inr ⟨"PostChain", by decide +kernel⟩, by unfold gx_np; decide +kernel, im_Hunt_init, rfl, rfl⟩
theorem lk_PC_46 : gx_lI "PostChain" 46 M_Row_init 1 := ⟨cs_Row_init, Or.inl (gx_T_in (List.mem_append_right _ (show _ ∈ tables_1 from (List.mem_append_left _ (List.mem_of_getElem? (i := 198) (by decide +kernel))))) (by decide +kernel)), by unfold gx_np; decide +kernel, im_Row_init, rfl, rfl⟩
theorem lk_PC_55 : gx_lI "PostChain" 55 M_Word_init 1 := ⟨cs_Word_init, Or.inl (gx_T_in (List.mem_append_right _ (show _ ∈ tables_1 from (List.mem_append_left _ (List.mem_of_getElem? (i := 200) (by decide +kernel))))) (by decide +kernel)), by unfold gx_np; decide +kernel, im_Word_init, rfl, rfl⟩
theorem lk_PC_66 : gx_lV "PostChain" 66 M_PC_startOver 0 8 := ⟨cs_PC_startOver, Or.inl (gx_T_in (List.mem_append_right _ (show _ ∈ tables_1 from (List.mem_append_left _ (List.mem_of_getElem? (i := 201) (by decide +kernel))))) (by decide +kernel)), by unfold gx_np; decide +kernel, im_PC_startOver, se_PC_startOver, T_PC, 9, rfl⟩
theorem lk_PC_69 : gx_lS "PostChain" 69 M_PC_isState 1 := ⟨cs_PC_isState, Or.inl (gx_T_in (List.mem_append_right _ (show _ ∈ tables_1 from (List.mem_append_right _ (List.mem_append_right _ (List.mem_append_left _ (List.mem_of_getElem? (i := 171) (by decide +kernel))))))) (by decide +kernel)), by unfold gx_np; decide +kernel, st_PC_isState⟩
theorem lk_PC_73 : gx_lS "PostChain" 73 M_PC_isSymbol 1 := ⟨cs_PC_isSymbol, Or.inl (gx_T_in (List.mem_append_right _ (show _ ∈ tables_1 from (List.mem_append_right _ (List.mem_append_right _ (List.mem_append_left _ (List.mem_of_getElem? (i := 172) (by decide +kernel))))))) (by decide +kernel)), by unfold gx_np; decide +kernel, st_PC_isSymbol⟩
theorem lk_PC_85 : gx_lS "PostChain" 85 M_PC_ruleNumber 2 := ⟨cs_PC_ruleNumber, Or.inl (gx_T_in (List.mem_append_right _ (show _ ∈ tables_1 from (List.mem_append_right _ (List.mem_append_right _ (List.mem_append_right _ (List.mem_append_left _ (List.mem_of_getElem? (i := 0) (by decide +kernel)))))))) (by decide +kernel)), by unfold gx_np; decide +kernel, st_PC_ruleNumber⟩
theorem lk_PC_89 : gx_lV "PostChain" 89 M_Machine_learn 4 2 := ⟨cs_Machine_learn, Or.inl (gx_T_in (List.mem_append_right _ (show _ ∈ tables_1 from (List.mem_append_right _ (List.mem_append_right _ (List.mem_append_right _ (List.mem_append_left _ (List.mem_of_getElem? (i := 1) (by decide +kernel)))))))) (by decide +kernel)), by unfold gx_np; decide +kernel, im_Machine_learn, se_Machine_learn, T_Machine, 5, rfl⟩
theorem lk_PC_93 : gx_lV "PostChain" 93 M_Machine_forget 1 2 := ⟨cs_Machine_forget, Or.inl (gx_T_in (List.mem_append_right _ (show _ ∈ tables_1 from (List.mem_append_right _ (List.mem_append_right _ (List.mem_append_right _ (List.mem_append_left _ (List.mem_of_getElem? (i := 12) (by decide +kernel)))))))) (by decide +kernel)), by unfold gx_np; decide +kernel, im_Machine_forget, se_Machine_forget, T_Machine, 5, rfl⟩
theorem lk_PC_98 : gx_lV "PostChain" 98 M_Machine_take 2 2 := ⟨cs_Machine_take, Or.inl (gx_T_in (List.mem_append_right _ (show _ ∈ tables_1 from (List.mem_append_right _ (List.mem_append_right _ (List.mem_append_right _ (List.mem_append_left _ (List.mem_of_getElem? (i := 24) (by decide +kernel)))))))) (by decide +kernel)), by unfold gx_np; decide +kernel, im_Machine_take, se_Machine_take, T_Machine, 5, rfl⟩
theorem lk_PC_102 : gx_lV "PostChain" 102 M_Run_stepCount 0 3 := ⟨cs_Run_stepCount, Or.inl (gx_T_in (List.mem_append_right _ (show _ ∈ tables_1 from (List.mem_append_right _ (List.mem_append_left _ (List.mem_of_getElem? (i := 172) (by decide +kernel)))))) (by decide +kernel)), by unfold gx_np; decide +kernel, im_Run_stepCount, se_Run_stepCount, T_Run, 2, rfl⟩
theorem lk_PC_106 : gx_lV "PostChain" 106 M_Run_isHalted 0 3 := ⟨cs_Run_isHalted, Or.inl (gx_T_in (List.mem_append_right _ (show _ ∈ tables_1 from (List.mem_append_right _ (List.mem_append_left _ (List.mem_of_getElem? (i := 177) (by decide +kernel)))))) (by decide +kernel)), by unfold gx_np; decide +kernel, im_Run_isHalted, se_Run_isHalted, T_Run, 2, rfl⟩
theorem lk_PC_110 : gx_lV "PostChain" 110 M_Run_text 1 3 := ⟨cs_Run_text, Or.inl (gx_T_in (List.mem_append_right _ (show _ ∈ tables_1 from (List.mem_append_right _ (List.mem_append_left _ (List.mem_of_getElem? (i := 182) (by decide +kernel)))))) (by decide +kernel)), by unfold gx_np; decide +kernel, im_Run_text, se_Run_text, T_Run, 2, rfl⟩
theorem lk_PC_114 : gx_lV "PostChain" 114 M_Word_ask 1 0 := ⟨cs_Word_ask, Or.inl (gx_T_in (List.mem_append_right _ (show _ ∈ tables_1 from (List.mem_append_right _ (List.mem_append_left _ (List.mem_of_getElem? (i := 183) (by decide +kernel)))))) (by decide +kernel)), by unfold gx_np; decide +kernel, im_Word_ask, se_Word_ask, T_Word, 2, rfl⟩
theorem lk_PC_118 : gx_lV "PostChain" 118 M_Box_size 0 5 := ⟨cs_Box_size, Or.inl (gx_T_in (List.mem_append_right _ (show _ ∈ tables_1 from (List.mem_append_right _ (List.mem_append_left _ (List.mem_of_getElem? (i := 191) (by decide +kernel)))))) (by decide +kernel)), by unfold gx_np; decide +kernel, im_Box_size, se_Box_size, T_Box, 3, rfl⟩
theorem lk_PC_121 : gx_lV "PostChain" 121 M_Box_has 1 5 := ⟨cs_Box_has, Or.inl (gx_T_in (List.mem_append_right _ (show _ ∈ tables_1 from (List.mem_append_right _ (List.mem_append_left _ (List.mem_of_getElem? (i := 196) (by decide +kernel)))))) (by decide +kernel)), by unfold gx_np; decide +kernel, im_Box_has, se_Box_has, T_Box, 3, rfl⟩
theorem lk_PC_124 : gx_lV "PostChain" 124 M_Box_get 1 5 := ⟨cs_Box_get, Or.inl (gx_T_in (List.mem_append_right _ (show _ ∈ tables_1 from (List.mem_append_right _ (List.mem_append_left _ (List.mem_of_getElem? (i := 200) (by decide +kernel)))))) (by decide +kernel)), by unfold gx_np; decide +kernel, im_Box_get, se_Box_get, T_Box, 3, rfl⟩
theorem lk_PC_141 : gx_lV "PostChain" 141 M_Way_row 0 6 := ⟨cs_Way_row, Or.inl (gx_T_in (List.mem_append_right _ (show _ ∈ tables_1 from (List.mem_append_right _ (List.mem_append_right _ (List.mem_append_right _ (List.mem_append_left _ (List.mem_of_getElem? (i := 53) (by decide +kernel)))))))) (by decide +kernel)), by unfold gx_np; decide +kernel, im_Way_row, se_Way_row, T_Way, 2, rfl⟩
theorem lk_PC_145 : gx_lV "PostChain" 145 M_Row_ask 1 1 := ⟨cs_Row_ask, Or.inl (gx_T_in (List.mem_append_right _ (show _ ∈ tables_1 from (List.mem_append_right _ (List.mem_append_left _ (List.mem_of_getElem? (i := 226) (by decide +kernel)))))) (by decide +kernel)), by unfold gx_np; decide +kernel, im_Row_ask, se_Row_ask, T_Row, 2, rfl⟩
theorem lk_PC_146 : gx_lV "PostChain" 146 M_Row_size 0 1 := ⟨cs_Row_size, Or.inl (gx_T_in (List.mem_append_right _ (show _ ∈ tables_1 from (List.mem_append_right _ (List.mem_append_left _ (List.mem_of_getElem? (i := 209) (by decide +kernel)))))) (by decide +kernel)), by unfold gx_np; decide +kernel, im_Row_size, se_Row_size, T_Row, 2, rfl⟩
theorem lk_PC_147 : gx_lV "PostChain" 147 M_Row_add 1 1 := ⟨cs_Row_add, Or.inl (gx_T_in (List.mem_append_right _ (show _ ∈ tables_1 from (List.mem_append_right _ (List.mem_append_left _ (List.mem_of_getElem? (i := 213) (by decide +kernel)))))) (by decide +kernel)), by unfold gx_np; decide +kernel, im_Row_add, se_Row_add, T_Row, 2, rfl⟩
theorem lk_PC_150 : gx_lV "PostChain" 150 M_Row_copy 1 1 := ⟨cs_Row_copy, Or.inl (gx_T_in (List.mem_append_right _ (show _ ∈ tables_1 from (List.mem_append_right _ (List.mem_append_right _ (List.mem_append_right _ (List.mem_append_left _ (List.mem_of_getElem? (i := 64) (by decide +kernel)))))))) (by decide +kernel)), by unfold gx_np; decide +kernel, im_Row_copy, se_Row_copy, T_Row, 2, rfl⟩
theorem lk_PC_154 : gx_lV "PostChain" 154 M_Row_empty 0 1 := ⟨cs_Row_empty, Or.inl (gx_T_in (List.mem_append_right _ (show _ ∈ tables_1 from (List.mem_append_right _ (List.mem_append_left _ (List.mem_of_getElem? (i := 138) (by decide +kernel)))))) (by decide +kernel)), by unfold gx_np; decide +kernel, im_Row_empty, se_Row_empty, T_Row, 2, rfl⟩
theorem lk_PC_157 : gx_lV "PostChain" 157 M_Word_empty 0 0 := ⟨cs_Word_empty, Or.inl (gx_T_in (List.mem_append_right _ (show _ ∈ tables_1 from (List.mem_append_right _ (List.mem_append_left _ (List.mem_of_getElem? (i := 139) (by decide +kernel)))))) (by decide +kernel)), by unfold gx_np; decide +kernel, im_Word_empty, se_Word_empty, T_Word, 2, rfl⟩
theorem lk_PC_158 : gx_lV "PostChain" 158 M_PC_spellLaid 0 8 := ⟨cs_PC_spellLaid, Or.inl (gx_T_in (List.mem_append_right _ (show _ ∈ tables_1 from (List.mem_append_right _ (List.mem_append_left _ (List.mem_of_getElem? (i := 222) (by decide +kernel)))))) (by decide +kernel)), by unfold gx_np; decide +kernel, im_PC_spellLaid, se_PC_spellLaid, T_PC, 9, rfl⟩
theorem lk_PC_161 : gx_lV "PostChain" 161 M_Word_agrees 1 0 := ⟨cs_Word_agrees, Or.inl (gx_T_in (List.mem_append_right _ (show _ ∈ tables_1 from (List.mem_append_right _ (List.mem_append_left _ (List.mem_of_getElem? (i := 232) (by decide +kernel)))))) (by decide +kernel)), by unfold gx_np; decide +kernel, im_Word_agrees, se_Word_agrees, T_Word, 2, rfl⟩
theorem lk_PC_165 : gx_lV "PostChain" 165 M_Word_same 1 0 := ⟨cs_Word_same, Or.inl (gx_T_in (List.mem_append_right _ (show _ ∈ tables_1 from (List.mem_append_right _ (List.mem_append_left _ (List.mem_of_getElem? (i := 237) (by decide +kernel)))))) (by decide +kernel)), by unfold gx_np; decide +kernel, im_Word_same, se_Word_same, T_Word, 2, rfl⟩
theorem lk_PC_168 : gx_lV "PostChain" 168 M_PC_tray 0 8 := ⟨cs_PC_tray, Or.inl (gx_T_in (List.mem_append_right _ (show _ ∈ tables_1 from (List.mem_append_right _ (List.mem_append_right _ (List.mem_append_left _ (List.mem_of_getElem? (i := 6) (by decide +kernel))))))) (by decide +kernel)), by unfold gx_np; decide +kernel, im_PC_tray, se_PC_tray, T_PC, 9, rfl⟩
theorem lk_PC_171 : gx_lS "PostChain" 171 M_PC_hashesAheadOfHalt 1 := ⟨cs_PC_hashesAheadOfHalt, Or.inl (gx_T_in (List.mem_append_right _ (show _ ∈ tables_1 from (List.mem_append_right _ (List.mem_append_right _ (List.mem_append_left _ (List.mem_of_getElem? (i := 7) (by decide +kernel))))))) (by decide +kernel)), by unfold gx_np; decide +kernel, st_PC_hashesAheadOfHalt⟩
theorem lk_PC_175 : gx_lS "PostChain" 175 M_PC_byteOf 2 := ⟨cs_PC_byteOf, Or.inl (gx_T_in (List.mem_append_right _ (show _ ∈ tables_1 from (List.mem_append_right _ (List.mem_append_right _ (List.mem_append_left _ (List.mem_of_getElem? (i := 16) (by decide +kernel))))))) (by decide +kernel)), by unfold gx_np; decide +kernel, st_PC_byteOf⟩
theorem lk_PC_186 : gx_lV "PostChain" 186 M_Word_size 0 0 := ⟨cs_Word_size, Or.inl (gx_T_in (List.mem_append_right _ (show _ ∈ tables_1 from (List.mem_append_right _ (List.mem_append_left _ (List.mem_of_getElem? (i := 230) (by decide +kernel)))))) (by decide +kernel)), by unfold gx_np; decide +kernel, im_Word_size, se_Word_size, T_Word, 2, rfl⟩
theorem lk_PC_187 : gx_lV "PostChain" 187 M_Word_add 1 0 := ⟨cs_Word_add, Or.inl (gx_T_in (List.mem_append_right _ (show _ ∈ tables_1 from (List.mem_append_right _ (List.mem_append_right _ (List.mem_append_left _ (List.mem_of_getElem? (i := 103) (by decide +kernel))))))) (by decide +kernel)), by unfold gx_np; decide +kernel, im_Word_add, se_Word_add, T_Word, 2, rfl⟩
theorem lk_PC_190 : gx_lV "PostChain" 190 M_Hunt_look 2 7 := ⟨cs_Hunt_look, Or.inl (gx_T_in (List.mem_append_right _ (show _ ∈ tables_1 from (List.mem_append_right _ (List.mem_append_right _ (List.mem_append_left _ (List.mem_of_getElem? (i := 113) (by decide +kernel))))))) (by decide +kernel)), by unfold gx_np; decide +kernel, im_Hunt_look, se_Hunt_look, T_Hunt, 8, rfl⟩
theorem lk_PC_194 : gx_lV "PostChain" 194 M_Hunt_foundSize 0 7 := ⟨cs_Hunt_foundSize, Or.inl (gx_T_in (List.mem_append_right _ (show _ ∈ tables_1 from (List.mem_append_right _ (List.mem_append_right _ (List.mem_append_left _ (List.mem_of_getElem? (i := 140) (by decide +kernel))))))) (by decide +kernel)), by unfold gx_np; decide +kernel, im_Hunt_foundSize, se_Hunt_foundSize, T_Hunt, 8, rfl⟩
theorem lk_PC_197 : gx_lV "PostChain" 197 M_Hunt_layFound 1 7 := ⟨cs_Hunt_layFound, Or.inl (gx_T_in (List.mem_append_right _ (show _ ∈ tables_1 from (List.mem_append_right _ (List.mem_append_right _ (List.mem_append_left _ (List.mem_of_getElem? (i := 144) (by decide +kernel))))))) (by decide +kernel)), by unfold gx_np; decide +kernel, im_Hunt_layFound, se_Hunt_layFound, T_Hunt, 8, rfl⟩
theorem lk_PC_200 : gx_lV "PostChain" 200 M_Hunt_lookedAt 0 7 := ⟨cs_Hunt_lookedAt, Or.inl (gx_T_in (List.mem_append_right _ (show _ ∈ tables_1 from (List.mem_append_right _ (List.mem_append_right _ (List.mem_append_left _ (List.mem_of_getElem? (i := 159) (by decide +kernel))))))) (by decide +kernel)), by unfold gx_np; decide +kernel, im_Hunt_lookedAt, se_Hunt_lookedAt, T_Hunt, 8, rfl⟩
theorem lk_PC_203 : gx_lV "PostChain" 203 M_Run_follow 1 3 := ⟨cs_Run_follow, Or.inl (gx_T_in (List.mem_append_right _ (show _ ∈ tables_1 from (List.mem_append_left _ (List.mem_of_getElem? (i := 205) (by decide +kernel))))) (by decide +kernel)), by unfold gx_np; decide +kernel, im_Run_follow, se_Run_follow, T_Run, 2, rfl⟩
theorem lk_PC_207 : gx_lV "PostChain" 207 M_Box_fill 1 5 := ⟨cs_Box_fill, Or.inl (gx_T_in (List.mem_append_right _ (show _ ∈ tables_1 from (List.mem_append_right _ (List.mem_append_left _ (List.mem_of_getElem? (i := 22) (by decide +kernel)))))) (by decide +kernel)), by unfold gx_np; decide +kernel, im_Box_fill, se_Box_fill, T_Box, 3, rfl⟩
theorem lk_PC_210 : gx_lV "PostChain" 210 M_Way_trace 3 6 := ⟨cs_Way_trace, Or.inl (gx_T_in (List.mem_append_right _ (show _ ∈ tables_1 from (List.mem_append_right _ (List.mem_append_left _ (List.mem_of_getElem? (i := 62) (by decide +kernel)))))) (by decide +kernel)), by unfold gx_np; decide +kernel, im_Way_trace, se_Way_trace, T_Way, 2, rfl⟩
theorem lk_PC_214 : gx_lV "PostChain" 214 M_Hunt_forget 0 7 := ⟨cs_Hunt_forget, Or.inl (gx_T_in (List.mem_append_right _ (show _ ∈ tables_1 from (List.mem_append_right _ (List.mem_append_left _ (List.mem_of_getElem? (i := 134) (by decide +kernel)))))) (by decide +kernel)), by unfold gx_np; decide +kernel, im_Hunt_forget, se_Hunt_forget, T_Hunt, 8, rfl⟩
theorem lk_PC_216 : gx_lV "PostChain" 216 M_Word_addPart 3 0 := ⟨cs_Word_addPart, Or.inl (gx_T_in (List.mem_append_right _ (show _ ∈ tables_1 from (List.mem_append_right _ (List.mem_append_left _ (List.mem_of_getElem? (i := 231) (by decide +kernel)))))) (by decide +kernel)), by unfold gx_np; decide +kernel, im_Word_addPart, se_Word_addPart, T_Word, 2, rfl⟩
theorem lk_PC_220 : gx_lV "PostChain" 220 M_Word_at 1 0 := ⟨cs_Word_at, Or.inl (gx_T_in (List.mem_append_right _ (show _ ∈ tables_1 from (List.mem_append_right _ (List.mem_append_right _ (List.mem_append_left _ (List.mem_of_getElem? (i := 10) (by decide +kernel))))))) (by decide +kernel)), by unfold gx_np; decide +kernel, im_Word_at, se_Word_at, T_Word, 2, rfl⟩
theorem lk_PC_224 : gx_lS "PostChain" 224 M_PC_letter 1 := ⟨cs_PC_letter, Or.inl (gx_T_in (List.mem_append_right _ (show _ ∈ tables_1 from (List.mem_append_right _ (List.mem_append_right _ (List.mem_append_left _ (List.mem_of_getElem? (i := 11) (by decide +kernel))))))) (by decide +kernel)), by unfold gx_np; decide +kernel, st_PC_letter⟩
theorem lk_Box_3 : gx_lO "PostChain$Box" 3 := ⟨gx_T_in (List.mem_append_right _ (show _ ∈ tables_1 from (List.mem_append_left _ (List.mem_of_getElem? (i := 103) (by decide +kernel))))) (by decide +kernel), im_Obj, co_Obj⟩
theorem lk_Box_21 : gx_lI "PostChain$Box" 21 M_Domino_init 0 := ⟨cs_Domino_init, Or.inr ⟨"PostChain", by decide +kernel⟩, by unfold gx_np; decide +kernel, im_Domino_init, rfl, rfl⟩
theorem lk_Box_26 : gx_lV "PostChain$Box" 26 M_Box_has 1 5 := ⟨cs_Box_has, Or.inl (gx_T_in (List.mem_append_right _ (show _ ∈ tables_1 from (List.mem_append_right _ (List.mem_append_left _ (List.mem_of_getElem? (i := 204) (by decide +kernel)))))) (by decide +kernel)), by unfold gx_np; decide +kernel, im_Box_has, se_Box_has, T_Box, 3, rfl⟩
theorem lk_Box_30 : gx_lV "PostChain$Box" 30 M_Box_open 0 5 := ⟨cs_Box_open, Or.inl (gx_T_in (List.mem_append_right _ (show _ ∈ tables_1 from (List.mem_append_right _ (List.mem_append_left _ (List.mem_of_getElem? (i := 26) (by decide +kernel)))))) (by decide +kernel)), by unfold gx_np; decide +kernel, im_Box_open, se_Box_open, T_Box, 3, rfl⟩
theorem lk_Box_38 : gx_lV "PostChain$Box" 38 M_Word_add 1 0 := ⟨cs_Word_add, Or.inl (gx_T_in (List.mem_append_right _ (show _ ∈ tables_1 from (List.mem_append_right _ (List.mem_append_left _ (List.mem_of_getElem? (i := 34) (by decide +kernel)))))) (by decide +kernel)), by unfold gx_np; decide +kernel, im_Word_add, se_Word_add, T_Word, 2, rfl⟩
theorem lk_Box_52 : gx_lV "PostChain$Box" 52 M_Word_size 0 0 := ⟨cs_Word_size, Or.inl (gx_T_in (List.mem_append_right _ (show _ ∈ tables_1 from (List.mem_append_right _ (List.mem_append_left _ (List.mem_of_getElem? (i := 35) (by decide +kernel)))))) (by decide +kernel)), by unfold gx_np; decide +kernel, im_Word_size, se_Word_size, T_Word, 2, rfl⟩
theorem lk_Box_56 : gx_lV "PostChain$Box" 56 M_Word_addPart 3 0 := ⟨cs_Word_addPart, Or.inl (gx_T_in (List.mem_append_right _ (show _ ∈ tables_1 from (List.mem_append_right _ (List.mem_append_left _ (List.mem_of_getElem? (i := 36) (by decide +kernel)))))) (by decide +kernel)), by unfold gx_np; decide +kernel, im_Word_addPart, se_Word_addPart, T_Word, 2, rfl⟩
theorem lk_Box_60 : gx_lV "PostChain$Box" 60 M_Box_addCopy 1 5 := ⟨cs_Box_addCopy, Or.inl (gx_T_in (List.mem_append_right _ (show _ ∈ tables_1 from (List.mem_append_right _ (List.mem_append_left _ (List.mem_of_getElem? (i := 37) (by decide +kernel)))))) (by decide +kernel)), by unfold gx_np; decide +kernel, im_Box_addCopy, se_Box_addCopy, T_Box, 3, rfl⟩
theorem lk_Box_64 : gx_lS "PostChain$Box" 64 M_PC_digit 1 := ⟨cs_PC_digit, Or.inr ⟨"PostChain", by decide +kernel⟩, by unfold gx_np; decide +kernel, st_PC_digit⟩
theorem lk_Box_68 : gx_lV "PostChain$Box" 68 M_Box_addRule 3 5 := ⟨cs_Box_addRule, Or.inl (gx_T_in (List.mem_append_right _ (show _ ∈ tables_1 from (List.mem_append_right _ (List.mem_append_left _ (List.mem_of_getElem? (i := 42) (by decide +kernel)))))) (by decide +kernel)), by unfold gx_np; decide +kernel, im_Box_addRule, se_Box_addRule, T_Box, 3, rfl⟩
theorem lk_Box_72 : gx_lV "PostChain$Box" 72 M_Box_addEnding 0 5 := ⟨cs_Box_addEnding, Or.inl (gx_T_in (List.mem_append_right _ (show _ ∈ tables_1 from (List.mem_append_right _ (List.mem_append_left _ (List.mem_of_getElem? (i := 58) (by decide +kernel)))))) (by decide +kernel)), by unfold gx_np; decide +kernel, im_Box_addEnding, se_Box_addEnding, T_Box, 3, rfl⟩
theorem lk_Box_75 : gx_lM "PostChain$Box" 75 Lib.Math.min.name Lib.Math.min.code := ⟨gx_T_in (List.mem_append_right _ (show _ ∈ tables_1 from (List.mem_append_right _ (List.mem_append_left _ (List.mem_of_getElem? (i := 30) (by decide +kernel)))))) (by decide +kernel), st_Math_min, in_Math, co_Math_min⟩
theorem lk_Box_81 : gx_lV "PostChain$Box" 81 M_Word_empty 0 0 := ⟨cs_Word_empty, Or.inl (gx_T_in (List.mem_append_right _ (show _ ∈ tables_1 from (List.mem_append_right _ (List.mem_append_left _ (List.mem_of_getElem? (i := 33) (by decide +kernel)))))) (by decide +kernel)), by unfold gx_np; decide +kernel, im_Word_empty, se_Word_empty, T_Word, 2, rfl⟩
theorem lk_Box_91 : gx_lV "PostChain$Box" 91 M_Box_addRight 3 5 := ⟨cs_Box_addRight, Or.inl (gx_T_in (List.mem_append_right _ (show _ ∈ tables_1 from (List.mem_append_right _ (List.mem_append_left _ (List.mem_of_getElem? (i := 46) (by decide +kernel)))))) (by decide +kernel)), by unfold gx_np; decide +kernel, im_Box_addRight, se_Box_addRight, T_Box, 3, rfl⟩
theorem lk_Box_94 : gx_lV "PostChain$Box" 94 M_Box_addLeft 4 5 := ⟨cs_Box_addLeft, Or.inl (gx_T_in (List.mem_append_right _ (show _ ∈ tables_1 from (List.mem_append_right _ (List.mem_append_left _ (List.mem_of_getElem? (i := 54) (by decide +kernel)))))) (by decide +kernel)), by unfold gx_np; decide +kernel, im_Box_addLeft, se_Box_addLeft, T_Box, 3, rfl⟩
theorem lk_Box_98 : gx_lS "PostChain$Box" 98 M_PC_letter 1 := ⟨cs_PC_letter, Or.inr ⟨"PostChain", by decide +kernel⟩, by unfold gx_np; decide +kernel, st_PC_letter⟩
theorem lk_Box_107 : gx_lS "PostChain$Box" 107 M_Box_keepHash 2 := ⟨cs_Box_keepHash, Or.inl (gx_T_in (List.mem_append_right _ (show _ ∈ tables_1 from (List.mem_append_right _ (List.mem_append_left _ (List.mem_of_getElem? (i := 51) (by decide +kernel)))))) (by decide +kernel)), by unfold gx_np; decide +kernel, st_Box_keepHash⟩
theorem lk_Domino_3 : gx_lO "PostChain$Domino" 3 := ⟨gx_T_in (List.mem_append_right _ (show _ ∈ tables_1 from (List.mem_append_left _ (List.mem_of_getElem? (i := 110) (by decide +kernel))))) (by decide +kernel), im_Obj, co_Obj⟩
theorem lk_Domino_11 : gx_lI "PostChain$Domino" 11 M_Word_init 1 := ⟨cs_Word_init, Or.inl (gx_T_in (List.mem_append_right _ (show _ ∈ tables_1 from (List.mem_append_left _ (List.mem_of_getElem? (i := 112) (by decide +kernel))))) (by decide +kernel)), by unfold gx_np; decide +kernel, im_Word_init, rfl, rfl⟩
theorem lk_Hunt_3 : gx_lO "PostChain$Hunt" 3 := ⟨gx_T_in (List.mem_append_right _ (show _ ∈ tables_1 from (List.mem_append_left _ (List.mem_of_getElem? (i := 169) (by decide +kernel))))) (by decide +kernel), im_Obj, co_Obj⟩
theorem lk_Hunt_30 : gx_lI "PostChain$Hunt" 30 M_Word_init 1 := ⟨cs_Word_init, Or.inl (gx_T_in (List.mem_append_right _ (show _ ∈ tables_1 from (List.mem_append_left _ (List.mem_of_getElem? (i := 171) (by decide +kernel))))) (by decide +kernel)), by unfold gx_np; decide +kernel, im_Word_init, rfl, rfl⟩
theorem lk_Hunt_44 : gx_lV "PostChain$Hunt" 44 M_Word_empty 0 0 := ⟨cs_Word_empty, Or.inl (gx_T_in (List.mem_append_right _ (show _ ∈ tables_1 from (List.mem_append_right _ (List.mem_append_right _ (List.mem_append_left _ (List.mem_of_getElem? (i := 117) (by decide +kernel))))))) (by decide +kernel)), by unfold gx_np; decide +kernel, im_Word_empty, se_Word_empty, T_Word, 2, rfl⟩
theorem lk_Hunt_47 : gx_lV "PostChain$Hunt" 47 M_Box_get 1 5 := ⟨cs_Box_get, Or.inl (gx_T_in (List.mem_append_right _ (show _ ∈ tables_1 from (List.mem_append_right _ (List.mem_append_right _ (List.mem_append_left _ (List.mem_of_getElem? (i := 118) (by decide +kernel))))))) (by decide +kernel)), by unfold gx_np; decide +kernel, im_Box_get, se_Box_get, T_Box, 3, rfl⟩
theorem lk_Hunt_53 : gx_lV "PostChain$Hunt" 53 M_Hunt_keep 3 7 := ⟨cs_Hunt_keep, Or.inl (gx_T_in (List.mem_append_right _ (show _ ∈ tables_1 from (List.mem_append_right _ (List.mem_append_right _ (List.mem_append_left _ (List.mem_of_getElem? (i := 119) (by decide +kernel))))))) (by decide +kernel)), by unfold gx_np; decide +kernel, im_Hunt_keep, se_Hunt_keep, T_Hunt, 8, rfl⟩
theorem lk_Hunt_57 : gx_lV "PostChain$Hunt" 57 M_Hunt_goOn 2 7 := ⟨cs_Hunt_goOn, Or.inl (gx_T_in (List.mem_append_right _ (show _ ∈ tables_1 from (List.mem_append_right _ (List.mem_append_right _ (List.mem_append_left _ (List.mem_of_getElem? (i := 130) (by decide +kernel))))))) (by decide +kernel)), by unfold gx_np; decide +kernel, im_Hunt_goOn, se_Hunt_goOn, T_Hunt, 8, rfl⟩
theorem lk_Hunt_61 : gx_lV "PostChain$Hunt" 61 M_Row_empty 0 1 := ⟨cs_Row_empty, Or.inl (gx_T_in (List.mem_append_right _ (show _ ∈ tables_1 from (List.mem_append_right _ (List.mem_append_right _ (List.mem_append_left _ (List.mem_of_getElem? (i := 148) (by decide +kernel))))))) (by decide +kernel)), by unfold gx_np; decide +kernel, im_Row_empty, se_Row_empty, T_Row, 2, rfl⟩
theorem lk_Hunt_64 : gx_lV "PostChain$Hunt" 64 M_Hunt_foundSize 0 7 := ⟨cs_Hunt_foundSize, Or.inl (gx_T_in (List.mem_append_right _ (show _ ∈ tables_1 from (List.mem_append_right _ (List.mem_append_right _ (List.mem_append_left _ (List.mem_of_getElem? (i := 149) (by decide +kernel))))))) (by decide +kernel)), by unfold gx_np; decide +kernel, im_Hunt_foundSize, se_Hunt_foundSize, T_Hunt, 8, rfl⟩
theorem lk_Hunt_68 : gx_lV "PostChain$Hunt" 68 M_Row_add 1 1 := ⟨cs_Row_add, Or.inl (gx_T_in (List.mem_append_right _ (show _ ∈ tables_1 from (List.mem_append_right _ (List.mem_append_right _ (List.mem_append_left _ (List.mem_of_getElem? (i := 150) (by decide +kernel))))))) (by decide +kernel)), by unfold gx_np; decide +kernel, im_Row_add, se_Row_add, T_Row, 2, rfl⟩
theorem lk_Hunt_71 : gx_lV "PostChain$Hunt" 71 M_Row_turn 0 1 := ⟨cs_Row_turn, Or.inl (gx_T_in (List.mem_append_right _ (show _ ∈ tables_1 from (List.mem_append_right _ (List.mem_append_right _ (List.mem_append_left _ (List.mem_of_getElem? (i := 151) (by decide +kernel))))))) (by decide +kernel)), by unfold gx_np; decide +kernel, im_Row_turn, se_Row_turn, T_Row, 2, rfl⟩
theorem lk_Hunt_74 : gx_lV "PostChain$Hunt" 74 M_Word_add 1 0 := ⟨cs_Word_add, Or.inl (gx_T_in (List.mem_append_right _ (show _ ∈ tables_1 from (List.mem_append_right _ (List.mem_append_right _ (List.mem_append_left _ (List.mem_of_getElem? (i := 134) (by decide +kernel))))))) (by decide +kernel)), by unfold gx_np; decide +kernel, im_Word_add, se_Word_add, T_Word, 2, rfl⟩
theorem lk_Hunt_77 : gx_lV "PostChain$Hunt" 77 M_Box_size 0 5 := ⟨cs_Box_size, Or.inl (gx_T_in (List.mem_append_right _ (show _ ∈ tables_1 from (List.mem_append_right _ (List.mem_append_right _ (List.mem_append_left _ (List.mem_of_getElem? (i := 135) (by decide +kernel))))))) (by decide +kernel)), by unfold gx_np; decide +kernel, im_Box_size, se_Box_size, T_Box, 3, rfl⟩
theorem lk_Hunt_79 : gx_lV "PostChain$Hunt" 79 M_Hunt_fits 1 7 := ⟨cs_Hunt_fits, Or.inl (gx_T_in (List.mem_append_right _ (show _ ∈ tables_1 from (List.mem_append_right _ (List.mem_append_right _ (List.mem_append_left _ (List.mem_of_getElem? (i := 136) (by decide +kernel))))))) (by decide +kernel)), by unfold gx_np; decide +kernel, im_Hunt_fits, se_Hunt_fits, T_Hunt, 8, rfl⟩
theorem lk_Hunt_88 : gx_lV "PostChain$Hunt" 88 M_Word_size 0 0 := ⟨cs_Word_size, Or.inl (gx_T_in (List.mem_append_right _ (show _ ∈ tables_1 from (List.mem_append_right _ (List.mem_append_right _ (List.mem_append_left _ (List.mem_of_getElem? (i := 123) (by decide +kernel))))))) (by decide +kernel)), by unfold gx_np; decide +kernel, im_Word_size, se_Word_size, T_Word, 2, rfl⟩
theorem lk_Hunt_92 : gx_lM "PostChain$Hunt" 92 Lib.Math.min.name Lib.Math.min.code := ⟨gx_T_in (List.mem_append_right _ (show _ ∈ tables_1 from (List.mem_append_right _ (List.mem_append_right _ (List.mem_append_left _ (List.mem_of_getElem? (i := 124) (by decide +kernel))))))) (by decide +kernel), st_Math_min, in_Math, co_Math_min⟩
theorem lk_Hunt_98 : gx_lV "PostChain$Hunt" 98 M_Word_at 1 0 := ⟨cs_Word_at, Or.inl (gx_T_in (List.mem_append_right _ (show _ ∈ tables_1 from (List.mem_append_right _ (List.mem_append_right _ (List.mem_append_left _ (List.mem_of_getElem? (i := 129) (by decide +kernel))))))) (by decide +kernel)), by unfold gx_np; decide +kernel, im_Word_at, se_Word_at, T_Word, 2, rfl⟩
theorem lk_Hunt_102 : gx_lV "PostChain$Hunt" 102 M_Hunt_openOr 2 7 := ⟨cs_Hunt_openOr, Or.inl (gx_T_in (List.mem_append_right _ (show _ ∈ tables_1 from (List.mem_append_right _ (List.mem_append_right _ (List.mem_append_left _ (List.mem_of_getElem? (i := 125) (by decide +kernel))))))) (by decide +kernel)), by unfold gx_np; decide +kernel, im_Hunt_openOr, se_Hunt_openOr, T_Hunt, 8, rfl⟩
theorem lk_Machine_3 : gx_lO "PostChain$Machine" 3 := ⟨gx_T_in (List.mem_append_right _ (show _ ∈ tables_1 from (List.mem_append_left _ (List.mem_of_getElem? (i := 35) (by decide +kernel))))) (by decide +kernel), im_Obj, co_Obj⟩
theorem lk_Machine_27 : gx_lI "PostChain$Machine" 27 M_Word_init 1 := ⟨cs_Word_init, Or.inl (gx_T_in (List.mem_append_right _ (show _ ∈ tables_1 from (List.mem_append_left _ (List.mem_of_getElem? (i := 38) (by decide +kernel))))) (by decide +kernel)), by unfold gx_np; decide +kernel, im_Word_init, rfl, rfl⟩
theorem lk_Machine_34 : gx_lS "PostChain$Machine" 34 M_PC_letter 1 := ⟨cs_PC_letter, Or.inr ⟨"PostChain", by decide +kernel⟩, by unfold gx_np; decide +kernel, st_PC_letter⟩
theorem lk_Machine_38 : gx_lV "PostChain$Machine" 38 M_Word_add 1 0 := ⟨cs_Word_add, Or.inl (gx_T_in (List.mem_append_right _ (show _ ∈ tables_1 from (List.mem_append_left _ (List.mem_of_getElem? (i := 55) (by decide +kernel))))) (by decide +kernel)), by unfold gx_np; decide +kernel, im_Word_add, se_Word_add, T_Word, 2, rfl⟩
theorem lk_Machine_42 : gx_lV "PostChain$Machine" 42 M_Word_empty 0 0 := ⟨cs_Word_empty, Or.inl (gx_T_in (List.mem_append_right _ (show _ ∈ tables_1 from (List.mem_append_right _ (List.mem_append_left _ (List.mem_of_getElem? (i := 16) (by decide +kernel)))))) (by decide +kernel)), by unfold gx_np; decide +kernel, im_Word_empty, se_Word_empty, T_Word, 2, rfl⟩
theorem lk_Machine_45 : gx_lS "PostChain$Machine" 45 M_PC_digit 1 := ⟨cs_PC_digit, Or.inr ⟨"PostChain", by decide +kernel⟩, by unfold gx_np; decide +kernel, st_PC_digit⟩
theorem lk_Machine_48 : gx_lM "PostChain$Machine" 48 Lib.Math.max.name Lib.Math.max.code := ⟨gx_T_in (List.mem_append_right _ (show _ ∈ tables_1 from (List.mem_append_right _ (List.mem_append_right _ (List.mem_append_right _ (List.mem_append_left _ (List.mem_of_getElem? (i := 28) (by decide +kernel)))))))) (by decide +kernel), st_Math_max, in_Math, co_Math_max⟩
theorem lk_Machine_54 : gx_lV "PostChain$Machine" 54 M_Word_head 0 0 := ⟨cs_Word_head, Or.inl (gx_T_in (List.mem_append_right _ (show _ ∈ tables_1 from (List.mem_append_left _ (List.mem_of_getElem? (i := 238) (by decide +kernel))))) (by decide +kernel)), by unfold gx_np; decide +kernel, im_Word_head, se_Word_head, T_Word, 2, rfl⟩
theorem lk_Machine_58 : gx_lV "PostChain$Machine" 58 M_Word_at 1 0 := ⟨cs_Word_at, Or.inl (gx_T_in (List.mem_append_right _ (show _ ∈ tables_1 from (List.mem_append_right _ (List.mem_append_left _ (List.mem_of_getElem? (i := 2) (by decide +kernel)))))) (by decide +kernel)), by unfold gx_np; decide +kernel, im_Word_at, se_Word_at, T_Word, 2, rfl⟩
theorem lk_Machine_61 : gx_lV "PostChain$Machine" 61 M_Word_size 0 0 := ⟨cs_Word_size, Or.inl (gx_T_in (List.mem_append_right _ (show _ ∈ tables_1 from (List.mem_append_right _ (List.mem_append_left _ (List.mem_of_getElem? (i := 3) (by decide +kernel)))))) (by decide +kernel)), by unfold gx_np; decide +kernel, im_Word_size, se_Word_size, T_Word, 2, rfl⟩
theorem lk_Machine_64 : gx_lS "PostChain$Machine" 64 M_PC_symbolOf 1 := ⟨cs_PC_symbolOf, Or.inr ⟨"PostChain", by decide +kernel⟩, by unfold gx_np; decide +kernel, st_PC_symbolOf⟩
theorem lk_Machine_68 : gx_lS "PostChain$Machine" 68 M_PC_isState 1 := ⟨cs_PC_isState, Or.inr ⟨"PostChain", by decide +kernel⟩, by unfold gx_np; decide +kernel, st_PC_isState⟩
theorem lk_Machine_72 : gx_lS "PostChain$Machine" 72 M_PC_isSymbol 1 := ⟨cs_PC_isSymbol, Or.inr ⟨"PostChain", by decide +kernel⟩, by unfold gx_np; decide +kernel, st_PC_isSymbol⟩
theorem lk_Machine_75 : gx_lS "PostChain$Machine" 75 M_PC_ruleNumber 2 := ⟨cs_PC_ruleNumber, Or.inr ⟨"PostChain", by decide +kernel⟩, by unfold gx_np; decide +kernel, st_PC_ruleNumber⟩
theorem lk_Machine_78 : gx_lV "PostChain$Machine" 78 M_Machine_ruleFor 1 2 := ⟨cs_Machine_ruleFor, Or.inl (gx_T_in (List.mem_append_right _ (show _ ∈ tables_1 from (List.mem_append_left _ (List.mem_of_getElem? (i := 234) (by decide +kernel))))) (by decide +kernel)), by unfold gx_np; decide +kernel, im_Machine_ruleFor, se_Machine_ruleFor, T_Machine, 5, rfl⟩
theorem lk_Machine_82 : gx_lV "PostChain$Machine" 82 M_Word_addPart 3 0 := ⟨cs_Word_addPart, Or.inl (gx_T_in (List.mem_append_right _ (show _ ∈ tables_1 from (List.mem_append_right _ (List.mem_append_left _ (List.mem_of_getElem? (i := 17) (by decide +kernel)))))) (by decide +kernel)), by unfold gx_np; decide +kernel, im_Word_addPart, se_Word_addPart, T_Word, 2, rfl⟩
theorem lk_Row_3 : gx_lO "PostChain$Row" 3 := ⟨gx_T_in (List.mem_append_right _ (show _ ∈ tables_1 from (List.mem_append_left _ (List.mem_of_getElem? (i := 147) (by decide +kernel))))) (by decide +kernel), im_Obj, co_Obj⟩
theorem lk_Row_19 : gx_lV "PostChain$Row" 19 M_Row_empty 0 1 := ⟨cs_Row_empty, Or.inl (gx_T_in (List.mem_append_right _ (show _ ∈ tables_1 from (List.mem_append_right _ (List.mem_append_right _ (List.mem_append_right _ (List.mem_append_left _ (List.mem_of_getElem? (i := 68) (by decide +kernel)))))))) (by decide +kernel)), by unfold gx_np; decide +kernel, im_Row_empty, se_Row_empty, T_Row, 2, rfl⟩
theorem lk_Row_22 : gx_lV "PostChain$Row" 22 M_Row_size 0 1 := ⟨cs_Row_size, Or.inl (gx_T_in (List.mem_append_right _ (show _ ∈ tables_1 from (List.mem_append_right _ (List.mem_append_right _ (List.mem_append_right _ (List.mem_append_left _ (List.mem_of_getElem? (i := 69) (by decide +kernel)))))))) (by decide +kernel)), by unfold gx_np; decide +kernel, im_Row_size, se_Row_size, T_Row, 2, rfl⟩
theorem lk_Row_26 : gx_lV "PostChain$Row" 26 M_Row_ask 1 1 := ⟨cs_Row_ask, Or.inl (gx_T_in (List.mem_append_right _ (show _ ∈ tables_1 from (List.mem_append_right _ (List.mem_append_right _ (List.mem_append_right _ (List.mem_append_left _ (List.mem_of_getElem? (i := 70) (by decide +kernel)))))))) (by decide +kernel)), by unfold gx_np; decide +kernel, im_Row_ask, se_Row_ask, T_Row, 2, rfl⟩
theorem lk_Row_30 : gx_lV "PostChain$Row" 30 M_Row_add 1 1 := ⟨cs_Row_add, Or.inl (gx_T_in (List.mem_append_right _ (show _ ∈ tables_1 from (List.mem_append_right _ (List.mem_append_right _ (List.mem_append_right _ (List.mem_append_left _ (List.mem_of_getElem? (i := 71) (by decide +kernel)))))))) (by decide +kernel)), by unfold gx_np; decide +kernel, im_Row_add, se_Row_add, T_Row, 2, rfl⟩
theorem lk_Run_3 : gx_lO "PostChain$Run" 3 := ⟨gx_T_in (List.mem_append_right _ (show _ ∈ tables_1 from (List.mem_append_left _ (List.mem_of_getElem? (i := 87) (by decide +kernel))))) (by decide +kernel), im_Obj, co_Obj⟩
theorem lk_Run_17 : gx_lI "PostChain$Run" 17 M_Word_init 1 := ⟨cs_Word_init, Or.inl (gx_T_in (List.mem_append_right _ (show _ ∈ tables_1 from (List.mem_append_left _ (List.mem_of_getElem? (i := 90) (by decide +kernel))))) (by decide +kernel)), by unfold gx_np; decide +kernel, im_Word_init, rfl, rfl⟩
theorem lk_Run_24 : gx_lM "PostChain$Run" 24 Lib.Math.min.name Lib.Math.min.code := ⟨gx_T_in (List.mem_append_right _ (show _ ∈ tables_1 from (List.mem_append_right _ (List.mem_append_left _ (List.mem_of_getElem? (i := 78) (by decide +kernel)))))) (by decide +kernel), st_Math_min, in_Math, co_Math_min⟩
theorem lk_Run_30 : gx_lM "PostChain$Run" 30 Lib.Math.max.name Lib.Math.max.code := ⟨gx_T_in (List.mem_append_right _ (show _ ∈ tables_1 from (List.mem_append_right _ (List.mem_append_left _ (List.mem_of_getElem? (i := 79) (by decide +kernel)))))) (by decide +kernel), st_Math_max, in_Math, co_Math_max⟩
theorem lk_Run_33 : gx_lV "PostChain$Run" 33 M_Run_text 1 3 := ⟨cs_Run_text, Or.inl (gx_T_in (List.mem_append_right _ (show _ ∈ tables_1 from (List.mem_append_right _ (List.mem_append_left _ (List.mem_of_getElem? (i := 74) (by decide +kernel)))))) (by decide +kernel)), by unfold gx_np; decide +kernel, im_Run_text, se_Run_text, T_Run, 2, rfl⟩
theorem lk_Run_37 : gx_lV "PostChain$Run" 37 M_Word_head 0 0 := ⟨cs_Word_head, Or.inl (gx_T_in (List.mem_append_right _ (show _ ∈ tables_1 from (List.mem_append_right _ (List.mem_append_left _ (List.mem_of_getElem? (i := 82) (by decide +kernel)))))) (by decide +kernel)), by unfold gx_np; decide +kernel, im_Word_head, se_Word_head, T_Word, 2, rfl⟩
theorem lk_Run_41 : gx_lV "PostChain$Run" 41 M_Word_at 1 0 := ⟨cs_Word_at, Or.inl (gx_T_in (List.mem_append_right _ (show _ ∈ tables_1 from (List.mem_append_right _ (List.mem_append_left _ (List.mem_of_getElem? (i := 83) (by decide +kernel)))))) (by decide +kernel)), by unfold gx_np; decide +kernel, im_Word_at, se_Word_at, T_Word, 2, rfl⟩
theorem lk_Run_45 : gx_lS "PostChain$Run" 45 M_PC_letter 1 := ⟨cs_PC_letter, Or.inr ⟨"PostChain", by decide +kernel⟩, by unfold gx_np; decide +kernel, st_PC_letter⟩
theorem lk_Run_54 : gx_lV "PostChain$Run" 54 M_Word_copy 1 0 := ⟨cs_Word_copy, Or.inl (gx_T_in (List.mem_append_right _ (show _ ∈ tables_1 from (List.mem_append_left _ (List.mem_of_getElem? (i := 209) (by decide +kernel))))) (by decide +kernel)), by unfold gx_np; decide +kernel, im_Word_copy, se_Word_copy, T_Word, 2, rfl⟩
theorem lk_Run_58 : gx_lV "PostChain$Run" 58 M_Machine_step 2 2 := ⟨cs_Machine_step, Or.inl (gx_T_in (List.mem_append_right _ (show _ ∈ tables_1 from (List.mem_append_left _ (List.mem_of_getElem? (i := 230) (by decide +kernel))))) (by decide +kernel)), by unfold gx_np; decide +kernel, im_Machine_step, se_Machine_step, T_Machine, 5, rfl⟩
theorem lk_Run_62 : gx_lV "PostChain$Run" 62 M_Word_size 0 0 := ⟨cs_Word_size, Or.inl (gx_T_in (List.mem_append_right _ (show _ ∈ tables_1 from (List.mem_append_right _ (List.mem_append_left _ (List.mem_of_getElem? (i := 21) (by decide +kernel)))))) (by decide +kernel)), by unfold gx_np; decide +kernel, im_Word_size, se_Word_size, T_Word, 2, rfl⟩
theorem lk_Way_3 : gx_lO "PostChain$Way" 3 := ⟨gx_T_in (List.mem_append_right _ (show _ ∈ tables_1 from (List.mem_append_left _ (List.mem_of_getElem? (i := 141) (by decide +kernel))))) (by decide +kernel), im_Obj, co_Obj⟩
theorem lk_Way_11 : gx_lI "PostChain$Way" 11 M_Row_init 1 := ⟨cs_Row_init, Or.inl (gx_T_in (List.mem_append_right _ (show _ ∈ tables_1 from (List.mem_append_left _ (List.mem_of_getElem? (i := 144) (by decide +kernel))))) (by decide +kernel)), by unfold gx_np; decide +kernel, im_Row_init, rfl, rfl⟩
theorem lk_Way_22 : gx_lI "PostChain$Way" 22 M_Word_init 1 := ⟨cs_Word_init, Or.inl (gx_T_in (List.mem_append_right _ (show _ ∈ tables_1 from (List.mem_append_left _ (List.mem_of_getElem? (i := 156) (by decide +kernel))))) (by decide +kernel)), by unfold gx_np; decide +kernel, im_Word_init, rfl, rfl⟩
theorem lk_Way_27 : gx_lV "PostChain$Way" 27 M_Row_empty 0 1 := ⟨cs_Row_empty, Or.inl (gx_T_in (List.mem_append_right _ (show _ ∈ tables_1 from (List.mem_append_right _ (List.mem_append_left _ (List.mem_of_getElem? (i := 66) (by decide +kernel)))))) (by decide +kernel)), by unfold gx_np; decide +kernel, im_Row_empty, se_Row_empty, T_Row, 2, rfl⟩
theorem lk_Way_30 : gx_lV "PostChain$Way" 30 M_Run_isHalted 0 3 := ⟨cs_Run_isHalted, Or.inl (gx_T_in (List.mem_append_right _ (show _ ∈ tables_1 from (List.mem_append_right _ (List.mem_append_left _ (List.mem_of_getElem? (i := 70) (by decide +kernel)))))) (by decide +kernel)), by unfold gx_np; decide +kernel, im_Run_isHalted, se_Run_isHalted, T_Run, 2, rfl⟩
theorem lk_Way_36 : gx_lV "PostChain$Way" 36 M_Row_add 1 1 := ⟨cs_Row_add, Or.inl (gx_T_in (List.mem_append_right _ (show _ ∈ tables_1 from (List.mem_append_right _ (List.mem_append_left _ (List.mem_of_getElem? (i := 85) (by decide +kernel)))))) (by decide +kernel)), by unfold gx_np; decide +kernel, im_Row_add, se_Row_add, T_Row, 2, rfl⟩
theorem lk_Way_39 : gx_lV "PostChain$Way" 39 M_Run_stepCount 0 3 := ⟨cs_Run_stepCount, Or.inl (gx_T_in (List.mem_append_right _ (show _ ∈ tables_1 from (List.mem_append_right _ (List.mem_append_left _ (List.mem_of_getElem? (i := 89) (by decide +kernel)))))) (by decide +kernel)), by unfold gx_np; decide +kernel, im_Run_stepCount, se_Run_stepCount, T_Run, 2, rfl⟩
theorem lk_Way_43 : gx_lV "PostChain$Way" 43 M_Run_text 1 3 := ⟨cs_Run_text, Or.inl (gx_T_in (List.mem_append_right _ (show _ ∈ tables_1 from (List.mem_append_right _ (List.mem_append_left _ (List.mem_of_getElem? (i := 93) (by decide +kernel)))))) (by decide +kernel)), by unfold gx_np; decide +kernel, im_Run_text, se_Run_text, T_Run, 2, rfl⟩
theorem lk_Way_47 : gx_lV "PostChain$Way" 47 M_Way_passStep 3 6 := ⟨cs_Way_passStep, Or.inl (gx_T_in (List.mem_append_right _ (show _ ∈ tables_1 from (List.mem_append_right _ (List.mem_append_left _ (List.mem_of_getElem? (i := 94) (by decide +kernel)))))) (by decide +kernel)), by unfold gx_np; decide +kernel, im_Way_passStep, se_Way_passStep, T_Way, 2, rfl⟩
theorem lk_Way_51 : gx_lV "PostChain$Way" 51 M_Word_copy 1 0 := ⟨cs_Word_copy, Or.inl (gx_T_in (List.mem_append_right _ (show _ ∈ tables_1 from (List.mem_append_right _ (List.mem_append_left _ (List.mem_of_getElem? (i := 115) (by decide +kernel)))))) (by decide +kernel)), by unfold gx_np; decide +kernel, im_Word_copy, se_Word_copy, T_Word, 2, rfl⟩
theorem lk_Way_55 : gx_lV "PostChain$Way" 55 M_Word_size 0 0 := ⟨cs_Word_size, Or.inl (gx_T_in (List.mem_append_right _ (show _ ∈ tables_1 from (List.mem_append_right _ (List.mem_append_left _ (List.mem_of_getElem? (i := 100) (by decide +kernel)))))) (by decide +kernel)), by unfold gx_np; decide +kernel, im_Word_size, se_Word_size, T_Word, 2, rfl⟩
theorem lk_Way_58 : gx_lV "PostChain$Way" 58 M_Way_passShorter 1 6 := ⟨cs_Way_passShorter, Or.inl (gx_T_in (List.mem_append_right _ (show _ ∈ tables_1 from (List.mem_append_right _ (List.mem_append_left _ (List.mem_of_getElem? (i := 116) (by decide +kernel)))))) (by decide +kernel)), by unfold gx_np; decide +kernel, im_Way_passShorter, se_Way_passShorter, T_Way, 2, rfl⟩
theorem lk_Way_62 : gx_lV "PostChain$Way" 62 M_Box_size 0 5 := ⟨cs_Box_size, Or.inl (gx_T_in (List.mem_append_right _ (show _ ∈ tables_1 from (List.mem_append_right _ (List.mem_append_left _ (List.mem_of_getElem? (i := 130) (by decide +kernel)))))) (by decide +kernel)), by unfold gx_np; decide +kernel, im_Box_size, se_Box_size, T_Box, 3, rfl⟩
theorem lk_Way_65 : gx_lV "PostChain$Way" 65 M_Machine_ruleFor 1 2 := ⟨cs_Machine_ruleFor, Or.inl (gx_T_in (List.mem_append_right _ (show _ ∈ tables_1 from (List.mem_append_right _ (List.mem_append_left _ (List.mem_of_getElem? (i := 98) (by decide +kernel)))))) (by decide +kernel)), by unfold gx_np; decide +kernel, im_Machine_ruleFor, se_Machine_ruleFor, T_Machine, 5, rfl⟩
theorem lk_Way_71 : gx_lV "PostChain$Way" 71 M_Word_head 0 0 := ⟨cs_Word_head, Or.inl (gx_T_in (List.mem_append_right _ (show _ ∈ tables_1 from (List.mem_append_right _ (List.mem_append_left _ (List.mem_of_getElem? (i := 99) (by decide +kernel)))))) (by decide +kernel)), by unfold gx_np; decide +kernel, im_Word_head, se_Word_head, T_Word, 2, rfl⟩
theorem lk_Way_78 : gx_lV "PostChain$Way" 78 M_Word_at 1 0 := ⟨cs_Word_at, Or.inl (gx_T_in (List.mem_append_right _ (show _ ∈ tables_1 from (List.mem_append_right _ (List.mem_append_left _ (List.mem_of_getElem? (i := 101) (by decide +kernel)))))) (by decide +kernel)), by unfold gx_np; decide +kernel, im_Word_at, se_Word_at, T_Word, 2, rfl⟩
theorem lk_Way_82 : gx_lS "PostChain$Way" 82 M_PC_symbolOf 1 := ⟨cs_PC_symbolOf, Or.inr ⟨"PostChain", by decide +kernel⟩, by unfold gx_np; decide +kernel, st_PC_symbolOf⟩
theorem lk_Way_86 : gx_lV "PostChain$Way" 86 M_Box_ofRule 4 5 := ⟨cs_Box_ofRule, Or.inl (gx_T_in (List.mem_append_right _ (show _ ∈ tables_1 from (List.mem_append_right _ (List.mem_append_left _ (List.mem_of_getElem? (i := 103) (by decide +kernel)))))) (by decide +kernel)), by unfold gx_np; decide +kernel, im_Box_ofRule, se_Box_ofRule, T_Box, 3, rfl⟩
theorem lk_Way_90 : gx_lV "PostChain$Way" 90 M_Way_pass 4 6 := ⟨cs_Way_pass, Or.inl (gx_T_in (List.mem_append_right _ (show _ ∈ tables_1 from (List.mem_append_right _ (List.mem_append_left _ (List.mem_of_getElem? (i := 107) (by decide +kernel)))))) (by decide +kernel)), by unfold gx_np; decide +kernel, im_Way_pass, se_Way_pass, T_Way, 2, rfl⟩
theorem lk_Way_94 : gx_lV "PostChain$Way" 94 M_Box_firstEnding 0 5 := ⟨cs_Box_firstEnding, Or.inl (gx_T_in (List.mem_append_right _ (show _ ∈ tables_1 from (List.mem_append_right _ (List.mem_append_left _ (List.mem_of_getElem? (i := 120) (by decide +kernel)))))) (by decide +kernel)), by unfold gx_np; decide +kernel, im_Box_firstEnding, se_Box_firstEnding, T_Box, 3, rfl⟩
theorem lk_Way_97 : gx_lM "PostChain$Way" 97 Lib.Math.min.name Lib.Math.min.code := ⟨gx_T_in (List.mem_append_right _ (show _ ∈ tables_1 from (List.mem_append_right _ (List.mem_append_left _ (List.mem_of_getElem? (i := 124) (by decide +kernel)))))) (by decide +kernel), st_Math_min, in_Math, co_Math_min⟩
theorem lk_Way_103 : gx_lM "PostChain$Way" 103 Lib.Math.max.name Lib.Math.max.code := ⟨gx_T_in (List.mem_append_right _ (show _ ∈ tables_1 from (List.mem_append_right _ (List.mem_append_left _ (List.mem_of_getElem? (i := 125) (by decide +kernel)))))) (by decide +kernel), st_Math_max, in_Math, co_Math_max⟩
theorem lk_Way_106 : gx_lV "PostChain$Way" 106 M_Word_remove 1 0 := ⟨cs_Word_remove, Or.inl (gx_T_in (List.mem_append_right _ (show _ ∈ tables_1 from (List.mem_append_right _ (List.mem_append_left _ (List.mem_of_getElem? (i := 126) (by decide +kernel)))))) (by decide +kernel)), by unfold gx_np; decide +kernel, im_Word_remove, se_Word_remove, T_Word, 2, rfl⟩
theorem lk_Way_109 : gx_lV "PostChain$Way" 109 M_Way_copySymbols 3 6 := ⟨cs_Way_copySymbols, Or.inl (gx_T_in (List.mem_append_right _ (show _ ∈ tables_1 from (List.mem_append_right _ (List.mem_append_left _ (List.mem_of_getElem? (i := 111) (by decide +kernel)))))) (by decide +kernel)), by unfold gx_np; decide +kernel, im_Way_copySymbols, se_Way_copySymbols, T_Way, 2, rfl⟩
theorem lk_Word_3 : gx_lO "PostChain$Word" 3 := ⟨gx_T_in (List.mem_append_right _ (show _ ∈ tables_1 from (List.mem_append_left _ (List.mem_of_getElem? (i := 41) (by decide +kernel))))) (by decide +kernel), im_Obj, co_Obj⟩
theorem lk_Word_19 : gx_lV "PostChain$Word" 19 M_Word_at 1 0 := ⟨cs_Word_at, Or.inl (gx_T_in (List.mem_append_right _ (show _ ∈ tables_1 from (List.mem_append_left _ (List.mem_of_getElem? (i := 225) (by decide +kernel))))) (by decide +kernel)), by unfold gx_np; decide +kernel, im_Word_at, se_Word_at, T_Word, 2, rfl⟩
theorem lk_Word_23 : gx_lV "PostChain$Word" 23 M_Word_add 1 0 := ⟨cs_Word_add, Or.inl (gx_T_in (List.mem_append_right _ (show _ ∈ tables_1 from (List.mem_append_left _ (List.mem_of_getElem? (i := 229) (by decide +kernel))))) (by decide +kernel)), by unfold gx_np; decide +kernel, im_Word_add, se_Word_add, T_Word, 2, rfl⟩
theorem lk_Word_27 : gx_lV "PostChain$Word" 27 M_Word_empty 0 0 := ⟨cs_Word_empty, Or.inl (gx_T_in (List.mem_append_right _ (show _ ∈ tables_1 from (List.mem_append_left _ (List.mem_of_getElem? (i := 213) (by decide +kernel))))) (by decide +kernel)), by unfold gx_np; decide +kernel, im_Word_empty, se_Word_empty, T_Word, 2, rfl⟩
theorem lk_Word_30 : gx_lV "PostChain$Word" 30 M_Word_size 0 0 := ⟨cs_Word_size, Or.inl (gx_T_in (List.mem_append_right _ (show _ ∈ tables_1 from (List.mem_append_left _ (List.mem_of_getElem? (i := 217) (by decide +kernel))))) (by decide +kernel)), by unfold gx_np; decide +kernel, im_Word_size, se_Word_size, T_Word, 2, rfl⟩
theorem lk_Word_34 : gx_lV "PostChain$Word" 34 M_Word_addPart 3 0 := ⟨cs_Word_addPart, Or.inl (gx_T_in (List.mem_append_right _ (show _ ∈ tables_1 from (List.mem_append_left _ (List.mem_of_getElem? (i := 221) (by decide +kernel))))) (by decide +kernel)), by unfold gx_np; decide +kernel, im_Word_addPart, se_Word_addPart, T_Word, 2, rfl⟩
theorem lk_Word_38 : gx_lM "PostChain$Word" 38 Lib.Math.min.name Lib.Math.min.code := ⟨gx_T_in (List.mem_append_right _ (show _ ∈ tables_1 from (List.mem_append_right _ (List.mem_append_left _ (List.mem_of_getElem? (i := 236) (by decide +kernel)))))) (by decide +kernel), st_Math_min, in_Math, co_Math_min⟩
theorem lk_Word_44 : gx_lV "PostChain$Word" 44 M_Word_agrees 1 0 := ⟨cs_Word_agrees, Or.inl (gx_T_in (List.mem_append_right _ (show _ ∈ tables_1 from (List.mem_append_right _ (List.mem_append_right _ (List.mem_append_left _ (List.mem_of_getElem? (i := 1) (by decide +kernel))))))) (by decide +kernel)), by unfold gx_np; decide +kernel, im_Word_agrees, se_Word_agrees, T_Word, 2, rfl⟩
theorem lk_Law_7 : gx_lV "PostChainLaw" 7 M_PC_rule 5 8 := ⟨cs_PC_rule, Or.inl (gx_T_in (List.mem_append_right _ (show _ ∈ tables_1 from (List.mem_append_right _ (List.mem_append_right _ (List.mem_append_left _ (List.mem_of_getElem? (i := 167) (by decide +kernel))))))) (by decide +kernel)), by unfold gx_np; decide +kernel, im_PC_rule, se_PC_rule, T_PC, 9, rfl⟩
theorem lk_Law_15 : gx_lV "PostChainLaw" 15 M_PC_drop 2 8 := ⟨cs_PC_drop, Or.inl (gx_T_in (List.mem_append_right _ (show _ ∈ tables_1 from (List.mem_append_right _ (List.mem_append_right _ (List.mem_append_right _ (List.mem_append_left _ (List.mem_of_getElem? (i := 8) (by decide +kernel)))))))) (by decide +kernel)), by unfold gx_np; decide +kernel, im_PC_drop, se_PC_drop, T_PC, 9, rfl⟩
theorem lk_Law_19 : gx_lV "PostChainLaw" 19 M_PC_input 2 8 := ⟨cs_PC_input, Or.inl (gx_T_in (List.mem_append_right _ (show _ ∈ tables_1 from (List.mem_append_right _ (List.mem_append_right _ (List.mem_append_right _ (List.mem_append_left _ (List.mem_of_getElem? (i := 19) (by decide +kernel)))))))) (by decide +kernel)), by unfold gx_np; decide +kernel, im_PC_input, se_PC_input, T_PC, 9, rfl⟩
theorem lk_Law_22 : gx_lV "PostChainLaw" 22 M_PC_way 1 8 := ⟨cs_PC_way, Or.inl (gx_T_in (List.mem_append_right _ (show _ ∈ tables_1 from (List.mem_append_right _ (List.mem_append_right _ (List.mem_append_right _ (List.mem_append_left _ (List.mem_of_getElem? (i := 33) (by decide +kernel)))))))) (by decide +kernel)), by unfold gx_np; decide +kernel, im_PC_way, se_PC_way, T_PC, 9, rfl⟩
theorem lk_Law_28 : gx_lV "PostChainLaw" 28 M_PC_layWay 0 8 := ⟨cs_PC_layWay, Or.inl (gx_T_in (List.mem_append_right _ (show _ ∈ tables_1 from (List.mem_append_right _ (List.mem_append_right _ (List.mem_append_right _ (List.mem_append_left _ (List.mem_of_getElem? (i := 60) (by decide +kernel)))))))) (by decide +kernel)), by unfold gx_np; decide +kernel, im_PC_layWay, se_PC_layWay, T_PC, 9, rfl⟩
theorem lk_Law_32 : gx_lI "PostChainLaw" 32 M_PC_init 0 := ⟨cs_PC_init, Or.inl (gx_T_in (List.mem_append_right _ (show _ ∈ tables_1 from (List.mem_append_left _ (List.mem_of_getElem? (i := 24) (by decide +kernel))))) (by decide +kernel)), by unfold gx_np; decide +kernel, im_PC_init, rfl, rfl⟩
theorem lk_Law_35 : gx_lI "PostChainLaw" 35 M_Mo_init 0 := ⟨cs_Mo_init, Or.inl (gx_T_in (List.mem_append_right _ (show _ ∈ tables_1 from (List.mem_append_right _ (List.mem_append_right _ (List.mem_append_right _ (List.mem_append_left _ (List.mem_of_getElem? (i := 74) (by decide +kernel)))))))) (by decide +kernel)), by unfold gx_np; decide +kernel, im_Mo_init, rfl, rfl⟩
theorem lk_Law_41 : gx_lV "PostChainLaw" 41 M_Mo_rule 5 9 := ⟨cs_Mo_rule, Or.inl (gx_T_in (List.mem_append_right _ (show _ ∈ tables_1 from (List.mem_append_right _ (List.mem_append_right _ (List.mem_append_right _ (List.mem_append_right _ (List.mem_of_getElem? (i := 4) (by decide +kernel)))))))) (by decide +kernel)), by unfold gx_np; decide +kernel, im_Mo_rule, se_Mo_rule, T_Mo, 33, rfl⟩
theorem lk_Law_42 : gx_lV "PostChainLaw" 42 M_Mo_thrown 0 9 := ⟨cs_Mo_thrown, Or.inl (gx_T_in (List.mem_append_right _ (show _ ∈ tables_1 from (List.mem_append_right _ (List.mem_append_right _ (List.mem_append_right _ (List.mem_append_right _ (List.mem_of_getElem? (i := 0) (by decide +kernel)))))))) (by decide +kernel)), by unfold gx_np; decide +kernel, im_Mo_thrown, se_Mo_thrown, T_Mo, 33, rfl⟩
theorem lk_Law_48 : gx_lV "PostChainLaw" 48 M_Mo_drop 2 9 := ⟨cs_Mo_drop, Or.inl (gx_T_in (List.mem_append_right _ (show _ ∈ tables_1 from (List.mem_append_right _ (List.mem_append_right _ (List.mem_append_right _ (List.mem_append_right _ (List.mem_of_getElem? (i := 11) (by decide +kernel)))))))) (by decide +kernel)), by unfold gx_np; decide +kernel, im_Mo_drop, se_Mo_drop, T_Mo, 33, rfl⟩
theorem lk_Law_51 : gx_lV "PostChainLaw" 51 M_Mo_input 2 9 := ⟨cs_Mo_input, Or.inl (gx_T_in (List.mem_append_right _ (show _ ∈ tables_1 from (List.mem_append_right _ (List.mem_append_right _ (List.mem_append_right _ (List.mem_append_right _ (List.mem_of_getElem? (i := 15) (by decide +kernel)))))))) (by decide +kernel)), by unfold gx_np; decide +kernel, im_Mo_input, se_Mo_input, T_Mo, 33, rfl⟩
theorem lk_Law_52 : gx_lV "PostChainLaw" 52 M_PC_steps 0 8 := ⟨cs_PC_steps, Or.inl (gx_T_in (List.mem_append_right _ (show _ ∈ tables_1 from (List.mem_append_right _ (List.mem_append_left _ (List.mem_of_getElem? (i := 168) (by decide +kernel)))))) (by decide +kernel)), by unfold gx_np; decide +kernel, im_PC_steps, se_PC_steps, T_PC, 9, rfl⟩
theorem lk_Law_55 : gx_lV "PostChainLaw" 55 M_Mo_steps 0 9 := ⟨cs_Mo_steps, Or.inl (gx_T_in (List.mem_append_right _ (show _ ∈ tables_1 from (List.mem_append_right _ (List.mem_append_right _ (List.mem_append_right _ (List.mem_append_right _ (List.mem_of_getElem? (i := 19) (by decide +kernel)))))))) (by decide +kernel)), by unfold gx_np; decide +kernel, im_Mo_steps, se_Mo_steps, T_Mo, 33, rfl⟩
theorem lk_Law_56 : gx_lV "PostChainLaw" 56 M_PC_halts 0 8 := ⟨cs_PC_halts, Or.inl (gx_T_in (List.mem_append_right _ (show _ ∈ tables_1 from (List.mem_append_right _ (List.mem_append_left _ (List.mem_of_getElem? (i := 173) (by decide +kernel)))))) (by decide +kernel)), by unfold gx_np; decide +kernel, im_PC_halts, se_PC_halts, T_PC, 9, rfl⟩
theorem lk_Law_60 : gx_lV "PostChainLaw" 60 M_Mo_halts 0 9 := ⟨cs_Mo_halts, Or.inl (gx_T_in (List.mem_append_right _ (show _ ∈ tables_1 from (List.mem_append_right _ (List.mem_append_right _ (List.mem_append_right _ (List.mem_append_right _ (List.mem_of_getElem? (i := 23) (by decide +kernel)))))))) (by decide +kernel)), by unfold gx_np; decide +kernel, im_Mo_halts, se_Mo_halts, T_Mo, 33, rfl⟩
theorem lk_Law_61 : gx_lV "PostChainLaw" 61 M_PC_run 2 8 := ⟨cs_PC_run, Or.inl (gx_T_in (List.mem_append_right _ (show _ ∈ tables_1 from (List.mem_append_right _ (List.mem_append_left _ (List.mem_of_getElem? (i := 178) (by decide +kernel)))))) (by decide +kernel)), by unfold gx_np; decide +kernel, im_PC_run, se_PC_run, T_PC, 9, rfl⟩
theorem lk_Law_65 : gx_lV "PostChainLaw" 65 M_Mo_run 2 9 := ⟨cs_Mo_run, Or.inl (gx_T_in (List.mem_append_right _ (show _ ∈ tables_1 from (List.mem_append_right _ (List.mem_append_right _ (List.mem_append_right _ (List.mem_append_right _ (List.mem_of_getElem? (i := 27) (by decide +kernel)))))))) (by decide +kernel)), by unfold gx_np; decide +kernel, im_Mo_run, se_Mo_run, T_Mo, 33, rfl⟩
theorem lk_Law_66 : gx_lV "PostChainLaw" 66 M_PC_dominoes 0 8 := ⟨cs_PC_dominoes, Or.inl (gx_T_in (List.mem_append_right _ (show _ ∈ tables_1 from (List.mem_append_right _ (List.mem_append_left _ (List.mem_of_getElem? (i := 187) (by decide +kernel)))))) (by decide +kernel)), by unfold gx_np; decide +kernel, im_PC_dominoes, se_PC_dominoes, T_PC, 9, rfl⟩
theorem lk_Law_69 : gx_lV "PostChainLaw" 69 M_Mo_dominoes 0 9 := ⟨cs_Mo_dominoes, Or.inl (gx_T_in (List.mem_append_right _ (show _ ∈ tables_1 from (List.mem_append_right _ (List.mem_append_right _ (List.mem_append_right _ (List.mem_append_right _ (List.mem_of_getElem? (i := 31) (by decide +kernel)))))))) (by decide +kernel)), by unfold gx_np; decide +kernel, im_Mo_dominoes, se_Mo_dominoes, T_Mo, 33, rfl⟩
theorem lk_Law_70 : gx_lV "PostChainLaw" 70 M_PC_domino 3 8 := ⟨cs_PC_domino, Or.inl (gx_T_in (List.mem_append_right _ (show _ ∈ tables_1 from (List.mem_append_right _ (List.mem_append_left _ (List.mem_of_getElem? (i := 192) (by decide +kernel)))))) (by decide +kernel)), by unfold gx_np; decide +kernel, im_PC_domino, se_PC_domino, T_PC, 9, rfl⟩
theorem lk_Law_74 : gx_lV "PostChainLaw" 74 M_Mo_domino 3 9 := ⟨cs_Mo_domino, Or.inl (gx_T_in (List.mem_append_right _ (show _ ∈ tables_1 from (List.mem_append_right _ (List.mem_append_right _ (List.mem_append_right _ (List.mem_append_right _ (List.mem_of_getElem? (i := 35) (by decide +kernel)))))))) (by decide +kernel)), by unfold gx_np; decide +kernel, im_Mo_domino, se_Mo_domino, T_Mo, 33, rfl⟩
theorem lk_Law_78 : gx_lV "PostChainLaw" 78 M_Mo_way 1 9 := ⟨cs_Mo_way, Or.inl (gx_T_in (List.mem_append_right _ (show _ ∈ tables_1 from (List.mem_append_right _ (List.mem_append_right _ (List.mem_append_right _ (List.mem_append_right _ (List.mem_of_getElem? (i := 39) (by decide +kernel)))))))) (by decide +kernel)), by unfold gx_np; decide +kernel, im_Mo_way, se_Mo_way, T_Mo, 33, rfl⟩
theorem lk_Law_79 : gx_lV "PostChainLaw" 79 M_PC_lay 1 8 := ⟨cs_PC_lay, Or.inl (gx_T_in (List.mem_append_right _ (show _ ∈ tables_1 from (List.mem_append_right _ (List.mem_append_left _ (List.mem_of_getElem? (i := 205) (by decide +kernel)))))) (by decide +kernel)), by unfold gx_np; decide +kernel, im_PC_lay, se_PC_lay, T_PC, 9, rfl⟩
theorem lk_Law_82 : gx_lV "PostChainLaw" 82 M_Mo_lay 1 9 := ⟨cs_Mo_lay, Or.inl (gx_T_in (List.mem_append_right _ (show _ ∈ tables_1 from (List.mem_append_right _ (List.mem_append_right _ (List.mem_append_right _ (List.mem_append_right _ (List.mem_of_getElem? (i := 43) (by decide +kernel)))))))) (by decide +kernel)), by unfold gx_np; decide +kernel, im_Mo_lay, se_Mo_lay, T_Mo, 33, rfl⟩
theorem lk_Law_86 : gx_lV "PostChainLaw" 86 M_Mo_layWay 0 9 := ⟨cs_Mo_layWay, Or.inl (gx_T_in (List.mem_append_right _ (show _ ∈ tables_1 from (List.mem_append_right _ (List.mem_append_right _ (List.mem_append_right _ (List.mem_append_right _ (List.mem_of_getElem? (i := 47) (by decide +kernel)))))))) (by decide +kernel)), by unfold gx_np; decide +kernel, im_Mo_layWay, se_Mo_layWay, T_Mo, 33, rfl⟩
theorem lk_Law_87 : gx_lV "PostChainLaw" 87 M_PC_clear 0 8 := ⟨cs_PC_clear, Or.inl (gx_T_in (List.mem_append_right _ (show _ ∈ tables_1 from (List.mem_append_right _ (List.mem_append_left _ (List.mem_of_getElem? (i := 214) (by decide +kernel)))))) (by decide +kernel)), by unfold gx_np; decide +kernel, im_PC_clear, se_PC_clear, T_PC, 9, rfl⟩
theorem lk_Law_90 : gx_lV "PostChainLaw" 90 M_Mo_clear 0 9 := ⟨cs_Mo_clear, Or.inl (gx_T_in (List.mem_append_right _ (show _ ∈ tables_1 from (List.mem_append_right _ (List.mem_append_right _ (List.mem_append_right _ (List.mem_append_right _ (List.mem_of_getElem? (i := 51) (by decide +kernel)))))))) (by decide +kernel)), by unfold gx_np; decide +kernel, im_Mo_clear, se_Mo_clear, T_Mo, 33, rfl⟩
theorem lk_Law_91 : gx_lV "PostChainLaw" 91 M_PC_tray 0 8 := ⟨cs_PC_tray, Or.inl (gx_T_in (List.mem_append_right _ (show _ ∈ tables_1 from (List.mem_append_right _ (List.mem_append_left _ (List.mem_of_getElem? (i := 218) (by decide +kernel)))))) (by decide +kernel)), by unfold gx_np; decide +kernel, im_PC_tray, se_PC_tray, T_PC, 9, rfl⟩
theorem lk_Law_94 : gx_lV "PostChainLaw" 94 M_Mo_tray 0 9 := ⟨cs_Mo_tray, Or.inl (gx_T_in (List.mem_append_right _ (show _ ∈ tables_1 from (List.mem_append_right _ (List.mem_append_right _ (List.mem_append_right _ (List.mem_append_right _ (List.mem_of_getElem? (i := 55) (by decide +kernel)))))))) (by decide +kernel)), by unfold gx_np; decide +kernel, im_Mo_tray, se_Mo_tray, T_Mo, 33, rfl⟩
theorem lk_Law_95 : gx_lV "PostChainLaw" 95 M_PC_back 0 8 := ⟨cs_PC_back, Or.inl (gx_T_in (List.mem_append_right _ (show _ ∈ tables_1 from (List.mem_append_right _ (List.mem_append_right _ (List.mem_append_left _ (List.mem_of_getElem? (i := 2) (by decide +kernel))))))) (by decide +kernel)), by unfold gx_np; decide +kernel, im_PC_back, se_PC_back, T_PC, 9, rfl⟩
theorem lk_Law_98 : gx_lV "PostChainLaw" 98 M_Mo_back 0 9 := ⟨cs_Mo_back, Or.inl (gx_T_in (List.mem_append_right _ (show _ ∈ tables_1 from (List.mem_append_right _ (List.mem_append_right _ (List.mem_append_right _ (List.mem_append_right _ (List.mem_of_getElem? (i := 67) (by decide +kernel)))))))) (by decide +kernel)), by unfold gx_np; decide +kernel, im_Mo_back, se_Mo_back, T_Mo, 33, rfl⟩
theorem lk_Law_101 : gx_lV "PostChainLaw" 101 M_PC_type 1 8 := ⟨cs_PC_type, Or.inl (gx_T_in (List.mem_append_right _ (show _ ∈ tables_1 from (List.mem_append_right _ (List.mem_append_right _ (List.mem_append_left _ (List.mem_of_getElem? (i := 12) (by decide +kernel))))))) (by decide +kernel)), by unfold gx_np; decide +kernel, im_PC_type, se_PC_type, T_PC, 9, rfl⟩
theorem lk_Law_105 : gx_lV "PostChainLaw" 105 M_Mo_type 1 9 := ⟨cs_Mo_type, Or.inl (gx_T_in (List.mem_append_right _ (show _ ∈ tables_1 from (List.mem_append_right _ (List.mem_append_right _ (List.mem_append_right _ (List.mem_append_right _ (List.mem_of_getElem? (i := 71) (by decide +kernel)))))))) (by decide +kernel)), by unfold gx_np; decide +kernel, im_Mo_type, se_Mo_type, T_Mo, 33, rfl⟩
theorem lk_Law_106 : gx_lV "PostChainLaw" 106 M_PC_trees 0 8 := ⟨cs_PC_trees, Or.inl (gx_T_in (List.mem_append_right _ (show _ ∈ tables_1 from (List.mem_append_right _ (List.mem_append_right _ (List.mem_append_left _ (List.mem_of_getElem? (i := 105) (by decide +kernel))))))) (by decide +kernel)), by unfold gx_np; decide +kernel, im_PC_trees, se_PC_trees, T_PC, 9, rfl⟩
theorem lk_Law_109 : gx_lV "PostChainLaw" 109 M_Mo_trees 0 9 := ⟨cs_Mo_trees, Or.inl (gx_T_in (List.mem_append_right _ (show _ ∈ tables_1 from (List.mem_append_right _ (List.mem_append_right _ (List.mem_append_right _ (List.mem_append_right _ (List.mem_of_getElem? (i := 75) (by decide +kernel)))))))) (by decide +kernel)), by unfold gx_np; decide +kernel, im_Mo_trees, se_Mo_trees, T_Mo, 33, rfl⟩
theorem lk_Law_110 : gx_lV "PostChainLaw" 110 M_PC_search 1 8 := ⟨cs_PC_search, Or.inl (gx_T_in (List.mem_append_right _ (show _ ∈ tables_1 from (List.mem_append_right _ (List.mem_append_right _ (List.mem_append_left _ (List.mem_of_getElem? (i := 109) (by decide +kernel))))))) (by decide +kernel)), by unfold gx_np; decide +kernel, im_PC_search, se_PC_search, T_PC, 9, rfl⟩
theorem lk_Law_113 : gx_lV "PostChainLaw" 113 M_Mo_search 1 9 := ⟨cs_Mo_search, Or.inl (gx_T_in (List.mem_append_right _ (show _ ∈ tables_1 from (List.mem_append_right _ (List.mem_append_right _ (List.mem_append_right _ (List.mem_append_right _ (List.mem_of_getElem? (i := 79) (by decide +kernel)))))))) (by decide +kernel)), by unfold gx_np; decide +kernel, im_Mo_search, se_Mo_search, T_Mo, 33, rfl⟩
theorem lk_Law_114 : gx_lV "PostChainLaw" 114 M_PC_looked 0 8 := ⟨cs_PC_looked, Or.inl (gx_T_in (List.mem_append_right _ (show _ ∈ tables_1 from (List.mem_append_right _ (List.mem_append_right _ (List.mem_append_left _ (List.mem_of_getElem? (i := 155) (by decide +kernel))))))) (by decide +kernel)), by unfold gx_np; decide +kernel, im_PC_looked, se_PC_looked, T_PC, 9, rfl⟩
theorem lk_Law_117 : gx_lV "PostChainLaw" 117 M_Mo_looked 0 9 := ⟨cs_Mo_looked, Or.inl (gx_T_in (List.mem_append_right _ (show _ ∈ tables_1 from (List.mem_append_right _ (List.mem_append_right _ (List.mem_append_right _ (List.mem_append_right _ (List.mem_of_getElem? (i := 91) (by decide +kernel)))))))) (by decide +kernel)), by unfold gx_np; decide +kernel, im_Mo_looked, se_Mo_looked, T_Mo, 33, rfl⟩
theorem lk_Mo_1 : gx_lO "PostChainModel" 1 := ⟨gx_T_in (List.mem_append_right _ (show _ ∈ tables_1 from (List.mem_append_right _ (List.mem_append_right _ (List.mem_append_right _ (List.mem_append_left _ (List.mem_of_getElem? (i := 77) (by decide +kernel)))))))) (by decide +kernel), im_Obj, co_Obj⟩
theorem lk_Mo_87 : gx_lV "PostChainModel" 87 M_Mo_change 0 9 := ⟨cs_Mo_change, Or.inl (gx_T_in (List.mem_append_right _ (show _ ∈ tables_1 from (List.mem_append_right _ (List.mem_append_right _ (List.mem_append_right _ (List.mem_append_left _ (List.mem_of_getElem? (i := 78) (by decide +kernel)))))))) (by decide +kernel)), by unfold gx_np; decide +kernel, im_Mo_change, se_Mo_change, T_Mo, 33, rfl⟩
theorem lk_Mo_93 : gx_lS "PostChainModel" 93 M_Mo_isSymbol 1 := ⟨cs_Mo_isSymbol, Or.inl (gx_T_in (List.mem_append_right _ (show _ ∈ tables_1 from (List.mem_append_right _ (List.mem_append_right _ (List.mem_append_right _ (List.mem_append_left _ (List.mem_of_getElem? (i := 94) (by decide +kernel)))))))) (by decide +kernel)), by unfold gx_np; decide +kernel, st_Mo_isSymbol⟩
theorem lk_Mo_97 : gx_lV "PostChainModel" 97 M_Mo_head 1 9 := ⟨cs_Mo_head, Or.inl (gx_T_in (List.mem_append_right _ (show _ ∈ tables_1 from (List.mem_append_right _ (List.mem_append_right _ (List.mem_append_right _ (List.mem_append_left _ (List.mem_of_getElem? (i := 90) (by decide +kernel)))))))) (by decide +kernel)), by unfold gx_np; decide +kernel, im_Mo_head, se_Mo_head, T_Mo, 33, rfl⟩
theorem lk_Mo_101 : gx_lV "PostChainModel" 101 M_Mo_ruleOf 1 9 := ⟨cs_Mo_ruleOf, Or.inl (gx_T_in (List.mem_append_right _ (show _ ∈ tables_1 from (List.mem_append_right _ (List.mem_append_right _ (List.mem_append_right _ (List.mem_append_left _ (List.mem_of_getElem? (i := 86) (by decide +kernel)))))))) (by decide +kernel)), by unfold gx_np; decide +kernel, im_Mo_ruleOf, se_Mo_ruleOf, T_Mo, 33, rfl⟩
theorem lk_Mo_104 : gx_lS "PostChainModel" 104 M_Mo_letter 1 := ⟨cs_Mo_letter, Or.inl (gx_T_in (List.mem_append_right _ (show _ ∈ tables_1 from (List.mem_append_right _ (List.mem_append_right _ (List.mem_append_right _ (List.mem_append_left _ (List.mem_of_getElem? (i := 97) (by decide +kernel)))))))) (by decide +kernel)), by unfold gx_np; decide +kernel, st_Mo_letter⟩
theorem lk_Mo_113 : gx_lV "PostChainModel" 113 M_Mo_step 1 9 := ⟨cs_Mo_step, Or.inl (gx_T_in (List.mem_append_right _ (show _ ∈ tables_1 from (List.mem_append_right _ (List.mem_append_right _ (List.mem_append_right _ (List.mem_append_left _ (List.mem_of_getElem? (i := 82) (by decide +kernel)))))))) (by decide +kernel)), by unfold gx_np; decide +kernel, im_Mo_step, se_Mo_step, T_Mo, 33, rfl⟩
theorem lk_Mo_116 : gx_lV "PostChainModel" 116 M_Mo_makeDominoes 0 9 := ⟨cs_Mo_makeDominoes, Or.inl (gx_T_in (List.mem_append_right _ (show _ ∈ tables_1 from (List.mem_append_right _ (List.mem_append_right _ (List.mem_append_right _ (List.mem_append_left _ (List.mem_of_getElem? (i := 100) (by decide +kernel)))))))) (by decide +kernel)), by unfold gx_np; decide +kernel, im_Mo_makeDominoes, se_Mo_makeDominoes, T_Mo, 33, rfl⟩
theorem lk_Mo_122 : gx_lV "PostChainModel" 122 M_Mo_halted 0 9 := ⟨cs_Mo_halted, Or.inl (gx_T_in (List.mem_append_right _ (show _ ∈ tables_1 from (List.mem_append_right _ (List.mem_append_right _ (List.mem_append_right _ (List.mem_append_left _ (List.mem_of_getElem? (i := 120) (by decide +kernel)))))))) (by decide +kernel)), by unfold gx_np; decide +kernel, im_Mo_halted, se_Mo_halted, T_Mo, 33, rfl⟩
theorem lk_Mo_126 : gx_lV "PostChainModel" 126 M_Mo_makeWay 0 9 := ⟨cs_Mo_makeWay, Or.inl (gx_T_in (List.mem_append_right _ (show _ ∈ tables_1 from (List.mem_append_right _ (List.mem_append_right _ (List.mem_append_right _ (List.mem_append_left _ (List.mem_of_getElem? (i := 124) (by decide +kernel)))))))) (by decide +kernel)), by unfold gx_np; decide +kernel, im_Mo_makeWay, se_Mo_makeWay, T_Mo, 33, rfl⟩
theorem lk_Mo_135 : gx_lS "PostChainModel" 135 M_Mo_isRule 2 := ⟨cs_Mo_isRule, Or.inl (gx_T_in (List.mem_append_right _ (show _ ∈ tables_1 from (List.mem_append_right _ (List.mem_append_right _ (List.mem_append_right _ (List.mem_append_right _ (List.mem_of_getElem? (i := 8) (by decide +kernel)))))))) (by decide +kernel)), by unfold gx_np; decide +kernel, st_Mo_isRule⟩
theorem lk_Mo_142 : gx_lV "PostChainModel" 142 M_Mo_addUpper 1 9 := ⟨cs_Mo_addUpper, Or.inl (gx_T_in (List.mem_append_right _ (show _ ∈ tables_1 from (List.mem_append_right _ (List.mem_append_right _ (List.mem_append_right _ (List.mem_append_left _ (List.mem_of_getElem? (i := 104) (by decide +kernel)))))))) (by decide +kernel)), by unfold gx_np; decide +kernel, im_Mo_addUpper, se_Mo_addUpper, T_Mo, 33, rfl⟩
theorem lk_Mo_146 : gx_lV "PostChainModel" 146 M_Mo_addLower 1 9 := ⟨cs_Mo_addLower, Or.inl (gx_T_in (List.mem_append_right _ (show _ ∈ tables_1 from (List.mem_append_right _ (List.mem_append_right _ (List.mem_append_right _ (List.mem_append_left _ (List.mem_of_getElem? (i := 108) (by decide +kernel)))))))) (by decide +kernel)), by unfold gx_np; decide +kernel, im_Mo_addLower, se_Mo_addLower, T_Mo, 33, rfl⟩
theorem lk_Mo_149 : gx_lV "PostChainModel" 149 M_Mo_make 7 9 := ⟨cs_Mo_make, Or.inl (gx_T_in (List.mem_append_right _ (show _ ∈ tables_1 from (List.mem_append_right _ (List.mem_append_right _ (List.mem_append_right _ (List.mem_append_left _ (List.mem_of_getElem? (i := 112) (by decide +kernel)))))))) (by decide +kernel)), by unfold gx_np; decide +kernel, im_Mo_make, se_Mo_make, T_Mo, 33, rfl⟩
theorem lk_Mo_153 : gx_lV "PostChainModel" 153 M_Mo_makeRule 2 9 := ⟨cs_Mo_makeRule, Or.inl (gx_T_in (List.mem_append_right _ (show _ ∈ tables_1 from (List.mem_append_right _ (List.mem_append_right _ (List.mem_append_right _ (List.mem_append_left _ (List.mem_of_getElem? (i := 116) (by decide +kernel)))))))) (by decide +kernel)), by unfold gx_np; decide +kernel, im_Mo_makeRule, se_Mo_makeRule, T_Mo, 33, rfl⟩
theorem lk_Mo_157 : gx_lV "PostChainModel" 157 M_Mo_goOn 1 9 := ⟨cs_Mo_goOn, Or.inl (gx_T_in (List.mem_append_right _ (show _ ∈ tables_1 from (List.mem_append_right _ (List.mem_append_right _ (List.mem_append_right _ (List.mem_append_left _ (List.mem_of_getElem? (i := 128) (by decide +kernel)))))))) (by decide +kernel)), by unfold gx_np; decide +kernel, im_Mo_goOn, se_Mo_goOn, T_Mo, 33, rfl⟩
theorem lk_Mo_160 : gx_lV "PostChainModel" 160 M_Mo_find 3 9 := ⟨cs_Mo_find, Or.inl (gx_T_in (List.mem_append_right _ (show _ ∈ tables_1 from (List.mem_append_right _ (List.mem_append_right _ (List.mem_append_right _ (List.mem_append_left _ (List.mem_of_getElem? (i := 136) (by decide +kernel)))))))) (by decide +kernel)), by unfold gx_np; decide +kernel, im_Mo_find, se_Mo_find, T_Mo, 33, rfl⟩
theorem lk_Mo_164 : gx_lV "PostChainModel" 164 M_Mo_wayStep 1 9 := ⟨cs_Mo_wayStep, Or.inl (gx_T_in (List.mem_append_right _ (show _ ∈ tables_1 from (List.mem_append_right _ (List.mem_append_right _ (List.mem_append_right _ (List.mem_append_left _ (List.mem_of_getElem? (i := 132) (by decide +kernel)))))))) (by decide +kernel)), by unfold gx_np; decide +kernel, im_Mo_wayStep, se_Mo_wayStep, T_Mo, 33, rfl⟩
theorem lk_Mo_167 : gx_lV "PostChainModel" 167 M_Mo_word 1 9 := ⟨cs_Mo_word, Or.inl (gx_T_in (List.mem_append_right _ (show _ ∈ tables_1 from (List.mem_append_right _ (List.mem_append_right _ (List.mem_append_right _ (List.mem_append_right _ (List.mem_of_getElem? (i := 63) (by decide +kernel)))))))) (by decide +kernel)), by unfold gx_np; decide +kernel, im_Mo_word, se_Mo_word, T_Mo, 33, rfl⟩
theorem lk_Mo_171 : gx_lV "PostChainModel" 171 M_Mo_kind 0 9 := ⟨cs_Mo_kind, Or.inl (gx_T_in (List.mem_append_right _ (show _ ∈ tables_1 from (List.mem_append_right _ (List.mem_append_right _ (List.mem_append_right _ (List.mem_append_right _ (List.mem_of_getElem? (i := 59) (by decide +kernel)))))))) (by decide +kernel)), by unfold gx_np; decide +kernel, im_Mo_kind, se_Mo_kind, T_Mo, 33, rfl⟩
theorem lk_Mo_178 : gx_lV "PostChainModel" 178 M_Mo_join 2 9 := ⟨cs_Mo_join, Or.inl (gx_T_in (List.mem_append_right _ (show _ ∈ tables_1 from (List.mem_append_right _ (List.mem_append_right _ (List.mem_append_right _ (List.mem_append_right _ (List.mem_of_getElem? (i := 83) (by decide +kernel)))))))) (by decide +kernel)), by unfold gx_np; decide +kernel, im_Mo_join, se_Mo_join, T_Mo, 33, rfl⟩
theorem lk_Mo_181 : gx_lV "PostChainModel" 181 M_Mo_take 1 9 := ⟨cs_Mo_take, Or.inl (gx_T_in (List.mem_append_right _ (show _ ∈ tables_1 from (List.mem_append_right _ (List.mem_append_right _ (List.mem_append_right _ (List.mem_append_right _ (List.mem_of_getElem? (i := 87) (by decide +kernel)))))))) (by decide +kernel)), by unfold gx_np; decide +kernel, im_Mo_take, se_Mo_take, T_Mo, 33, rfl⟩
theorem fl_Word_9 : gx_fl "PostChain$Word" 9 0 0 := ⟨R_Word, T_Word, 2, rfl, by decide, uc_Word, Or.inl (gx_T_in (List.mem_append_right _ (show _ ∈ tables_1 from (List.mem_append_left _ (List.mem_of_getElem? (i := 42) (by decide +kernel))))) (by decide +kernel))⟩
theorem fp_Word_9 : gx_fp "PostChain$Word" 9 0 0 true (.array .char) := ⟨R_Word, T_Word, 2, t_Word, rfl, by decide, uc_Word, gx_T_in (List.mem_append_right _ (show _ ∈ tables_1 from (List.mem_append_left _ (List.mem_of_getElem? (i := 42) (by decide +kernel))))) (by decide +kernel), t_Word_ok, n_Word, rfl, rfl, by decide +kernel⟩
theorem fl_Word_15 : gx_fl "PostChain$Word" 15 0 1 := ⟨R_Word, T_Word, 2, rfl, by decide, uc_Word, Or.inl (gx_T_in (List.mem_append_right _ (show _ ∈ tables_1 from (List.mem_append_left _ (List.mem_of_getElem? (i := 43) (by decide +kernel))))) (by decide +kernel))⟩
theorem fp_Word_15 : gx_fp "PostChain$Word" 15 0 1 false .int := ⟨R_Word, T_Word, 2, t_Word, rfl, by decide, uc_Word, gx_T_in (List.mem_append_right _ (show _ ∈ tables_1 from (List.mem_append_left _ (List.mem_of_getElem? (i := 43) (by decide +kernel))))) (by decide +kernel), t_Word_ok, n_Word, rfl, rfl, by decide +kernel⟩
theorem fl_Machine_9 : gx_fl "PostChain$Machine" 9 2 0 := ⟨R_Machine, T_Machine, 5, rfl, by decide, uc_Machine, Or.inl (gx_T_in (List.mem_append_right _ (show _ ∈ tables_1 from (List.mem_append_left _ (List.mem_of_getElem? (i := 59) (by decide +kernel))))) (by decide +kernel))⟩
theorem fp_Machine_9 : gx_fp "PostChain$Machine" 9 2 0 true (.array .boolean) := ⟨R_Machine, T_Machine, 5, t_Machine, rfl, by decide, uc_Machine, gx_T_in (List.mem_append_right _ (show _ ∈ tables_1 from (List.mem_append_left _ (List.mem_of_getElem? (i := 59) (by decide +kernel))))) (by decide +kernel), t_Machine_ok, n_Machine, rfl, rfl, by decide +kernel⟩
theorem fl_Box_84 : gx_fl "PostChain$Box" 84 2 0 := ⟨R_Machine, T_Machine, 5, rfl, by decide, uc_Machine, Or.inr ⟨"PostChain", by decide +kernel⟩⟩
theorem fl_Machine_15 : gx_fl "PostChain$Machine" 15 2 1 := ⟨R_Machine, T_Machine, 5, rfl, by decide, uc_Machine, Or.inl (gx_T_in (List.mem_append_right _ (show _ ∈ tables_1 from (List.mem_append_left _ (List.mem_of_getElem? (i := 61) (by decide +kernel))))) (by decide +kernel))⟩
theorem fp_Machine_15 : gx_fp "PostChain$Machine" 15 2 1 true (.array .boolean) := ⟨R_Machine, T_Machine, 5, t_Machine, rfl, by decide, uc_Machine, gx_T_in (List.mem_append_right _ (show _ ∈ tables_1 from (List.mem_append_left _ (List.mem_of_getElem? (i := 61) (by decide +kernel))))) (by decide +kernel), t_Machine_ok, n_Machine, rfl, rfl, by decide +kernel⟩
theorem fl_Way_74 : gx_fl "PostChain$Way" 74 2 1 := ⟨R_Machine, T_Machine, 5, rfl, by decide, uc_Machine, Or.inr ⟨"PostChain", by decide +kernel⟩⟩
theorem fl_Box_88 : gx_fl "PostChain$Box" 88 2 1 := ⟨R_Machine, T_Machine, 5, rfl, by decide, uc_Machine, Or.inr ⟨"PostChain", by decide +kernel⟩⟩
theorem fl_Machine_18 : gx_fl "PostChain$Machine" 18 2 2 := ⟨R_Machine, T_Machine, 5, rfl, by decide, uc_Machine, Or.inl (gx_T_in (List.mem_append_right _ (show _ ∈ tables_1 from (List.mem_append_left _ (List.mem_of_getElem? (i := 64) (by decide +kernel))))) (by decide +kernel))⟩
theorem fp_Machine_18 : gx_fp "PostChain$Machine" 18 2 2 true (.array .int) := ⟨R_Machine, T_Machine, 5, t_Machine, rfl, by decide, uc_Machine, gx_T_in (List.mem_append_right _ (show _ ∈ tables_1 from (List.mem_append_left _ (List.mem_of_getElem? (i := 64) (by decide +kernel))))) (by decide +kernel), t_Machine_ok, n_Machine, rfl, rfl, by decide +kernel⟩
theorem fl_Box_101 : gx_fl "PostChain$Box" 101 2 2 := ⟨R_Machine, T_Machine, 5, rfl, by decide, uc_Machine, Or.inr ⟨"PostChain", by decide +kernel⟩⟩
theorem fl_Machine_22 : gx_fl "PostChain$Machine" 22 2 3 := ⟨R_Machine, T_Machine, 5, rfl, by decide, uc_Machine, Or.inl (gx_T_in (List.mem_append_right _ (show _ ∈ tables_1 from (List.mem_append_left _ (List.mem_of_getElem? (i := 66) (by decide +kernel))))) (by decide +kernel))⟩
theorem fp_Machine_22 : gx_fp "PostChain$Machine" 22 2 3 true (.array .int) := ⟨R_Machine, T_Machine, 5, t_Machine, rfl, by decide, uc_Machine, gx_T_in (List.mem_append_right _ (show _ ∈ tables_1 from (List.mem_append_left _ (List.mem_of_getElem? (i := 66) (by decide +kernel))))) (by decide +kernel), t_Machine_ok, n_Machine, rfl, rfl, by decide +kernel⟩
theorem fl_Box_104 : gx_fl "PostChain$Box" 104 2 3 := ⟨R_Machine, T_Machine, 5, rfl, by decide, uc_Machine, Or.inr ⟨"PostChain", by decide +kernel⟩⟩
theorem fl_Machine_30 : gx_fl "PostChain$Machine" 30 2 4 := ⟨R_Machine, T_Machine, 5, rfl, by decide, uc_Machine, Or.inl (gx_T_in (List.mem_append_right _ (show _ ∈ tables_1 from (List.mem_append_left _ (List.mem_of_getElem? (i := 68) (by decide +kernel))))) (by decide +kernel))⟩
theorem fp_Machine_30 : gx_fp "PostChain$Machine" 30 2 4 true (.object "PostChain$Word") := ⟨R_Machine, T_Machine, 5, t_Machine, rfl, by decide, uc_Machine, gx_T_in (List.mem_append_right _ (show _ ∈ tables_1 from (List.mem_append_left _ (List.mem_of_getElem? (i := 68) (by decide +kernel))))) (by decide +kernel), t_Machine_ok, n_Machine, rfl, rfl, by decide +kernel⟩
theorem fl_Run_48 : gx_fl "PostChain$Run" 48 2 4 := ⟨R_Machine, T_Machine, 5, rfl, by decide, uc_Machine, Or.inr ⟨"PostChain", by decide +kernel⟩⟩
theorem fl_Box_47 : gx_fl "PostChain$Box" 47 2 4 := ⟨R_Machine, T_Machine, 5, rfl, by decide, uc_Machine, Or.inr ⟨"PostChain", by decide +kernel⟩⟩
theorem fl_Run_11 : gx_fl "PostChain$Run" 11 3 0 := ⟨R_Run, T_Run, 2, rfl, by decide, uc_Run, Or.inl (gx_T_in (List.mem_append_right _ (show _ ∈ tables_1 from (List.mem_append_left _ (List.mem_of_getElem? (i := 91) (by decide +kernel))))) (by decide +kernel))⟩
theorem fp_Run_11 : gx_fp "PostChain$Run" 11 3 0 true (.array (.object "PostChain$Word")) := ⟨R_Run, T_Run, 2, t_Run, rfl, by decide, uc_Run, gx_T_in (List.mem_append_right _ (show _ ∈ tables_1 from (List.mem_append_left _ (List.mem_of_getElem? (i := 91) (by decide +kernel))))) (by decide +kernel), t_Run_ok, n_Run, rfl, rfl, by decide +kernel⟩
theorem fl_Run_20 : gx_fl "PostChain$Run" 20 3 1 := ⟨R_Run, T_Run, 2, rfl, by decide, uc_Run, Or.inl (gx_T_in (List.mem_append_right _ (show _ ∈ tables_1 from (List.mem_append_left _ (List.mem_of_getElem? (i := 92) (by decide +kernel))))) (by decide +kernel))⟩
theorem fp_Run_20 : gx_fp "PostChain$Run" 20 3 1 false .int := ⟨R_Run, T_Run, 2, t_Run, rfl, by decide, uc_Run, gx_T_in (List.mem_append_right _ (show _ ∈ tables_1 from (List.mem_append_left _ (List.mem_of_getElem? (i := 92) (by decide +kernel))))) (by decide +kernel), t_Run_ok, n_Run, rfl, rfl, by decide +kernel⟩
theorem fl_Domino_14 : gx_fl "PostChain$Domino" 14 4 0 := ⟨R_Domino, T_Domino, 2, rfl, by decide, uc_Domino, Or.inl (gx_T_in (List.mem_append_right _ (show _ ∈ tables_1 from (List.mem_append_left _ (List.mem_of_getElem? (i := 113) (by decide +kernel))))) (by decide +kernel))⟩
theorem fp_Domino_14 : gx_fp "PostChain$Domino" 14 4 0 true (.object "PostChain$Word") := ⟨R_Domino, T_Domino, 2, t_Domino, rfl, by decide, uc_Domino, gx_T_in (List.mem_append_right _ (show _ ∈ tables_1 from (List.mem_append_left _ (List.mem_of_getElem? (i := 113) (by decide +kernel))))) (by decide +kernel), t_Domino_ok, n_Domino, rfl, rfl, by decide +kernel⟩
theorem fl_Box_34 : gx_fl "PostChain$Box" 34 4 0 := ⟨R_Domino, T_Domino, 2, rfl, by decide, uc_Domino, Or.inr ⟨"PostChain", by decide +kernel⟩⟩
theorem fl_Hunt_83 : gx_fl "PostChain$Hunt" 83 4 0 := ⟨R_Domino, T_Domino, 2, rfl, by decide, uc_Domino, Or.inr ⟨"PostChain", by decide +kernel⟩⟩
theorem fl_PC_128 : gx_fl "PostChain" 128 4 0 := ⟨R_Domino, T_Domino, 2, rfl, by decide, uc_Domino, Or.inr ⟨"PostChain", by decide +kernel⟩⟩
theorem fl_Domino_20 : gx_fl "PostChain$Domino" 20 4 1 := ⟨R_Domino, T_Domino, 2, rfl, by decide, uc_Domino, Or.inl (gx_T_in (List.mem_append_right _ (show _ ∈ tables_1 from (List.mem_append_left _ (List.mem_of_getElem? (i := 117) (by decide +kernel))))) (by decide +kernel))⟩
theorem fp_Domino_20 : gx_fp "PostChain$Domino" 20 4 1 true (.object "PostChain$Word") := ⟨R_Domino, T_Domino, 2, t_Domino, rfl, by decide, uc_Domino, gx_T_in (List.mem_append_right _ (show _ ∈ tables_1 from (List.mem_append_left _ (List.mem_of_getElem? (i := 117) (by decide +kernel))))) (by decide +kernel), t_Domino_ok, n_Domino, rfl, rfl, by decide +kernel⟩
theorem fl_Box_44 : gx_fl "PostChain$Box" 44 4 1 := ⟨R_Domino, T_Domino, 2, rfl, by decide, uc_Domino, Or.inr ⟨"PostChain", by decide +kernel⟩⟩
theorem fl_Hunt_89 : gx_fl "PostChain$Hunt" 89 4 1 := ⟨R_Domino, T_Domino, 2, rfl, by decide, uc_Domino, Or.inr ⟨"PostChain", by decide +kernel⟩⟩
theorem fl_PC_133 : gx_fl "PostChain" 133 4 1 := ⟨R_Domino, T_Domino, 2, rfl, by decide, uc_Domino, Or.inr ⟨"PostChain", by decide +kernel⟩⟩
theorem fl_Box_11 : gx_fl "PostChain$Box" 11 5 0 := ⟨R_Box, T_Box, 3, rfl, by decide, uc_Box, Or.inl (gx_T_in (List.mem_append_right _ (show _ ∈ tables_1 from (List.mem_append_left _ (List.mem_of_getElem? (i := 126) (by decide +kernel))))) (by decide +kernel))⟩
theorem fp_Box_11 : gx_fp "PostChain$Box" 11 5 0 true (.array (.object "PostChain$Domino")) := ⟨R_Box, T_Box, 3, t_Box, rfl, by decide, uc_Box, gx_T_in (List.mem_append_right _ (show _ ∈ tables_1 from (List.mem_append_left _ (List.mem_of_getElem? (i := 126) (by decide +kernel))))) (by decide +kernel), t_Box_ok, n_Box, rfl, rfl, by decide +kernel⟩
theorem fl_Box_17 : gx_fl "PostChain$Box" 17 5 1 := ⟨R_Box, T_Box, 3, rfl, by decide, uc_Box, Or.inl (gx_T_in (List.mem_append_right _ (show _ ∈ tables_1 from (List.mem_append_left _ (List.mem_of_getElem? (i := 127) (by decide +kernel))))) (by decide +kernel))⟩
theorem fp_Box_17 : gx_fp "PostChain$Box" 17 5 1 true (.array .int) := ⟨R_Box, T_Box, 3, t_Box, rfl, by decide, uc_Box, gx_T_in (List.mem_append_right _ (show _ ∈ tables_1 from (List.mem_append_left _ (List.mem_of_getElem? (i := 127) (by decide +kernel))))) (by decide +kernel), t_Box_ok, n_Box, rfl, rfl, by decide +kernel⟩
theorem fl_Box_22 : gx_fl "PostChain$Box" 22 5 2 := ⟨R_Box, T_Box, 3, rfl, by decide, uc_Box, Or.inl (gx_T_in (List.mem_append_right _ (show _ ∈ tables_1 from (List.mem_append_left _ (List.mem_of_getElem? (i := 128) (by decide +kernel))))) (by decide +kernel))⟩
theorem fp_Box_22 : gx_fp "PostChain$Box" 22 5 2 false .int := ⟨R_Box, T_Box, 3, t_Box, rfl, by decide, uc_Box, gx_T_in (List.mem_append_right _ (show _ ∈ tables_1 from (List.mem_append_left _ (List.mem_of_getElem? (i := 128) (by decide +kernel))))) (by decide +kernel), t_Box_ok, n_Box, rfl, rfl, by decide +kernel⟩
theorem fl_Row_9 : gx_fl "PostChain$Row" 9 1 0 := ⟨R_Row, T_Row, 2, rfl, by decide, uc_Row, Or.inl (gx_T_in (List.mem_append_right _ (show _ ∈ tables_1 from (List.mem_append_left _ (List.mem_of_getElem? (i := 148) (by decide +kernel))))) (by decide +kernel))⟩
theorem fp_Row_9 : gx_fp "PostChain$Row" 9 1 0 true (.array .int) := ⟨R_Row, T_Row, 2, t_Row, rfl, by decide, uc_Row, gx_T_in (List.mem_append_right _ (show _ ∈ tables_1 from (List.mem_append_left _ (List.mem_of_getElem? (i := 148) (by decide +kernel))))) (by decide +kernel), t_Row_ok, n_Row, rfl, rfl, by decide +kernel⟩
theorem fl_Row_15 : gx_fl "PostChain$Row" 15 1 1 := ⟨R_Row, T_Row, 2, rfl, by decide, uc_Row, Or.inl (gx_T_in (List.mem_append_right _ (show _ ∈ tables_1 from (List.mem_append_left _ (List.mem_of_getElem? (i := 149) (by decide +kernel))))) (by decide +kernel))⟩
theorem fp_Row_15 : gx_fp "PostChain$Row" 15 1 1 false .int := ⟨R_Row, T_Row, 2, t_Row, rfl, by decide, uc_Row, gx_T_in (List.mem_append_right _ (show _ ∈ tables_1 from (List.mem_append_left _ (List.mem_of_getElem? (i := 149) (by decide +kernel))))) (by decide +kernel), t_Row_ok, n_Row, rfl, rfl, by decide +kernel⟩
theorem fl_Way_14 : gx_fl "PostChain$Way" 14 6 0 := ⟨R_Way, T_Way, 2, rfl, by decide, uc_Way, Or.inl (gx_T_in (List.mem_append_right _ (show _ ∈ tables_1 from (List.mem_append_left _ (List.mem_of_getElem? (i := 157) (by decide +kernel))))) (by decide +kernel))⟩
theorem fp_Way_14 : gx_fp "PostChain$Way" 14 6 0 true (.object "PostChain$Row") := ⟨R_Way, T_Way, 2, t_Way, rfl, by decide, uc_Way, gx_T_in (List.mem_append_right _ (show _ ∈ tables_1 from (List.mem_append_left _ (List.mem_of_getElem? (i := 157) (by decide +kernel))))) (by decide +kernel), t_Way_ok, n_Way, rfl, rfl, by decide +kernel⟩
theorem fl_Way_23 : gx_fl "PostChain$Way" 23 6 1 := ⟨R_Way, T_Way, 2, rfl, by decide, uc_Way, Or.inl (gx_T_in (List.mem_append_right _ (show _ ∈ tables_1 from (List.mem_append_left _ (List.mem_of_getElem? (i := 158) (by decide +kernel))))) (by decide +kernel))⟩
theorem fp_Way_23 : gx_fp "PostChain$Way" 23 6 1 true (.object "PostChain$Word") := ⟨R_Way, T_Way, 2, t_Way, rfl, by decide, uc_Way, gx_T_in (List.mem_append_right _ (show _ ∈ tables_1 from (List.mem_append_left _ (List.mem_of_getElem? (i := 158) (by decide +kernel))))) (by decide +kernel), t_Way_ok, n_Way, rfl, rfl, by decide +kernel⟩
theorem fl_Hunt_11 : gx_fl "PostChain$Hunt" 11 7 0 := ⟨R_Hunt, T_Hunt, 8, rfl, by decide, uc_Hunt, Or.inl (gx_T_in (List.mem_append_right _ (show _ ∈ tables_1 from (List.mem_append_left _ (List.mem_of_getElem? (i := 172) (by decide +kernel))))) (by decide +kernel))⟩
theorem fp_Hunt_11 : gx_fp "PostChain$Hunt" 11 7 0 true (.array .int) := ⟨R_Hunt, T_Hunt, 8, t_Hunt, rfl, by decide, uc_Hunt, gx_T_in (List.mem_append_right _ (show _ ∈ tables_1 from (List.mem_append_left _ (List.mem_of_getElem? (i := 172) (by decide +kernel))))) (by decide +kernel), t_Hunt_ok, n_Hunt, rfl, rfl, by decide +kernel⟩
theorem fl_Hunt_15 : gx_fl "PostChain$Hunt" 15 7 1 := ⟨R_Hunt, T_Hunt, 8, rfl, by decide, uc_Hunt, Or.inl (gx_T_in (List.mem_append_right _ (show _ ∈ tables_1 from (List.mem_append_left _ (List.mem_of_getElem? (i := 173) (by decide +kernel))))) (by decide +kernel))⟩
theorem fp_Hunt_15 : gx_fp "PostChain$Hunt" 15 7 1 true (.array .int) := ⟨R_Hunt, T_Hunt, 8, t_Hunt, rfl, by decide, uc_Hunt, gx_T_in (List.mem_append_right _ (show _ ∈ tables_1 from (List.mem_append_left _ (List.mem_of_getElem? (i := 173) (by decide +kernel))))) (by decide +kernel), t_Hunt_ok, n_Hunt, rfl, rfl, by decide +kernel⟩
theorem fl_Hunt_18 : gx_fl "PostChain$Hunt" 18 7 2 := ⟨R_Hunt, T_Hunt, 8, rfl, by decide, uc_Hunt, Or.inl (gx_T_in (List.mem_append_right _ (show _ ∈ tables_1 from (List.mem_append_left _ (List.mem_of_getElem? (i := 174) (by decide +kernel))))) (by decide +kernel))⟩
theorem fp_Hunt_18 : gx_fp "PostChain$Hunt" 18 7 2 true (.array .int) := ⟨R_Hunt, T_Hunt, 8, t_Hunt, rfl, by decide, uc_Hunt, gx_T_in (List.mem_append_right _ (show _ ∈ tables_1 from (List.mem_append_left _ (List.mem_of_getElem? (i := 174) (by decide +kernel))))) (by decide +kernel), t_Hunt_ok, n_Hunt, rfl, rfl, by decide +kernel⟩
theorem fl_Hunt_21 : gx_fl "PostChain$Hunt" 21 7 3 := ⟨R_Hunt, T_Hunt, 8, rfl, by decide, uc_Hunt, Or.inl (gx_T_in (List.mem_append_right _ (show _ ∈ tables_1 from (List.mem_append_left _ (List.mem_of_getElem? (i := 175) (by decide +kernel))))) (by decide +kernel))⟩
theorem fp_Hunt_21 : gx_fp "PostChain$Hunt" 21 7 3 true (.array .int) := ⟨R_Hunt, T_Hunt, 8, t_Hunt, rfl, by decide, uc_Hunt, gx_T_in (List.mem_append_right _ (show _ ∈ tables_1 from (List.mem_append_left _ (List.mem_of_getElem? (i := 175) (by decide +kernel))))) (by decide +kernel), t_Hunt_ok, n_Hunt, rfl, rfl, by decide +kernel⟩
theorem fl_Hunt_24 : gx_fl "PostChain$Hunt" 24 7 4 := ⟨R_Hunt, T_Hunt, 8, rfl, by decide, uc_Hunt, Or.inl (gx_T_in (List.mem_append_right _ (show _ ∈ tables_1 from (List.mem_append_left _ (List.mem_of_getElem? (i := 176) (by decide +kernel))))) (by decide +kernel))⟩
theorem fp_Hunt_24 : gx_fp "PostChain$Hunt" 24 7 4 true (.array .char) := ⟨R_Hunt, T_Hunt, 8, t_Hunt, rfl, by decide, uc_Hunt, gx_T_in (List.mem_append_right _ (show _ ∈ tables_1 from (List.mem_append_left _ (List.mem_of_getElem? (i := 176) (by decide +kernel))))) (by decide +kernel), t_Hunt_ok, n_Hunt, rfl, rfl, by decide +kernel⟩
theorem fl_Hunt_33 : gx_fl "PostChain$Hunt" 33 7 5 := ⟨R_Hunt, T_Hunt, 8, rfl, by decide, uc_Hunt, Or.inl (gx_T_in (List.mem_append_right _ (show _ ∈ tables_1 from (List.mem_append_left _ (List.mem_of_getElem? (i := 177) (by decide +kernel))))) (by decide +kernel))⟩
theorem fp_Hunt_33 : gx_fp "PostChain$Hunt" 33 7 5 true (.object "PostChain$Word") := ⟨R_Hunt, T_Hunt, 8, t_Hunt, rfl, by decide, uc_Hunt, gx_T_in (List.mem_append_right _ (show _ ∈ tables_1 from (List.mem_append_left _ (List.mem_of_getElem? (i := 177) (by decide +kernel))))) (by decide +kernel), t_Hunt_ok, n_Hunt, rfl, rfl, by decide +kernel⟩
theorem fl_Hunt_41 : gx_fl "PostChain$Hunt" 41 7 6 := ⟨R_Hunt, T_Hunt, 8, rfl, by decide, uc_Hunt, Or.inl (gx_T_in (List.mem_append_right _ (show _ ∈ tables_1 from (List.mem_append_left _ (List.mem_of_getElem? (i := 178) (by decide +kernel))))) (by decide +kernel))⟩
theorem fp_Hunt_41 : gx_fp "PostChain$Hunt" 41 7 6 false .int := ⟨R_Hunt, T_Hunt, 8, t_Hunt, rfl, by decide, uc_Hunt, gx_T_in (List.mem_append_right _ (show _ ∈ tables_1 from (List.mem_append_left _ (List.mem_of_getElem? (i := 178) (by decide +kernel))))) (by decide +kernel), t_Hunt_ok, n_Hunt, rfl, rfl, by decide +kernel⟩
theorem fl_Hunt_37 : gx_fl "PostChain$Hunt" 37 7 7 := ⟨R_Hunt, T_Hunt, 8, rfl, by decide, uc_Hunt, Or.inl (gx_T_in (List.mem_append_right _ (show _ ∈ tables_1 from (List.mem_append_left _ (List.mem_of_getElem? (i := 179) (by decide +kernel))))) (by decide +kernel))⟩
theorem fp_Hunt_37 : gx_fp "PostChain$Hunt" 37 7 7 false .int := ⟨R_Hunt, T_Hunt, 8, t_Hunt, rfl, by decide, uc_Hunt, gx_T_in (List.mem_append_right _ (show _ ∈ tables_1 from (List.mem_append_left _ (List.mem_of_getElem? (i := 179) (by decide +kernel))))) (by decide +kernel), t_Hunt_ok, n_Hunt, rfl, rfl, by decide +kernel⟩
theorem fl_PC_12 : gx_fl "PostChain" 12 8 0 := ⟨R_PC, T_PC, 9, rfl, by decide, uc_PC, Or.inl (gx_T_in (List.mem_append_right _ (show _ ∈ tables_1 from (List.mem_append_right _ (List.mem_append_left _ (List.mem_of_getElem? (i := 140) (by decide +kernel)))))) (by decide +kernel))⟩
theorem fp_PC_12 : gx_fp "PostChain" 12 8 0 true (.object "PostChain$Machine") := ⟨R_PC, T_PC, 9, t_PC, rfl, by decide, uc_PC, gx_T_in (List.mem_append_right _ (show _ ∈ tables_1 from (List.mem_append_right _ (List.mem_append_left _ (List.mem_of_getElem? (i := 140) (by decide +kernel)))))) (by decide +kernel), t_PC_ok, n_PC, rfl, rfl, by decide +kernel⟩
theorem fl_PC_19 : gx_fl "PostChain" 19 8 1 := ⟨R_PC, T_PC, 9, rfl, by decide, uc_PC, Or.inl (gx_T_in (List.mem_append_right _ (show _ ∈ tables_1 from (List.mem_append_right _ (List.mem_append_left _ (List.mem_of_getElem? (i := 141) (by decide +kernel)))))) (by decide +kernel))⟩
theorem fp_PC_19 : gx_fp "PostChain" 19 8 1 true (.object "PostChain$Run") := ⟨R_PC, T_PC, 9, t_PC, rfl, by decide, uc_PC, gx_T_in (List.mem_append_right _ (show _ ∈ tables_1 from (List.mem_append_right _ (List.mem_append_left _ (List.mem_of_getElem? (i := 141) (by decide +kernel)))))) (by decide +kernel), t_PC_ok, n_PC, rfl, rfl, by decide +kernel⟩
theorem fl_PC_26 : gx_fl "PostChain" 26 8 2 := ⟨R_PC, T_PC, 9, rfl, by decide, uc_PC, Or.inl (gx_T_in (List.mem_append_right _ (show _ ∈ tables_1 from (List.mem_append_right _ (List.mem_append_left _ (List.mem_of_getElem? (i := 142) (by decide +kernel)))))) (by decide +kernel))⟩
theorem fp_PC_26 : gx_fp "PostChain" 26 8 2 true (.object "PostChain$Box") := ⟨R_PC, T_PC, 9, t_PC, rfl, by decide, uc_PC, gx_T_in (List.mem_append_right _ (show _ ∈ tables_1 from (List.mem_append_right _ (List.mem_append_left _ (List.mem_of_getElem? (i := 142) (by decide +kernel)))))) (by decide +kernel), t_PC_ok, n_PC, rfl, rfl, by decide +kernel⟩
theorem fl_PC_33 : gx_fl "PostChain" 33 8 3 := ⟨R_PC, T_PC, 9, rfl, by decide, uc_PC, Or.inl (gx_T_in (List.mem_append_right _ (show _ ∈ tables_1 from (List.mem_append_right _ (List.mem_append_left _ (List.mem_of_getElem? (i := 143) (by decide +kernel)))))) (by decide +kernel))⟩
theorem fp_PC_33 : gx_fp "PostChain" 33 8 3 true (.object "PostChain$Way") := ⟨R_PC, T_PC, 9, t_PC, rfl, by decide, uc_PC, gx_T_in (List.mem_append_right _ (show _ ∈ tables_1 from (List.mem_append_right _ (List.mem_append_left _ (List.mem_of_getElem? (i := 143) (by decide +kernel)))))) (by decide +kernel), t_PC_ok, n_PC, rfl, rfl, by decide +kernel⟩
theorem fl_PC_40 : gx_fl "PostChain" 40 8 4 := ⟨R_PC, T_PC, 9, rfl, by decide, uc_PC, Or.inl (gx_T_in (List.mem_append_right _ (show _ ∈ tables_1 from (List.mem_append_right _ (List.mem_append_left _ (List.mem_of_getElem? (i := 144) (by decide +kernel)))))) (by decide +kernel))⟩
theorem fp_PC_40 : gx_fp "PostChain" 40 8 4 true (.object "PostChain$Hunt") := ⟨R_PC, T_PC, 9, t_PC, rfl, by decide, uc_PC, gx_T_in (List.mem_append_right _ (show _ ∈ tables_1 from (List.mem_append_right _ (List.mem_append_left _ (List.mem_of_getElem? (i := 144) (by decide +kernel)))))) (by decide +kernel), t_PC_ok, n_PC, rfl, rfl, by decide +kernel⟩
theorem fl_PC_49 : gx_fl "PostChain" 49 8 5 := ⟨R_PC, T_PC, 9, rfl, by decide, uc_PC, Or.inl (gx_T_in (List.mem_append_right _ (show _ ∈ tables_1 from (List.mem_append_right _ (List.mem_append_left _ (List.mem_of_getElem? (i := 145) (by decide +kernel)))))) (by decide +kernel))⟩
theorem fp_PC_49 : gx_fp "PostChain" 49 8 5 true (.object "PostChain$Row") := ⟨R_PC, T_PC, 9, t_PC, rfl, by decide, uc_PC, gx_T_in (List.mem_append_right _ (show _ ∈ tables_1 from (List.mem_append_right _ (List.mem_append_left _ (List.mem_of_getElem? (i := 145) (by decide +kernel)))))) (by decide +kernel), t_PC_ok, n_PC, rfl, rfl, by decide +kernel⟩
theorem fl_PC_56 : gx_fl "PostChain" 56 8 6 := ⟨R_PC, T_PC, 9, rfl, by decide, uc_PC, Or.inl (gx_T_in (List.mem_append_right _ (show _ ∈ tables_1 from (List.mem_append_right _ (List.mem_append_left _ (List.mem_of_getElem? (i := 146) (by decide +kernel)))))) (by decide +kernel))⟩
theorem fp_PC_56 : gx_fp "PostChain" 56 8 6 true (.object "PostChain$Word") := ⟨R_PC, T_PC, 9, t_PC, rfl, by decide, uc_PC, gx_T_in (List.mem_append_right _ (show _ ∈ tables_1 from (List.mem_append_right _ (List.mem_append_left _ (List.mem_of_getElem? (i := 146) (by decide +kernel)))))) (by decide +kernel), t_PC_ok, n_PC, rfl, rfl, by decide +kernel⟩
theorem fl_PC_60 : gx_fl "PostChain" 60 8 7 := ⟨R_PC, T_PC, 9, rfl, by decide, uc_PC, Or.inl (gx_T_in (List.mem_append_right _ (show _ ∈ tables_1 from (List.mem_append_right _ (List.mem_append_left _ (List.mem_of_getElem? (i := 147) (by decide +kernel)))))) (by decide +kernel))⟩
theorem fp_PC_60 : gx_fp "PostChain" 60 8 7 true (.object "PostChain$Word") := ⟨R_PC, T_PC, 9, t_PC, rfl, by decide, uc_PC, gx_T_in (List.mem_append_right _ (show _ ∈ tables_1 from (List.mem_append_right _ (List.mem_append_left _ (List.mem_of_getElem? (i := 147) (by decide +kernel)))))) (by decide +kernel), t_PC_ok, n_PC, rfl, rfl, by decide +kernel⟩
theorem fl_PC_63 : gx_fl "PostChain" 63 8 8 := ⟨R_PC, T_PC, 9, rfl, by decide, uc_PC, Or.inl (gx_T_in (List.mem_append_right _ (show _ ∈ tables_1 from (List.mem_append_right _ (List.mem_append_left _ (List.mem_of_getElem? (i := 148) (by decide +kernel)))))) (by decide +kernel))⟩
theorem fp_PC_63 : gx_fp "PostChain" 63 8 8 true (.object "PostChain$Word") := ⟨R_PC, T_PC, 9, t_PC, rfl, by decide, uc_PC, gx_T_in (List.mem_append_right _ (show _ ∈ tables_1 from (List.mem_append_right _ (List.mem_append_left _ (List.mem_of_getElem? (i := 148) (by decide +kernel)))))) (by decide +kernel), t_PC_ok, n_PC, rfl, rfl, by decide +kernel⟩
theorem fl_Mo_90 : gx_fl "PostChainModel" 90 9 0 := ⟨R_Mo, T_Mo, 33, rfl, by decide, uc_Mo, Or.inl (gx_T_in (List.mem_append_right _ (show _ ∈ tables_1 from (List.mem_append_right _ (List.mem_append_right _ (List.mem_append_right _ (List.mem_append_left _ (List.mem_of_getElem? (i := 140) (by decide +kernel)))))))) (by decide +kernel))⟩
theorem fp_Mo_90 : gx_fp "PostChainModel" 90 9 0 false .int := ⟨R_Mo, T_Mo, 33, t_Mo, rfl, by decide, uc_Mo, gx_T_in (List.mem_append_right _ (show _ ∈ tables_1 from (List.mem_append_right _ (List.mem_append_right _ (List.mem_append_right _ (List.mem_append_left _ (List.mem_of_getElem? (i := 140) (by decide +kernel)))))))) (by decide +kernel), t_Mo_ok, n_Mo, rfl, rfl, by decide +kernel⟩
theorem fl_Mo_7 : gx_fl "PostChainModel" 7 9 1 := ⟨R_Mo, T_Mo, 33, rfl, by decide, uc_Mo, Or.inl (gx_T_in (List.mem_append_right _ (show _ ∈ tables_1 from (List.mem_append_right _ (List.mem_append_right _ (List.mem_append_right _ (List.mem_append_left _ (List.mem_of_getElem? (i := 141) (by decide +kernel)))))))) (by decide +kernel))⟩
theorem fp_Mo_7 : gx_fp "PostChainModel" 7 9 1 false (.array .boolean) := ⟨R_Mo, T_Mo, 33, t_Mo, rfl, by decide, uc_Mo, gx_T_in (List.mem_append_right _ (show _ ∈ tables_1 from (List.mem_append_right _ (List.mem_append_right _ (List.mem_append_right _ (List.mem_append_left _ (List.mem_of_getElem? (i := 141) (by decide +kernel)))))))) (by decide +kernel), t_Mo_ok, n_Mo, rfl, rfl, by decide +kernel⟩
theorem fl_Mo_13 : gx_fl "PostChainModel" 13 9 2 := ⟨R_Mo, T_Mo, 33, rfl, by decide, uc_Mo, Or.inl (gx_T_in (List.mem_append_right _ (show _ ∈ tables_1 from (List.mem_append_right _ (List.mem_append_right _ (List.mem_append_right _ (List.mem_append_left _ (List.mem_of_getElem? (i := 142) (by decide +kernel)))))))) (by decide +kernel))⟩
theorem fp_Mo_13 : gx_fp "PostChainModel" 13 9 2 false (.array .int) := ⟨R_Mo, T_Mo, 33, t_Mo, rfl, by decide, uc_Mo, gx_T_in (List.mem_append_right _ (show _ ∈ tables_1 from (List.mem_append_right _ (List.mem_append_right _ (List.mem_append_right _ (List.mem_append_left _ (List.mem_of_getElem? (i := 142) (by decide +kernel)))))))) (by decide +kernel), t_Mo_ok, n_Mo, rfl, rfl, by decide +kernel⟩
theorem fl_Mo_17 : gx_fl "PostChainModel" 17 9 3 := ⟨R_Mo, T_Mo, 33, rfl, by decide, uc_Mo, Or.inl (gx_T_in (List.mem_append_right _ (show _ ∈ tables_1 from (List.mem_append_right _ (List.mem_append_right _ (List.mem_append_right _ (List.mem_append_left _ (List.mem_of_getElem? (i := 143) (by decide +kernel)))))))) (by decide +kernel))⟩
theorem fp_Mo_17 : gx_fp "PostChainModel" 17 9 3 false (.array .boolean) := ⟨R_Mo, T_Mo, 33, t_Mo, rfl, by decide, uc_Mo, gx_T_in (List.mem_append_right _ (show _ ∈ tables_1 from (List.mem_append_right _ (List.mem_append_right _ (List.mem_append_right _ (List.mem_append_left _ (List.mem_of_getElem? (i := 143) (by decide +kernel)))))))) (by decide +kernel), t_Mo_ok, n_Mo, rfl, rfl, by decide +kernel⟩
theorem fl_Mo_20 : gx_fl "PostChainModel" 20 9 4 := ⟨R_Mo, T_Mo, 33, rfl, by decide, uc_Mo, Or.inl (gx_T_in (List.mem_append_right _ (show _ ∈ tables_1 from (List.mem_append_right _ (List.mem_append_right _ (List.mem_append_right _ (List.mem_append_left _ (List.mem_of_getElem? (i := 144) (by decide +kernel)))))))) (by decide +kernel))⟩
theorem fp_Mo_20 : gx_fp "PostChainModel" 20 9 4 false (.array .int) := ⟨R_Mo, T_Mo, 33, t_Mo, rfl, by decide, uc_Mo, gx_T_in (List.mem_append_right _ (show _ ∈ tables_1 from (List.mem_append_right _ (List.mem_append_right _ (List.mem_append_right _ (List.mem_append_left _ (List.mem_of_getElem? (i := 144) (by decide +kernel)))))))) (by decide +kernel), t_Mo_ok, n_Mo, rfl, rfl, by decide +kernel⟩
theorem fl_Mo_107 : gx_fl "PostChainModel" 107 9 5 := ⟨R_Mo, T_Mo, 33, rfl, by decide, uc_Mo, Or.inl (gx_T_in (List.mem_append_right _ (show _ ∈ tables_1 from (List.mem_append_right _ (List.mem_append_right _ (List.mem_append_right _ (List.mem_append_left _ (List.mem_of_getElem? (i := 145) (by decide +kernel)))))))) (by decide +kernel))⟩
theorem fp_Mo_107 : gx_fp "PostChainModel" 107 9 5 false .int := ⟨R_Mo, T_Mo, 33, t_Mo, rfl, by decide, uc_Mo, gx_T_in (List.mem_append_right _ (show _ ∈ tables_1 from (List.mem_append_right _ (List.mem_append_right _ (List.mem_append_right _ (List.mem_append_left _ (List.mem_of_getElem? (i := 145) (by decide +kernel)))))))) (by decide +kernel), t_Mo_ok, n_Mo, rfl, rfl, by decide +kernel⟩
theorem fl_Mo_23 : gx_fl "PostChainModel" 23 9 6 := ⟨R_Mo, T_Mo, 33, rfl, by decide, uc_Mo, Or.inl (gx_T_in (List.mem_append_right _ (show _ ∈ tables_1 from (List.mem_append_right _ (List.mem_append_right _ (List.mem_append_right _ (List.mem_append_left _ (List.mem_of_getElem? (i := 146) (by decide +kernel)))))))) (by decide +kernel))⟩
theorem fp_Mo_23 : gx_fp "PostChainModel" 23 9 6 false (.array .int) := ⟨R_Mo, T_Mo, 33, t_Mo, rfl, by decide, uc_Mo, gx_T_in (List.mem_append_right _ (show _ ∈ tables_1 from (List.mem_append_right _ (List.mem_append_right _ (List.mem_append_right _ (List.mem_append_left _ (List.mem_of_getElem? (i := 146) (by decide +kernel)))))))) (by decide +kernel), t_Mo_ok, n_Mo, rfl, rfl, by decide +kernel⟩
theorem fl_Mo_110 : gx_fl "PostChainModel" 110 9 7 := ⟨R_Mo, T_Mo, 33, rfl, by decide, uc_Mo, Or.inl (gx_T_in (List.mem_append_right _ (show _ ∈ tables_1 from (List.mem_append_right _ (List.mem_append_right _ (List.mem_append_right _ (List.mem_append_left _ (List.mem_of_getElem? (i := 147) (by decide +kernel)))))))) (by decide +kernel))⟩
theorem fp_Mo_110 : gx_fp "PostChainModel" 110 9 7 false .int := ⟨R_Mo, T_Mo, 33, t_Mo, rfl, by decide, uc_Mo, gx_T_in (List.mem_append_right _ (show _ ∈ tables_1 from (List.mem_append_right _ (List.mem_append_right _ (List.mem_append_right _ (List.mem_append_left _ (List.mem_of_getElem? (i := 147) (by decide +kernel)))))))) (by decide +kernel), t_Mo_ok, n_Mo, rfl, rfl, by decide +kernel⟩
theorem fl_Mo_26 : gx_fl "PostChainModel" 26 9 8 := ⟨R_Mo, T_Mo, 33, rfl, by decide, uc_Mo, Or.inl (gx_T_in (List.mem_append_right _ (show _ ∈ tables_1 from (List.mem_append_right _ (List.mem_append_right _ (List.mem_append_right _ (List.mem_append_left _ (List.mem_of_getElem? (i := 148) (by decide +kernel)))))))) (by decide +kernel))⟩
theorem fp_Mo_26 : gx_fp "PostChainModel" 26 9 8 false (.array .int) := ⟨R_Mo, T_Mo, 33, t_Mo, rfl, by decide, uc_Mo, gx_T_in (List.mem_append_right _ (show _ ∈ tables_1 from (List.mem_append_right _ (List.mem_append_right _ (List.mem_append_right _ (List.mem_append_left _ (List.mem_of_getElem? (i := 148) (by decide +kernel)))))))) (by decide +kernel), t_Mo_ok, n_Mo, rfl, rfl, by decide +kernel⟩
theorem fl_Mo_29 : gx_fl "PostChainModel" 29 9 9 := ⟨R_Mo, T_Mo, 33, rfl, by decide, uc_Mo, Or.inl (gx_T_in (List.mem_append_right _ (show _ ∈ tables_1 from (List.mem_append_right _ (List.mem_append_right _ (List.mem_append_right _ (List.mem_append_left _ (List.mem_of_getElem? (i := 149) (by decide +kernel)))))))) (by decide +kernel))⟩
theorem fp_Mo_29 : gx_fp "PostChainModel" 29 9 9 false (.array .int) := ⟨R_Mo, T_Mo, 33, t_Mo, rfl, by decide, uc_Mo, gx_T_in (List.mem_append_right _ (show _ ∈ tables_1 from (List.mem_append_right _ (List.mem_append_right _ (List.mem_append_right _ (List.mem_append_left _ (List.mem_of_getElem? (i := 149) (by decide +kernel)))))))) (by decide +kernel), t_Mo_ok, n_Mo, rfl, rfl, by decide +kernel⟩
theorem fl_Mo_139 : gx_fl "PostChainModel" 139 9 10 := ⟨R_Mo, T_Mo, 33, rfl, by decide, uc_Mo, Or.inl (gx_T_in (List.mem_append_right _ (show _ ∈ tables_1 from (List.mem_append_right _ (List.mem_append_right _ (List.mem_append_right _ (List.mem_append_left _ (List.mem_of_getElem? (i := 150) (by decide +kernel)))))))) (by decide +kernel))⟩
theorem fp_Mo_139 : gx_fp "PostChainModel" 139 9 10 false .int := ⟨R_Mo, T_Mo, 33, t_Mo, rfl, by decide, uc_Mo, gx_T_in (List.mem_append_right _ (show _ ∈ tables_1 from (List.mem_append_right _ (List.mem_append_right _ (List.mem_append_right _ (List.mem_append_left _ (List.mem_of_getElem? (i := 150) (by decide +kernel)))))))) (by decide +kernel), t_Mo_ok, n_Mo, rfl, rfl, by decide +kernel⟩
theorem fl_Mo_32 : gx_fl "PostChainModel" 32 9 11 := ⟨R_Mo, T_Mo, 33, rfl, by decide, uc_Mo, Or.inl (gx_T_in (List.mem_append_right _ (show _ ∈ tables_1 from (List.mem_append_right _ (List.mem_append_right _ (List.mem_append_right _ (List.mem_append_left _ (List.mem_of_getElem? (i := 151) (by decide +kernel)))))))) (by decide +kernel))⟩
theorem fp_Mo_32 : gx_fp "PostChainModel" 32 9 11 false (.array .int) := ⟨R_Mo, T_Mo, 33, t_Mo, rfl, by decide, uc_Mo, gx_T_in (List.mem_append_right _ (show _ ∈ tables_1 from (List.mem_append_right _ (List.mem_append_right _ (List.mem_append_right _ (List.mem_append_left _ (List.mem_of_getElem? (i := 151) (by decide +kernel)))))))) (by decide +kernel), t_Mo_ok, n_Mo, rfl, rfl, by decide +kernel⟩
theorem fl_Mo_35 : gx_fl "PostChainModel" 35 9 12 := ⟨R_Mo, T_Mo, 33, rfl, by decide, uc_Mo, Or.inl (gx_T_in (List.mem_append_right _ (show _ ∈ tables_1 from (List.mem_append_right _ (List.mem_append_right _ (List.mem_append_right _ (List.mem_append_left _ (List.mem_of_getElem? (i := 152) (by decide +kernel)))))))) (by decide +kernel))⟩
theorem fp_Mo_35 : gx_fp "PostChainModel" 35 9 12 false (.array .int) := ⟨R_Mo, T_Mo, 33, t_Mo, rfl, by decide, uc_Mo, gx_T_in (List.mem_append_right _ (show _ ∈ tables_1 from (List.mem_append_right _ (List.mem_append_right _ (List.mem_append_right _ (List.mem_append_left _ (List.mem_of_getElem? (i := 152) (by decide +kernel)))))))) (by decide +kernel), t_Mo_ok, n_Mo, rfl, rfl, by decide +kernel⟩
theorem fl_Mo_38 : gx_fl "PostChainModel" 38 9 13 := ⟨R_Mo, T_Mo, 33, rfl, by decide, uc_Mo, Or.inl (gx_T_in (List.mem_append_right _ (show _ ∈ tables_1 from (List.mem_append_right _ (List.mem_append_right _ (List.mem_append_right _ (List.mem_append_left _ (List.mem_of_getElem? (i := 153) (by decide +kernel)))))))) (by decide +kernel))⟩
theorem fp_Mo_38 : gx_fp "PostChainModel" 38 9 13 false (.array .int) := ⟨R_Mo, T_Mo, 33, t_Mo, rfl, by decide, uc_Mo, gx_T_in (List.mem_append_right _ (show _ ∈ tables_1 from (List.mem_append_right _ (List.mem_append_right _ (List.mem_append_right _ (List.mem_append_left _ (List.mem_of_getElem? (i := 153) (by decide +kernel)))))))) (by decide +kernel), t_Mo_ok, n_Mo, rfl, rfl, by decide +kernel⟩
theorem fl_Mo_41 : gx_fl "PostChainModel" 41 9 14 := ⟨R_Mo, T_Mo, 33, rfl, by decide, uc_Mo, Or.inl (gx_T_in (List.mem_append_right _ (show _ ∈ tables_1 from (List.mem_append_right _ (List.mem_append_right _ (List.mem_append_right _ (List.mem_append_left _ (List.mem_of_getElem? (i := 154) (by decide +kernel)))))))) (by decide +kernel))⟩
theorem fp_Mo_41 : gx_fp "PostChainModel" 41 9 14 false (.array .int) := ⟨R_Mo, T_Mo, 33, t_Mo, rfl, by decide, uc_Mo, gx_T_in (List.mem_append_right _ (show _ ∈ tables_1 from (List.mem_append_right _ (List.mem_append_right _ (List.mem_append_right _ (List.mem_append_left _ (List.mem_of_getElem? (i := 154) (by decide +kernel)))))))) (by decide +kernel), t_Mo_ok, n_Mo, rfl, rfl, by decide +kernel⟩
theorem fl_Mo_119 : gx_fl "PostChainModel" 119 9 15 := ⟨R_Mo, T_Mo, 33, rfl, by decide, uc_Mo, Or.inl (gx_T_in (List.mem_append_right _ (show _ ∈ tables_1 from (List.mem_append_right _ (List.mem_append_right _ (List.mem_append_right _ (List.mem_append_left _ (List.mem_of_getElem? (i := 155) (by decide +kernel)))))))) (by decide +kernel))⟩
theorem fp_Mo_119 : gx_fp "PostChainModel" 119 9 15 false .int := ⟨R_Mo, T_Mo, 33, t_Mo, rfl, by decide, uc_Mo, gx_T_in (List.mem_append_right _ (show _ ∈ tables_1 from (List.mem_append_right _ (List.mem_append_right _ (List.mem_append_right _ (List.mem_append_left _ (List.mem_of_getElem? (i := 155) (by decide +kernel)))))))) (by decide +kernel), t_Mo_ok, n_Mo, rfl, rfl, by decide +kernel⟩
theorem fl_Mo_44 : gx_fl "PostChainModel" 44 9 16 := ⟨R_Mo, T_Mo, 33, rfl, by decide, uc_Mo, Or.inl (gx_T_in (List.mem_append_right _ (show _ ∈ tables_1 from (List.mem_append_right _ (List.mem_append_right _ (List.mem_append_right _ (List.mem_append_left _ (List.mem_of_getElem? (i := 156) (by decide +kernel)))))))) (by decide +kernel))⟩
theorem fp_Mo_44 : gx_fp "PostChainModel" 44 9 16 false (.array .int) := ⟨R_Mo, T_Mo, 33, t_Mo, rfl, by decide, uc_Mo, gx_T_in (List.mem_append_right _ (show _ ∈ tables_1 from (List.mem_append_right _ (List.mem_append_right _ (List.mem_append_right _ (List.mem_append_left _ (List.mem_of_getElem? (i := 156) (by decide +kernel)))))))) (by decide +kernel), t_Mo_ok, n_Mo, rfl, rfl, by decide +kernel⟩
theorem fl_Mo_129 : gx_fl "PostChainModel" 129 9 17 := ⟨R_Mo, T_Mo, 33, rfl, by decide, uc_Mo, Or.inl (gx_T_in (List.mem_append_right _ (show _ ∈ tables_1 from (List.mem_append_right _ (List.mem_append_right _ (List.mem_append_right _ (List.mem_append_left _ (List.mem_of_getElem? (i := 157) (by decide +kernel)))))))) (by decide +kernel))⟩
theorem fp_Mo_129 : gx_fp "PostChainModel" 129 9 17 false .int := ⟨R_Mo, T_Mo, 33, t_Mo, rfl, by decide, uc_Mo, gx_T_in (List.mem_append_right _ (show _ ∈ tables_1 from (List.mem_append_right _ (List.mem_append_right _ (List.mem_append_right _ (List.mem_append_left _ (List.mem_of_getElem? (i := 157) (by decide +kernel)))))))) (by decide +kernel), t_Mo_ok, n_Mo, rfl, rfl, by decide +kernel⟩
theorem fl_Mo_47 : gx_fl "PostChainModel" 47 9 18 := ⟨R_Mo, T_Mo, 33, rfl, by decide, uc_Mo, Or.inl (gx_T_in (List.mem_append_right _ (show _ ∈ tables_1 from (List.mem_append_right _ (List.mem_append_right _ (List.mem_append_right _ (List.mem_append_left _ (List.mem_of_getElem? (i := 158) (by decide +kernel)))))))) (by decide +kernel))⟩
theorem fp_Mo_47 : gx_fp "PostChainModel" 47 9 18 false (.array .int) := ⟨R_Mo, T_Mo, 33, t_Mo, rfl, by decide, uc_Mo, gx_T_in (List.mem_append_right _ (show _ ∈ tables_1 from (List.mem_append_right _ (List.mem_append_right _ (List.mem_append_right _ (List.mem_append_left _ (List.mem_of_getElem? (i := 158) (by decide +kernel)))))))) (by decide +kernel), t_Mo_ok, n_Mo, rfl, rfl, by decide +kernel⟩
theorem fl_Mo_132 : gx_fl "PostChainModel" 132 9 19 := ⟨R_Mo, T_Mo, 33, rfl, by decide, uc_Mo, Or.inl (gx_T_in (List.mem_append_right _ (show _ ∈ tables_1 from (List.mem_append_right _ (List.mem_append_right _ (List.mem_append_right _ (List.mem_append_left _ (List.mem_of_getElem? (i := 159) (by decide +kernel)))))))) (by decide +kernel))⟩
theorem fp_Mo_132 : gx_fp "PostChainModel" 132 9 19 false .int := ⟨R_Mo, T_Mo, 33, t_Mo, rfl, by decide, uc_Mo, gx_T_in (List.mem_append_right _ (show _ ∈ tables_1 from (List.mem_append_right _ (List.mem_append_right _ (List.mem_append_right _ (List.mem_append_left _ (List.mem_of_getElem? (i := 159) (by decide +kernel)))))))) (by decide +kernel), t_Mo_ok, n_Mo, rfl, rfl, by decide +kernel⟩
theorem fl_Mo_50 : gx_fl "PostChainModel" 50 9 20 := ⟨R_Mo, T_Mo, 33, rfl, by decide, uc_Mo, Or.inl (gx_T_in (List.mem_append_right _ (show _ ∈ tables_1 from (List.mem_append_right _ (List.mem_append_right _ (List.mem_append_right _ (List.mem_append_left _ (List.mem_of_getElem? (i := 160) (by decide +kernel)))))))) (by decide +kernel))⟩
theorem fp_Mo_50 : gx_fp "PostChainModel" 50 9 20 false (.array .int) := ⟨R_Mo, T_Mo, 33, t_Mo, rfl, by decide, uc_Mo, gx_T_in (List.mem_append_right _ (show _ ∈ tables_1 from (List.mem_append_right _ (List.mem_append_right _ (List.mem_append_right _ (List.mem_append_left _ (List.mem_of_getElem? (i := 160) (by decide +kernel)))))))) (by decide +kernel), t_Mo_ok, n_Mo, rfl, rfl, by decide +kernel⟩
theorem fl_Mo_53 : gx_fl "PostChainModel" 53 9 21 := ⟨R_Mo, T_Mo, 33, rfl, by decide, uc_Mo, Or.inl (gx_T_in (List.mem_append_right _ (show _ ∈ tables_1 from (List.mem_append_right _ (List.mem_append_right _ (List.mem_append_right _ (List.mem_append_left _ (List.mem_of_getElem? (i := 161) (by decide +kernel)))))))) (by decide +kernel))⟩
theorem fp_Mo_53 : gx_fp "PostChainModel" 53 9 21 false (.array .int) := ⟨R_Mo, T_Mo, 33, t_Mo, rfl, by decide, uc_Mo, gx_T_in (List.mem_append_right _ (show _ ∈ tables_1 from (List.mem_append_right _ (List.mem_append_right _ (List.mem_append_right _ (List.mem_append_left _ (List.mem_of_getElem? (i := 161) (by decide +kernel)))))))) (by decide +kernel), t_Mo_ok, n_Mo, rfl, rfl, by decide +kernel⟩
theorem fl_Mo_56 : gx_fl "PostChainModel" 56 9 22 := ⟨R_Mo, T_Mo, 33, rfl, by decide, uc_Mo, Or.inl (gx_T_in (List.mem_append_right _ (show _ ∈ tables_1 from (List.mem_append_right _ (List.mem_append_right _ (List.mem_append_right _ (List.mem_append_left _ (List.mem_of_getElem? (i := 162) (by decide +kernel)))))))) (by decide +kernel))⟩
theorem fp_Mo_56 : gx_fp "PostChainModel" 56 9 22 false (.array .int) := ⟨R_Mo, T_Mo, 33, t_Mo, rfl, by decide, uc_Mo, gx_T_in (List.mem_append_right _ (show _ ∈ tables_1 from (List.mem_append_right _ (List.mem_append_right _ (List.mem_append_right _ (List.mem_append_left _ (List.mem_of_getElem? (i := 162) (by decide +kernel)))))))) (by decide +kernel), t_Mo_ok, n_Mo, rfl, rfl, by decide +kernel⟩
theorem fl_Mo_59 : gx_fl "PostChainModel" 59 9 23 := ⟨R_Mo, T_Mo, 33, rfl, by decide, uc_Mo, Or.inl (gx_T_in (List.mem_append_right _ (show _ ∈ tables_1 from (List.mem_append_right _ (List.mem_append_right _ (List.mem_append_right _ (List.mem_append_left _ (List.mem_of_getElem? (i := 163) (by decide +kernel)))))))) (by decide +kernel))⟩
theorem fp_Mo_59 : gx_fp "PostChainModel" 59 9 23 false .int := ⟨R_Mo, T_Mo, 33, t_Mo, rfl, by decide, uc_Mo, gx_T_in (List.mem_append_right _ (show _ ∈ tables_1 from (List.mem_append_right _ (List.mem_append_right _ (List.mem_append_right _ (List.mem_append_left _ (List.mem_of_getElem? (i := 163) (by decide +kernel)))))))) (by decide +kernel), t_Mo_ok, n_Mo, rfl, rfl, by decide +kernel⟩
theorem fl_Mo_175 : gx_fl "PostChainModel" 175 9 24 := ⟨R_Mo, T_Mo, 33, rfl, by decide, uc_Mo, Or.inl (gx_T_in (List.mem_append_right _ (show _ ∈ tables_1 from (List.mem_append_right _ (List.mem_append_right _ (List.mem_append_right _ (List.mem_append_left _ (List.mem_of_getElem? (i := 164) (by decide +kernel)))))))) (by decide +kernel))⟩
theorem fp_Mo_175 : gx_fp "PostChainModel" 175 9 24 false .int := ⟨R_Mo, T_Mo, 33, t_Mo, rfl, by decide, uc_Mo, gx_T_in (List.mem_append_right _ (show _ ∈ tables_1 from (List.mem_append_right _ (List.mem_append_right _ (List.mem_append_right _ (List.mem_append_left _ (List.mem_of_getElem? (i := 164) (by decide +kernel)))))))) (by decide +kernel), t_Mo_ok, n_Mo, rfl, rfl, by decide +kernel⟩
theorem fl_Mo_63 : gx_fl "PostChainModel" 63 9 25 := ⟨R_Mo, T_Mo, 33, rfl, by decide, uc_Mo, Or.inl (gx_T_in (List.mem_append_right _ (show _ ∈ tables_1 from (List.mem_append_right _ (List.mem_append_right _ (List.mem_append_right _ (List.mem_append_left _ (List.mem_of_getElem? (i := 165) (by decide +kernel)))))))) (by decide +kernel))⟩
theorem fp_Mo_63 : gx_fp "PostChainModel" 63 9 25 false (.array .int) := ⟨R_Mo, T_Mo, 33, t_Mo, rfl, by decide, uc_Mo, gx_T_in (List.mem_append_right _ (show _ ∈ tables_1 from (List.mem_append_right _ (List.mem_append_right _ (List.mem_append_right _ (List.mem_append_left _ (List.mem_of_getElem? (i := 165) (by decide +kernel)))))))) (by decide +kernel), t_Mo_ok, n_Mo, rfl, rfl, by decide +kernel⟩
theorem fl_Mo_66 : gx_fl "PostChainModel" 66 9 26 := ⟨R_Mo, T_Mo, 33, rfl, by decide, uc_Mo, Or.inl (gx_T_in (List.mem_append_right _ (show _ ∈ tables_1 from (List.mem_append_right _ (List.mem_append_right _ (List.mem_append_right _ (List.mem_append_left _ (List.mem_of_getElem? (i := 166) (by decide +kernel)))))))) (by decide +kernel))⟩
theorem fp_Mo_66 : gx_fp "PostChainModel" 66 9 26 false (.array .int) := ⟨R_Mo, T_Mo, 33, t_Mo, rfl, by decide, uc_Mo, gx_T_in (List.mem_append_right _ (show _ ∈ tables_1 from (List.mem_append_right _ (List.mem_append_right _ (List.mem_append_right _ (List.mem_append_left _ (List.mem_of_getElem? (i := 166) (by decide +kernel)))))))) (by decide +kernel), t_Mo_ok, n_Mo, rfl, rfl, by decide +kernel⟩
theorem fl_Mo_69 : gx_fl "PostChainModel" 69 9 27 := ⟨R_Mo, T_Mo, 33, rfl, by decide, uc_Mo, Or.inl (gx_T_in (List.mem_append_right _ (show _ ∈ tables_1 from (List.mem_append_right _ (List.mem_append_right _ (List.mem_append_right _ (List.mem_append_left _ (List.mem_of_getElem? (i := 167) (by decide +kernel)))))))) (by decide +kernel))⟩
theorem fp_Mo_69 : gx_fp "PostChainModel" 69 9 27 false (.array .int) := ⟨R_Mo, T_Mo, 33, t_Mo, rfl, by decide, uc_Mo, gx_T_in (List.mem_append_right _ (show _ ∈ tables_1 from (List.mem_append_right _ (List.mem_append_right _ (List.mem_append_right _ (List.mem_append_left _ (List.mem_of_getElem? (i := 167) (by decide +kernel)))))))) (by decide +kernel), t_Mo_ok, n_Mo, rfl, rfl, by decide +kernel⟩
theorem fl_Mo_72 : gx_fl "PostChainModel" 72 9 28 := ⟨R_Mo, T_Mo, 33, rfl, by decide, uc_Mo, Or.inl (gx_T_in (List.mem_append_right _ (show _ ∈ tables_1 from (List.mem_append_right _ (List.mem_append_right _ (List.mem_append_right _ (List.mem_append_left _ (List.mem_of_getElem? (i := 168) (by decide +kernel)))))))) (by decide +kernel))⟩
theorem fp_Mo_72 : gx_fp "PostChainModel" 72 9 28 false (.array .int) := ⟨R_Mo, T_Mo, 33, t_Mo, rfl, by decide, uc_Mo, gx_T_in (List.mem_append_right _ (show _ ∈ tables_1 from (List.mem_append_right _ (List.mem_append_right _ (List.mem_append_right _ (List.mem_append_left _ (List.mem_of_getElem? (i := 168) (by decide +kernel)))))))) (by decide +kernel), t_Mo_ok, n_Mo, rfl, rfl, by decide +kernel⟩
theorem fl_Mo_75 : gx_fl "PostChainModel" 75 9 29 := ⟨R_Mo, T_Mo, 33, rfl, by decide, uc_Mo, Or.inl (gx_T_in (List.mem_append_right _ (show _ ∈ tables_1 from (List.mem_append_right _ (List.mem_append_right _ (List.mem_append_right _ (List.mem_append_left _ (List.mem_of_getElem? (i := 169) (by decide +kernel)))))))) (by decide +kernel))⟩
theorem fp_Mo_75 : gx_fp "PostChainModel" 75 9 29 false (.array .int) := ⟨R_Mo, T_Mo, 33, t_Mo, rfl, by decide, uc_Mo, gx_T_in (List.mem_append_right _ (show _ ∈ tables_1 from (List.mem_append_right _ (List.mem_append_right _ (List.mem_append_right _ (List.mem_append_left _ (List.mem_of_getElem? (i := 169) (by decide +kernel)))))))) (by decide +kernel), t_Mo_ok, n_Mo, rfl, rfl, by decide +kernel⟩
theorem fl_Mo_78 : gx_fl "PostChainModel" 78 9 30 := ⟨R_Mo, T_Mo, 33, rfl, by decide, uc_Mo, Or.inl (gx_T_in (List.mem_append_right _ (show _ ∈ tables_1 from (List.mem_append_right _ (List.mem_append_right _ (List.mem_append_right _ (List.mem_append_left _ (List.mem_of_getElem? (i := 170) (by decide +kernel)))))))) (by decide +kernel))⟩
theorem fp_Mo_78 : gx_fp "PostChainModel" 78 9 30 false (.array .int) := ⟨R_Mo, T_Mo, 33, t_Mo, rfl, by decide, uc_Mo, gx_T_in (List.mem_append_right _ (show _ ∈ tables_1 from (List.mem_append_right _ (List.mem_append_right _ (List.mem_append_right _ (List.mem_append_left _ (List.mem_of_getElem? (i := 170) (by decide +kernel)))))))) (by decide +kernel), t_Mo_ok, n_Mo, rfl, rfl, by decide +kernel⟩
theorem fl_Mo_81 : gx_fl "PostChainModel" 81 9 31 := ⟨R_Mo, T_Mo, 33, rfl, by decide, uc_Mo, Or.inl (gx_T_in (List.mem_append_right _ (show _ ∈ tables_1 from (List.mem_append_right _ (List.mem_append_right _ (List.mem_append_right _ (List.mem_append_left _ (List.mem_of_getElem? (i := 171) (by decide +kernel)))))))) (by decide +kernel))⟩
theorem fp_Mo_81 : gx_fp "PostChainModel" 81 9 31 false (.array .int) := ⟨R_Mo, T_Mo, 33, t_Mo, rfl, by decide, uc_Mo, gx_T_in (List.mem_append_right _ (show _ ∈ tables_1 from (List.mem_append_right _ (List.mem_append_right _ (List.mem_append_right _ (List.mem_append_left _ (List.mem_of_getElem? (i := 171) (by decide +kernel)))))))) (by decide +kernel), t_Mo_ok, n_Mo, rfl, rfl, by decide +kernel⟩
theorem fl_Mo_84 : gx_fl "PostChainModel" 84 9 32 := ⟨R_Mo, T_Mo, 33, rfl, by decide, uc_Mo, Or.inl (gx_T_in (List.mem_append_right _ (show _ ∈ tables_1 from (List.mem_append_right _ (List.mem_append_right _ (List.mem_append_right _ (List.mem_append_left _ (List.mem_of_getElem? (i := 172) (by decide +kernel)))))))) (by decide +kernel))⟩
theorem fp_Mo_84 : gx_fp "PostChainModel" 84 9 32 false (.array .int) := ⟨R_Mo, T_Mo, 33, t_Mo, rfl, by decide, uc_Mo, gx_T_in (List.mem_append_right _ (show _ ∈ tables_1 from (List.mem_append_right _ (List.mem_append_right _ (List.mem_append_right _ (List.mem_append_left _ (List.mem_of_getElem? (i := 172) (by decide +kernel)))))))) (by decide +kernel), t_Mo_ok, n_Mo, rfl, rfl, by decide +kernel⟩
theorem cl_Law_8 : Cond.classLink "PostChainLaw" 8 "PostChain" ∈ gx_T := gx_T_in (List.mem_append_right _ (show _ ∈ tables_1 from (List.mem_append_left _ (List.mem_of_getElem? (i := 22) (by decide +kernel))))) (by decide +kernel)
theorem nw_Law_8 : gx_nw "PostChainLaw" 8 8 9 [.null, .null, .null, .null, .null, .null, .null, .null, .null] := ⟨R_PC, T_PC, t_PC, rfl, uc_PC, cl_Law_8, it_PC, in_PC, t_PC_ok, fun j hj => by rcases (show j = 0 ∨ j = 1 ∨ j = 2 ∨ j = 3 ∨ j = 4 ∨ j = 5 ∨ j = 6 ∨ j = 7 ∨ j = 8 by omega) with rfl | rfl | rfl | rfl | rfl | rfl | rfl | rfl | rfl <;> rfl⟩
theorem cl_PC_9 : Cond.classLink "PostChain" 9 "PostChain$Machine" ∈ gx_T := gx_T_in (List.mem_append_right _ (show _ ∈ tables_1 from (List.mem_append_left _ (List.mem_of_getElem? (i := 30) (by decide +kernel))))) (by decide +kernel)
theorem nw_PC_9 : gx_nw "PostChain" 9 2 5 [.null, .null, .null, .null, .null] := ⟨R_Machine, T_Machine, t_Machine, rfl, uc_Machine, cl_PC_9, it_Machine, in_Machine, t_Machine_ok, fun j hj => by rcases (show j = 0 ∨ j = 1 ∨ j = 2 ∨ j = 3 ∨ j = 4 by omega) with rfl | rfl | rfl | rfl | rfl <;> rfl⟩
theorem cl_Machine_25 : Cond.classLink "PostChain$Machine" 25 "PostChain$Word" ∈ gx_T := gx_T_in (List.mem_append_right _ (show _ ∈ tables_1 from (List.mem_append_left _ (List.mem_of_getElem? (i := 36) (by decide +kernel))))) (by decide +kernel)
theorem nw_Machine_25 : gx_nw "PostChain$Machine" 25 0 2 [.null, .int 0] := ⟨R_Word, T_Word, t_Word, rfl, uc_Word, cl_Machine_25, it_Word, in_Word, t_Word_ok, fun j hj => by rcases (show j = 0 ∨ j = 1 by omega) with rfl | rfl <;> rfl⟩
theorem cl_PC_16 : Cond.classLink "PostChain" 16 "PostChain$Run" ∈ gx_T := gx_T_in (List.mem_append_right _ (show _ ∈ tables_1 from (List.mem_append_left _ (List.mem_of_getElem? (i := 82) (by decide +kernel))))) (by decide +kernel)
theorem nw_PC_16 : gx_nw "PostChain" 16 3 2 [.null, .int 0] := ⟨R_Run, T_Run, t_Run, rfl, uc_Run, cl_PC_16, it_Run, in_Run, t_Run_ok, fun j hj => by rcases (show j = 0 ∨ j = 1 by omega) with rfl | rfl <;> rfl⟩
theorem cl_Run_9 : Cond.classLink "PostChain$Run" 9 "PostChain$Word" ∈ gx_T := gx_T_in (List.mem_append_right _ (show _ ∈ tables_1 from (List.mem_append_left _ (List.mem_of_getElem? (i := 88) (by decide +kernel))))) (by decide +kernel)
theorem nw_Run_9 : gx_nw "PostChain$Run" 9 0 2 [.null, .int 0] := ⟨R_Word, T_Word, t_Word, rfl, uc_Word, cl_Run_9, it_Word, in_Word, t_Word_ok, fun j hj => by rcases (show j = 0 ∨ j = 1 by omega) with rfl | rfl <;> rfl⟩
theorem cl_PC_23 : Cond.classLink "PostChain" 23 "PostChain$Box" ∈ gx_T := gx_T_in (List.mem_append_right _ (show _ ∈ tables_1 from (List.mem_append_left _ (List.mem_of_getElem? (i := 98) (by decide +kernel))))) (by decide +kernel)
theorem nw_PC_23 : gx_nw "PostChain" 23 5 3 [.null, .null, .int 0] := ⟨R_Box, T_Box, t_Box, rfl, uc_Box, cl_PC_23, it_Box, in_Box, t_Box_ok, fun j hj => by rcases (show j = 0 ∨ j = 1 ∨ j = 2 by omega) with rfl | rfl | rfl <;> rfl⟩
theorem cl_Box_9 : Cond.classLink "PostChain$Box" 9 "PostChain$Domino" ∈ gx_T := gx_T_in (List.mem_append_right _ (show _ ∈ tables_1 from (List.mem_append_left _ (List.mem_of_getElem? (i := 104) (by decide +kernel))))) (by decide +kernel)
theorem nw_Box_9 : gx_nw "PostChain$Box" 9 4 2 [.null, .null] := ⟨R_Domino, T_Domino, t_Domino, rfl, uc_Domino, cl_Box_9, it_Domino, in_Domino, t_Domino_ok, fun j hj => by rcases (show j = 0 ∨ j = 1 by omega) with rfl | rfl <;> rfl⟩
theorem cl_Domino_9 : Cond.classLink "PostChain$Domino" 9 "PostChain$Word" ∈ gx_T := gx_T_in (List.mem_append_right _ (show _ ∈ tables_1 from (List.mem_append_left _ (List.mem_of_getElem? (i := 111) (by decide +kernel))))) (by decide +kernel)
theorem nw_Domino_9 : gx_nw "PostChain$Domino" 9 0 2 [.null, .int 0] := ⟨R_Word, T_Word, t_Word, rfl, uc_Word, cl_Domino_9, it_Word, in_Word, t_Word_ok, fun j hj => by rcases (show j = 0 ∨ j = 1 by omega) with rfl | rfl <;> rfl⟩
theorem cl_PC_30 : Cond.classLink "PostChain" 30 "PostChain$Way" ∈ gx_T := gx_T_in (List.mem_append_right _ (show _ ∈ tables_1 from (List.mem_append_left _ (List.mem_of_getElem? (i := 136) (by decide +kernel))))) (by decide +kernel)
theorem nw_PC_30 : gx_nw "PostChain" 30 6 2 [.null, .null] := ⟨R_Way, T_Way, t_Way, rfl, uc_Way, cl_PC_30, it_Way, in_Way, t_Way_ok, fun j hj => by rcases (show j = 0 ∨ j = 1 by omega) with rfl | rfl <;> rfl⟩
theorem cl_Way_9 : Cond.classLink "PostChain$Way" 9 "PostChain$Row" ∈ gx_T := gx_T_in (List.mem_append_right _ (show _ ∈ tables_1 from (List.mem_append_left _ (List.mem_of_getElem? (i := 142) (by decide +kernel))))) (by decide +kernel)
theorem nw_Way_9 : gx_nw "PostChain$Way" 9 1 2 [.null, .int 0] := ⟨R_Row, T_Row, t_Row, rfl, uc_Row, cl_Way_9, it_Row, in_Row, t_Row_ok, fun j hj => by rcases (show j = 0 ∨ j = 1 by omega) with rfl | rfl <;> rfl⟩
theorem cl_Way_20 : Cond.classLink "PostChain$Way" 20 "PostChain$Word" ∈ gx_T := gx_T_in (List.mem_append_right _ (show _ ∈ tables_1 from (List.mem_append_left _ (List.mem_of_getElem? (i := 155) (by decide +kernel))))) (by decide +kernel)
theorem nw_Way_20 : gx_nw "PostChain$Way" 20 0 2 [.null, .int 0] := ⟨R_Word, T_Word, t_Word, rfl, uc_Word, cl_Way_20, it_Word, in_Word, t_Word_ok, fun j hj => by rcases (show j = 0 ∨ j = 1 by omega) with rfl | rfl <;> rfl⟩
theorem cl_PC_37 : Cond.classLink "PostChain" 37 "PostChain$Hunt" ∈ gx_T := gx_T_in (List.mem_append_right _ (show _ ∈ tables_1 from (List.mem_append_left _ (List.mem_of_getElem? (i := 164) (by decide +kernel))))) (by decide +kernel)
theorem nw_PC_37 : gx_nw "PostChain" 37 7 8 [.null, .null, .null, .null, .null, .null, .int 0, .int 0] := ⟨R_Hunt, T_Hunt, t_Hunt, rfl, uc_Hunt, cl_PC_37, it_Hunt, in_Hunt, t_Hunt_ok, fun j hj => by rcases (show j = 0 ∨ j = 1 ∨ j = 2 ∨ j = 3 ∨ j = 4 ∨ j = 5 ∨ j = 6 ∨ j = 7 by omega) with rfl | rfl | rfl | rfl | rfl | rfl | rfl | rfl <;> rfl⟩
theorem cl_Hunt_28 : Cond.classLink "PostChain$Hunt" 28 "PostChain$Word" ∈ gx_T := gx_T_in (List.mem_append_right _ (show _ ∈ tables_1 from (List.mem_append_left _ (List.mem_of_getElem? (i := 170) (by decide +kernel))))) (by decide +kernel)
theorem nw_Hunt_28 : gx_nw "PostChain$Hunt" 28 0 2 [.null, .int 0] := ⟨R_Word, T_Word, t_Word, rfl, uc_Word, cl_Hunt_28, it_Word, in_Word, t_Word_ok, fun j hj => by rcases (show j = 0 ∨ j = 1 by omega) with rfl | rfl <;> rfl⟩
theorem cl_PC_44 : Cond.classLink "PostChain" 44 "PostChain$Row" ∈ gx_T := gx_T_in (List.mem_append_right _ (show _ ∈ tables_1 from (List.mem_append_left _ (List.mem_of_getElem? (i := 197) (by decide +kernel))))) (by decide +kernel)
theorem nw_PC_44 : gx_nw "PostChain" 44 1 2 [.null, .int 0] := ⟨R_Row, T_Row, t_Row, rfl, uc_Row, cl_PC_44, it_Row, in_Row, t_Row_ok, fun j hj => by rcases (show j = 0 ∨ j = 1 by omega) with rfl | rfl <;> rfl⟩
theorem cl_PC_53 : Cond.classLink "PostChain" 53 "PostChain$Word" ∈ gx_T := gx_T_in (List.mem_append_right _ (show _ ∈ tables_1 from (List.mem_append_left _ (List.mem_of_getElem? (i := 199) (by decide +kernel))))) (by decide +kernel)
theorem nw_PC_53 : gx_nw "PostChain" 53 0 2 [.null, .int 0] := ⟨R_Word, T_Word, t_Word, rfl, uc_Word, cl_PC_53, it_Word, in_Word, t_Word_ok, fun j hj => by rcases (show j = 0 ∨ j = 1 by omega) with rfl | rfl <;> rfl⟩
theorem cl_Law_13 : Cond.classLink "PostChainLaw" 13 "java/lang/IllegalArgumentException" ∈ gx_T := gx_T_in (List.mem_append_right _ (show _ ∈ tables_1 from (List.mem_append_right _ (List.mem_append_right _ (List.mem_append_left _ (List.mem_of_getElem? (i := 166) (by decide +kernel))))))) (by decide +kernel)
theorem cl_PC_76 : Cond.classLink "PostChain" 76 "java/lang/IllegalArgumentException" ∈ gx_T := gx_T_in (List.mem_append_right _ (show _ ∈ tables_1 from (List.mem_append_right _ (List.mem_append_right _ (List.mem_append_left _ (List.mem_of_getElem? (i := 173) (by decide +kernel))))))) (by decide +kernel)
theorem cl_Law_26 : Cond.classLink "PostChainLaw" 26 "java/lang/IllegalStateException" ∈ gx_T := gx_T_in (List.mem_append_right _ (show _ ∈ tables_1 from (List.mem_append_right _ (List.mem_append_right _ (List.mem_append_right _ (List.mem_append_left _ (List.mem_of_getElem? (i := 32) (by decide +kernel)))))))) (by decide +kernel)
theorem cl_PC_136 : Cond.classLink "PostChain" 136 "java/lang/IllegalStateException" ∈ gx_T := gx_T_in (List.mem_append_right _ (show _ ∈ tables_1 from (List.mem_append_right _ (List.mem_append_right _ (List.mem_append_right _ (List.mem_append_left _ (List.mem_of_getElem? (i := 37) (by decide +kernel)))))))) (by decide +kernel)
theorem cl_Law_33 : Cond.classLink "PostChainLaw" 33 "PostChainModel" ∈ gx_T := gx_T_in (List.mem_append_right _ (show _ ∈ tables_1 from (List.mem_append_right _ (List.mem_append_right _ (List.mem_append_right _ (List.mem_append_left _ (List.mem_of_getElem? (i := 72) (by decide +kernel)))))))) (by decide +kernel)
theorem nw_Law_33 : gx_nw "PostChainLaw" 33 9 33 [.int 0, .null, .null, .null, .null, .int 0, .null, .int 0, .null, .null, .int 0, .null, .null, .null, .null, .int 0, .null, .int 0, .null, .int 0, .null, .null, .null, .int 0, .int 0, .null, .null, .null, .null, .null, .null, .null, .null] := ⟨R_Mo, T_Mo, t_Mo, rfl, uc_Mo, cl_Law_33, it_Mo, in_Mo, t_Mo_ok, fun j hj => by rcases (show j = 0 ∨ j = 1 ∨ j = 2 ∨ j = 3 ∨ j = 4 ∨ j = 5 ∨ j = 6 ∨ j = 7 ∨ j = 8 ∨ j = 9 ∨ j = 10 ∨ j = 11 ∨ j = 12 ∨ j = 13 ∨ j = 14 ∨ j = 15 ∨ j = 16 ∨ j = 17 ∨ j = 18 ∨ j = 19 ∨ j = 20 ∨ j = 21 ∨ j = 22 ∨ j = 23 ∨ j = 24 ∨ j = 25 ∨ j = 26 ∨ j = 27 ∨ j = 28 ∨ j = 29 ∨ j = 30 ∨ j = 31 ∨ j = 32 by omega) with rfl | rfl | rfl | rfl | rfl | rfl | rfl | rfl | rfl | rfl | rfl | rfl | rfl | rfl | rfl | rfl | rfl | rfl | rfl | rfl | rfl | rfl | rfl | rfl | rfl | rfl | rfl | rfl | rfl | rfl | rfl | rfl | rfl <;> rfl⟩
end
section
/-! My calculus, first part: worlds as maps from addresses to abstract cells; a text or a row of numbers is one abstract cell -/
abbrev gx_E : Type := (Nat × vp_A) ⊕ (Nat × List Value) ⊕ (Nat × Nat × List Nat)
abbrev gx_W : Type := (Nat → Option gx_E) × Nat
/-- class numbers and slots; array classes; the heap at the law's start -/
abbrev gx_N : Type := va_G × (Nat → ClassId) × Heap
def gx_ta (N : gx_N) : List (ClassId × FieldType) := [(N.2.1 0, .int), (N.2.1 1, .char), (N.2.1 2, .boolean), (N.2.1 3, .object "PostChain$Word"), (N.2.1 4, .object "PostChain$Domino"), (N.2.1 5, .long)]
/-- which array kind a box of class number ci keeps: Word chars (kind 1), Row ints (kind 0) -/
def gx_bk (ci : Nat) : Nat := match ci with
  | 0 => 1
  | _ => 0
def gx_fn (l : List Nat) (f : Nat → Int32) : Prop := ∀ i, i < l.length → f i = nI (l.getD i 0)
def gx_sm (l : List Nat) : Prop := ∀ c ∈ l, c < 65536
def gx_is (N : gx_N) (q : Nat) (x : gx_E) (H : Heap) : Prop := match x with
  | .inl a => va_at N.1 gx_cl (q, .inl (N.2.1 a.1, a.2)) H
  | .inr (.inl o) => va_at N.1 gx_cl (q, .inr o) H
  | .inr (.inr t) => ∃ f : Nat → Int32, gx_fn t.2.2 f ∧ (t.2.2.length ≤ t.2.1 ∧ t.2.1 < 65536 ∧ gx_sm t.2.2) ∧ va_at N.1 gx_cl (q, .inr (t.1, [.ref (q + 1), .int (nI t.2.2.length)])) H ∧ va_at N.1 gx_cl (q + 1, .inl (N.2.1 (gx_bk t.1), t.2.1, .inl f)) H
def gx_wide (x : gx_E) : Bool := match x with
  | .inr (.inr _) => true
  | _ => false
def gx_Wd (N : gx_N) (w : gx_W) (H : Heap) : Prop :=
  H.size = w.2 ∧ N.2.2.size ≤ w.2 ∧ (∀ q : Nat, q < N.2.2.size → H[q]? = N.2.2[q]?) ∧ (∀ (q : Nat) (x : gx_E), w.1 q = some x → N.2.2.size ≤ q ∧ gx_is N q x H) ∧ ∀ (q : Nat) (x : gx_E), w.1 q = some x → gx_wide x = true → w.1 (q + 1) = none
def gx_cv (w : gx_W) (q : Nat) : Prop := (∃ x, w.1 q = some x) ∨ ∃ q' x, q = q' + 1 ∧ w.1 q' = some x ∧ gx_wide x = true
def gx_A (w : gx_W) : Nat → Prop := fun q => gx_cv w q ∨ w.2 ≤ q
def gx_st (w : gx_W) (a : Nat) (x : gx_E) : gx_W := (fun q => if q = a then some x else w.1 q, w.2)
def gx_al (w : gx_W) (x : gx_E) : gx_W := (fun q => if q = w.2 then some x else w.1 q, w.2 + 1)
abbrev gx_bx (ci cap : Nat) (l : List Nat) : gx_E := .inr (.inr (ci, cap, l))
abbrev gx_ob (ci : Nat) (fs : List Value) : gx_E := .inr (.inl (ci, fs))
abbrev gx_ai (k n : Nat) (f : Nat → Int32) : gx_E := .inl (k, n, .inl f)
abbrev gx_al8 (k n : Nat) (f : Nat → Int64) : gx_E := .inl (k, n, .inr (.inl f))
abbrev gx_ar (k n : Nat) (f : Nat → Option Nat) : gx_E := .inl (k, n, .inr (.inr (.inr (.inr f))))
def gx_raw (w : gx_W) (h ci cap n : Nat) (f : Nat → Int32) : gx_W := (fun q => if q = h then some (gx_ob ci [.ref (h + 1), .int (nI n)]) else if q = h + 1 then some (gx_ai (gx_bk ci) cap f) else w.1 q, w.2)
theorem gx_st_eq {w : gx_W} {a : Nat} {x : gx_E} : (gx_st w a x).1 a = some x := by simp [gx_st]
theorem gx_st_ne {w : gx_W} {a q : Nat} {x : gx_E} (h : q ≠ a) : (gx_st w a x).1 q = w.1 q := by simp [gx_st, h]
theorem gx_st_st {w : gx_W} {a : Nat} {x y : gx_E} : gx_st (gx_st w a x) a y = gx_st w a y := by
  unfold gx_st
  congr 1
  funext q
  by_cases h : q = a <;> simp [h]
theorem gx_st_id {w : gx_W} {a : Nat} {x : gx_E} (h : w.1 a = some x) : gx_st w a x = w := by
  unfold gx_st
  obtain ⟨f, n⟩ := w
  congr 1
  funext q
  by_cases hq : q = a
  · subst hq; simp; exact h.symm
  · simp [hq]
theorem gx_st_cm {w : gx_W} {a b : Nat} {x y : gx_E} (h : a ≠ b) : gx_st (gx_st w a x) b y = gx_st (gx_st w b y) a x := by
  unfold gx_st
  congr 1
  funext q
  by_cases h1 : q = a
  · subst h1; simp [h]
  · simp [h1]
theorem gx_raw_h {w : gx_W} {h ci cap n : Nat} {f : Nat → Int32} : (gx_raw w h ci cap n f).1 h = some (gx_ob ci [.ref (h + 1), .int (nI n)]) := by simp [gx_raw]
theorem gx_raw_h1 {w : gx_W} {h ci cap n : Nat} {f : Nat → Int32} : (gx_raw w h ci cap n f).1 (h + 1) = some (gx_ai (gx_bk ci) cap f) := by simp [gx_raw]
theorem gx_raw_ne {w : gx_W} {h ci cap n q : Nat} {f : Nat → Int32} (h0 : q ≠ h) (h1 : q ≠ h + 1) : (gx_raw w h ci cap n f).1 q = w.1 q := by simp [gx_raw, h0, h1]
theorem gx_raw_n {w : gx_W} {h ci cap n n' : Nat} {f : Nat → Int32} : gx_st (gx_raw w h ci cap n f) h (gx_ob ci [.ref (h + 1), .int (nI n')]) = gx_raw w h ci cap n' f := by
  unfold gx_st gx_raw
  congr 1
  funext q
  by_cases hq : q = h <;> simp [hq]
theorem gx_raw_f {w : gx_W} {h ci cap n : Nat} {f f' : Nat → Int32} : gx_st (gx_raw w h ci cap n f) (h + 1) (gx_ai (gx_bk ci) cap f') = gx_raw w h ci cap n f' := by
  unfold gx_st gx_raw
  congr 1
  funext q
  by_cases hq : q = h + 1
  · subst hq; simp
  · simp [hq]
theorem gx_is.kept {N : gx_N} {q : Nat} {x : gx_E} {H H1 : Heap} (h : gx_is N q x H) (h1 : H1[q]? = H[q]?) (h2 : gx_wide x = true → H1[q + 1]? = H[q + 1]?) : gx_is N q x H1 := by
  obtain a | o | t := x
  · exact va_at.kept (q := (q, .inl (N.2.1 a.1, a.2))) (show va_at N.1 gx_cl _ H from h) h1
  · exact va_at.kept (q := (q, .inr o)) (show va_at N.1 gx_cl _ H from h) h1
  · obtain ⟨f, hf, hl, ho, ha⟩ := h
    exact ⟨f, hf, hl, va_at.kept ho h1, va_at.kept ha (h2 rfl)⟩
theorem gx_is.lt {N : gx_N} {q : Nat} {x : gx_E} {H : Heap} (h : gx_is N q x H) : q < H.size := by
  obtain a | o | t := x
  · exact va_at.lt (q := (q, .inl (N.2.1 a.1, a.2))) (show va_at N.1 gx_cl _ H from h)
  · exact va_at.lt (q := (q, .inr o)) (show va_at N.1 gx_cl _ H from h)
  · obtain ⟨f, hf, hl, ho, ha⟩ := h
    exact va_at.lt ho
theorem gx_is.lt1 {N : gx_N} {q : Nat} {x : gx_E} {H : Heap} (h : gx_is N q x H) (hw : gx_wide x = true) : q + 1 < H.size := by
  obtain a | o | t := x
  · cases hw
  · cases hw
  · obtain ⟨f, hf, hl, ho, ha⟩ := h
    exact va_at.lt ha
theorem gx_Wd.lt {N : gx_N} {w : gx_W} {H : Heap} (h : gx_Wd N w H) {q : Nat} {x : gx_E} (hq : w.1 q = some x) : q < w.2 := by
  rw [← h.1]; exact (h.2.2.2.1 q x hq).2.lt
theorem gx_Wd.put {N : gx_N} {w : gx_W} {H H1 : Heap} {a : Nat} {x0 x : gx_E} (h : gx_Wd N w H) (ha : w.1 a = some x0) (hx0 : gx_wide x0 = false) (hx : gx_wide x = false) (hi : gx_is N a x H1) (hz : H1.size = H.size) (ho : ∀ q : Nat, q ≠ a → H1[q]? = H[q]?) : gx_Wd N (gx_st w a x) H1 := by
  obtain ⟨h1, h2, h3, h4, h5⟩ := h
  have hba := (h4 a x0 ha).1
  refine ⟨hz.trans h1, h2, fun q hq => by rw [ho q (by omega)]; exact h3 q hq, fun q y hq => ?_, fun q y hq hy => ?_⟩
  · by_cases hqa : q = a
    · subst hqa
      rw [gx_st_eq] at hq
      cases hq
      exact ⟨hba, hi⟩
    · rw [gx_st_ne hqa] at hq
      refine ⟨(h4 q y hq).1, (h4 q y hq).2.kept (ho q hqa) (fun hy => ho (q + 1) fun e => ?_)⟩
      have := h5 q y hq hy
      rw [e, ha] at this
      cases this
  · by_cases hqa : q = a
    · subst hqa
      rw [gx_st_eq] at hq
      cases hq
      rw [hx] at hy; cases hy
    · rw [gx_st_ne hqa] at hq
      have h6 := h5 q y hq hy
      by_cases hq1 : q + 1 = a
      · rw [hq1, ha] at h6; cases h6
      · rw [gx_st_ne hq1]; exact h6
theorem gx_Wd.al {N : gx_N} {w : gx_W} {H H1 : Heap} {x : gx_E} (h : gx_Wd N w H) (hx : gx_wide x = false) (hi : gx_is N w.2 x H1) (hz : H1.size = H.size + 1) (ho : ∀ q : Nat, q < H.size → H1[q]? = H[q]?) : gx_Wd N (gx_al w x) H1 := by
  have hlt := fun {q : Nat} {y : gx_E} (e : w.1 q = some y) => h.lt e
  obtain ⟨h1, h2, h3, h4, h5⟩ := h
  refine ⟨by rw [hz, h1]; rfl, Nat.le_succ_of_le h2, fun q hq => by rw [ho q (by omega)]; exact h3 q hq, fun q y hq => ?_, fun q y hq hy => ?_⟩
  · by_cases hqa : q = w.2
    · subst hqa
      simp [gx_al] at hq
      subst hq
      exact ⟨h2, hi⟩
    · simp [gx_al, hqa] at hq
      have h7 := (h4 q y hq).2
      refine ⟨(h4 q y hq).1, h7.kept (ho q h7.lt) (fun hy => ho (q + 1) (h7.lt1 hy))⟩
  · by_cases hqa : q = w.2
    · subst hqa
      simp [gx_al] at hq
      subst hq
      rw [hx] at hy; cases hy
    · simp [gx_al, hqa] at hq
      have h7 := (h4 q y hq).2.lt1 hy
      have h8 : q + 1 ≠ w.2 := by omega
      simp [gx_al, h8]
      exact h5 q y hq hy
theorem gx_Wd.unbox {N : gx_N} {w : gx_W} {H : Heap} {h ci cap : Nat} {l : List Nat} (hW : gx_Wd N w H) (hb : w.1 h = some (gx_bx ci cap l)) : w.1 (h + 1) = none ∧ (l.length ≤ cap ∧ cap < 65536 ∧ gx_sm l) ∧ ∃ f, gx_fn l f ∧ gx_Wd N (gx_raw w h ci cap l.length f) H := by
  obtain ⟨h1, h2, h3, h4, h5⟩ := hW
  obtain ⟨hb0, f, hf, hl, ho, ha⟩ := h4 h _ hb
  have h6 := h5 h _ hb rfl
  refine ⟨h6, hl, f, hf, h1, h2, h3, fun q y hq => ?_, fun q y hq hy => ?_⟩
  · by_cases e0 : q = h
    · subst e0
      rw [gx_raw_h] at hq; cases hq
      exact ⟨hb0, ho⟩
    · by_cases e1 : q = h + 1
      · subst e1
        rw [gx_raw_h1] at hq; cases hq
        exact ⟨by omega, ha⟩
      · rw [gx_raw_ne e0 e1] at hq
        exact h4 q y hq
  · by_cases e0 : q = h
    · subst e0
      rw [gx_raw_h] at hq; cases hq; cases hy
    · by_cases e1 : q = h + 1
      · subst e1
        rw [gx_raw_h1] at hq; cases hq; cases hy
      · rw [gx_raw_ne e0 e1] at hq
        have h7 := h5 q y hq hy
        have e2 : q + 1 ≠ h := fun e => by rw [e, hb] at h7; cases h7
        rw [gx_raw_ne e2 (by omega)]
        exact h7
theorem gx_Wd.box {N : gx_N} {w : gx_W} {H : Heap} {h ci cap n : Nat} {l : List Nat} {f : Nat → Int32} (hW : gx_Wd N (gx_raw w h ci cap n f) H) (h0 : w.1 (h + 1) = none) (hn : n = l.length) (hl : l.length ≤ cap ∧ cap < 65536 ∧ gx_sm l) (hf : gx_fn l f) : gx_Wd N (gx_st w h (gx_bx ci cap l)) H := by
  subst hn
  obtain ⟨h1, h2, h3, h4, h5⟩ := hW
  have a0 := h4 h _ gx_raw_h
  have a1 := h4 (h + 1) _ gx_raw_h1
  refine ⟨h1, h2, h3, fun q y hq => ?_, fun q y hq hy => ?_⟩
  · by_cases e0 : q = h
    · subst e0
      rw [gx_st_eq] at hq; cases hq
      exact ⟨a0.1, f, hf, hl, a0.2, a1.2⟩
    · rw [gx_st_ne e0] at hq
      have e1 : q ≠ h + 1 := fun e => by rw [e, h0] at hq; cases hq
      exact h4 q y (by rw [gx_raw_ne e0 e1]; exact hq)
  · by_cases e0 : q = h
    · subst e0
      rw [gx_st_ne (by omega)]; exact h0
    · rw [gx_st_ne e0] at hq
      have e1 : q ≠ h + 1 := fun e => by rw [e, h0] at hq; cases hq
      have h6 := h5 q y (by rw [gx_raw_ne e0 e1]; exact hq) hy
      have e2 : q + 1 ≠ h := fun e => by rw [e, gx_raw_h] at h6; cases h6
      rw [gx_st_ne e2]
      rw [gx_raw_ne e2 (by omega)] at h6
      exact h6
theorem gx_cv.st {w : gx_W} {a q : Nat} {x0 x : gx_E} (ha : w.1 a = some x0) (hx : gx_wide x = true → gx_wide x0 = true) (h : gx_cv (gx_st w a x) q) : gx_cv w q := by
  rcases h with ⟨y, hy⟩ | ⟨q', y, e, hy, hw⟩
  · by_cases hq : q = a
    · exact Or.inl ⟨x0, by rw [hq]; exact ha⟩
    · rw [gx_st_ne hq] at hy; exact Or.inl ⟨y, hy⟩
  · by_cases hq : q' = a
    · subst hq
      rw [gx_st_eq] at hy; cases hy
      exact Or.inr ⟨q', x0, e, ha, hx hw⟩
    · rw [gx_st_ne hq] at hy; exact Or.inr ⟨q', y, e, hy, hw⟩
theorem gx_cv.al {w : gx_W} {q : Nat} {x : gx_E} (hx : gx_wide x = false) (h : gx_cv (gx_al w x) q) : gx_cv w q ∨ w.2 ≤ q := by
  rcases h with ⟨y, hy⟩ | ⟨q', y, e, hy, hw⟩
  · by_cases hq : q = w.2
    · exact Or.inr (by omega)
    · simp [gx_al, hq] at hy; exact Or.inl (Or.inl ⟨y, hy⟩)
  · by_cases hq : q' = w.2
    · subst hq
      simp [gx_al] at hy
      subst hy
      rw [hx] at hw; cases hw
    · simp [gx_al, hq] at hy; exact Or.inl (Or.inr ⟨q', y, e, hy, hw⟩)
theorem gx_cv.raw {w : gx_W} {h ci cap cap' n q : Nat} {l : List Nat} {f : Nat → Int32} (hb : w.1 h = some (gx_bx ci cap' l)) (hc : gx_cv (gx_raw w h ci cap n f) q) : gx_cv w q := by
  rcases hc with ⟨y, hy⟩ | ⟨q', y, e, hy, hw⟩
  · by_cases e0 : q = h
    · exact Or.inl ⟨_, by rw [e0]; exact hb⟩
    · by_cases e1 : q = h + 1
      · exact Or.inr ⟨h, _, e1, hb, rfl⟩
      · rw [gx_raw_ne e0 e1] at hy; exact Or.inl ⟨y, hy⟩
  · by_cases e0 : q' = h
    · subst e0
      rw [gx_raw_h] at hy; cases hy; cases hw
    · by_cases e1 : q' = h + 1
      · subst e1
        rw [gx_raw_h1] at hy; cases hy; cases hw
      · rw [gx_raw_ne e0 e1] at hy; exact Or.inr ⟨q', y, e, hy, hw⟩
/-! locals by their places -/
def gx_en : Nat → List (Option Value) → List (Nat × Value)
  | _, [] => []
  | k, none :: t => gx_en (k + 1) t
  | k, some v :: t => (k, v) :: gx_en (k + 1) t
theorem gx_en_of : ∀ (L : List (Option Value)) (k i : Nat) (v : Value), L[i]? = some (some v) → (k + i, v) ∈ gx_en k L
  | [], k, i, v, h => by simp at h
  | none :: t, k, 0, v, h => by simp at h
  | none :: t, k, i + 1, v, h => by
    have := gx_en_of t (k + 1) i v (by simpa using h)
    rw [show k + (i + 1) = k + 1 + i by omega]
    exact this
  | some u :: t, k, 0, v, h => by
    simp at h
    subst h
    exact List.mem_cons_self
  | some u :: t, k, i + 1, v, h => by
    have := gx_en_of t (k + 1) i v (by simpa using h)
    rw [show k + (i + 1) = k + 1 + i by omega]
    exact List.mem_cons_of_mem _ this
theorem gx_en_to : ∀ (L : List (Option Value)) (k : Nat) (q : Nat × Value), q ∈ gx_en k L → ∃ i, q.1 = k + i ∧ L[i]? = some (some q.2)
  | [], k, q, h => by cases h
  | none :: t, k, q, h => by
    obtain ⟨i, h1, h2⟩ := gx_en_to t (k + 1) q h
    exact ⟨i + 1, by omega, by simpa using h2⟩
  | some u :: t, k, q, h => by
    rcases List.mem_cons.mp h with h | h
    · subst h; exact ⟨0, rfl, rfl⟩
    · obtain ⟨i, h1, h2⟩ := gx_en_to t (k + 1) q h
      exact ⟨i + 1, by omega, by simpa using h2⟩
def gx_Lv (ls : Array Slot) (nL : Nat) (L : List (Option Value)) : Prop := ls.size = nL ∧ lv_wf ls ∧ ∀ (i : Nat) (v : Value), L[i]? = some (some v) → ls[i]? = some (.val v)
theorem gx_Lv.has {ls : Array Slot} {nL : Nat} {L : List (Option Value)} (h : gx_Lv ls nL L) : lv_has ls nL (gx_en 0 L) := ⟨h.1, h.2.1, fun q hq => by
  obtain ⟨i, h1, h2⟩ := gx_en_to L 0 q hq
  rw [h1, Nat.zero_add]
  exact h.2.2 i q.2 h2⟩
/-- the slot before isn't a long one -/
def gx_c1 (L : List (Option Value)) (i : Nat) : Bool := match i with
  | 0 => true
  | j + 1 => match L[j]? with
    | some (some v) => v.category == 1
    | _ => true
theorem gx_Lv.set {ls' : Array Slot} {nL i : Nat} {L : List (Option Value)} {v : Value} (hc : gx_c1 L i = true) (h : lv_has ls' nL ((i, v) :: (gx_en 0 L).filter (fun q => !(q.1 == i) && !(q.1 + 1 == i && q.2.category == 2)))) : gx_Lv ls' nL (L.set i (some v)) := by
  obtain ⟨h1, h2, h3⟩ := h
  refine ⟨h1, h2, fun j u hj => ?_⟩
  by_cases e : j = i
  · subst e
    have hu : u = v := by
      rw [List.getElem?_set] at hj
      by_cases hl : j < L.length
      · simp [hl] at hj; exact hj.symm
      · simp [hl] at hj
    subst hu
    exact h3 (j, u) List.mem_cons_self
  · rw [List.getElem?_set_ne (Ne.symm e)] at hj
    refine h3 (j, u) (List.mem_cons_of_mem _ (List.mem_filter.mpr ⟨by have := gx_en_of L 0 j u hj; rwa [Nat.zero_add] at this, ?_⟩))
    have h5 : ¬ (j + 1 = i ∧ u.category = 2) := by
      rintro ⟨rfl, h6⟩
      simp only [gx_c1, hj] at hc
      rw [h6] at hc
      exact absurd hc (by decide)
    by_cases h7 : j + 1 = i
    · have h8 : ¬ u.category = 2 := fun h => h5 ⟨h7, h⟩
      simp [e, h8]
    · simp [e, h7]
def gx_sl : List Value → List (Option Value)
  | [] => []
  | v :: t => if v.category = 2 then some v :: none :: gx_sl t else some v :: gx_sl t
theorem gx_sl_of : ∀ (vs : List Value) (k i : Nat) (v : Value), (gx_sl vs)[i]? = some (some v) → (k + i, v) ∈ lv_args k vs
  | [], k, i, v, h => by simp [gx_sl] at h
  | u :: t, k, i, v, h => by
    unfold gx_sl at h
    unfold lv_args
    by_cases hc : u.category = 2
    · rw [if_pos hc] at h
      rw [if_pos hc]
      match i, h with
      | 0, h => simp at h; subst h; exact List.mem_cons_self
      | 1, h => simp at h
      | i + 2, h =>
        have := gx_sl_of t (k + 2) i v (by simpa using h)
        rw [show k + (i + 2) = k + 2 + i by omega]
        exact List.mem_cons_of_mem _ this
    · rw [if_neg hc] at h
      rw [if_neg hc]
      match i, h with
      | 0, h => simp at h; subst h; exact List.mem_cons_self
      | i + 1, h =>
        have := gx_sl_of t (k + 1) i v (by simpa using h)
        rw [show k + (i + 1) = k + 1 + i by omega]
        exact List.mem_cons_of_mem _ this
def gx_in (nL : Nat) (vs : List Value) : List (Option Value) := gx_sl vs ++ List.replicate (nL - (gx_sl vs).length) none
theorem gx_Lv.entry {ls : Array Slot} {nL : Nat} {vs : List Value} (h : lv_has ls nL (lv_args 0 vs)) : gx_Lv ls nL (gx_in nL vs) := by
  refine ⟨h.1, h.2.1, fun i v hi => ?_⟩
  unfold gx_in at hi
  by_cases hl : i < (gx_sl vs).length
  · rw [List.getElem?_append_left hl] at hi
    have := gx_sl_of vs 0 i v hi
    rw [Nat.zero_add] at this
    exact h.2.2 (i, v) this
  · rw [List.getElem?_append_right (by omega), List.getElem?_replicate] at hi
    split at hi <;> simp at hi
end
section
/-! My calculus, second part: the judgement of a walk, and of a call -/
def gx_ws (M : gx_M) : List Cond := Cond.code M.1 M.2.1 M.2.2.1 M.2.2.2 :: gx_T
/-- what is known of the objects that the law's start gives, for the sake of exceptions and texts -/
def gx_Ex (_N : gx_N) (_U : State) : Prop := True
theorem gx_Ex.moved {N : gx_N} {u U : State} (_hW : u.WarmedH U.vm) (_h : gx_Ex N u) : gx_Ex N U := trivial
theorem gx_Ex.same {N : gx_N} {u U : State} (_e : u.vm = U.vm) (_h : gx_Ex N u) : gx_Ex N U := trivial
def gx_Kn (N : gx_N) (U : State) : Prop := va_K N.1 gx_cl (gx_ta N) U ∧ (∀ q ∈ gx_nf, va_Nw (.fieldLinkNest q.1 q.2.1 q.2.2.1 q.2.2.2.1 q.2.2.2.2.1 q.2.2.2.2.2) U) ∧ (∀ q ∈ gx_nm, va_Nw (.methodLinkNest q.1 q.2.1 q.2.2.1 q.2.2.2) U) ∧ va_AO "PostChain$Word" U ∧ va_AO "PostChain$Domino" U ∧ gx_Ex N U
theorem gx_Kn.moved {N : gx_N} {u U : State} (hW : u.WarmedH U.vm) (h : gx_Kn N u) : gx_Kn N U :=
  ⟨va_K.moved hW.alike h.1, fun q hq => va_Nw.warmF hW (h.2.1 q hq), fun q hq => va_Nw.warmM hW (h.2.2.1 q hq), va_AO.moved hW.alike h.2.2.2.1, va_AO.moved hW.alike h.2.2.2.2.1, gx_Ex.moved hW h.2.2.2.2.2⟩
theorem gx_Kn.same {N : gx_N} {u U : State} (e : u.vm = U.vm) (h : gx_Kn N u) : gx_Kn N U :=
  ⟨va_K.moved (by rw [e]; exact Vm.Alike.refl _) h.1, fun q hq => va_Nw.same rfl e (h.2.1 q hq), fun q hq => va_Nw.same rfl e (h.2.2.1 q hq), va_AO.moved (by rw [e]; exact Vm.Alike.refl _) h.2.2.2.1, va_AO.moved (by rw [e]; exact Vm.Alike.refl _) h.2.2.2.2.1, gx_Ex.same e h.2.2.2.2.2⟩
def gx_rm (d mc ms : Nat) : Room := { frames := d, cells := mc, slots := ms, locals := 32 * d }
/-- what holds when a method has returned; what holds when it has thrown an object of a class -/
abbrev gx_P : Type := (Option Value → gx_W → Prop) × (String → gx_W → Prop)
def gx_thr (a : Nat) (C : String) (t : State) : Prop := ∃ cell : Cell, t.heap[a]? = some cell ∧ (∀ k, cell.vm ≠ .statics k) ∧ t.vm.findClass C = some cell.cls
def gx_Qc (N : gx_N) (A : Nat → Prop) (Q : gx_P) : Array Value → State → Outcome → State → Prop := fun _ st oc t =>
  ((∃ (r : Option Value) (w : gx_W), oc = .returned r ∧ Q.1 r w ∧ gx_Wd N w t.heap ∧ ∀ q, gx_cv w q → A q) ∨ ∃ (a : Nat) (C : String) (w : gx_W), oc = .threw a ∧ Q.2 C w ∧ gx_thr a C t ∧ gx_Wd N w t.heap ∧ ∀ q, gx_cv w q → A q) ∧ va_F A st t
abbrev gx_nt (Q : Option Value → gx_W → Prop) : gx_P := (Q, fun _ _ => False)
abbrev gx_eq (r : Option Value) (w : gx_W) : Option Value → gx_W → Prop := fun r' w' => r' = r ∧ w' = w
/-- a call of M with these arguments in this world comes back with Q; d frames deep at most, mc cells of ms slots are new at most -/
def gx_Ct (M : gx_M) (d mc ms : Nat) (as : List Value) (w : gx_W) (Q : Option Value → gx_W → Prop) : Prop :=
  ∀ (l : Launch) (N : gx_N), Met l M.1 (gx_ws M) (gx_rm d mc ms) (va_Pc as (fun U => gx_Wd N w U.heap ∧ gx_Kn N U)) (gx_Qc N (gx_A w) (gx_nt Q)) mc ms (gx_A w)
/-- a walk's end: returned or thrown -/
def gx_Z (N : gx_N) (A : Nat → Prop) (Q : gx_P) (below : List Frame) (args : Array Value) (s : State) (R : Room) : State → Prop := fun t =>
  ∃ o, t.status = .running ∧ Ended t below o ∧ gx_Qc N A Q args s o t ∧ ∃ L, s.WarmedH t.vm ∧ s.sameButNew ({ t with vm := s.vm } : State) L R.cells R.slots ∧ ∀ q ∈ L, A q.base
/-- F: what a method knows beside (the law: its script) -/
def gx_V (F : gx_N → State → Prop) (M : gx_M) (d : Nat) (R : Room) (p : Program) (s : State) (m : MethodId) (args : Array Value) (meth : Method) (c : Code) (N : gx_N) (A : Nat → Prop) : Prop :=
  p.tables.exec = Jvm.exec ∧ c.code = M.2.1 ∧ c.maxLocals = M.2.2.1 ∧ meth.sig.returnType = M.2.2.2 ∧ meth.locks = false ∧ s.vm.findClass M.1.cls = some m.cls ∧ meth.name = M.1.name ∧ (∀ w ∈ gx_T, w.before args s = true) ∧ gx_Kn N s ∧ d ≤ R.frames ∧ 32 * d ≤ R.locals ∧ (∀ q, s.heap.size ≤ q → A q) ∧ F N s
def gx_X (F : gx_N → State → Prop) (M : gx_M) (d : Nat) (Q : gx_P) (pc : Nat) (L : List (Option Value)) (st : List Value) (w : gx_W) (b : Nat × Nat) : Prop :=
  ∀ (p : Program) (l : Launch) (e : Env) (R : Room) (s : State) (m : MethodId) (args : Array Value) (below : List Frame) (meth : Method) (c : Code) (H : Heap) (locs : List Loc) (cells slots : Nat) (ls : Array Slot) (N : gx_N) (A : Nat → Prop),
    gx_V F M d R p s m args meth c N A → gx_Lv ls M.2.2.1 L → gx_Wd N w H → va_S A s.heap H locs → (∀ q, gx_cv w q → A q) → cells + b.1 ≤ R.cells → slots + b.2 ≤ R.slots →
    W p l e R s m args below meth c H locs cells slots (gx_Z N A Q below args s R) (F0 m pc ls st)
section GXA
variable {F : gx_N → State → Prop} {M : gx_M} {d : Nat} {Q : gx_P} {pc : Nat} {L : List (Option Value)} {st rest : List Value} {w : gx_W} {b : Nat × Nat}
theorem gx_mono {p : Program} {l : Launch} {e : Env} {R : Room} {s : State} {m : MethodId} {args : Array Value} {below : List Frame} {meth : Method} {c : Code} {H : Heap} {locs : List Loc} {cells slots : Nat} {Q1 Q2 : State → Prop} {g : JFrame} (h : ∀ t, Q1 t → Q2 t) (k : W p l e R s m args below meth c H locs cells slots Q1 g) : W p l e R s m args below meth c H locs cells slots Q2 g := fun T hT X => by
  obtain ⟨t, a, q⟩ := k T hT X
  exact ⟨t, a, h t q⟩
theorem gx_Z.of {N : gx_N} {A : Nat → Prop} {below : List Frame} {args : Array Value} {s : State} {R : Room} (t : State) (h : MQ below (gx_Qc N A Q) args s R.cells R.slots A t) : gx_Z N A Q below args s R t := by
  obtain ⟨o, h1, h2, h3, L', h4, h5⟩ := h
  exact ⟨o, h1, h2, h3, L', h4.2.1, h4.2.2, h5⟩
set_option maxHeartbeats 1000000 in
/-- a call's contract out of the walk of its body -/
theorem gx_ct {mc ms : Nat} {as : List Value} {Q0 : Option Value → gx_W → Prop} (hy : plainName M.1.cls = true) (hn : (lg_sl as).length ≤ M.2.2.1) (hL : gx_in M.2.2.1 as = L) (k : gx_X (fun _ _ => True) M d (gx_nt Q0) 0 L [] w (mc, ms)) : gx_Ct M d mc ms as w Q0 := by
  intro l N
  refine Met.ofW (cc := M.2.1) (maxL := M.2.2.1) (ret := M.2.2.2) hy rfl ?_
  intro p e s m args below meth c s₁ B hml hv
  obtain ⟨rfl, hw, hK⟩ := hv
  have hts := atoms_spec (ws := gx_ws M) B.pre
  have hl := lv_entry as hn
  rw [lg_entry_eq]
  generalize (lg_sl as ++ List.replicate (M.2.2.1 - (lg_sl as).length) Slot.unset).toArray = ls at hl ⊢
  subst hL
  have hsz : s.heap.size = w.2 := hw.1
  refine gx_mono (fun t ht => ?_) (k p l e _ s m _ below meth c s.heap [] 0 0 ls N (gx_A w)
    ⟨B.exec, B.bytes, hml, B.returns, B.notSynchronized, findClass_of_methodNamed B.named, (name_of_methodNamed B.named B.method).1, fun x hx => hts x (List.mem_cons_of_mem _ hx), hK, Nat.le_refl _, Nat.le_refl _, fun q hq => Or.inr (by omega), trivial⟩
    (gx_Lv.entry hl) hw va_S.rf (fun q h => Or.inl h) (by show 0 + mc ≤ mc; omega) (by show 0 + ms ≤ ms; omega))
  obtain ⟨o, h1, h2, h3, L', h4, h5, h6⟩ := ht
  rcases h3.1 with ⟨r, w', rfl, -⟩ | ⟨_, _, _, _, hF, _⟩
  · exact ⟨_, h1, h2, h3, L', ⟨⟨_, rfl⟩, h4, h5⟩, h6⟩
  · exact hF.elim
/-- an instruction that touches no cell and no local -/
theorem gx_go {pc' : Nat} {st' : List Value}
    (h : ∀ {p : Program} {l : Launch} {e : Env} {R : Room} {s : State} {m : MethodId} {args : Array Value} {below : List Frame} {meth : Method} {c : Code} {H : Heap} {locs : List Loc} {cells slots : Nat} {Q0 : State → Prop} {ls : Array Slot} {N : gx_N} {A : Nat → Prop},
      gx_V F M d R p s m args meth c N A → gx_Lv ls M.2.2.1 L → gx_Wd N w H → W p l e R s m args below meth c H locs cells slots Q0 (F0 m pc' ls st') → W p l e R s m args below meth c H locs cells slots Q0 (F0 m pc ls st))
    (k : gx_X F M d Q pc' L st' w b) : gx_X F M d Q pc L st w b :=
  fun p l e R s m args below meth c H locs cells slots ls N A V hl hw hS hd hc hs => h V hl hw (k p l e R s m args below meth c H locs cells slots ls N A V hl hw hS hd hc hs)
theorem gx_iconst {n : Int} (hdg : decode M.2.1 pc = .ok (.iconst n, 1)) (v : Int32) (hv : Int32.ofInt n = v) (k : gx_X F M d Q (pc + 1) L (.int v :: st) w b) : gx_X F M d Q pc L st w b := gx_go (fun V _ _ k => lv_iconst V.1 V.2.1 hdg hv k) k
theorem gx_bipush {n : Int} (hdg : decode M.2.1 pc = .ok (.bipush n, 2)) (v : Int32) (hv : (Int8.ofInt n).toInt32 = v) (k : gx_X F M d Q (pc + 2) L (.int v :: st) w b) : gx_X F M d Q pc L st w b := gx_go (fun V _ _ k => lv_bipush V.1 V.2.1 hdg hv k) k
theorem gx_sipush {n : Int} (hdg : decode M.2.1 pc = .ok (.sipush n, 3)) (v : Int32) (hv : (Int16.ofInt n).toInt32 = v) (k : gx_X F M d Q (pc + 3) L (.int v :: st) w b) : gx_X F M d Q pc L st w b := gx_go (fun V _ _ k => lv_sipush V.1 V.2.1 hdg hv k) k
theorem gx_lconst {n : Fin 2} (hdg : decode M.2.1 pc = .ok (.lconst n, 1)) (v : Int64) (hv : Int64.ofNat (n : Nat) = v) (k : gx_X F M d Q (pc + 1) L (.long v :: st) w b) : gx_X F M d Q pc L st w b := gx_go (fun V _ _ k => lv_lconst V.1 V.2.1 hdg hv k) k
theorem gx_iload_n {j : Fin 4} {x : Int32} (hdg : decode M.2.1 pc = .ok (.iload_n j, 1)) (hl : L[(j : Nat)]? = some (some (.int x))) (k : gx_X F M d Q (pc + 1) L (.int x :: st) w b) : gx_X F M d Q pc L st w b := gx_go (fun V h _ k => lv_iload_n V.1 V.2.1 hdg rfl (h.2.2 _ _ hl) k) k
theorem gx_iload {j : Nat} {x : Int32} (hdg : decode M.2.1 pc = .ok (.iload j, 2)) (hl : L[j]? = some (some (.int x))) (k : gx_X F M d Q (pc + 2) L (.int x :: st) w b) : gx_X F M d Q pc L st w b := gx_go (fun V h _ k => lv_iload V.1 V.2.1 hdg (h.2.2 _ _ hl) k) k
theorem gx_lload_n {j : Fin 4} {x : Int64} (hdg : decode M.2.1 pc = .ok (.lload_n j, 1)) (hl : L[(j : Nat)]? = some (some (.long x))) (k : gx_X F M d Q (pc + 1) L (.long x :: st) w b) : gx_X F M d Q pc L st w b := gx_go (fun V h _ k => lv_lload_n V.1 V.2.1 hdg rfl (h.2.2 _ _ hl) k) k
theorem gx_aload_n {j : Fin 4} {x : Nat} (hdg : decode M.2.1 pc = .ok (.aload_n j, 1)) (hl : L[(j : Nat)]? = some (some (.ref x))) (k : gx_X F M d Q (pc + 1) L (.ref x :: st) w b) : gx_X F M d Q pc L st w b := gx_go (fun V h _ k => lv_aload_n V.1 V.2.1 hdg rfl (h.2.2 _ _ hl) k) k
theorem gx_aload {j : Nat} {x : Nat} (hdg : decode M.2.1 pc = .ok (.aload j, 2)) (hl : L[j]? = some (some (.ref x))) (k : gx_X F M d Q (pc + 2) L (.ref x :: st) w b) : gx_X F M d Q pc L st w b := gx_go (fun V h _ k => lv_aload V.1 V.2.1 hdg (h.2.2 _ _ hl) k) k
theorem gx_iadd {x y : Int32} (hdg : decode M.2.1 pc = .ok (.iadd, 1)) (k : gx_X F M d Q (pc + 1) L (.int (x + y) :: st) w b) : gx_X F M d Q pc L (.int y :: .int x :: st) w b := gx_go (fun V _ _ k => lv_iadd V.1 V.2.1 hdg k) k
theorem gx_isub {x y : Int32} (hdg : decode M.2.1 pc = .ok (.isub, 1)) (k : gx_X F M d Q (pc + 1) L (.int (x - y) :: st) w b) : gx_X F M d Q pc L (.int y :: .int x :: st) w b := gx_go (fun V _ _ k => lv_isub V.1 V.2.1 hdg k) k
theorem gx_imul {x y : Int32} (hdg : decode M.2.1 pc = .ok (.imul, 1)) (k : gx_X F M d Q (pc + 1) L (.int (x * y) :: st) w b) : gx_X F M d Q pc L (.int y :: .int x :: st) w b := gx_go (fun V _ _ k => lv_imul V.1 V.2.1 hdg k) k
theorem gx_iand {x y : Int32} (hdg : decode M.2.1 pc = .ok (.iand, 1)) (k : gx_X F M d Q (pc + 1) L (.int (x &&& y) :: st) w b) : gx_X F M d Q pc L (.int y :: .int x :: st) w b := gx_go (fun V _ _ k => lv_iand V.1 V.2.1 hdg k) k
theorem gx_idiv {x y : Int32} (hdg : decode M.2.1 pc = .ok (.idiv, 1)) (hne : ¬ y = 0) (k : gx_X F M d Q (pc + 1) L (.int (x / y) :: st) w b) : gx_X F M d Q pc L (.int y :: .int x :: st) w b := gx_go (fun V _ _ k => lv_idiv V.1 V.2.1 hdg hne k) k
theorem gx_irem {x y : Int32} (hdg : decode M.2.1 pc = .ok (.irem, 1)) (hne : ¬ y = 0) (k : gx_X F M d Q (pc + 1) L (.int (x - x / y * y) :: st) w b) : gx_X F M d Q pc L (.int y :: .int x :: st) w b := gx_go (fun V _ _ k => lv_irem V.1 V.2.1 hdg hne k) k
theorem gx_land {x y : Int64} (hdg : decode M.2.1 pc = .ok (.land, 1)) (k : gx_X F M d Q (pc + 1) L (.long (x &&& y) :: st) w b) : gx_X F M d Q pc L (.long y :: .long x :: st) w b := gx_go (fun V _ _ k => lv_land V.1 V.2.1 hdg k) k
theorem gx_lor {x y : Int64} (hdg : decode M.2.1 pc = .ok (.lor, 1)) (k : gx_X F M d Q (pc + 1) L (.long (x ||| y) :: st) w b) : gx_X F M d Q pc L (.long y :: .long x :: st) w b := gx_go (fun V _ _ k => lv_lor V.1 V.2.1 hdg k) k
theorem gx_i2l {x : Int32} (hdg : decode M.2.1 pc = .ok (.i2l, 1)) (k : gx_X F M d Q (pc + 1) L (.long x.toInt64 :: st) w b) : gx_X F M d Q pc L (.int x :: st) w b := gx_go (fun V _ _ k => lv_i2l V.1 V.2.1 hdg rfl k) k
theorem gx_l2i {x : Int64} (hdg : decode M.2.1 pc = .ok (.l2i, 1)) (k : gx_X F M d Q (pc + 1) L (.int x.toInt32 :: st) w b) : gx_X F M d Q pc L (.long x :: st) w b := gx_go (fun V _ _ k => lv_l2i V.1 V.2.1 hdg rfl k) k
theorem gx_i2c {x : Int32} (hdg : decode M.2.1 pc = .ok (.i2c, 1)) (k : gx_X F M d Q (pc + 1) L (.int (x.toUInt32 % 65536).toInt32 :: st) w b) : gx_X F M d Q pc L (.int x :: st) w b := gx_go (fun V _ _ k => lv_i2c V.1 V.2.1 hdg rfl k) k
theorem gx_lushr {x : Int64} {y : Int32} (hdg : decode M.2.1 pc = .ok (.lushr, 1)) (k : gx_X F M d Q (pc + 1) L (.long (x.toUInt64 >>> (y.toInt64.toUInt64 &&& Int64.toUInt64 63)).toInt64 :: st) w b) : gx_X F M d Q pc L (.int y :: .long x :: st) w b := gx_go (fun V _ _ k => lv_lushr V.1 V.2.1 hdg rfl k) k
theorem gx_lshr {x : Int64} {y : Int32} (hdg : decode M.2.1 pc = .ok (.lshr, 1)) (k : gx_X F M d Q (pc + 1) L (.long (x >>> (y.toInt64 &&& 63)) :: st) w b) : gx_X F M d Q pc L (.int y :: .long x :: st) w b := gx_go (fun V _ _ k => lv_lshr V.1 V.2.1 hdg rfl k) k
theorem gx_lshl {x : Int64} {y : Int32} (hdg : decode M.2.1 pc = .ok (.lshl, 1)) (k : gx_X F M d Q (pc + 1) L (.long (x <<< (y.toInt64 &&& 63)) :: st) w b) : gx_X F M d Q pc L (.int y :: .long x :: st) w b := gx_go (fun V _ _ k => lv_lshl V.1 V.2.1 hdg rfl k) k
theorem gx_dup {v : Value} (hdg : decode M.2.1 pc = .ok (.dup, 1)) (hv : v.category = 1) (k : gx_X F M d Q (pc + 1) L (v :: v :: st) w b) : gx_X F M d Q pc L (v :: st) w b := gx_go (fun V _ _ k => lv_dup V.1 V.2.1 hdg hv k) k
theorem gx_pop {v : Value} (hdg : decode M.2.1 pc = .ok (.pop, 1)) (hv : v.category = 1) (k : gx_X F M d Q (pc + 1) L st w b) : gx_X F M d Q pc L (v :: st) w b := gx_go (fun V _ _ k => lv_pop V.1 V.2.1 hdg hv k) k
theorem gx_dup2 {v u : Value} (hdg : decode M.2.1 pc = .ok (.dup2, 1)) (hv : v.category = 1) (hu : u.category = 1) (k : gx_X F M d Q (pc + 1) L (v :: u :: v :: u :: st) w b) : gx_X F M d Q pc L (v :: u :: st) w b := gx_go (fun V _ _ k => lv_dup2_11 V.1 V.2.1 hdg hv hu k) k
theorem gx_goto {off : Int} {tgt : Nat} (hdg : decode M.2.1 pc = .ok (.goto off, 3)) (ht : (pc : Int) + off = (tgt : Int)) (k : gx_X F M d Q tgt L st w b) : gx_X F M d Q pc L st w b := gx_go (fun V _ _ k => lv_goto V.1 V.2.1 hdg ht k) k
theorem gx_tableOut {dflt lo hi : Int} {offs : Array Int} {len : Nat} {x : Int32} {tgt : Nat} (hdg : decode M.2.1 pc = .ok (.tableswitch dflt lo hi offs, len)) (h : x.toInt < lo ∨ hi < x.toInt) (ht : (pc : Int) + dflt = (tgt : Int)) (k : gx_X F M d Q tgt L st w b) : gx_X F M d Q pc L (.int x :: st) w b := gx_go (fun V _ _ k => lv_tableOut V.1 V.2.1 hdg h ht k) k
theorem gx_tableIn {dflt lo hi : Int} {offs : Array Int} {len : Nat} {x : Int32} {off : Int} {tgt : Nat} (hdg : decode M.2.1 pc = .ok (.tableswitch dflt lo hi offs, len)) (h1 : ¬ x.toInt < lo) (h2 : ¬ hi < x.toInt) (ho : offs[(x.toInt - lo).toNat]? = some off) (ht : (pc : Int) + off = (tgt : Int)) (k : gx_X F M d Q tgt L st w b) : gx_X F M d Q pc L (.int x :: st) w b := gx_go (fun V _ _ k => lv_tableIn V.1 V.2.1 hdg h1 h2 ho ht k) k
theorem gx_if_eq {x : Int32} {off : Int} {tgt : Nat} (hdg : decode M.2.1 pc = .ok (.ifCond .eq off, 3)) (ht : (pc : Int) + off = (tgt : Int)) (kt : x = 0 → gx_X F M d Q tgt L st w b) (kf : ¬ (x = 0) → gx_X F M d Q (pc + 3) L st w b) : gx_X F M d Q pc L (.int x :: st) w b := fun p l e R s m args below meth c H locs cells slots ls N A V hl hw hS hd hc hs => lv_if_eq V.1 V.2.1 hdg ht (fun h => kt h p l e R s m args below meth c H locs cells slots ls N A V hl hw hS hd hc hs) (fun h => kf h p l e R s m args below meth c H locs cells slots ls N A V hl hw hS hd hc hs)
theorem gx_icmp_eq {x y : Int32} {off : Int} {tgt : Nat} (hdg : decode M.2.1 pc = .ok (.if_icmp .eq off, 3)) (ht : (pc : Int) + off = (tgt : Int)) (kt : x = y → gx_X F M d Q tgt L st w b) (kf : ¬ (x = y) → gx_X F M d Q (pc + 3) L st w b) : gx_X F M d Q pc L (.int y :: .int x :: st) w b := fun p l e R s m args below meth c H locs cells slots ls N A V hl hw hS hd hc hs => lv_icmp_eq V.1 V.2.1 hdg ht (fun h => kt h p l e R s m args below meth c H locs cells slots ls N A V hl hw hS hd hc hs) (fun h => kf h p l e R s m args below meth c H locs cells slots ls N A V hl hw hS hd hc hs)
theorem gx_if_ne {x : Int32} {off : Int} {tgt : Nat} (hdg : decode M.2.1 pc = .ok (.ifCond .ne off, 3)) (ht : (pc : Int) + off = (tgt : Int)) (kt : ¬ x = 0 → gx_X F M d Q tgt L st w b) (kf : x = 0 → gx_X F M d Q (pc + 3) L st w b) : gx_X F M d Q pc L (.int x :: st) w b := fun p l e R s m args below meth c H locs cells slots ls N A V hl hw hS hd hc hs => lv_if_ne V.1 V.2.1 hdg ht (fun h => kt h p l e R s m args below meth c H locs cells slots ls N A V hl hw hS hd hc hs) (fun h => kf h p l e R s m args below meth c H locs cells slots ls N A V hl hw hS hd hc hs)
theorem gx_icmp_ne {x y : Int32} {off : Int} {tgt : Nat} (hdg : decode M.2.1 pc = .ok (.if_icmp .ne off, 3)) (ht : (pc : Int) + off = (tgt : Int)) (kt : ¬ x = y → gx_X F M d Q tgt L st w b) (kf : x = y → gx_X F M d Q (pc + 3) L st w b) : gx_X F M d Q pc L (.int y :: .int x :: st) w b := fun p l e R s m args below meth c H locs cells slots ls N A V hl hw hS hd hc hs => lv_icmp_ne V.1 V.2.1 hdg ht (fun h => kt h p l e R s m args below meth c H locs cells slots ls N A V hl hw hS hd hc hs) (fun h => kf h p l e R s m args below meth c H locs cells slots ls N A V hl hw hS hd hc hs)
theorem gx_if_lt {x : Int32} {off : Int} {tgt : Nat} (hdg : decode M.2.1 pc = .ok (.ifCond .lt off, 3)) (ht : (pc : Int) + off = (tgt : Int)) (kt : x < 0 → gx_X F M d Q tgt L st w b) (kf : ¬ (x < 0) → gx_X F M d Q (pc + 3) L st w b) : gx_X F M d Q pc L (.int x :: st) w b := fun p l e R s m args below meth c H locs cells slots ls N A V hl hw hS hd hc hs => lv_if_lt V.1 V.2.1 hdg ht (fun h => kt h p l e R s m args below meth c H locs cells slots ls N A V hl hw hS hd hc hs) (fun h => kf h p l e R s m args below meth c H locs cells slots ls N A V hl hw hS hd hc hs)
theorem gx_icmp_lt {x y : Int32} {off : Int} {tgt : Nat} (hdg : decode M.2.1 pc = .ok (.if_icmp .lt off, 3)) (ht : (pc : Int) + off = (tgt : Int)) (kt : x < y → gx_X F M d Q tgt L st w b) (kf : ¬ (x < y) → gx_X F M d Q (pc + 3) L st w b) : gx_X F M d Q pc L (.int y :: .int x :: st) w b := fun p l e R s m args below meth c H locs cells slots ls N A V hl hw hS hd hc hs => lv_icmp_lt V.1 V.2.1 hdg ht (fun h => kt h p l e R s m args below meth c H locs cells slots ls N A V hl hw hS hd hc hs) (fun h => kf h p l e R s m args below meth c H locs cells slots ls N A V hl hw hS hd hc hs)
theorem gx_if_ge {x : Int32} {off : Int} {tgt : Nat} (hdg : decode M.2.1 pc = .ok (.ifCond .ge off, 3)) (ht : (pc : Int) + off = (tgt : Int)) (kt : 0 ≤ x → gx_X F M d Q tgt L st w b) (kf : ¬ (0 ≤ x) → gx_X F M d Q (pc + 3) L st w b) : gx_X F M d Q pc L (.int x :: st) w b := fun p l e R s m args below meth c H locs cells slots ls N A V hl hw hS hd hc hs => lv_if_ge V.1 V.2.1 hdg ht (fun h => kt h p l e R s m args below meth c H locs cells slots ls N A V hl hw hS hd hc hs) (fun h => kf h p l e R s m args below meth c H locs cells slots ls N A V hl hw hS hd hc hs)
theorem gx_icmp_ge {x y : Int32} {off : Int} {tgt : Nat} (hdg : decode M.2.1 pc = .ok (.if_icmp .ge off, 3)) (ht : (pc : Int) + off = (tgt : Int)) (kt : y ≤ x → gx_X F M d Q tgt L st w b) (kf : ¬ (y ≤ x) → gx_X F M d Q (pc + 3) L st w b) : gx_X F M d Q pc L (.int y :: .int x :: st) w b := fun p l e R s m args below meth c H locs cells slots ls N A V hl hw hS hd hc hs => lv_icmp_ge V.1 V.2.1 hdg ht (fun h => kt h p l e R s m args below meth c H locs cells slots ls N A V hl hw hS hd hc hs) (fun h => kf h p l e R s m args below meth c H locs cells slots ls N A V hl hw hS hd hc hs)
theorem gx_if_gt {x : Int32} {off : Int} {tgt : Nat} (hdg : decode M.2.1 pc = .ok (.ifCond .gt off, 3)) (ht : (pc : Int) + off = (tgt : Int)) (kt : 0 < x → gx_X F M d Q tgt L st w b) (kf : ¬ (0 < x) → gx_X F M d Q (pc + 3) L st w b) : gx_X F M d Q pc L (.int x :: st) w b := fun p l e R s m args below meth c H locs cells slots ls N A V hl hw hS hd hc hs => lv_if_gt V.1 V.2.1 hdg ht (fun h => kt h p l e R s m args below meth c H locs cells slots ls N A V hl hw hS hd hc hs) (fun h => kf h p l e R s m args below meth c H locs cells slots ls N A V hl hw hS hd hc hs)
theorem gx_icmp_gt {x y : Int32} {off : Int} {tgt : Nat} (hdg : decode M.2.1 pc = .ok (.if_icmp .gt off, 3)) (ht : (pc : Int) + off = (tgt : Int)) (kt : y < x → gx_X F M d Q tgt L st w b) (kf : ¬ (y < x) → gx_X F M d Q (pc + 3) L st w b) : gx_X F M d Q pc L (.int y :: .int x :: st) w b := fun p l e R s m args below meth c H locs cells slots ls N A V hl hw hS hd hc hs => lv_icmp_gt V.1 V.2.1 hdg ht (fun h => kt h p l e R s m args below meth c H locs cells slots ls N A V hl hw hS hd hc hs) (fun h => kf h p l e R s m args below meth c H locs cells slots ls N A V hl hw hS hd hc hs)
theorem gx_if_le {x : Int32} {off : Int} {tgt : Nat} (hdg : decode M.2.1 pc = .ok (.ifCond .le off, 3)) (ht : (pc : Int) + off = (tgt : Int)) (kt : x ≤ 0 → gx_X F M d Q tgt L st w b) (kf : ¬ (x ≤ 0) → gx_X F M d Q (pc + 3) L st w b) : gx_X F M d Q pc L (.int x :: st) w b := fun p l e R s m args below meth c H locs cells slots ls N A V hl hw hS hd hc hs => lv_if_le V.1 V.2.1 hdg ht (fun h => kt h p l e R s m args below meth c H locs cells slots ls N A V hl hw hS hd hc hs) (fun h => kf h p l e R s m args below meth c H locs cells slots ls N A V hl hw hS hd hc hs)
theorem gx_icmp_le {x y : Int32} {off : Int} {tgt : Nat} (hdg : decode M.2.1 pc = .ok (.if_icmp .le off, 3)) (ht : (pc : Int) + off = (tgt : Int)) (kt : x ≤ y → gx_X F M d Q tgt L st w b) (kf : ¬ (x ≤ y) → gx_X F M d Q (pc + 3) L st w b) : gx_X F M d Q pc L (.int y :: .int x :: st) w b := fun p l e R s m args below meth c H locs cells slots ls N A V hl hw hS hd hc hs => lv_icmp_le V.1 V.2.1 hdg ht (fun h => kt h p l e R s m args below meth c H locs cells slots ls N A V hl hw hS hd hc hs) (fun h => kf h p l e R s m args below meth c H locs cells slots ls N A V hl hw hS hd hc hs)
theorem gx_istore_n {j : Fin 4} {x : Int32} (hdg : decode M.2.1 pc = .ok (.istore_n j, 1)) (hn : (j : Nat) < M.2.2.1) (hc1 : gx_c1 L (j : Nat) = true) (k : gx_X F M d Q (pc + 1) (L.set (j : Nat) (some (.int x))) st w b) : gx_X F M d Q pc L (.int x :: st) w b := fun p l e R s m args below meth c H locs cells slots ls N A V hl hw hS hd hc hs => lv_istore_n V.1 V.2.1 hdg rfl hl.has hn rfl (fun ls' h' => k p l e R s m args below meth c H locs cells slots ls' N A V (gx_Lv.set hc1 h') hw hS hd hc hs)
theorem gx_istore {j : Nat} {x : Int32} (hdg : decode M.2.1 pc = .ok (.istore j, 2)) (hn : j < M.2.2.1) (hc1 : gx_c1 L j = true) (k : gx_X F M d Q (pc + 2) (L.set j (some (.int x))) st w b) : gx_X F M d Q pc L (.int x :: st) w b := fun p l e R s m args below meth c H locs cells slots ls N A V hl hw hS hd hc hs => lv_istore V.1 V.2.1 hdg hl.has hn rfl (fun ls' h' => k p l e R s m args below meth c H locs cells slots ls' N A V (gx_Lv.set hc1 h') hw hS hd hc hs)
theorem gx_astore_n {j : Fin 4} {x : Nat} (hdg : decode M.2.1 pc = .ok (.astore_n j, 1)) (hn : (j : Nat) < M.2.2.1) (hc1 : gx_c1 L (j : Nat) = true) (k : gx_X F M d Q (pc + 1) (L.set (j : Nat) (some (.ref x))) st w b) : gx_X F M d Q pc L (.ref x :: st) w b := fun p l e R s m args below meth c H locs cells slots ls N A V hl hw hS hd hc hs => lv_astore_n V.1 V.2.1 hdg rfl hl.has hn rfl (fun ls' h' => k p l e R s m args below meth c H locs cells slots ls' N A V (gx_Lv.set hc1 h') hw hS hd hc hs)
theorem gx_astore {j : Nat} {x : Nat} (hdg : decode M.2.1 pc = .ok (.astore j, 2)) (hn : j < M.2.2.1) (hc1 : gx_c1 L j = true) (k : gx_X F M d Q (pc + 2) (L.set j (some (.ref x))) st w b) : gx_X F M d Q pc L (.ref x :: st) w b := fun p l e R s m args below meth c H locs cells slots ls N A V hl hw hS hd hc hs => lv_astore V.1 V.2.1 hdg hl.has hn rfl (fun ls' h' => k p l e R s m args below meth c H locs cells slots ls' N A V (gx_Lv.set hc1 h') hw hS hd hc hs)
theorem gx_iinc {j : Nat} {n : Int} {x : Int32} (hdg : decode M.2.1 pc = .ok (.iinc j n, 3)) (hl0 : L[j]? = some (some (.int x))) (v : Int32) (hv : x + Int32.ofInt n = v) (hn : j < M.2.2.1) (hc1 : gx_c1 L j = true) (k : gx_X F M d Q (pc + 3) (L.set j (some (.int v))) st w b) : gx_X F M d Q pc L st w b := fun p l e R s m args below meth c H locs cells slots ls N A V hl hw hS hd hc hs => by
  have h5 := gx_en_of L 0 j _ hl0
  rw [Nat.zero_add] at h5
  obtain ⟨i, hi⟩ := List.getElem?_of_mem h5
  exact lv_iinc V.1 V.2.1 hdg hl.has hi hv hn rfl (fun ls' h' => k p l e R s m args below meth c H locs cells slots ls' N A V (gx_Lv.set hc1 h') hw hS hd hc hs)
theorem gx_ireturn {v : Int32} (hr : M.2.2.2 = some .int) (hdg : decode M.2.1 pc = .ok (.ireturn, 1)) (hq : Q.1 (some (.int v)) w) : gx_X F M d Q pc L [.int v] w b := fun p l e R s m args below meth c H locs cells slots ls N A V hl hw hS hd hc hs => by
  refine W.widen (k := R.cells) (n := R.slots) (by omega) (by omega) ?_
  exact gx_mono gx_Z.of (W.iret (v := v) V.1 V.2.1 (V.2.2.2.1.trans hr) (fun t ht _ => ⟨Or.inl ⟨_, w, rfl, hq, by rw [ht]; exact hw, hd⟩, hS.F ht⟩) hS.2.2 hdg V.2.2.2.2.1)
theorem gx_zreturn {v : Int32} {ty : FieldType} (hr : M.2.2.2 = some ty) (hn : narrow ty (.int v) = .int v) (hdg : decode M.2.1 pc = .ok (.ireturn, 1)) (hq : Q.1 (some (.int v)) w) : gx_X F M d Q pc L [.int v] w b := fun p l e R s m args below meth c H locs cells slots ls N A V hl hw hS hd hc hs => by
  refine W.widen (k := R.cells) (n := R.slots) (by omega) (by omega) ?_
  exact gx_mono gx_Z.of (W.zret (v := v) V.1 V.2.1 (V.2.2.2.1.trans hr) hn (fun t ht _ => ⟨Or.inl ⟨_, w, rfl, hq, by rw [ht]; exact hw, hd⟩, hS.F ht⟩) hS.2.2 hdg V.2.2.2.2.1)
theorem gx_areturn {v : Value} {rt : FieldType} (hr : M.2.2.2 = some rt) (hrt : (∃ n, rt = .object n) ∨ ∃ t, rt = .array t) (hv : v = .null ∨ ∃ a, v = .ref a) (hdg : decode M.2.1 pc = .ok (.areturn, 1)) (hq : Q.1 (some v) w) : gx_X F M d Q pc L [v] w b := fun p l e R s m args below meth c H locs cells slots ls N A V hl hw hS hd hc hs => by
  refine W.widen (k := R.cells) (n := R.slots) (by omega) (by omega) ?_
  exact gx_mono gx_Z.of (W.aret (v := v) V.1 V.2.1 (V.2.2.2.1.trans hr) hrt hv (fun t ht _ => ⟨Or.inl ⟨_, w, rfl, hq, by rw [ht]; exact hw, hd⟩, hS.F ht⟩) hS.2.2 hdg V.2.2.2.2.1)
theorem gx_return (hr : M.2.2.2 = none) (hdg : decode M.2.1 pc = .ok (.return_, 1)) (hq : Q.1 none w) : gx_X F M d Q pc L [] w b := fun p l e R s m args below meth c H locs cells slots ls N A V hl hw hS hd hc hs => by
  refine W.widen (k := R.cells) (n := R.slots) (by omega) (by omega) ?_
  exact gx_mono gx_Z.of (W.vret V.1 V.2.1 (V.2.2.2.1.trans hr) (fun t ht _ => ⟨Or.inl ⟨_, w, rfl, hq, by rw [ht]; exact hw, hd⟩, hS.F ht⟩) hS.2.2 hdg V.2.2.2.2.1)
theorem gx_top {x y : Int32} (h : x = y) (k : gx_X F M d Q pc L (.int y :: st) w b) : gx_X F M d Q pc L (.int x :: st) w b := h ▸ k
theorem gx_w {w' : gx_W} (h : w = w') (k : gx_X F M d Q pc L st w' b) : gx_X F M d Q pc L st w b := h ▸ k
/-- a text or a row is opened: its two cells -/
theorem gx_unbox {h ci cap : Nat} {l : List Nat} (hb : w.1 h = some (gx_bx ci cap l)) (k : ∀ f, gx_fn l f → l.length ≤ cap → cap < 65536 → gx_sm l → w.1 (h + 1) = none → gx_X F M d Q pc L st (gx_raw w h ci cap l.length f) b) : gx_X F M d Q pc L st w b := fun p l e R s m args below meth c H locs cells slots ls N A V hl hw hS hd hc hs => by
  obtain ⟨h1, h2, f, hf, hw'⟩ := hw.unbox hb
  exact k f hf h2.1 h2.2.1 h2.2.2 h1 p _ e R s m args below meth c H locs cells slots ls N A V hl hw' hS (fun q hq => hd q (gx_cv.raw hb hq)) hc hs
/-- and closed again -/
theorem gx_box {h ci cap n : Nat} {f : Nat → Int32} (l : List Nat) (h0 : w.1 (h + 1) = none) (hn : n = l.length) (hc0 : l.length ≤ cap) (hcap : cap < 65536) (hsm : gx_sm l) (hf : gx_fn l f) (k : gx_X F M d Q pc L st (gx_st w h (gx_bx ci cap l)) b) : gx_X F M d Q pc L st (gx_raw w h ci cap n f) b := fun p l' e R s m args below meth c H locs cells slots ls N A V hl hw hS hd hc hs => by
  refine k p l' e R s m args below meth c H locs cells slots ls N A V hl (hw.box h0 hn ⟨hc0, hcap, hsm⟩ hf) hS (fun q hq => hd q ?_) hc hs
  have key : ∀ q y, (gx_st w h (gx_bx ci cap l)).1 q = some y → q = h ∨ (q ≠ h ∧ q ≠ h + 1 ∧ w.1 q = some y) := fun q y hy => by
    by_cases e0 : q = h
    · exact Or.inl e0
    · rw [gx_st_ne e0] at hy
      exact Or.inr ⟨e0, (fun e1 => by rw [e1, h0] at hy; cases hy), hy⟩
  rcases hq with ⟨y, hy⟩ | ⟨q', y, e, hy, hw2⟩
  · rcases key q y hy with rfl | ⟨e0, e1, h1⟩
    · exact Or.inl ⟨_, gx_raw_h⟩
    · exact Or.inl ⟨y, by rw [gx_raw_ne e0 e1]; exact h1⟩
  · rcases key q' y hy with rfl | ⟨e0, e1, h1⟩
    · rw [e]; exact Or.inl ⟨_, gx_raw_h1⟩
    · exact Or.inr ⟨q', y, e, by rw [gx_raw_ne e0 e1]; exact h1, hw2⟩
theorem gx_P1 {D : va_G} {cl : List vw_C} {a : Nat} {x : va_E} {H : Heap} (h : va_at D cl (a, x) H) : va_P D cl [(a, x)] H := fun k q hk => by
  have hz : k < 1 := (List.getElem?_eq_some_iff.mp hk).1
  rw [show k = 0 by omega] at hk
  cases hk
  exact h
theorem gx_get {idx ci j a : Nat} {fs : List Value} {v : Value} (hf : gx_fl M.1.cls idx ci j) (hdg : decode M.2.1 pc = .ok (.getfield idx, 3)) (hw0 : w.1 a = some (gx_ob ci fs)) (hv : fs[j]? = some v) (k : gx_X F M d Q (pc + 3) L (v :: st) w b) : gx_X F M d Q pc L (.ref a :: st) w b := gx_go (fun V _ hw k => by
  obtain ⟨hx, hb, hml, hr, hlk, hown, hnm, hts, hK, hfr, hlo, hA, hF⟩ := V
  obtain ⟨C, T, n, h1, h2, h3, h4 | ⟨host, h4⟩⟩ := hf
  · exact va_get (ws := [(a, .inr (ci, fs))]) hx hb hts h3 hown hK.1 (gx_P1 (hw.2.2.2.1 a _ hw0).2) 0 rfl h1 j h2 (hts _ h4) (fun _ h => h) hv hdg k
  · exact va_getN (ws := [(a, .inr (ci, fs))]) hx hb hts h3 hown hK.1 (gx_P1 (hw.2.2.2.1 a _ hw0).2) 0 rfl h1 j h2 (va_Nw.use rfl (hK.2.1 _ h4)) (fun _ h => h) hv hdg k) k
end GXA
end
section
section GXA
variable {F : gx_N → State → Prop} {M : gx_M} {d : Nat} {Q : gx_P} {pc : Nat} {L : List (Option Value)} {st rest : List Value} {w : gx_W} {b : Nat × Nat}
set_option maxHeartbeats 1000000 in
theorem gx_put {idx ci j a : Nat} {fs : List Value} {v : Value} {fin : Bool} {ty : FieldType} (hf : gx_fp M.1.cls idx ci j fin ty) (hfin : fin = true → M.1.name = "<init>") (hdg : decode M.2.1 pc = .ok (.putfield idx, 3)) (hw0 : w.1 a = some (gx_ob ci fs)) (hn : narrow ty v = v) (hfit : fits ty v = true) (hj : j < fs.length) (k : gx_X F M d Q (pc + 3) L st (gx_st w a (gx_ob ci (fs.set j v))) b) : gx_X F M d Q pc L (v :: .ref a :: st) w b := fun p l e R s m args below meth c H locs cells slots ls N A V hl hw hS hd hc hs => by
  have V0 := V
  obtain ⟨hx, hb, hml, hr, hlk, hown, hnm, hts, hK, hfr, hlo, hA, hF⟩ := V
  obtain ⟨C, T, n, ty0, h1, h2, h3, h4, h5, h6, h7, h8, h9⟩ := hf
  have hap := va_apart (own := M.1.cls) hts h3 ty0 h5 h6 hK.1 h1
  obtain ⟨r, g1, cell, q1, q2, q3, q4⟩ := (hw.2.2.2.1 a _ hw0).2
  have hrr : r = (C, T, n) := Option.some.inj (g1.symm.trans h1)
  subst hrr
  obtain ⟨hSl, hfc, kC, hkC, hkind⟩ := hK.1.1 ci _ h1
  obtain ⟨cf, kf, fi, f, hi, hsl⟩ := hSl j h2
  have hlay := hts _ (h3 _ (u_in_lay h2))
  have hst := (u_facts hfc hkC (u_lays hts h3 h2) hi).1
  have fin' : ∀ H' : Heap, H'[a]? = some (cell.setSlot f.slot v) → H'.size = H.size → (∀ q, q ≠ a → H'[q]? = H[q]?) → W p l e R s m args below meth c H' (locs ++ [⟨a, f.slot⟩]) cells slots (gx_Z N A Q below args s R) (F0 m (pc + 3) ls st) := by
    intro H' e1 e2 e3
    rw [hsl] at e1
    have hi2 : gx_is N a (gx_ob ci (fs.set j v)) H' := ⟨_, h1, t_OB.to (V := updV (vp_V fs) j v) ⟨_, e1, q2, q3, t_set q4 hap h2 v⟩ (fun i _ => vp_updV_set hj v i)⟩
    exact k p l e R s m args below meth c H' _ cells slots ls N A V0 hl (hw.put hw0 rfl rfl hi2 e2 e3) (hS.put e2 e3 (hd a (Or.inl ⟨_, hw0⟩))) (fun q hq => hd q (gx_cv.st hw0 (fun h => by cases h) hq)) hc hs
  unfold u_lay at hlay
  cases hfe : fin with
  | false =>
    rw [hfe] at h7
    rw [if_neg (by rw [h7]; decide)] at hlay
    have h10 := u_store hfc hkC hkind hlay hi h9 hn hfit
    exact W.putK hx hb (f := f) ⟨hown, hts _ h4, ⟨_, _, _, hi⟩, hst⟩ (by rw [q2]; exact h10) q1 q3 (by rw [hsl]; exact k2_hasslot (q4 j h2)) rfl rfl hdg fin'
  | true =>
    rw [hfe] at h7
    rw [if_pos h7] at hlay
    have hcf : m.cls = cf := by
      obtain ⟨_, _, c', _, _, _, -, -, hf', -, -, -, hown2, -⟩ := Cond.laysFinal_spec hlay
      have e1 : c' = cf := by have := hi.symm.trans hf'; simp at this; exact this.1.symm
      rw [h8] at hown2
      rw [← e1]; exact Option.some.inj (hown.symm.trans hown2)
    have h10 := u_fits hfc hkC hkind (Or.inr hlay) hi h9 hn hfit
    exact W.putFinK hx hb hown (hts _ h4) hi hst hcf (hnm.trans (hfin hfe)) (by rw [q2]; exact h10) q1 q3 (by rw [hsl]; exact k2_hasslot (q4 j h2)) rfl rfl hdg fin'
/-- the length of an opened text is written -/
theorem gx_bput {idx h ci cap n n' : Nat} {f : Nat → Int32} (hf : gx_fp M.1.cls idx ci 1 false .int) (hdg : decode M.2.1 pc = .ok (.putfield idx, 3)) (k : gx_X F M d Q (pc + 3) L st (gx_raw w h ci cap n' f) b) : gx_X F M d Q pc L (.int (nI n') :: .ref h :: st) (gx_raw w h ci cap n f) b :=
  gx_put hf (fun h => by cases h) hdg gx_raw_h rfl rfl (Nat.lt_succ_self 1) (gx_w gx_raw_n k)
/-! reads from a text or a row that stays closed -/
theorem gx_bln {idx h ci cap : Nat} {l : List Nat} (hf : gx_fl M.1.cls idx ci 1) (hdg : decode M.2.1 pc = .ok (.getfield idx, 3)) (hb0 : w.1 h = some (gx_bx ci cap l)) (k : gx_X F M d Q (pc + 3) L (.int (nI l.length) :: st) w b) : gx_X F M d Q pc L (.ref h :: st) w b := gx_go (fun V _ hw k => by
  obtain ⟨hx, hb, hml, hr, hlk, hown, hnm, hts, hK, hfr, hlo, hA, hF⟩ := V
  obtain ⟨C, T, n, h1, h2, h3, h4⟩ := hf
  obtain ⟨f, -, -, ho, -⟩ := (hw.2.2.2.1 h _ hb0).2
  rcases h4 with h4 | ⟨host, h4⟩
  · exact va_get (ws := [(h, .inr (ci, [.ref (h + 1), .int (nI l.length)]))]) hx hb hts h3 hown hK.1 (gx_P1 ho) 0 rfl h1 1 h2 (hts _ h4) (fun _ h => h) rfl hdg k
  · exact va_getN (ws := [(h, .inr (ci, [.ref (h + 1), .int (nI l.length)]))]) hx hb hts h3 hown hK.1 (gx_P1 ho) 0 rfl h1 1 h2 (va_Nw.use rfl (hK.2.1 _ h4)) (fun _ h => h) rfl hdg k) k
theorem gx_bar {idx h ci cap : Nat} {l : List Nat} (hf : gx_fl M.1.cls idx ci 0) (hdg : decode M.2.1 pc = .ok (.getfield idx, 3)) (hb0 : w.1 h = some (gx_bx ci cap l)) (k : gx_X F M d Q (pc + 3) L (.ref (h + 1) :: st) w b) : gx_X F M d Q pc L (.ref h :: st) w b := gx_go (fun V _ hw k => by
  obtain ⟨hx, hb, hml, hr, hlk, hown, hnm, hts, hK, hfr, hlo, hA, hF⟩ := V
  obtain ⟨C, T, n, h1, h2, h3, h4⟩ := hf
  obtain ⟨f, -, -, ho, -⟩ := (hw.2.2.2.1 h _ hb0).2
  rcases h4 with h4 | ⟨host, h4⟩
  · exact va_get (ws := [(h, .inr (ci, [.ref (h + 1), .int (nI l.length)]))]) hx hb hts h3 hown hK.1 (gx_P1 ho) 0 rfl h1 0 h2 (hts _ h4) (fun _ h => h) rfl hdg k
  · exact va_getN (ws := [(h, .inr (ci, [.ref (h + 1), .int (nI l.length)]))]) hx hb hts h3 hown hK.1 (gx_P1 ho) 0 rfl h1 0 h2 (va_Nw.use rfl (hK.2.1 _ h4)) (fun _ h => h) rfl hdg k) k
theorem gx_bcal {h cap j : Nat} {l : List Nat} (hdg : decode M.2.1 pc = .ok (.caload, 1)) (hb0 : w.1 h = some (gx_bx 0 cap l)) (hj : j < l.length) (k : gx_X F M d Q (pc + 1) L (.int (nI (l.getD j 0)) :: st) w b) : gx_X F M d Q pc L (.int (nI j) :: .ref (h + 1) :: st) w b := gx_go (fun V _ hw k => by
  obtain ⟨hx, hb, hml, hr, hlk, hown, hnm, hts, hK, hfr, hlo, hA, hF⟩ := V
  obtain ⟨f, hf, hl, -, ha⟩ := (hw.2.2.2.1 h _ hb0).2
  have hj2 : j < cap := Nat.lt_of_lt_of_le hj hl.1
  have hl2 : cap < 65536 := hl.2.1
  exact va_cald (ws := [(h + 1, .inl (_, cap, .inl f))]) hx hb hK.1 (gx_P1 ha) 0 1 rfl rfl (vp_in_nI hj2 (by omega)) hdg (by rw [nI_clamp (by omega), hf j hj]; exact k)) k
theorem gx_bial {h cap j : Nat} {l : List Nat} (hdg : decode M.2.1 pc = .ok (.iaload, 1)) (hb0 : w.1 h = some (gx_bx 1 cap l)) (hj : j < l.length) (k : gx_X F M d Q (pc + 1) L (.int (nI (l.getD j 0)) :: st) w b) : gx_X F M d Q pc L (.int (nI j) :: .ref (h + 1) :: st) w b := gx_go (fun V _ hw k => by
  obtain ⟨hx, hb, hml, hr, hlk, hown, hnm, hts, hK, hfr, hlo, hA, hF⟩ := V
  obtain ⟨f, hf, hl, -, ha⟩ := (hw.2.2.2.1 h _ hb0).2
  have hj2 : j < cap := Nat.lt_of_lt_of_le hj hl.1
  have hl2 : cap < 65536 := hl.2.1
  exact va_iald (ws := [(h + 1, .inl (_, cap, .inl f))]) hx hb hK.1 (gx_P1 ha) 0 0 rfl rfl (vp_in_nI hj2 (by omega)) hdg (by rw [nI_clamp (by omega), hf j hj]; exact k)) k
/-- what is known of a text's or a row's sizes -/
theorem gx_bsz {h ci cap : Nat} {l : List Nat} (hb0 : w.1 h = some (gx_bx ci cap l)) (k : l.length ≤ cap → cap < 65536 → gx_sm l → gx_X F M d Q pc L st w b) : gx_X F M d Q pc L st w b := fun p l' e R s m args below meth c H locs cells slots ls N A V hl hw hS hd hc hs => by
  obtain ⟨f, -, h1, -⟩ := (hw.2.2.2.1 h _ hb0).2
  exact k h1.1 h1.2.1 h1.2.2 p l' e R s m args below meth c H locs cells slots ls N A V hl hw hS hd hc hs
/-! loads from arrays -/
theorem gx_iald {a n j : Nat} {f : Nat → Int32} (hdg : decode M.2.1 pc = .ok (.iaload, 1)) (hw0 : w.1 a = some (gx_ai 0 n f)) (hj : j < n) (hn : n < 2 ^ 31) (k : gx_X F M d Q (pc + 1) L (.int (f j) :: st) w b) : gx_X F M d Q pc L (.int (nI j) :: .ref a :: st) w b := gx_go (fun V _ hw k => by
  obtain ⟨hx, hb, hml, hr, hlk, hown, hnm, hts, hK, hfr, hlo, hA, hF⟩ := V
  exact va_iald (ws := [(a, .inl (_, n, .inl f))]) hx hb hK.1 (gx_P1 (hw.2.2.2.1 a _ hw0).2) 0 0 rfl rfl (vp_in_nI hj hn) hdg (by rw [nI_clamp (by omega)]; exact k)) k
theorem gx_cald {a n j : Nat} {f : Nat → Int32} (hdg : decode M.2.1 pc = .ok (.caload, 1)) (hw0 : w.1 a = some (gx_ai 1 n f)) (hj : j < n) (hn : n < 2 ^ 31) (k : gx_X F M d Q (pc + 1) L (.int (f j) :: st) w b) : gx_X F M d Q pc L (.int (nI j) :: .ref a :: st) w b := gx_go (fun V _ hw k => by
  obtain ⟨hx, hb, hml, hr, hlk, hown, hnm, hts, hK, hfr, hlo, hA, hF⟩ := V
  exact va_cald (ws := [(a, .inl (_, n, .inl f))]) hx hb hK.1 (gx_P1 (hw.2.2.2.1 a _ hw0).2) 0 1 rfl rfl (vp_in_nI hj hn) hdg (by rw [nI_clamp (by omega)]; exact k)) k
theorem gx_zald {a n j : Nat} {f : Nat → Int32} (hdg : decode M.2.1 pc = .ok (.baload, 1)) (hw0 : w.1 a = some (gx_ai 2 n f)) (hj : j < n) (hn : n < 2 ^ 31) (k : gx_X F M d Q (pc + 1) L (.int (f j) :: st) w b) : gx_X F M d Q pc L (.int (nI j) :: .ref a :: st) w b := gx_go (fun V _ hw k => by
  obtain ⟨hx, hb, hml, hr, hlk, hown, hnm, hts, hK, hfr, hlo, hA, hF⟩ := V
  exact va_zald (ws := [(a, .inl (_, n, .inl f))]) hx hb hK.1 (gx_P1 (hw.2.2.2.1 a _ hw0).2) 0 2 rfl rfl (vp_in_nI hj hn) hdg (by rw [nI_clamp (by omega)]; exact k)) k
theorem gx_lald {a n j : Nat} {f : Nat → Int64} (hdg : decode M.2.1 pc = .ok (.laload, 1)) (hw0 : w.1 a = some (gx_al8 5 n f)) (hj : j < n) (hn : n < 2 ^ 31) (k : gx_X F M d Q (pc + 1) L (.long (f j) :: st) w b) : gx_X F M d Q pc L (.int (nI j) :: .ref a :: st) w b := gx_go (fun V _ hw k => by
  obtain ⟨hx, hb, hml, hr, hlk, hown, hnm, hts, hK, hfr, hlo, hA, hF⟩ := V
  exact va_lald (ws := [(a, .inl (_, n, .inr (.inl f)))]) hx hb hK.1 (gx_P1 (hw.2.2.2.1 a _ hw0).2) 0 5 rfl rfl (vp_in_nI hj hn) hdg (by rw [nI_clamp (by omega)]; exact k)) k
theorem gx_aald3 {a n j x : Nat} {f : Nat → Option Nat} (hdg : decode M.2.1 pc = .ok (.aaload, 1)) (hw0 : w.1 a = some (gx_ar 3 n f)) (hj : j < n) (hn : n < 2 ^ 31) (hx0 : f j = some x) (k : gx_X F M d Q (pc + 1) L (.ref x :: st) w b) : gx_X F M d Q pc L (.int (nI j) :: .ref a :: st) w b := gx_go (fun V _ hw k => by
  obtain ⟨hx, hb, hml, hr, hlk, hown, hnm, hts, hK, hfr, hlo, hA, hF⟩ := V
  exact va_aldq (ws := [(a, .inl (_, n, .inr (.inr (.inr (.inr f)))))]) hx hb hK.1 (gx_P1 (hw.2.2.2.1 a _ hw0).2) 0 3 rfl rfl (vp_in_nI hj hn) hdg (by rw [nI_clamp (by omega), hx0]; exact k)) k
theorem gx_aald4 {a n j x : Nat} {f : Nat → Option Nat} (hdg : decode M.2.1 pc = .ok (.aaload, 1)) (hw0 : w.1 a = some (gx_ar 4 n f)) (hj : j < n) (hn : n < 2 ^ 31) (hx0 : f j = some x) (k : gx_X F M d Q (pc + 1) L (.ref x :: st) w b) : gx_X F M d Q pc L (.int (nI j) :: .ref a :: st) w b := gx_go (fun V _ hw k => by
  obtain ⟨hx, hb, hml, hr, hlk, hown, hnm, hts, hK, hfr, hlo, hA, hF⟩ := V
  exact va_aldq (ws := [(a, .inl (_, n, .inr (.inr (.inr (.inr f)))))]) hx hb hK.1 (gx_P1 (hw.2.2.2.1 a _ hw0).2) 0 4 rfl rfl (vp_in_nI hj hn) hdg (by rw [nI_clamp (by omega), hx0]; exact k)) k
theorem gx_alen {a kd n : Nat} {y : (Nat → Int32) ⊕ (Nat → Int64) ⊕ (Nat → UInt32) ⊕ (Nat → UInt64) ⊕ (Nat → Option Nat)} (hkd : kd < 6) (hdg : decode M.2.1 pc = .ok (.arraylength, 1)) (hw0 : w.1 a = some (.inl (kd, n, y))) (k : gx_X F M d Q (pc + 1) L (.int (nI n) :: st) w b) : gx_X F M d Q pc L (.ref a :: st) w b := gx_go (fun {_ _ _ _ _ _ _ _ _ _ _ _ _ _ _ _ N _} V _ hw k => by
  obtain ⟨hx, hb, hml, hr, hlk, hown, hnm, hts, hK, hfr, hlo, hA, hF⟩ := V
  obtain ⟨ty, hty⟩ : ∃ ty, (gx_ta N)[kd]? = some (N.2.1 kd, ty) := by
    rcases (show kd = 0 ∨ kd = 1 ∨ kd = 2 ∨ kd = 3 ∨ kd = 4 ∨ kd = 5 by omega) with rfl | rfl | rfl | rfl | rfl | rfl <;> exact ⟨_, rfl⟩
  exact va_alen (ws := [(a, .inl (_, n, y))]) hx hb hK.1 (gx_P1 (hw.2.2.2.1 a _ hw0).2) 0 kd rfl hty rfl hdg k) k
/-! stores into arrays -/
/-- what every store shares: the cell behind it -/
theorem gx_wr {pc' : Nat} {a : Nat} {x0 x1 : gx_E} (hw0 : w.1 a = some x0) (hx0 : gx_wide x0 = false) (hx1 : gx_wide x1 = false)
    (h : ∀ {p : Program} {l : Launch} {e : Env} {R : Room} {s : State} {m : MethodId} {args : Array Value} {below : List Frame} {meth : Method} {c : Code} {H : Heap} {locs : List Loc} {cells slots : Nat} {Q0 : State → Prop} {ls : Array Slot} {N : gx_N} {A : Nat → Prop},
      gx_V F M d R p s m args meth c N A → gx_is N a x0 H → (∀ (H1 : Heap) (i : Nat), gx_is N a x1 H1 → H1.size = H.size → (∀ q : Nat, q ≠ a → H1[q]? = H[q]?) → W p l e R s m args below meth c H1 (locs ++ [⟨a, i⟩]) cells slots Q0 (F0 m pc' ls rest)) → W p l e R s m args below meth c H locs cells slots Q0 (F0 m pc ls st))
    (k : gx_X F M d Q pc' L rest (gx_st w a x1) b) : gx_X F M d Q pc L st w b :=
  fun p l e R s m args below meth c H locs cells slots ls N A V hl hw hS hd hc hs => h V (hw.2.2.2.1 a _ hw0).2 (fun H1 i hi e2 e3 =>
    k p l e R s m args below meth c H1 _ cells slots ls N A V hl (hw.put hw0 hx0 hx1 hi e2 e3) (hS.put e2 e3 (hd a (Or.inl ⟨_, hw0⟩))) (fun q hq => hd q (gx_cv.st hw0 (fun h => by rw [hx1] at h; cases h) hq)) hc hs)
theorem gx_fe {f : Nat → Int32} {x : Int32} {j : Nat} {g : Nat → Value} (h : g = updV (fun i => Value.int (f i)) j (.int x)) : g = fun i => Value.int (upd f j x i) := by
  rw [h]
  funext q
  by_cases hq : q = j
  · subst hq; simp [updV, upd]
  · simp [updV, upd, hq]
theorem gx_iast {a n j : Nat} {f : Nat → Int32} {x : Int32} (hdg : decode M.2.1 pc = .ok (.iastore, 1)) (hw0 : w.1 a = some (gx_ai 0 n f)) (hj : j < n) (hn : n < 2 ^ 31) (k : gx_X F M d Q (pc + 1) L st (gx_st w a (gx_ai 0 n (upd f j x))) b) : gx_X F M d Q pc L (.int x :: .int (nI j) :: .ref a :: st) w b := gx_wr hw0 rfl rfl (fun V hi kk => by
  obtain ⟨hx, hb, hml, hr, hlk, hown, hnm, hts, hK, hfr, hlo, hA, hF⟩ := V
  refine W.iast hx hb hi ((hK.1.2 0 _ rfl).1 n (fun j => .int (f j))) (fun q => by cases q) (by show ¬ (_ < 0 ∨ (arrV _ _ _).slots.size ≤ _); rw [arrV_size]; exact vp_in_nI hj hn) rfl rfl hdg fun H1 e1 z oq => kk H1 _ ?_ z oq
  show H1[a]? = some (vp_cell _ _)
  rw [e1, vp_cell_i, vp_cell_i, arrV_store, nI_clamp (by omega)]
  congr 2
  exact gx_fe rfl) k
theorem gx_cast {a n j : Nat} {f : Nat → Int32} {x : Int32} (hdg : decode M.2.1 pc = .ok (.castore, 1)) (hw0 : w.1 a = some (gx_ai 1 n f)) (hj : j < n) (hn : n < 2 ^ 31) (hnx : narrow .char (.int x) = .int x) (k : gx_X F M d Q (pc + 1) L st (gx_st w a (gx_ai 1 n (upd f j x))) b) : gx_X F M d Q pc L (.int x :: .int (nI j) :: .ref a :: st) w b := gx_wr hw0 rfl rfl (fun V hi kk => by
  obtain ⟨hx, hb, hml, hr, hlk, hown, hnm, hts, hK, hfr, hlo, hA, hF⟩ := V
  refine W.cast hx hb hi ((hK.1.2 1 _ rfl).1 n (fun j => .int (f j))) (fun q => by cases q) (by show ¬ (_ < 0 ∨ (arrV _ _ _).slots.size ≤ _); rw [arrV_size]; exact vp_in_nI hj hn) rfl rfl hdg fun H1 e1 z oq => kk H1 _ ?_ z oq
  show H1[a]? = some (vp_cell _ _)
  rw [e1, hnx, vp_cell_i, vp_cell_i, arrV_store, nI_clamp (by omega)]
  congr 2
  exact gx_fe rfl) k
theorem gx_zast {a n j : Nat} {f : Nat → Int32} {x : Int32} (hdg : decode M.2.1 pc = .ok (.bastore, 1)) (hw0 : w.1 a = some (gx_ai 2 n f)) (hj : j < n) (hn : n < 2 ^ 31) (hnx : narrow .boolean (.int x) = .int x) (k : gx_X F M d Q (pc + 1) L st (gx_st w a (gx_ai 2 n (upd f j x))) b) : gx_X F M d Q pc L (.int x :: .int (nI j) :: .ref a :: st) w b := gx_wr hw0 rfl rfl (fun V hi kk => by
  obtain ⟨hx, hb, hml, hr, hlk, hown, hnm, hts, hK, hfr, hlo, hA, hF⟩ := V
  refine W.zast hx hb hi ((hK.1.2 2 _ rfl).1 n (fun j => .int (f j))) (fun q => by cases q) (by show ¬ (_ < 0 ∨ (arrV _ _ _).slots.size ≤ _); rw [arrV_size]; exact vp_in_nI hj hn) rfl rfl hdg fun H1 e1 z oq => kk H1 _ ?_ z oq
  show H1[a]? = some (vp_cell _ _)
  rw [e1, hnx, vp_cell_i, vp_cell_i, arrV_store, nI_clamp (by omega)]
  congr 2
  exact gx_fe rfl) k
theorem gx_last {a n j : Nat} {f : Nat → Int64} {x : Int64} (hdg : decode M.2.1 pc = .ok (.lastore, 1)) (hw0 : w.1 a = some (gx_al8 5 n f)) (hj : j < n) (hn : n < 2 ^ 31) (k : gx_X F M d Q (pc + 1) L st (gx_st w a (gx_al8 5 n (vp_updL f j x))) b) : gx_X F M d Q pc L (.long x :: .int (nI j) :: .ref a :: st) w b := gx_wr hw0 rfl rfl (fun V hi kk => by
  obtain ⟨hx, hb, hml, hr, hlk, hown, hnm, hts, hK, hfr, hlo, hA, hF⟩ := V
  refine W.last hx hb hi ((hK.1.2 5 _ rfl).1 n (fun j => .long (f j))) (fun q => by cases q) (by show ¬ (_ < 0 ∨ (arrV _ _ _).slots.size ≤ _); rw [arrV_size]; exact vp_in_nI hj hn) rfl rfl hdg fun H1 e1 z oq => kk H1 _ ?_ z oq
  show H1[a]? = some (vp_cell _ _)
  rw [e1, vp_cell_l, vp_cell_l, arrV_store, nI_clamp (by omega)]
  congr 2
  funext q
  by_cases hq : q = j
  · subst hq; simp [updV, vp_updL]
  · simp [updV, vp_updL, hq]) k
/-- a store into an opened text, an opened row -/
theorem gx_bcast {h cap n j : Nat} {f : Nat → Int32} {x : Int32} (hdg : decode M.2.1 pc = .ok (.castore, 1)) (hj : j < cap) (hn : cap < 2 ^ 31) (hnx : narrow .char (.int x) = .int x) (k : gx_X F M d Q (pc + 1) L st (gx_raw w h 0 cap n (upd f j x)) b) : gx_X F M d Q pc L (.int x :: .int (nI j) :: .ref (h + 1) :: st) (gx_raw w h 0 cap n f) b :=
  gx_cast hdg gx_raw_h1 hj hn hnx (gx_w gx_raw_f k)
theorem gx_biast {h cap n j : Nat} {f : Nat → Int32} {x : Int32} (hdg : decode M.2.1 pc = .ok (.iastore, 1)) (hj : j < cap) (hn : cap < 2 ^ 31) (k : gx_X F M d Q (pc + 1) L st (gx_raw w h 1 cap n (upd f j x)) b) : gx_X F M d Q pc L (.int x :: .int (nI j) :: .ref (h + 1) :: st) (gx_raw w h 1 cap n f) b :=
  gx_iast hdg gx_raw_h1 hj hn (gx_w gx_raw_f k)
/-! calls -/
theorem gx_np.use {Mc : gx_M} {n : Nat} (h : gx_np Mc n) : ∀ sig, parseMethodDescriptor Mc.1.desc = some sig → n = sig.parameters.length := fun sig hs => by
  unfold gx_np at h
  rw [hs] at h
  exact (Option.some.inj h).symm
theorem gx_pay {Mc : gx_M} {s : State} {args : Array Value} (hts : ∀ w ∈ gx_T, w.before args s = true) (hs : gx_cs Mc) : ∀ w ∈ gx_ws Mc, ∀ (a' : Array Value) (U : State), s.WarmedH U.vm → w.before a' U = true := by
  intro w hw a' U hW
  rcases List.mem_cons.mp hw with h | h
  · subst h
    exact word_at hW (gx_T_good hs.1) (hts _ hs.1)
  · exact word_at hW (gx_T_good h) (hts _ h)
theorem gx_blind {N : gx_N} {as : List Value} {w : gx_W} : FrameBlind (va_Pc as (fun U => gx_Wd N w U.heap ∧ gx_Kn N U)) := fun a U g mk q => ⟨q.1, q.2.1, gx_Kn.same (u := U) (U := U.calling g mk a) rfl q.2.2⟩
/-- behind a call -/
theorem gx_back {as : List Value} {mc ms : Nat} {Q' : Option Value → gx_W → Prop}
    (h : ∀ {p : Program} {l : Launch} {e : Env} {R : Room} {s : State} {m : MethodId} {args : Array Value} {below : List Frame} {meth : Method} {c : Code} {H : Heap} {locs : List Loc} {cells slots : Nat} {ls : Array Slot} {N : gx_N} {A : Nat → Prop},
      gx_V F M d R p s m args meth c N A → ls.size = M.2.2.1 → gx_Wd N w H → cells + mc ≤ R.cells → slots + ms ≤ R.slots → va_Run p l e R s m args below meth c H locs cells slots mc ms (F0 m pc ls st) rest (gx_Qc N (gx_A w) (gx_nt Q') as.toArray) (gx_A w))
    (hb : mc ≤ b.1 ∧ ms ≤ b.2) (k : ∀ r w', Q' r w' → gx_X F M d Q (pc + 3) L (r.toList ++ rest) w' (b.1 - mc, b.2 - ms)) : gx_X F M d Q pc L st w b :=
  fun p l e R s m args below meth c H locs cells slots ls N A V hl hw hS hd hc hs => by
  intro T hT X
  obtain ⟨v, st₀, t, T', Lc, h0, X', hL, e1, e2, ⟨hor, hz, hkeep⟩, stp⟩ := h V hl.1 hw (by omega) (by omega) T hT X
  have hor' : ∃ (r : Option Value) (w' : gx_W), Outcome.returned v = .returned r ∧ Q' r w' ∧ gx_Wd N w' t.heap ∧ ∀ q, gx_cv w' q → gx_A w q := by
    rcases hor with h1 | ⟨_, _, _, _, hF, _⟩
    · exact h1
    · exact hF.elim
  obtain ⟨r, w', hv, hq, hw', hcv⟩ := hor'
  cases hv
  have hA := V.2.2.2.2.2.2.2.2.2.2.2.1
  have hsz : H.size = w.2 := hw.1
  have hup : ∀ q, gx_A w q → A q := fun q hq => by
    rcases hq with h1 | h1
    · exact hd q h1
    · exact hA q (Nat.le_trans hS.1 (by omega))
  rw [h0] at hz hkeep
  have hS' : va_S A s.heap T'.heap (locs ++ Lc) := ⟨Nat.le_trans hS.1 (by rw [e1]; exact hz), fun q h1 h2 => by
    rw [e1, hkeep q (Nat.lt_of_lt_of_le h1 hS.1) (fun h3 => h2 (hup q h3))]
    exact hS.2.1 q h1 h2, fun q hq => by
      rcases List.mem_append.mp hq with h1 | h1
      · exact hS.2.2 q h1
      · exact hup _ (hL q h1)⟩
  obtain ⟨t2, a1, b1⟩ := k v w' hq p l e R s m args below meth c T'.heap (locs ++ Lc) (cells + mc) (slots + ms) ls N A V hl (by rw [e1]; exact hw') hS' (fun q hq2 => hup q (hcv q hq2)) (by show cells + mc + (b.1 - mc) ≤ _; omega) (by show slots + ms + (b.2 - ms) ≤ _; omega) T' rfl X'
  exact ⟨t2, stp t2 a1, b1⟩
def gx_rc (w : gx_W) (a ci : Nat) : Prop := (∃ fs, w.1 a = some (gx_ob ci fs)) ∨ ∃ cap l, w.1 a = some (gx_bx ci cap l)
theorem gx_rc.cell {N : gx_N} {w : gx_W} {H : Heap} {a ci : Nat} {q : vw_C} {s : State} (hw : gx_Wd N w H) (hK : gx_Kn N s) (h : gx_rc w a ci) (hc : gx_cl[ci]? = some q) : ∃ cell : Cell, H[a]? = some cell ∧ cell.vm.isStatics = false ∧ s.vm.findClass q.1 = some cell.cls := by
  rcases h with ⟨fs, h⟩ | ⟨cap, l, h⟩
  · exact va_recv (ws := [(a, .inr (ci, fs))]) hK.1 (gx_P1 (show va_at N.1 gx_cl (a, .inr (ci, fs)) H from (hw.2.2.2.1 a _ h).2)) hc (q0 := 0) rfl
  · obtain ⟨f, -, -, ho, -⟩ := (hw.2.2.2.1 a _ h).2
    exact va_recv hK.1 (gx_P1 ho) hc (q0 := 0) rfl
theorem gx_callV {Mc : gx_M} {idx d' mc ms n ci a : Nat} {as : List Value} {Q' : Option Value → gx_W → Prop} (hS : gx_lV M.1.cls idx Mc n ci) (hdg : decode M.2.1 pc = .ok (.invokevirtual idx, 3)) (hC : gx_Ct Mc d' mc ms (.ref a :: as) w Q') (hrc : gx_rc w a ci) (hd' : d' + 1 ≤ d) (hn : as.length = n) (hst : st = as.reverse ++ .ref a :: rest) (hrm : (rest.map fun v => v.category).sum ≤ 8) (hbb : mc ≤ b.1 ∧ ms ≤ b.2) (k : ∀ r w', Q' r w' → gx_X F M d Q (pc + 3) L (r.toList ++ rest) w' (b.1 - mc, b.2 - ms)) : gx_X F M d Q pc L st w b := gx_back (as := .ref a :: as) (fun V hl hw hc hs => by
  obtain ⟨hx, hb, hml, hr, hlk, hown, hnm, hts, hK, hfr, hlo, hA, hF⟩ := V
  obtain ⟨hcs, hln, hnp, hin, hse, T, kk, hcl⟩ := hS
  have hpre := gx_rc.cell hw hK hrc hcl
  have h40 := hcs.2.2.2
  rcases hln with hln | ⟨host, hln⟩
  · exact va_runV (C := Mc.1.cls) (bytes := Mc.2.1) (maxL := Mc.2.2.1) (ret := Mc.2.2.2) (n := n) (nL := M.2.2.1) (Ts := gx_T) ⟨hx, hb, hml, hown, hts⟩ (hC _ _) ⟨⟨rfl, rfl, by show d' + 1 ≤ _; omega, by show 8 + (Mc.2.2.1 + 11) + 32 * d' ≤ _; omega, gx_pay hts hcs, List.mem_cons_self, hts _ hcs.1, hts _ hcs.2.1, hcs.2.2.1, hnp.use, hts _ hln⟩, hts _ hin, hts _ hse⟩ ⟨gx_blind, hpre, fun U hU hW => ⟨rfl, by rw [hU]; exact hw, hK.moved hW⟩⟩ rfl hn hl hst (lv_room hrm) hdg ⟨hc, hs⟩
  · exact va_runVN (C := Mc.1.cls) (bytes := Mc.2.1) (maxL := Mc.2.2.1) (ret := Mc.2.2.2) (n := n) (nL := M.2.2.1) (Ts := gx_T) ⟨hx, hb, hml, hown, hts⟩ (hC _ _) ⟨⟨⟨rfl, rfl, by show d' + 1 ≤ _; omega, by show 8 + (Mc.2.2.1 + 11) + 32 * d' ≤ _; omega, gx_pay hts hcs, List.mem_cons_self⟩, hts _ hcs.1, hts _ hcs.2.1, hcs.2.2.1, hnp.use, va_Nw.use rfl (hK.2.2.1 _ hln)⟩, hts _ hin, hts _ hse⟩ ⟨gx_blind, hpre, fun U hU hW => ⟨rfl, by rw [hU]; exact hw, hK.moved hW⟩⟩ rfl hn hl hst (lv_room hrm) hdg ⟨hc, hs⟩) hbb k
theorem gx_callS {Mc : gx_M} {idx d' mc ms n : Nat} {as : List Value} {Q' : Option Value → gx_W → Prop} (hS : gx_lS M.1.cls idx Mc n) (hdg : decode M.2.1 pc = .ok (.invokestatic idx, 3)) (hC : gx_Ct Mc d' mc ms as w Q') (hd' : d' + 1 ≤ d) (hn : as.length = n) (hst : st = as.reverse ++ rest) (hrm : (rest.map fun v => v.category).sum ≤ 8) (hbb : mc ≤ b.1 ∧ ms ≤ b.2) (k : ∀ r w', Q' r w' → gx_X F M d Q (pc + 3) L (r.toList ++ rest) w' (b.1 - mc, b.2 - ms)) : gx_X F M d Q pc L st w b := gx_back (as := as) (fun V hl hw hc hs => by
  obtain ⟨hx, hb, hml, hr, hlk, hown, hnm, hts, hK, hfr, hlo, hA, hF⟩ := V
  obtain ⟨hcs, hln, hnp, hst2⟩ := hS
  have h40 := hcs.2.2.2
  rcases hln with hln | ⟨host, hln⟩
  · exact va_runS (bytes := Mc.2.1) (maxL := Mc.2.2.1) (ret := Mc.2.2.2) (n := n) (nL := M.2.2.1) (Ts := gx_T) ⟨hx, hb, hml, hown, hts⟩ (hC _ _) ⟨⟨rfl, rfl, by show d' + 1 ≤ _; omega, by show 8 + (Mc.2.2.1 + 11) + 32 * d' ≤ _; omega, gx_pay hts hcs, List.mem_cons_self, hts _ hcs.1, hts _ hcs.2.1, hcs.2.2.1, hnp.use, hts _ hln⟩, hts _ hst2⟩ ⟨gx_blind, fun U hU hW => ⟨rfl, by rw [hU]; exact hw, hK.moved hW⟩⟩ rfl hn hl hst (lv_room hrm) hdg ⟨hc, hs⟩
  · exact va_runSN (bytes := Mc.2.1) (maxL := Mc.2.2.1) (ret := Mc.2.2.2) (n := n) (nL := M.2.2.1) (Ts := gx_T) ⟨hx, hb, hml, hown, hts⟩ (hC _ _) ⟨⟨⟨rfl, rfl, by show d' + 1 ≤ _; omega, by show 8 + (Mc.2.2.1 + 11) + 32 * d' ≤ _; omega, gx_pay hts hcs, List.mem_cons_self⟩, hts _ hcs.1, hts _ hcs.2.1, hcs.2.2.1, hnp.use, va_Nw.use rfl (hK.2.2.1 _ hln)⟩, hts _ hst2, trivial⟩ ⟨gx_blind, fun U hU hW => ⟨rfl, by rw [hU]; exact hw, hK.moved hW⟩⟩ rfl hn hl hst (lv_room hrm) hdg ⟨hc, hs⟩) hbb k
theorem gx_callI {Mc : gx_M} {idx d' mc ms n a : Nat} {as : List Value} {Q' : Option Value → gx_W → Prop} (hS : gx_lI M.1.cls idx Mc n) (hdg : decode M.2.1 pc = .ok (.invokespecial idx, 3)) (hC : gx_Ct Mc d' mc ms (.ref a :: as) w Q') (hd' : d' + 1 ≤ d) (hn : as.length = n) (hst : st = as.reverse ++ .ref a :: rest) (hrm : (rest.map fun v => v.category).sum ≤ 8) (hbb : mc ≤ b.1 ∧ ms ≤ b.2) (k : ∀ r w', Q' r w' → gx_X F M d Q (pc + 3) L (r.toList ++ rest) w' (b.1 - mc, b.2 - ms)) : gx_X F M d Q pc L st w b := gx_back (as := .ref a :: as) (fun V hl hw hc hs => by
  obtain ⟨hx, hb, hml, hr, hlk, hown, hnm, hts, hK, hfr, hlo, hA, hF⟩ := V
  obtain ⟨hcs, hln, hnp, hin, hini, hnone⟩ := hS
  have h40 := hcs.2.2.2
  have hmem : Cond.code Mc.1 Mc.2.1 Mc.2.2.1 none ∈ gx_ws Mc := by
    rw [← hnone]; exact List.mem_cons_self
  have hcode := hts _ hcs.1
  rw [hnone] at hcode
  rcases hln with hln | ⟨host, hln⟩
  · exact va_runI (bytes := Mc.2.1) (maxL := Mc.2.2.1) (n := n) (nL := M.2.2.1) (Ts := gx_T) ⟨hx, hb, hml, hown, hts⟩ (hC _ _) ⟨⟨rfl, rfl, by show d' + 1 ≤ _; omega, by show 8 + (Mc.2.2.1 + 11) + 32 * d' ≤ _; omega, gx_pay hts hcs, hmem, hcode, hts _ hcs.2.1, hcs.2.2.1, hnp.use, hts _ hln⟩, hini, hts _ hin⟩ ⟨gx_blind, fun U hU hW => ⟨rfl, by rw [hU]; exact hw, hK.moved hW⟩⟩ rfl hn hl hst (lv_room hrm) hdg ⟨hc, hs⟩
  · exact va_runIN (bytes := Mc.2.1) (maxL := Mc.2.2.1) (n := n) (nL := M.2.2.1) (Ts := gx_T) ⟨hx, hb, hml, hown, hts⟩ (hC _ _) ⟨⟨⟨rfl, rfl, by show d' + 1 ≤ _; omega, by show 8 + (Mc.2.2.1 + 11) + 32 * d' ≤ _; omega, gx_pay hts hcs, hmem⟩, hcode, hts _ hcs.2.1, hcs.2.2.1, hnp.use, va_Nw.use rfl (hK.2.2.1 _ hln)⟩, hini, hts _ hin⟩ ⟨gx_blind, fun U hU hW => ⟨rfl, by rw [hU]; exact hw, hK.moved hW⟩⟩ rfl hn hl hst (lv_room hrm) hdg ⟨hc, hs⟩) hbb k
/-! new cells -/
theorem gx_new {idx ci n b1 b2 : Nat} {fs : List Value} (hf : gx_nw M.1.cls idx ci n fs) (hdg : decode M.2.1 pc = .ok (.new idx, 3)) (k : gx_X F M d Q (pc + 3) L (.ref w.2 :: st) (gx_al w (gx_ob ci fs)) (b1, b2)) : gx_X F M d Q pc L st w (b1 + 1, b2 + n) := fun p l e R s m args below meth c H locs cells slots ls N A V hl hw hS hd hc hs => by
  have V0 := V
  obtain ⟨hx, hb, hml, hr, hlk, hown, hnm, hts, hK, hfr, hlo, hA, hF⟩ := V
  obtain ⟨C, T, ty, h1, h2, h3, h4, h5, h6, h7⟩ := hf
  have hKn := hK.1.1 ci _ h1
  have hsz : H.size = w.2 := hw.1
  have hc' : cells + (b1 + 1) ≤ R.cells := hc
  have hs' : slots + (b2 + n) ≤ R.slots := hs
  refine W.newcK hx hb hown (hts _ h3) (hts _ h4) (hts _ h5) rfl hdg (by omega) (by omega) hKn.2.1 hsz fun H1 kC hkC e1 z1 o1 => ?_
  refine k p l e R s m args below meth c H1 locs (cells + 1) (slots + n) ls N A V0 hl (hw.al rfl ⟨_, h1, (u_born ty hts h2 hKn hkC e1 h6).to h7⟩ (by rw [z1, hsz]) (fun q hq => o1 q (by rw [← hsz]; exact hq))) ⟨Nat.le_trans hS.1 (by omega), fun x g1 g2 => (o1 x (by have := hS.1; omega)).trans (hS.2.1 x g1 g2), hS.2.2⟩ (fun q hq => ?_) (by show cells + 1 + b1 ≤ _; omega) (by show slots + n + b2 ≤ _; omega)
  rcases gx_cv.al rfl hq with h | h
  · exact hd q h
  · exact hA q (by have := hS.1; omega)
theorem gx_newa {atype : ArrayType} {kd n b1 b2 : Nat} {ty : FieldType} {x : vp_A} (hty : newarray.typeOf atype = ty) (hkd : ∀ N : gx_N, (gx_ta N)[kd]? = some (N.2.1 kd, ty)) (hra : ∀ (s : State) (cA : ClassId), va_RA s cA ty → s.vm.findClass ("[" ++ ty.toString) = some cA) (hxc : ∀ cA : ClassId, vp_cell cA x = arrV cA n (fun _ => defaultValue ty)) (hac : Cond.arrayClass ty ∈ gx_T) (hn : n < 2 ^ 31) (hby : n * componentBytes ty ≤ 536870912) (hdg : decode M.2.1 pc = .ok (.newarray atype, 2)) (k : gx_X F M d Q (pc + 2) L (.ref w.2 :: st) (gx_al w (.inl (kd, x))) (b1, b2)) : gx_X F M d Q pc L (.int (nI n) :: st) w (b1 + 1, b2 + n) := fun p l e R s m args below meth c H locs cells slots ls N A V hl hw hS hd hc hs => by
  subst hty
  have V0 := V
  obtain ⟨hx, hb, hml, hr, hlk, hown, hnm, hts, hK, hfr, hlo, hA, hF⟩ := V
  have hsz : H.size = w.2 := hw.1
  have hc' : cells + (b1 + 1) ≤ R.cells := hc
  have hs' : slots + (b2 + n) ≤ R.slots := hs
  refine va_newaK hx hb (hts _ hac) rfl hdg rfl (nI_pos hn) (nI_clamp hn) hby (by omega) (by omega) hsz fun H1 cA e1 z1 o1 hAr hNm => ?_
  have hcA : N.2.1 kd = cA := by
    have h1 := hra _ _ (hK.1.2 kd _ (hkd N)).2
    exact Option.some.inj (h1.symm.trans hNm)
  refine k p l e R s m args below meth c H1 locs (cells + 1) (slots + n) ls N A V0 hl (hw.al rfl (by show H1[w.2]? = some (vp_cell _ _); rw [hxc, hcA]; exact e1) (by rw [z1, hsz]) (fun q hq => o1 q (by rw [← hsz]; exact hq))) ⟨Nat.le_trans hS.1 (by omega), fun x g1 g2 => (o1 x (by have := hS.1; omega)).trans (hS.2.1 x g1 g2), hS.2.2⟩ (fun q hq => ?_) (by show cells + 1 + b1 ≤ _; omega) (by show slots + n + b2 ≤ _; omega)
  rcases gx_cv.al rfl hq with h | h
  · exact hd q h
  · exact hA q (by have := hS.1; omega)
theorem gx_anew {kd idx n b1 b2 : Nat} {C : String} (hkd : ∀ N : gx_N, (gx_ta N)[kd]? = some (N.2.1 kd, .object C)) (hcl : Cond.classLink M.1.cls idx C ∈ gx_T) (hao : ∀ (N : gx_N) (U : State), gx_Kn N U → va_AO C U) (hn : n < 2 ^ 31) (hby : n * 4 ≤ 536870912) (hdg : decode M.2.1 pc = .ok (.anewarray idx, 3)) (k : gx_X F M d Q (pc + 3) L (.ref w.2 :: st) (gx_al w (gx_ar kd n (fun _ => none))) (b1, b2)) : gx_X F M d Q pc L (.int (nI n) :: st) w (b1 + 1, b2 + n) := fun p l e R s m args below meth c H locs cells slots ls N A V hl hw hS hd hc hs => by
  have V0 := V
  obtain ⟨hx, hb, hml, hr, hlk, hown, hnm, hts, hK, hfr, hlo, hA, hF⟩ := V
  have hsz : H.size = w.2 := hw.1
  have hcn := nI_clamp hn
  have hc' : cells + (b1 + 1) ≤ R.cells := hc
  have hs' : slots + (b2 + n) ≤ R.slots := hs
  refine W.anew hx hb hown (hts _ hcl) (va_AO.use (hao N s hK)) rfl hdg rfl (nI_pos hn) (by rw [hcn]; exact hby) (by omega) (by rw [hcn]; omega) fun cA kA comp f1 f2 f3 f4 => ?_
  have hcA : N.2.1 kd = cA := by
    obtain ⟨-, -, -, -, -, h1⟩ := (hK.1.2 kd _ (hkd N)).2
    exact Option.some.inj (h1.symm.trans f1)
  rw [hcn]
  have e1 : (H.push ({ cls := cA, slots := Array.replicate n .null, vm := .none } : Cell))[w.2]? = some (arrV cA n (fun _ => .null)) := by rw [← hsz, Array.getElem?_push_size, ← arrV_new]
  have o1 : ∀ q : Nat, q < H.size → (H.push ({ cls := cA, slots := Array.replicate n .null, vm := .none } : Cell))[q]? = H[q]? := fun q hq => by rw [Array.getElem?_push, if_neg (Nat.ne_of_lt hq)]
  have z1 : (H.push ({ cls := cA, slots := Array.replicate n .null, vm := .none } : Cell)).size = H.size + 1 := Array.size_push ..
  generalize H.push ({ cls := cA, slots := Array.replicate n .null, vm := .none } : Cell) = H1 at e1 o1 z1 ⊢
  rw [hsz]
  refine k p l e R s m args below meth c H1 locs (cells + 1) (slots + n) ls N A V0 hl (hw.al rfl (by show H1[w.2]? = some (vp_cell _ _); rw [vp_cell_q, hcA]; exact e1) z1 o1) ⟨Nat.le_trans hS.1 (by omega), fun x g1 g2 => (o1 x (by have := hS.1; omega)).trans (hS.2.1 x g1 g2), hS.2.2⟩ (fun q hq => ?_) (by show cells + 1 + b1 ≤ _; omega) (by show slots + n + b2 ≤ _; omega)
  rcases gx_cv.al rfl hq with h | h
  · exact hd q h
  · exact hA q (by have := hS.1; omega)
theorem gx_aast {a n j v kd ci : Nat} {f : Nat → Option Nat} {r : vw_C} (hdg : decode M.2.1 pc = .ok (.aastore, 1)) (hkd : ∀ N : gx_N, (gx_ta N)[kd]? = some (N.2.1 kd, .object r.1)) (hcl : gx_cl[ci]? = some r) (hw0 : w.1 a = some (gx_ar kd n f)) (hv : gx_rc w v ci) (hj : j < n) (hn : n < 2 ^ 31) (k : gx_X F M d Q (pc + 1) L st (gx_st w a (gx_ar kd n (va_up f j (some v)))) b) : gx_X F M d Q pc L (.ref v :: .int (nI j) :: .ref a :: st) w b := fun p l e R s m args below meth c H locs cells slots ls N A V hl hw hS hd hc hs => by
  have V0 := V
  obtain ⟨hx, hb, hml, hr, hlk, hown, hnm, hts, hK, hfr, hlo, hA, hF⟩ := V
  have hcn := nI_clamp (show j < 2 ^ 31 by omega)
  have hcls := (hK.1.1 ci r hcl).2
  obtain ⟨cellV, g1, g3, g2⟩ := gx_rc.cell hw hK hv hcl
  have g2' : cellV.cls = N.1.1 ci := (Option.some.inj (g2.symm.trans hcls.1))
  obtain ⟨kA, comp, k1, k2, k3, -⟩ := (hK.1.2 kd _ (hkd N)).2
  have hcomp : comp = N.1.1 ci := Option.some.inj (k3.symm.trans hcls.1)
  subst hcomp
  obtain ⟨kC, hkC, -⟩ := hcls.2
  refine W.aast hx hb (hw.2.2.2.1 a _ hw0).2 (fun q h => by cases h) (fun h => by cases h) k1 k2 rfl hkC ⟨nI_pos (by omega), by show _ < (arrV _ _ _).slots.size; rw [arrV_size, hcn]; exact hj⟩ g1 (fun q h => by rw [h] at g3; cases g3) (by rw [g2']; exact hkC) (by rw [g2']; exact va_assign hcls) rfl rfl hdg fun H1 e1 z oq => ?_
  have hi : gx_is N a (gx_ar kd n (va_up f j (some v))) H1 := by
    show H1[a]? = some (vp_cell _ _)
    rw [e1, vp_cell_q, vp_cell_q, arrV_store, hcn]
    congr 2
    funext q
    by_cases hq : q = j
    · subst hq; simp [updV, va_up, va_rf]
    · simp [updV, va_up, hq]
  exact k p l e R s m args below meth c H1 _ cells slots ls N A V0 hl (hw.put hw0 rfl rfl hi z oq) (hS.put z oq (hd a (Or.inl ⟨_, hw0⟩))) (fun q hq => hd q (gx_cv.st hw0 (fun h => by cases h) hq)) hc hs
/-! calls of the library -/
theorem gx_objInit {idx a : Nat} (hf : gx_lO M.1.cls idx) (hd1 : 1 ≤ d) (hrm : (st.map fun v => v.category).sum + 12 ≤ 32 * d) (hdg : decode M.2.1 pc = .ok (.invokespecial idx, 3)) (k : gx_X F M d Q (pc + 3) L st w b) : gx_X F M d Q pc L (.ref a :: st) w b := gx_go (fun V hl _ k => by
  obtain ⟨hx, hb, hml, hr, hlk, hown, hnm, hts, hK, hfr, hlo, hA, hF⟩ := V
  exact W.objInit hx hb hown (hts _ hf.1) (hts _ hf.2.1) (hts _ hf.2.2) rfl (by rw [hml]; exact hl.1) rfl hdg (by omega) (by show 2 * 0 + _ + 12 ≤ _; omega) k) k
theorem gx_min {idx : Nat} {x y : Int32} (hf : gx_lM M.1.cls idx Lib.Math.min.name Lib.Math.min.code) (hd1 : 1 ≤ d) (hrm : (st.map fun v => v.category).sum + 13 ≤ 32 * d) (hdg : decode M.2.1 pc = .ok (.invokestatic idx, 3)) (k : gx_X F M d Q (pc + 3) L (.int (if y < x then y else x) :: st) w b) : gx_X F M d Q pc L (.int y :: .int x :: st) w b := fun p l e R s m args below meth c H locs cells slots ls N A V hl hw hS hd hc hs => by
  have V0 := V
  obtain ⟨hx, hb, hml, hr, hlk, hown, hnm, hts, hK, hfr, hlo, hA, hF⟩ := V
  exact va_mmin hx hb (by rw [hml]; exact hl.1.symm) hown (hts _ hf.1) (hts _ hf.2.1) (hts _ hf.2.2.1) (hts _ hf.2.2.2) (by omega) (by omega) (by omega) (by omega) hdg (k p l e R s m args below meth c H locs cells slots ls N A V0 hl hw hS hd hc hs)
theorem gx_max {idx : Nat} {x y : Int32} (hf : gx_lM M.1.cls idx Lib.Math.max.name Lib.Math.max.code) (hd1 : 1 ≤ d) (hrm : (st.map fun v => v.category).sum + 13 ≤ 32 * d) (hdg : decode M.2.1 pc = .ok (.invokestatic idx, 3)) (k : gx_X F M d Q (pc + 3) L (.int (if x < y then y else x) :: st) w b) : gx_X F M d Q pc L (.int y :: .int x :: st) w b := fun p l e R s m args below meth c H locs cells slots ls N A V hl hw hS hd hc hs => by
  have V0 := V
  obtain ⟨hx, hb, hml, hr, hlk, hown, hnm, hts, hK, hfr, hlo, hA, hF⟩ := V
  exact va_mmax hx hb (by rw [hml]; exact hl.1.symm) hown (hts _ hf.1) (hts _ hf.2.1) (hts _ hf.2.2.1) (hts _ hf.2.2.2) (by omega) (by omega) (by omega) (by omega) hdg (k p l e R s m args below meth c H locs cells slots ls N A V0 hl hw hS hd hc hs)
theorem gx_lcmp {x y : Int64} (hdg : decode M.2.1 pc = .ok (.lcmp, 1)) (k : gx_X F M d Q (pc + 1) L (.int (lg_cmp x y) :: st) w b) : gx_X F M d Q pc L (.long y :: .long x :: st) w b := gx_go (fun V _ _ k => W.lcmp V.1 V.2.1 hdg k) k
theorem gx_ldc2 {idx : Nat} {v : Int64} (hf : Cond.constantLong M.1.cls idx v ∈ gx_T) (hdg : decode M.2.1 pc = .ok (.ldc2_w idx, 3)) (k : gx_X F M d Q (pc + 3) L (.long v :: st) w b) : gx_X F M d Q pc L st w b := gx_go (fun V _ _ k => by
  obtain ⟨hx, hb, hml, hr, hlk, hown, hnm, hts, hK, hfr, hlo, hA, hF⟩ := V
  exact lv_ldc2 hx hb hown (hts _ hf) hdg k) k
/-! numbers that are natural -/
theorem gx_iaddN {x y : Nat} (hdg : decode M.2.1 pc = .ok (.iadd, 1)) (k : gx_X F M d Q (pc + 1) L (.int (nI (x + y)) :: st) w b) : gx_X F M d Q pc L (.int (nI y) :: .int (nI x) :: st) w b := gx_iadd hdg (gx_top (nI_add x y) k)
theorem gx_isubN {x y : Nat} (h : y ≤ x) (hdg : decode M.2.1 pc = .ok (.isub, 1)) (k : gx_X F M d Q (pc + 1) L (.int (nI (x - y)) :: st) w b) : gx_X F M d Q pc L (.int (nI y) :: .int (nI x) :: st) w b := gx_isub hdg (gx_top (pk_sub h) k)
theorem gx_imulN {x y : Nat} (hdg : decode M.2.1 pc = .ok (.imul, 1)) (k : gx_X F M d Q (pc + 1) L (.int (nI (x * y)) :: st) w b) : gx_X F M d Q pc L (.int (nI y) :: .int (nI x) :: st) w b := gx_imul hdg (gx_top (pk_mul x y) k)
theorem gx_idivN {x y : Nat} (hx : x < 2 ^ 31) (h0 : 0 < y) (hy : y < 2 ^ 31) (hdg : decode M.2.1 pc = .ok (.idiv, 1)) (k : gx_X F M d Q (pc + 1) L (.int (nI (x / y)) :: st) w b) : gx_X F M d Q pc L (.int (nI y) :: .int (nI x) :: st) w b := gx_idiv hdg (nI_ne0 h0 hy) (gx_top (pk_div hx h0 hy) k)
theorem gx_iremN {x y : Nat} (hx : x < 2 ^ 31) (h0 : 0 < y) (hy : y < 2 ^ 31) (hdg : decode M.2.1 pc = .ok (.irem, 1)) (k : gx_X F M d Q (pc + 1) L (.int (nI (x % y)) :: st) w b) : gx_X F M d Q pc L (.int (nI y) :: .int (nI x) :: st) w b := gx_irem hdg (nI_ne0 h0 hy) (gx_top (pk_rem hx h0 hy) k)
theorem gx_i2cN {x : Nat} (hx : x < 65536) (hdg : decode M.2.1 pc = .ok (.i2c, 1)) (k : gx_X F M d Q (pc + 1) L (.int (nI x) :: st) w b) : gx_X F M d Q pc L (.int (nI x) :: st) w b := gx_i2c hdg (gx_top (by rw [pk_char, pk_tn (by omega), Nat.mod_eq_of_lt hx]) k)
theorem gx_iincN {j x n : Nat} {n' : Int} (hdg : decode M.2.1 pc = .ok (.iinc j n', 3)) (hl0 : L[j]? = some (some (.int (nI x)))) (hv : Int32.ofInt n' = nI n) (hn : j < M.2.2.1) (hc1 : gx_c1 L j = true) (k : gx_X F M d Q (pc + 3) (L.set j (some (.int (nI (x + n))))) st w b) : gx_X F M d Q pc L st w b := gx_iinc hdg hl0 _ (by rw [hv]; exact nI_add x n) hn hc1 k
theorem gx_iincM {j x : Nat} {n' : Int} (hdg : decode M.2.1 pc = .ok (.iinc j n', 3)) (hl0 : L[j]? = some (some (.int (nI (x + 1))))) (hv : Int32.ofInt n' = -1) (hn : j < M.2.2.1) (hc1 : gx_c1 L j = true) (k : gx_X F M d Q (pc + 3) (L.set j (some (.int (nI x)))) st w b) : gx_X F M d Q pc L st w b := gx_iinc hdg hl0 _ (by rw [hv]; exact pk_m1 x) hn hc1 k
theorem gx_icmp_eqN {x y : Nat} {off : Int} {tgt : Nat} (hx : x < 2 ^ 31) (hy : y < 2 ^ 31) (hdg : decode M.2.1 pc = .ok (.if_icmp .eq off, 3)) (ht : (pc : Int) + off = (tgt : Int)) (kt : x = y → gx_X F M d Q tgt L st w b) (kf : ¬ x = y → gx_X F M d Q (pc + 3) L st w b) : gx_X F M d Q pc L (.int (nI y) :: .int (nI x) :: st) w b := gx_icmp_eq hdg ht (fun h => kt ((nI_eq hx hy).mp h)) (fun h => kf (fun g => h ((nI_eq hx hy).mpr g)))
theorem gx_icmp_ltN {x y : Nat} {off : Int} {tgt : Nat} (hx : x < 2 ^ 31) (hy : y < 2 ^ 31) (hdg : decode M.2.1 pc = .ok (.if_icmp .lt off, 3)) (ht : (pc : Int) + off = (tgt : Int)) (kt : x < y → gx_X F M d Q tgt L st w b) (kf : ¬ x < y → gx_X F M d Q (pc + 3) L st w b) : gx_X F M d Q pc L (.int (nI y) :: .int (nI x) :: st) w b := gx_icmp_lt hdg ht (fun h => kt ((nI_ltI hx hy).mp h)) (fun h => kf (fun g => h ((nI_ltI hx hy).mpr g)))
theorem gx_icmp_leN {x y : Nat} {off : Int} {tgt : Nat} (hx : x < 2 ^ 31) (hy : y < 2 ^ 31) (hdg : decode M.2.1 pc = .ok (.if_icmp .le off, 3)) (ht : (pc : Int) + off = (tgt : Int)) (kt : x ≤ y → gx_X F M d Q tgt L st w b) (kf : ¬ x ≤ y → gx_X F M d Q (pc + 3) L st w b) : gx_X F M d Q pc L (.int (nI y) :: .int (nI x) :: st) w b := gx_icmp_le hdg ht (fun h => kt ((nI_leI hx hy).mp h)) (fun h => kf (fun g => h ((nI_leI hx hy).mpr g)))
theorem gx_icmp_neN {x y : Nat} {off : Int} {tgt : Nat} (hx : x < 2 ^ 31) (hy : y < 2 ^ 31) (hdg : decode M.2.1 pc = .ok (.if_icmp .ne off, 3)) (ht : (pc : Int) + off = (tgt : Int)) (kt : ¬ x = y → gx_X F M d Q tgt L st w b) (kf : x = y → gx_X F M d Q (pc + 3) L st w b) : gx_X F M d Q pc L (.int (nI y) :: .int (nI x) :: st) w b := gx_icmp_ne hdg ht (fun h => kt (fun g => h ((nI_eq hx hy).mpr g))) (fun h => kf ((nI_eq hx hy).mp h))
theorem gx_icmp_geN {x y : Nat} {off : Int} {tgt : Nat} (hx : x < 2 ^ 31) (hy : y < 2 ^ 31) (hdg : decode M.2.1 pc = .ok (.if_icmp .ge off, 3)) (ht : (pc : Int) + off = (tgt : Int)) (kt : y ≤ x → gx_X F M d Q tgt L st w b) (kf : ¬ y ≤ x → gx_X F M d Q (pc + 3) L st w b) : gx_X F M d Q pc L (.int (nI y) :: .int (nI x) :: st) w b := gx_icmp_ge hdg ht (fun h => kt ((nI_leI hy hx).mp h)) (fun h => kf (fun g => h ((nI_leI hy hx).mpr g)))
theorem gx_icmp_gtN {x y : Nat} {off : Int} {tgt : Nat} (hx : x < 2 ^ 31) (hy : y < 2 ^ 31) (hdg : decode M.2.1 pc = .ok (.if_icmp .gt off, 3)) (ht : (pc : Int) + off = (tgt : Int)) (kt : y < x → gx_X F M d Q tgt L st w b) (kf : ¬ y < x → gx_X F M d Q (pc + 3) L st w b) : gx_X F M d Q pc L (.int (nI y) :: .int (nI x) :: st) w b := gx_icmp_gt hdg ht (fun h => kt ((nI_ltI hy hx).mp h)) (fun h => kf (fun g => h ((nI_ltI hy hx).mpr g)))
theorem gx_z0 {x : Nat} (hx : x < 2 ^ 31) : nI x = 0 ↔ x = 0 := by
  rw [← nI_0]; exact nI_eq hx (by omega)
theorem gx_if_eqN {x : Nat} {off : Int} {tgt : Nat} (hx : x < 2 ^ 31) (hdg : decode M.2.1 pc = .ok (.ifCond .eq off, 3)) (ht : (pc : Int) + off = (tgt : Int)) (kt : x = 0 → gx_X F M d Q tgt L st w b) (kf : ¬ x = 0 → gx_X F M d Q (pc + 3) L st w b) : gx_X F M d Q pc L (.int (nI x) :: st) w b := gx_if_eq hdg ht (fun h => kt ((gx_z0 hx).mp h)) (fun h => kf (fun g => h ((gx_z0 hx).mpr g)))
theorem gx_if_neN {x : Nat} {off : Int} {tgt : Nat} (hx : x < 2 ^ 31) (hdg : decode M.2.1 pc = .ok (.ifCond .ne off, 3)) (ht : (pc : Int) + off = (tgt : Int)) (kt : ¬ x = 0 → gx_X F M d Q tgt L st w b) (kf : x = 0 → gx_X F M d Q (pc + 3) L st w b) : gx_X F M d Q pc L (.int (nI x) :: st) w b := gx_if_ne hdg ht (fun h => kt (fun g => h ((gx_z0 hx).mpr g))) (fun h => kf ((gx_z0 hx).mp h))
theorem gx_if_ltN {x : Nat} {off : Int} (hx : x < 2 ^ 31) {tgt : Nat} (hdg : decode M.2.1 pc = .ok (.ifCond .lt off, 3)) (ht : (pc : Int) + off = (tgt : Int)) (kf : gx_X F M d Q (pc + 3) L st w b) : gx_X F M d Q pc L (.int (nI x) :: st) w b := gx_if_lt hdg ht (fun h => absurd h (nI_pos hx)) (fun _ => kf)
theorem gx_if_geN {x : Nat} {off : Int} (hx : x < 2 ^ 31) {tgt : Nat} (hdg : decode M.2.1 pc = .ok (.ifCond .ge off, 3)) (ht : (pc : Int) + off = (tgt : Int)) (kt : gx_X F M d Q tgt L st w b) : gx_X F M d Q pc L (.int (nI x) :: st) w b := gx_if_ge hdg ht (fun _ => kt) (fun h => absurd (nI_pos' hx) h)
theorem gx_if_leN {x : Nat} {off : Int} {tgt : Nat} (hx : x < 2 ^ 31) (hdg : decode M.2.1 pc = .ok (.ifCond .le off, 3)) (ht : (pc : Int) + off = (tgt : Int)) (kt : x = 0 → gx_X F M d Q tgt L st w b) (kf : 0 < x → gx_X F M d Q (pc + 3) L st w b) : gx_X F M d Q pc L (.int (nI x) :: st) w b := gx_if_le hdg ht (fun h => kt (Nat.eq_zero_of_not_pos fun g => nI_nle g hx h)) (fun h => kf (Nat.pos_of_ne_zero fun g => h (by rw [g, nI_0]; exact Int32.le_refl 0)))
theorem gx_if_gtN {x : Nat} {off : Int} {tgt : Nat} (hx : x < 2 ^ 31) (hdg : decode M.2.1 pc = .ok (.ifCond .gt off, 3)) (ht : (pc : Int) + off = (tgt : Int)) (kt : 0 < x → gx_X F M d Q tgt L st w b) (kf : x = 0 → gx_X F M d Q (pc + 3) L st w b) : gx_X F M d Q pc L (.int (nI x) :: st) w b := gx_if_gt hdg ht (fun h => kt (Nat.pos_of_ne_zero fun g => by rw [g, nI_0] at h; exact absurd h (by decide))) (fun h => kf (Nat.eq_zero_of_not_pos fun g => h (by rw [← nI_0]; exact nI_lt g hx)))
end GXA
end
section
/-! lists and functions -/
theorem gx_fn_nil {f : Nat → Int32} : gx_fn [] f := fun i h => absurd h (Nat.not_lt_zero i)
theorem gx_gd_app {l k : List Nat} {i : Nat} (h : i < l.length) : (l ++ k).getD i 0 = l.getD i 0 := by
  simp [List.getD_eq_getElem?_getD, List.getElem?_append_left h]
theorem gx_gd_mid {l k : List Nat} {c : Nat} : (l ++ c :: k).getD l.length 0 = c := by
  simp [List.getD_eq_getElem?_getD]
theorem gx_gd_app2 {l k : List Nat} {i : Nat} : (l ++ k).getD (l.length + i) 0 = k.getD i 0 := by
  rw [List.getD_eq_getElem?_getD, List.getElem?_append_right (by omega), List.getD_eq_getElem?_getD, Nat.add_sub_cancel_left]
theorem gx_fn_snoc {l : List Nat} {f : Nat → Int32} {c : Nat} (h : gx_fn l f) : gx_fn (l ++ [c]) (upd f l.length (nI c)) := by
  intro i hi
  rw [List.length_append, List.length_singleton] at hi
  by_cases e : i = l.length
  · subst e; rw [pk_us, gx_gd_mid]
  · rw [pk_un e, h i (by omega), gx_gd_app (by omega)]
theorem gx_gd_take {l : List Nat} {i n : Nat} (h : i < n) : (l.take n).getD i 0 = l.getD i 0 := by
  simp [List.getD_eq_getElem?_getD, h]
theorem gx_gd_mem {l : List Nat} {i : Nat} (h : i < l.length) : l.getD i 0 ∈ l := by
  rw [List.getD_eq_getElem?_getD, List.getElem?_eq_getElem h]
  exact List.getElem_mem h
theorem gx_take_succ {l : List Nat} {n : Nat} (h : n < l.length) : l.take (n + 1) = l.take n ++ [l.getD n 0] := by
  rw [List.take_succ, List.getD_eq_getElem?_getD, List.getElem?_eq_getElem h]
  rfl
theorem gx_ext {l k : List Nat} (h : l.length = k.length) (h2 : ∀ i, i < l.length → l.getD i 0 = k.getD i 0) : l = k := by
  apply List.ext_getElem h
  intro i h3 h4
  have := h2 i h3
  simpa [List.getD_eq_getElem?_getD, List.getElem?_eq_getElem h3, List.getElem?_eq_getElem h4] using this
theorem gx_sm_app {l k : List Nat} (h : gx_sm l) (h2 : gx_sm k) : gx_sm (l ++ k) := fun c hc => (List.mem_append.mp hc).elim (h c) (h2 c)
theorem gx_sm_1 {c : Nat} (h : c < 65536) : gx_sm [c] := fun x hx => by rw [List.mem_singleton.mp hx]; exact h
theorem gx_sm_nil : gx_sm [] := fun _ h => by cases h
theorem gx_sm_at {l : List Nat} (h : gx_sm l) (j : Nat) : l.getD j 0 < 65536 := by
  by_cases hj : j < l.length
  · exact h _ (gx_gd_mem hj)
  · rw [List.getD_eq_getElem?_getD, List.getElem?_eq_none (by omega)]; decide
theorem gx_nc {c : Nat} (h : c < 65536) : narrow .char (.int (nI c)) = .int (nI c) := (pk_charN h).1
theorem gx_gd_ge {l : List Nat} {j : Nat} (h : l.length ≤ j) : l.getD j 0 = 0 := by
  rw [List.getD_eq_getElem?_getD, List.getElem?_eq_none h]; rfl
theorem gx_upd_ge {l : List Nat} {f : Nat → Int32} {j : Nat} {x : Int32} (h : gx_fn l f) (hj : l.length ≤ j) : gx_fn l (upd f j x) := fun i hi => by rw [pk_un (by omega)]; exact h i hi
theorem gx_nz1 : narrow .boolean (.int (nI 1)) = .int (nI 1) := by decide
theorem gx_nz0 : narrow .boolean (.int (nI 0)) = .int (nI 0) := by decide
theorem gx_drop_step {l : List Nat} {i b : Nat} (h : i < b) (hb : b ≤ l.length) : (l.take b).drop i = l.getD i 0 :: (l.take b).drop (i + 1) := by
  have h1 : i < (l.take b).length := by rw [List.length_take]; omega
  rw [List.drop_eq_getElem_cons h1]
  congr 1
  rw [List.getElem_take, List.getD_eq_getElem?_getD, List.getElem?_eq_getElem (by omega)]
  rfl
theorem gx_drop_cons {l : List Nat} {i : Nat} (h : i < l.length) : l.drop i = l.getD i 0 :: l.drop (i + 1) := by
  rw [List.drop_eq_getElem_cons h, List.getD_eq_getElem?_getD, List.getElem?_eq_getElem h]
  rfl
theorem gx_drop_nil {l : List Nat} {i b : Nat} (h : b ≤ i) : (l.take b).drop i = [] := by
  apply List.drop_eq_nil_of_le
  rw [List.length_take]; omega
theorem gx_gd_er {l : List Nat} {p j : Nat} : (l.eraseIdx p).getD j 0 = if j < p then l.getD j 0 else l.getD (j + 1) 0 := by
  rw [List.getD_eq_getElem?_getD, List.getElem?_eraseIdx]
  split <;> rw [List.getD_eq_getElem?_getD]
theorem gx_sm_er {l : List Nat} {p : Nat} (h : gx_sm l) : gx_sm (l.eraseIdx p) := fun c hc => h c (List.mem_of_mem_eraseIdx hc)
theorem gx_sm_take {l : List Nat} {n : Nat} (h : gx_sm l) : gx_sm (l.take n) := fun c hc => h c (List.mem_of_mem_take hc)
def sp_ask (l : List Nat) (i : Int32) : Int32 := if i = -1 then nI l.length else if 0 ≤ i ∧ i < nI l.length then nI (l.getD i.toNatClampNeg 0) else -1
theorem sp_ask_m1 {l : List Nat} : sp_ask l (-1) = nI l.length := by simp [sp_ask]
theorem sp_ask_lt {l : List Nat} {i : Int32} (h : ¬ i = -1) (h2 : i < 0) : sp_ask l i = -1 := by
  unfold sp_ask
  rw [if_neg h, if_neg (fun g => absurd g.1 (by rw [Int32.le_iff_toInt_le]; rw [Int32.lt_iff_toInt_lt] at h2; omega))]
theorem sp_ask_ge {l : List Nat} {i : Int32} (h : ¬ i = -1) (h2 : nI l.length ≤ i) : sp_ask l i = -1 := by
  unfold sp_ask
  rw [if_neg h, if_neg (fun g => absurd g.2 (by rw [Int32.lt_iff_toInt_lt]; rw [Int32.le_iff_toInt_le] at h2; omega))]
theorem sp_ask_in {l : List Nat} {j : Nat} (hj : j < l.length) (hl : l.length < 2 ^ 31) : sp_ask l (nI j) = nI (l.getD j 0) := by
  unfold sp_ask
  have h1 : ¬ nI j = -1 := fun g => by
    have := nI_toInt (show j < 2 ^ 31 by omega)
    rw [g] at this
    have h2 : (-1 : Int32).toInt = -1 := by decide
    omega
  rw [if_neg h1, if_pos ⟨nI_pos' (by omega), nI_lt hj hl⟩, nI_clamp (by omega)]
/-- one of the two is a beginning of the other -/
def sp_agb : List Nat → List Nat → Bool
  | a :: l, b :: k => (a == b) && sp_agb l k
  | _, _ => true
theorem sp_agb_nil {k : List Nat} : sp_agb [] k = true := by unfold sp_agb; rfl
theorem sp_agb_nil2 {l : List Nat} : sp_agb l [] = true := by cases l <;> (unfold sp_agb; rfl)
theorem sp_agb_eq : ∀ {l k : List Nat}, l.length = k.length → (sp_agb l k = true ↔ l = k)
  | [], [], _ => by simp [sp_agb]
  | a :: l, b :: k, h => by
    have ih := sp_agb_eq (l := l) (k := k) (by simpa using h)
    simp [sp_agb, ih]
  | [], b :: k, h => by simp at h
  | a :: l, [], h => by simp at h
def gx_gr (w : gx_W) (n : Nat) : gx_W := (w.1, w.2 + n)
theorem gx_clz {n : Nat} (h : n < 2 ^ 31) : (nI n).toNatClampNeg = n := nI_clamp h
section GXC
variable {F : gx_N → State → Prop} {M : gx_M} {d : Nat} {Q : gx_P} {pc : Nat} {L : List (Option Value)} {st rest : List Value} {w : gx_W} {b : Nat × Nat}
theorem gx_cV1 {Mc : gx_M} {idx d' n ci a : Nat} {as : List Value} {v : Value} {w1 : gx_W} (hS : gx_lV M.1.cls idx Mc n ci) (hdg : decode M.2.1 pc = .ok (.invokevirtual idx, 3)) (hC : gx_Ct Mc d' 0 0 (.ref a :: as) w (gx_eq (some v) w1)) (hrc : gx_rc w a ci) (hd' : d' + 1 ≤ d) (hn : as.length = n) (hst : st = as.reverse ++ .ref a :: rest) (hrm : (rest.map fun v => v.category).sum ≤ 8) (k : gx_X F M d Q (pc + 3) L (v :: rest) w1 b) : gx_X F M d Q pc L st w b := gx_callV hS hdg hC hrc hd' hn hst hrm ⟨Nat.zero_le _, Nat.zero_le _⟩ (fun r w' h => by obtain ⟨rfl, rfl⟩ := h; exact k)
theorem gx_cV0 {Mc : gx_M} {idx d' n ci a : Nat} {as : List Value} {w1 : gx_W} (hS : gx_lV M.1.cls idx Mc n ci) (hdg : decode M.2.1 pc = .ok (.invokevirtual idx, 3)) (hC : gx_Ct Mc d' 0 0 (.ref a :: as) w (gx_eq none w1)) (hrc : gx_rc w a ci) (hd' : d' + 1 ≤ d) (hn : as.length = n) (hst : st = as.reverse ++ .ref a :: rest) (hrm : (rest.map fun v => v.category).sum ≤ 8) (k : gx_X F M d Q (pc + 3) L rest w1 b) : gx_X F M d Q pc L st w b := gx_callV hS hdg hC hrc hd' hn hst hrm ⟨Nat.zero_le _, Nat.zero_le _⟩ (fun r w' h => by obtain ⟨rfl, rfl⟩ := h; exact k)
theorem gx_cVr {Mc : gx_M} {idx d' n ci a : Nat} {as : List Value} {Q' : Option Value → gx_W → Prop} (hS : gx_lV M.1.cls idx Mc n ci) (hdg : decode M.2.1 pc = .ok (.invokevirtual idx, 3)) (hC : gx_Ct Mc d' 0 0 (.ref a :: as) w Q') (hrc : gx_rc w a ci) (hd' : d' + 1 ≤ d) (hn : as.length = n) (hst : st = as.reverse ++ .ref a :: rest) (hrm : (rest.map fun v => v.category).sum ≤ 8) (k : ∀ r w', Q' r w' → gx_X F M d Q (pc + 3) L (r.toList ++ rest) w' b) : gx_X F M d Q pc L st w b := gx_callV hS hdg hC hrc hd' hn hst hrm ⟨Nat.zero_le _, Nat.zero_le _⟩ k
theorem gx_cS1 {Mc : gx_M} {idx d' n : Nat} {as : List Value} {v : Value} {w1 : gx_W} (hS : gx_lS M.1.cls idx Mc n) (hdg : decode M.2.1 pc = .ok (.invokestatic idx, 3)) (hC : gx_Ct Mc d' 0 0 as w (gx_eq (some v) w1)) (hd' : d' + 1 ≤ d) (hn : as.length = n) (hst : st = as.reverse ++ rest) (hrm : (rest.map fun v => v.category).sum ≤ 8) (k : gx_X F M d Q (pc + 3) L (v :: rest) w1 b) : gx_X F M d Q pc L st w b := gx_callS hS hdg hC hd' hn hst hrm ⟨Nat.zero_le _, Nat.zero_le _⟩ (fun r w' h => by obtain ⟨rfl, rfl⟩ := h; exact k)
theorem gx_cS0 {Mc : gx_M} {idx d' n : Nat} {as : List Value} {w1 : gx_W} (hS : gx_lS M.1.cls idx Mc n) (hdg : decode M.2.1 pc = .ok (.invokestatic idx, 3)) (hC : gx_Ct Mc d' 0 0 as w (gx_eq none w1)) (hd' : d' + 1 ≤ d) (hn : as.length = n) (hst : st = as.reverse ++ rest) (hrm : (rest.map fun v => v.category).sum ≤ 8) (k : gx_X F M d Q (pc + 3) L rest w1 b) : gx_X F M d Q pc L st w b := gx_callS hS hdg hC hd' hn hst hrm ⟨Nat.zero_le _, Nat.zero_le _⟩ (fun r w' h => by obtain ⟨rfl, rfl⟩ := h; exact k)
theorem gx_cSr {Mc : gx_M} {idx d' n : Nat} {as : List Value} {Q' : Option Value → gx_W → Prop} (hS : gx_lS M.1.cls idx Mc n) (hdg : decode M.2.1 pc = .ok (.invokestatic idx, 3)) (hC : gx_Ct Mc d' 0 0 as w Q') (hd' : d' + 1 ≤ d) (hn : as.length = n) (hst : st = as.reverse ++ rest) (hrm : (rest.map fun v => v.category).sum ≤ 8) (k : ∀ r w', Q' r w' → gx_X F M d Q (pc + 3) L (r.toList ++ rest) w' b) : gx_X F M d Q pc L st w b := gx_callS hS hdg hC hd' hn hst hrm ⟨Nat.zero_le _, Nat.zero_le _⟩ k
/-- a contract says more than another -/
theorem gx_Ct.weaken {Mc : gx_M} {d' mc ms : Nat} {as : List Value} {Q1 Q2 : Option Value → gx_W → Prop} (h : gx_Ct Mc d' mc ms as w Q1) (hq : ∀ r w', Q1 r w' → Q2 r w') : gx_Ct Mc d' mc ms as w Q2 := by
  intro l N p e ha hc hk s m args below hf happ hP hK
  obtain ⟨n, o, h1, h2, h3, h4, h5⟩ := h l N p e ha hc hk s m args below hf happ hP hK
  refine ⟨n, o, h1, h2, h3, ⟨?_, h4.2⟩, h5⟩
  rcases h4.1 with ⟨r, w', a1, a2, a3⟩ | ⟨_, _, _, _, hF, _⟩
  · exact Or.inl ⟨r, w', a1, hq r w' a2, a3⟩
  · exact hF.elim
/-- nothing lies from the world's end on -/
theorem gx_fr (k : (∀ q, w.2 ≤ q → w.1 q = none) → gx_X F M d Q pc L st w b) : gx_X F M d Q pc L st w b := fun p l e R s m args below meth c H locs cells slots ls N A V hl hw hS hd hc hs => by
  refine k (fun q hq => ?_) p l e R s m args below meth c H locs cells slots ls N A V hl hw hS hd hc hs
  cases hx : w.1 q with
  | none => rfl
  | some x => have := hw.lt hx; omega
theorem gx_newc {n b1 b2 : Nat} (hn : n < 65536) (hdg : decode M.2.1 pc = .ok (.newarray .char, 2)) (k : gx_X F M d Q (pc + 2) L (.ref w.2 :: st) (gx_al w (gx_ai 1 n (fun _ => 0))) (b1, b2)) : gx_X F M d Q pc L (.int (nI n) :: st) w (b1 + 1, b2 + n) := gx_newa (ty := .char) rfl (fun _ => rfl) (fun _ _ h => h) (fun _ => rfl) ac_char (by omega) (by simp [componentBytes]; omega) hdg k
theorem gx_newi {n b1 b2 : Nat} (hn : n < 65536) (hdg : decode M.2.1 pc = .ok (.newarray .int, 2)) (k : gx_X F M d Q (pc + 2) L (.ref w.2 :: st) (gx_al w (gx_ai 0 n (fun _ => 0))) (b1, b2)) : gx_X F M d Q pc L (.int (nI n) :: st) w (b1 + 1, b2 + n) := gx_newa (ty := .int) rfl (fun _ => rfl) (fun _ _ h => h) (fun _ => rfl) ac_int (by omega) (by simp [componentBytes]; omega) hdg k
theorem gx_newz {n b1 b2 : Nat} (hn : n < 65536) (hdg : decode M.2.1 pc = .ok (.newarray .boolean, 2)) (k : gx_X F M d Q (pc + 2) L (.ref w.2 :: st) (gx_al w (gx_ai 2 n (fun _ => 0))) (b1, b2)) : gx_X F M d Q pc L (.int (nI n) :: st) w (b1 + 1, b2 + n) := gx_newa (ty := .boolean) rfl (fun _ => rfl) (fun _ _ h => h) (fun _ => rfl) ac_boolean (by omega) (by simp [componentBytes]; omega) hdg k
theorem gx_newl {n b1 b2 : Nat} (hn : n < 65536) (hdg : decode M.2.1 pc = .ok (.newarray .long, 2)) (k : gx_X F M d Q (pc + 2) L (.ref w.2 :: st) (gx_al w (gx_al8 5 n (fun _ => 0))) (b1, b2)) : gx_X F M d Q pc L (.int (nI n) :: st) w (b1 + 1, b2 + n) := gx_newa (ty := .long) rfl (fun _ => rfl) (fun _ _ h => h) (fun _ => rfl) ac_long (by omega) (by simp [componentBytes]; omega) hdg k
end GXC
end
section
/-! Word: its methods -/
theorem d_Word_size_0 : decode prog_9_method_2_code 0 = .ok (.aload_n 0, 1) := by decide +kernel
theorem d_Word_size_1 : decode prog_9_method_2_code 1 = .ok (.getfield 15, 3) := by decide +kernel
theorem d_Word_size_4 : decode prog_9_method_2_code 4 = .ok (.ireturn, 1) := by decide +kernel
theorem ct_Word_size {w : gx_W} {h cap : Nat} {l : List Nat} (hw : w.1 h = some (gx_bx 0 cap l)) : gx_Ct M_Word_size 1 0 0 [.ref h] w (gx_eq (some (.int (nI l.length))) w) := by
  refine gx_ct (L := [some (.ref h)]) (by decide) (Nat.le_of_ble_eq_true rfl) rfl ?_
  refine gx_aload_n d_Word_size_0 rfl ?_
  refine gx_bln fl_Word_15 d_Word_size_1 hw ?_
  refine gx_ireturn rfl d_Word_size_4 ?_
  exact ⟨rfl, rfl⟩
theorem d_Word_at_0 : decode prog_9_method_3_code 0 = .ok (.iload_n 1, 1) := by decide +kernel
theorem d_Word_at_1 : decode prog_9_method_3_code 1 = .ok (.ifCond .lt 20, 3) := by decide +kernel
theorem d_Word_at_4 : decode prog_9_method_3_code 4 = .ok (.iload_n 1, 1) := by decide +kernel
theorem d_Word_at_5 : decode prog_9_method_3_code 5 = .ok (.aload_n 0, 1) := by decide +kernel
theorem d_Word_at_6 : decode prog_9_method_3_code 6 = .ok (.getfield 15, 3) := by decide +kernel
theorem d_Word_at_9 : decode prog_9_method_3_code 9 = .ok (.if_icmp .ge 12, 3) := by decide +kernel
theorem d_Word_at_12 : decode prog_9_method_3_code 12 = .ok (.aload_n 0, 1) := by decide +kernel
theorem d_Word_at_13 : decode prog_9_method_3_code 13 = .ok (.getfield 9, 3) := by decide +kernel
theorem d_Word_at_16 : decode prog_9_method_3_code 16 = .ok (.iload_n 1, 1) := by decide +kernel
theorem d_Word_at_17 : decode prog_9_method_3_code 17 = .ok (.caload, 1) := by decide +kernel
theorem d_Word_at_18 : decode prog_9_method_3_code 18 = .ok (.goto 4, 3) := by decide +kernel
theorem d_Word_at_21 : decode prog_9_method_3_code 21 = .ok (.iconst 0, 1) := by decide +kernel
theorem d_Word_at_22 : decode prog_9_method_3_code 22 = .ok (.ireturn, 1) := by decide +kernel
theorem ct_Word_at {w : gx_W} {h cap : Nat} {l : List Nat} {j : Nat} (hw : w.1 h = some (gx_bx 0 cap l)) (hj : j < 2 ^ 31) : gx_Ct M_Word_at 1 0 0 [.ref h, .int (nI j)] w (gx_eq (some (.int (nI (l.getD j 0)))) w) := by
  refine gx_ct (L := [some (.ref h), some (.int (nI j))]) (by decide) (Nat.le_of_ble_eq_true rfl) rfl ?_
  refine gx_bsz hw (fun hlen hcap hsm => ?_)
  refine gx_iload_n d_Word_at_0 rfl ?_
  refine gx_if_ltN (by omega) (tgt := 21) d_Word_at_1 (by decide) ?_
  refine gx_iload_n d_Word_at_4 rfl ?_
  refine gx_aload_n d_Word_at_5 rfl ?_
  refine gx_bln fl_Word_15 d_Word_at_6 hw ?_
  refine gx_icmp_geN (by omega) (by omega) (tgt := 21) d_Word_at_9 (by decide) (fun h9 => ?_) (fun h9 => ?_)
  · rw [gx_gd_ge h9]
    refine gx_iconst d_Word_at_21 (nI 0) (by decide) ?_
    refine gx_zreturn rfl (by decide) d_Word_at_22 ?_
    exact ⟨rfl, rfl⟩
  · refine gx_aload_n d_Word_at_12 rfl ?_
    refine gx_bar fl_Word_9 d_Word_at_13 hw ?_
    refine gx_iload_n d_Word_at_16 rfl ?_
    refine gx_bcal d_Word_at_17 hw (by omega) ?_
    refine gx_goto (tgt := 22) d_Word_at_18 (by decide) ?_
    refine gx_zreturn rfl (gx_nc (gx_sm_at hsm j)) d_Word_at_22 ?_
    exact ⟨rfl, rfl⟩
theorem ct_Word_at_neg {w : gx_W} {h cap : Nat} {l : List Nat} (hw : w.1 h = some (gx_bx 0 cap l)) : gx_Ct M_Word_at 1 0 0 [.ref h, .int (-1)] w (gx_eq (some (.int 0)) w) := by
  refine gx_ct (L := [some (.ref h), some (.int (-1))]) (by decide) (Nat.le_of_ble_eq_true rfl) rfl ?_
  refine gx_iload_n d_Word_at_0 rfl ?_
  refine gx_if_lt (tgt := 21) d_Word_at_1 (by decide) (fun h1 => ?_) (fun h1 => ?_)
  · refine gx_iconst d_Word_at_21 0 (by decide) ?_
    refine gx_zreturn rfl (by decide) d_Word_at_22 ?_
    exact ⟨rfl, rfl⟩
  · exact absurd (by decide) h1
theorem d_Word_ask_0 : decode prog_9_method_4_code 0 = .ok (.iload_n 1, 1) := by decide +kernel
theorem d_Word_ask_1 : decode prog_9_method_4_code 1 = .ok (.iconst (-1), 1) := by decide +kernel
theorem d_Word_ask_2 : decode prog_9_method_4_code 2 = .ok (.if_icmp .ne 8, 3) := by decide +kernel
theorem d_Word_ask_5 : decode prog_9_method_4_code 5 = .ok (.aload_n 0, 1) := by decide +kernel
theorem d_Word_ask_6 : decode prog_9_method_4_code 6 = .ok (.getfield 15, 3) := by decide +kernel
theorem d_Word_ask_9 : decode prog_9_method_4_code 9 = .ok (.ireturn, 1) := by decide +kernel
theorem d_Word_ask_10 : decode prog_9_method_4_code 10 = .ok (.iload_n 1, 1) := by decide +kernel
theorem d_Word_ask_11 : decode prog_9_method_4_code 11 = .ok (.ifCond .lt 20, 3) := by decide +kernel
theorem d_Word_ask_14 : decode prog_9_method_4_code 14 = .ok (.iload_n 1, 1) := by decide +kernel
theorem d_Word_ask_15 : decode prog_9_method_4_code 15 = .ok (.aload_n 0, 1) := by decide +kernel
theorem d_Word_ask_16 : decode prog_9_method_4_code 16 = .ok (.getfield 15, 3) := by decide +kernel
theorem d_Word_ask_19 : decode prog_9_method_4_code 19 = .ok (.if_icmp .ge 12, 3) := by decide +kernel
theorem d_Word_ask_22 : decode prog_9_method_4_code 22 = .ok (.aload_n 0, 1) := by decide +kernel
theorem d_Word_ask_23 : decode prog_9_method_4_code 23 = .ok (.getfield 9, 3) := by decide +kernel
theorem d_Word_ask_26 : decode prog_9_method_4_code 26 = .ok (.iload_n 1, 1) := by decide +kernel
theorem d_Word_ask_27 : decode prog_9_method_4_code 27 = .ok (.caload, 1) := by decide +kernel
theorem d_Word_ask_28 : decode prog_9_method_4_code 28 = .ok (.goto 4, 3) := by decide +kernel
theorem d_Word_ask_31 : decode prog_9_method_4_code 31 = .ok (.iconst (-1), 1) := by decide +kernel
theorem d_Word_ask_32 : decode prog_9_method_4_code 32 = .ok (.ireturn, 1) := by decide +kernel
theorem ct_Word_ask {w : gx_W} {h cap : Nat} {l : List Nat} {i : Int32} (hw : w.1 h = some (gx_bx 0 cap l)) : gx_Ct M_Word_ask 1 0 0 [.ref h, .int i] w (gx_eq (some (.int (sp_ask l i))) w) := by
  refine gx_ct (L := [some (.ref h), some (.int i)]) (by decide) (Nat.le_of_ble_eq_true rfl) rfl ?_
  refine gx_bsz hw (fun hlen hcap hsm => ?_)
  refine gx_iload_n d_Word_ask_0 rfl ?_
  refine gx_iconst d_Word_ask_1 (-1) (by decide) ?_
  refine gx_icmp_ne (tgt := 10) d_Word_ask_2 (by decide) (fun h2 => ?_) (fun h2 => ?_)
  · refine gx_iload_n d_Word_ask_10 rfl ?_
    refine gx_if_lt (tgt := 31) d_Word_ask_11 (by decide) (fun h11 => ?_) (fun h11 => ?_)
    · rw [sp_ask_lt h2 h11]
      refine gx_iconst d_Word_ask_31 (-1) (by decide) ?_
      refine gx_ireturn rfl d_Word_ask_32 ?_
      exact ⟨rfl, rfl⟩
    · refine gx_iload_n d_Word_ask_14 rfl ?_
      refine gx_aload_n d_Word_ask_15 rfl ?_
      refine gx_bln fl_Word_15 d_Word_ask_16 hw ?_
      refine gx_icmp_ge (tgt := 31) d_Word_ask_19 (by decide) (fun h19 => ?_) (fun h19 => ?_)
      · rw [sp_ask_ge h2 h19]
        refine gx_iconst d_Word_ask_31 (-1) (by decide) ?_
        refine gx_ireturn rfl d_Word_ask_32 ?_
        exact ⟨rfl, rfl⟩
      · obtain ⟨j, hj, rfl⟩ := nI_of h11
        have hj2 : j < l.length := Nat.lt_of_not_le (fun g => h19 (nI_le g hj))
        rw [sp_ask_in hj2 (by omega)]
        refine gx_aload_n d_Word_ask_22 rfl ?_
        refine gx_bar fl_Word_9 d_Word_ask_23 hw ?_
        refine gx_iload_n d_Word_ask_26 rfl ?_
        refine gx_bcal d_Word_ask_27 hw hj2 ?_
        refine gx_goto (tgt := 32) d_Word_ask_28 (by decide) ?_
        refine gx_ireturn rfl d_Word_ask_32 ?_
        exact ⟨rfl, rfl⟩
  · subst h2
    rw [sp_ask_m1]
    refine gx_aload_n d_Word_ask_5 rfl ?_
    refine gx_bln fl_Word_15 d_Word_ask_6 hw ?_
    refine gx_ireturn rfl d_Word_ask_9 ?_
    exact ⟨rfl, rfl⟩
theorem d_Word_empty_0 : decode prog_9_method_5_code 0 = .ok (.aload_n 0, 1) := by decide +kernel
theorem d_Word_empty_1 : decode prog_9_method_5_code 1 = .ok (.iconst 0, 1) := by decide +kernel
theorem d_Word_empty_2 : decode prog_9_method_5_code 2 = .ok (.putfield 15, 3) := by decide +kernel
theorem d_Word_empty_5 : decode prog_9_method_5_code 5 = .ok (.return_, 1) := by decide +kernel
theorem ct_Word_empty {w : gx_W} {h cap : Nat} {l : List Nat} (hw : w.1 h = some (gx_bx 0 cap l)) : gx_Ct M_Word_empty 1 0 0 [.ref h] w (gx_eq none (gx_st w h (gx_bx 0 cap []))) := by
  refine gx_ct (L := [some (.ref h)]) (by decide) (Nat.le_of_ble_eq_true rfl) rfl ?_
  refine gx_unbox hw (fun f hf hlen hcap hsm h0 => ?_)
  refine gx_aload_n d_Word_empty_0 rfl ?_
  refine gx_iconst d_Word_empty_1 (nI 0) (by decide) ?_
  refine gx_bput (n' := 0) fp_Word_15 d_Word_empty_2 ?_
  refine gx_box [] h0 rfl (Nat.zero_le _) hcap gx_sm_nil gx_fn_nil ?_
  refine gx_return rfl d_Word_empty_5 ?_
  exact ⟨rfl, rfl⟩
theorem d_Word_add_0 : decode prog_9_method_6_code 0 = .ok (.aload_n 0, 1) := by decide +kernel
theorem d_Word_add_1 : decode prog_9_method_6_code 1 = .ok (.getfield 15, 3) := by decide +kernel
theorem d_Word_add_4 : decode prog_9_method_6_code 4 = .ok (.aload_n 0, 1) := by decide +kernel
theorem d_Word_add_5 : decode prog_9_method_6_code 5 = .ok (.getfield 9, 3) := by decide +kernel
theorem d_Word_add_8 : decode prog_9_method_6_code 8 = .ok (.arraylength, 1) := by decide +kernel
theorem d_Word_add_9 : decode prog_9_method_6_code 9 = .ok (.if_icmp .ge 23, 3) := by decide +kernel
theorem d_Word_add_12 : decode prog_9_method_6_code 12 = .ok (.aload_n 0, 1) := by decide +kernel
theorem d_Word_add_13 : decode prog_9_method_6_code 13 = .ok (.getfield 9, 3) := by decide +kernel
theorem d_Word_add_16 : decode prog_9_method_6_code 16 = .ok (.aload_n 0, 1) := by decide +kernel
theorem d_Word_add_17 : decode prog_9_method_6_code 17 = .ok (.getfield 15, 3) := by decide +kernel
theorem d_Word_add_20 : decode prog_9_method_6_code 20 = .ok (.iload_n 1, 1) := by decide +kernel
theorem d_Word_add_21 : decode prog_9_method_6_code 21 = .ok (.castore, 1) := by decide +kernel
theorem d_Word_add_22 : decode prog_9_method_6_code 22 = .ok (.aload_n 0, 1) := by decide +kernel
theorem d_Word_add_23 : decode prog_9_method_6_code 23 = .ok (.dup, 1) := by decide +kernel
theorem d_Word_add_24 : decode prog_9_method_6_code 24 = .ok (.getfield 15, 3) := by decide +kernel
theorem d_Word_add_27 : decode prog_9_method_6_code 27 = .ok (.iconst 1, 1) := by decide +kernel
theorem d_Word_add_28 : decode prog_9_method_6_code 28 = .ok (.iadd, 1) := by decide +kernel
theorem d_Word_add_29 : decode prog_9_method_6_code 29 = .ok (.putfield 15, 3) := by decide +kernel
theorem d_Word_add_32 : decode prog_9_method_6_code 32 = .ok (.aload_n 0, 1) := by decide +kernel
theorem d_Word_add_33 : decode prog_9_method_6_code 33 = .ok (.areturn, 1) := by decide +kernel
theorem ct_Word_add {w : gx_W} {h cap : Nat} {l : List Nat} {c : Nat} (hw : w.1 h = some (gx_bx 0 cap l)) (hc : c < 65536) (hl : l.length < cap) : gx_Ct M_Word_add 1 0 0 [.ref h, .int (nI c)] w (gx_eq (some (.ref h)) (gx_st w h (gx_bx 0 cap (l ++ [c])))) := by
  refine gx_ct (L := [some (.ref h), some (.int (nI c))]) (by decide) (Nat.le_of_ble_eq_true rfl) rfl ?_
  refine gx_unbox hw (fun f hf hlen hcap hsm h0 => ?_)
  refine gx_aload_n d_Word_add_0 rfl ?_
  refine gx_get fl_Word_15 d_Word_add_1 gx_raw_h rfl ?_
  refine gx_aload_n d_Word_add_4 rfl ?_
  refine gx_get fl_Word_9 d_Word_add_5 gx_raw_h rfl ?_
  refine gx_alen (by decide) d_Word_add_8 gx_raw_h1 ?_
  refine gx_icmp_geN (by omega) (by omega) (tgt := 32) d_Word_add_9 (by decide) (fun h9 => ?_) (fun h9 => ?_)
  · exact absurd (show cap ≤ l.length from h9) (by omega)
  · refine gx_aload_n d_Word_add_12 rfl ?_
    refine gx_get fl_Word_9 d_Word_add_13 gx_raw_h rfl ?_
    refine gx_aload_n d_Word_add_16 rfl ?_
    refine gx_get fl_Word_15 d_Word_add_17 gx_raw_h rfl ?_
    refine gx_iload_n d_Word_add_20 rfl ?_
    refine gx_bcast d_Word_add_21 (by omega) (by omega) (gx_nc hc) ?_
    refine gx_aload_n d_Word_add_22 rfl ?_
    refine gx_dup d_Word_add_23 rfl ?_
    refine gx_get fl_Word_15 d_Word_add_24 gx_raw_h rfl ?_
    refine gx_iconst d_Word_add_27 (nI 1) (by decide) ?_
    refine gx_iaddN d_Word_add_28 ?_
    refine gx_bput fp_Word_15 d_Word_add_29 ?_
    refine gx_box (l ++ [c]) h0 (by simp) (by simp; omega) hcap (gx_sm_app hsm (gx_sm_1 hc)) (gx_fn_snoc hf) ?_
    refine gx_aload_n d_Word_add_32 rfl ?_
    refine gx_areturn rfl (Or.inl ⟨_, rfl⟩) (Or.inr ⟨_, rfl⟩) d_Word_add_33 ?_
    exact ⟨rfl, rfl⟩
theorem d_Word_addPart_0 : decode prog_9_method_7_code 0 = .ok (.iload_n 2, 1) := by decide +kernel
theorem d_Word_addPart_1 : decode prog_9_method_7_code 1 = .ok (.istore 4, 2) := by decide +kernel
theorem d_Word_addPart_3 : decode prog_9_method_7_code 3 = .ok (.iload 4, 2) := by decide +kernel
theorem d_Word_addPart_5 : decode prog_9_method_7_code 5 = .ok (.iload_n 3, 1) := by decide +kernel
theorem d_Word_addPart_6 : decode prog_9_method_7_code 6 = .ok (.if_icmp .ge 20, 3) := by decide +kernel
theorem d_Word_addPart_9 : decode prog_9_method_7_code 9 = .ok (.aload_n 0, 1) := by decide +kernel
theorem d_Word_addPart_10 : decode prog_9_method_7_code 10 = .ok (.aload_n 1, 1) := by decide +kernel
theorem d_Word_addPart_11 : decode prog_9_method_7_code 11 = .ok (.iload 4, 2) := by decide +kernel
theorem d_Word_addPart_13 : decode prog_9_method_7_code 13 = .ok (.invokevirtual 19, 3) := by decide +kernel
theorem d_Word_addPart_16 : decode prog_9_method_7_code 16 = .ok (.invokevirtual 23, 3) := by decide +kernel
theorem d_Word_addPart_19 : decode prog_9_method_7_code 19 = .ok (.pop, 1) := by decide +kernel
theorem d_Word_addPart_20 : decode prog_9_method_7_code 20 = .ok (.iinc 4 1, 3) := by decide +kernel
theorem d_Word_addPart_23 : decode prog_9_method_7_code 23 = .ok (.goto (-20), 3) := by decide +kernel
theorem d_Word_addPart_26 : decode prog_9_method_7_code 26 = .ok (.return_, 1) := by decide +kernel
theorem lp_Word_addPart {Q : gx_P} {h h2 cap cap2 a b : Nat} {l2 : List Nat} (hne : h2 ≠ h) (hb : b ≤ l2.length) : ∀ (fu : Nat) (i : Nat) (l : List Nat) (w : gx_W), b - i < fu → i < 2 ^ 31 → (w.1 h = some (gx_bx 0 cap l)) → (w.1 h2 = some (gx_bx 0 cap2 l2)) → (a ≤ i) → (l.length + (b - i) ≤ cap) → (Q.1 none (gx_st w h (gx_bx 0 cap (l ++ (l2.take b).drop i)))) → gx_X (fun _ _ => True) M_Word_addPart 2 Q 3 [some (.ref h), some (.ref h2), some (.int (nI a)), some (.int (nI b)), some (.int (nI i))] [] w (0, 0) := by
  intro fu
  induction fu with
  | zero => intro i l w hfu; exact absurd hfu (Nat.not_lt_zero _)
  | succ fu ih =>
    intro i l w hfu hi0 hw hw2 hib hlc hQ
    refine gx_bsz hw2 (fun hlen2 hcap2 hsm2 => ?_)
    have hi31 : i < 2 ^ 31 := hi0
    refine gx_iload d_Word_addPart_3 rfl ?_
    refine gx_iload_n d_Word_addPart_5 rfl ?_
    refine gx_icmp_geN (by omega) (by omega) (tgt := 26) d_Word_addPart_6 (by decide) (fun h6 => ?_) (fun h6 => ?_)
    · refine gx_return rfl d_Word_addPart_26 ?_
      rw [gx_drop_nil h6, List.append_nil, gx_st_id hw] at hQ
      exact hQ
    · refine gx_aload_n d_Word_addPart_9 rfl ?_
      refine gx_aload_n d_Word_addPart_10 rfl ?_
      refine gx_iload d_Word_addPart_11 rfl ?_
      refine gx_cV1 lk_Word_19 d_Word_addPart_13 (ct_Word_at hw2 hi31) (Or.inr ⟨_, _, hw2⟩) (by omega) rfl rfl (Nat.le_of_ble_eq_true rfl) ?_
      refine gx_cV1 lk_Word_23 d_Word_addPart_16 (ct_Word_add hw (gx_sm_at hsm2 i) (by omega)) (Or.inr ⟨_, _, hw⟩) (by omega) rfl rfl (Nat.le_of_ble_eq_true rfl) ?_
      refine gx_pop d_Word_addPart_19 rfl ?_
      refine gx_iincN (n := 1) d_Word_addPart_20 rfl (by decide) (Nat.le_of_ble_eq_true rfl) rfl ?_
      refine gx_goto (tgt := 3) d_Word_addPart_23 (by decide) ?_
      refine ih (i + 1) (l ++ [l2.getD i 0]) _ (by omega) (by omega) gx_st_eq (by rw [gx_st_ne hne]; exact hw2) (by omega) (by simp; omega) ?_
      rw [gx_st_st, List.append_assoc, List.singleton_append, ← gx_drop_step (by omega) hb]
      exact hQ
theorem ct_Word_addPart {w : gx_W} {h cap : Nat} {l : List Nat} {h2 cap2 a b : Nat} {l2 : List Nat} (hw : w.1 h = some (gx_bx 0 cap l)) (hw2 : w.1 h2 = some (gx_bx 0 cap2 l2)) (hne : h2 ≠ h) (ha : a < 2 ^ 31) (hb : b ≤ l2.length) (hc : l.length + (b - a) ≤ cap) : gx_Ct M_Word_addPart 2 0 0 [.ref h, .ref h2, .int (nI a), .int (nI b)] w (gx_eq none (gx_st w h (gx_bx 0 cap (l ++ (l2.take b).drop a)))) := by
  refine gx_ct (L := [some (.ref h), some (.ref h2), some (.int (nI a)), some (.int (nI b)), none]) (by decide) (Nat.le_of_ble_eq_true rfl) rfl ?_
  refine gx_iload_n d_Word_addPart_0 rfl ?_
  refine gx_istore d_Word_addPart_1 (Nat.le_of_ble_eq_true rfl) rfl ?_
  exact lp_Word_addPart hne hb (b - a + 1) a l w (by omega) ha hw hw2 (Nat.le_refl _) hc (by exact ⟨rfl, rfl⟩)
theorem d_Word_copy_0 : decode prog_9_method_8_code 0 = .ok (.aload_n 0, 1) := by decide +kernel
theorem d_Word_copy_1 : decode prog_9_method_8_code 1 = .ok (.invokevirtual 27, 3) := by decide +kernel
theorem d_Word_copy_4 : decode prog_9_method_8_code 4 = .ok (.aload_n 0, 1) := by decide +kernel
theorem d_Word_copy_5 : decode prog_9_method_8_code 5 = .ok (.aload_n 1, 1) := by decide +kernel
theorem d_Word_copy_6 : decode prog_9_method_8_code 6 = .ok (.iconst 0, 1) := by decide +kernel
theorem d_Word_copy_7 : decode prog_9_method_8_code 7 = .ok (.aload_n 1, 1) := by decide +kernel
theorem d_Word_copy_8 : decode prog_9_method_8_code 8 = .ok (.invokevirtual 30, 3) := by decide +kernel
theorem d_Word_copy_11 : decode prog_9_method_8_code 11 = .ok (.invokevirtual 34, 3) := by decide +kernel
theorem d_Word_copy_14 : decode prog_9_method_8_code 14 = .ok (.return_, 1) := by decide +kernel
theorem ct_Word_copy {w : gx_W} {h cap : Nat} {l : List Nat} {h2 cap2 : Nat} {l2 : List Nat} (hw : w.1 h = some (gx_bx 0 cap l)) (hw2 : w.1 h2 = some (gx_bx 0 cap2 l2)) (hne : h2 ≠ h) (hc : l2.length ≤ cap) : gx_Ct M_Word_copy 3 0 0 [.ref h, .ref h2] w (gx_eq none (gx_st w h (gx_bx 0 cap l2))) := by
  refine gx_ct (L := [some (.ref h), some (.ref h2)]) (by decide) (Nat.le_of_ble_eq_true rfl) rfl ?_
  refine gx_aload_n d_Word_copy_0 rfl ?_
  refine gx_cV0 lk_Word_27 d_Word_copy_1 (ct_Word_empty hw) (Or.inr ⟨_, _, hw⟩) (by omega) rfl rfl (Nat.le_of_ble_eq_true rfl) ?_
  have hw1 : (gx_st w h (gx_bx 0 cap [])).1 h = some (gx_bx 0 cap []) := gx_st_eq
  have hw3 : (gx_st w h (gx_bx 0 cap [])).1 h2 = some (gx_bx 0 cap2 l2) := by rw [gx_st_ne hne]; exact hw2
  refine gx_aload_n d_Word_copy_4 rfl ?_
  refine gx_aload_n d_Word_copy_5 rfl ?_
  refine gx_iconst d_Word_copy_6 (nI 0) (by decide) ?_
  refine gx_aload_n d_Word_copy_7 rfl ?_
  refine gx_cV1 lk_Word_30 d_Word_copy_8 (ct_Word_size hw3) (Or.inr ⟨_, _, hw3⟩) (by omega) rfl rfl (Nat.le_of_ble_eq_true rfl) ?_
  refine gx_cV0 lk_Word_34 d_Word_copy_11 (ct_Word_addPart (a := 0) (b := l2.length) hw1 hw3 hne (by omega) (Nat.le_refl _) (by simpa using hc)) (Or.inr ⟨_, _, hw1⟩) (by omega) rfl rfl (Nat.le_of_ble_eq_true rfl) ?_
  refine gx_return rfl d_Word_copy_14 ?_
  exact ⟨rfl, by rw [gx_st_st]; simp⟩
theorem d_Word_head_0 : decode prog_9_method_12_code 0 = .ok (.iconst 0, 1) := by decide +kernel
theorem d_Word_head_1 : decode prog_9_method_12_code 1 = .ok (.istore_n 1, 1) := by decide +kernel
theorem d_Word_head_2 : decode prog_9_method_12_code 2 = .ok (.iload_n 1, 1) := by decide +kernel
theorem d_Word_head_3 : decode prog_9_method_12_code 3 = .ok (.aload_n 0, 1) := by decide +kernel
theorem d_Word_head_4 : decode prog_9_method_12_code 4 = .ok (.getfield 15, 3) := by decide +kernel
theorem d_Word_head_7 : decode prog_9_method_12_code 7 = .ok (.if_icmp .ge 22, 3) := by decide +kernel
theorem d_Word_head_10 : decode prog_9_method_12_code 10 = .ok (.aload_n 0, 1) := by decide +kernel
theorem d_Word_head_11 : decode prog_9_method_12_code 11 = .ok (.getfield 9, 3) := by decide +kernel
theorem d_Word_head_14 : decode prog_9_method_12_code 14 = .ok (.iload_n 1, 1) := by decide +kernel
theorem d_Word_head_15 : decode prog_9_method_12_code 15 = .ok (.caload, 1) := by decide +kernel
theorem d_Word_head_16 : decode prog_9_method_12_code 16 = .ok (.bipush 97, 2) := by decide +kernel
theorem d_Word_head_18 : decode prog_9_method_12_code 18 = .ok (.if_icmp .lt 5, 3) := by decide +kernel
theorem d_Word_head_21 : decode prog_9_method_12_code 21 = .ok (.iload_n 1, 1) := by decide +kernel
theorem d_Word_head_22 : decode prog_9_method_12_code 22 = .ok (.ireturn, 1) := by decide +kernel
theorem d_Word_head_23 : decode prog_9_method_12_code 23 = .ok (.iinc 1 1, 3) := by decide +kernel
theorem d_Word_head_26 : decode prog_9_method_12_code 26 = .ok (.goto (-24), 3) := by decide +kernel
theorem d_Word_head_29 : decode prog_9_method_12_code 29 = .ok (.iconst (-1), 1) := by decide +kernel
theorem d_Word_head_30 : decode prog_9_method_12_code 30 = .ok (.ireturn, 1) := by decide +kernel
theorem lp_Word_head {Q : gx_P} {w : gx_W} {h cap k : Nat} {l : List Nat} (hw : w.1 h = some (gx_bx 0 cap l)) (hk : k < l.length) (hk1 : ∀ i, i < k → l.getD i 0 < 97) (hk2 : 97 ≤ l.getD k 0) (hQ : Q.1 (some (.int (nI k))) w) : ∀ (fu : Nat) (i : Nat), k - i < fu → (i ≤ k) → gx_X (fun _ _ => True) M_Word_head 1 Q 2 [some (.ref h), some (.int (nI i))] [] w (0, 0) := by
  intro fu
  induction fu with
  | zero => intro i hfu; exact absurd hfu (Nat.not_lt_zero _)
  | succ fu ih =>
    intro i hfu hi
    refine gx_bsz hw (fun hlen hcap hsm => ?_)
    have hs := gx_sm_at hsm i
    refine gx_iload_n d_Word_head_2 rfl ?_
    refine gx_aload_n d_Word_head_3 rfl ?_
    refine gx_bln fl_Word_15 d_Word_head_4 hw ?_
    refine gx_icmp_geN (by omega) (by omega) (tgt := 29) d_Word_head_7 (by decide) (fun h7 => ?_) (fun h7 => ?_)
    · exact absurd h7 (by omega)
    · refine gx_aload_n d_Word_head_10 rfl ?_
      refine gx_bar fl_Word_9 d_Word_head_11 hw ?_
      refine gx_iload_n d_Word_head_14 rfl ?_
      refine gx_bcal d_Word_head_15 hw (by omega) ?_
      refine gx_bipush d_Word_head_16 (nI 97) (by decide) ?_
      refine gx_icmp_ltN (by omega) (by omega) (tgt := 23) d_Word_head_18 (by decide) (fun h18 => ?_) (fun h18 => ?_)
      · have hik : i ≠ k := fun g => by subst g; omega
        refine gx_iincN (n := 1) d_Word_head_23 rfl (by decide) (Nat.le_of_ble_eq_true rfl) rfl ?_
        refine gx_goto (tgt := 2) d_Word_head_26 (by decide) ?_
        exact ih (i + 1) (by omega) (by omega)
      · have hik : i = k := Nat.le_antisymm hi (Nat.le_of_not_lt fun g => h18 (hk1 i g))
        subst hik
        refine gx_iload_n d_Word_head_21 rfl ?_
        refine gx_ireturn rfl d_Word_head_22 ?_
        exact hQ
theorem ct_Word_head {w : gx_W} {h cap : Nat} {l : List Nat} {k : Nat} (hw : w.1 h = some (gx_bx 0 cap l)) (hk : k < l.length) (hk1 : ∀ i, i < k → l.getD i 0 < 97) (hk2 : 97 ≤ l.getD k 0) : gx_Ct M_Word_head 1 0 0 [.ref h] w (gx_eq (some (.int (nI k))) w) := by
  refine gx_ct (L := [some (.ref h), none]) (by decide) (Nat.le_of_ble_eq_true rfl) rfl ?_
  refine gx_iconst d_Word_head_0 (nI 0) (by decide) ?_
  refine gx_istore_n d_Word_head_1 (Nat.le_of_ble_eq_true rfl) rfl ?_
  exact lp_Word_head hw hk hk1 hk2 (by exact ⟨rfl, rfl⟩) (k + 1) 0 (by omega) (Nat.zero_le _)
theorem d_Word_agrees_0 : decode prog_9_method_10_code 0 = .ok (.aload_n 0, 1) := by decide +kernel
theorem d_Word_agrees_1 : decode prog_9_method_10_code 1 = .ok (.getfield 15, 3) := by decide +kernel
theorem d_Word_agrees_4 : decode prog_9_method_10_code 4 = .ok (.aload_n 1, 1) := by decide +kernel
theorem d_Word_agrees_5 : decode prog_9_method_10_code 5 = .ok (.getfield 15, 3) := by decide +kernel
theorem d_Word_agrees_8 : decode prog_9_method_10_code 8 = .ok (.invokestatic 38, 3) := by decide +kernel
theorem d_Word_agrees_11 : decode prog_9_method_10_code 11 = .ok (.istore_n 2, 1) := by decide +kernel
theorem d_Word_agrees_12 : decode prog_9_method_10_code 12 = .ok (.iconst 0, 1) := by decide +kernel
theorem d_Word_agrees_13 : decode prog_9_method_10_code 13 = .ok (.istore_n 3, 1) := by decide +kernel
theorem d_Word_agrees_14 : decode prog_9_method_10_code 14 = .ok (.iload_n 3, 1) := by decide +kernel
theorem d_Word_agrees_15 : decode prog_9_method_10_code 15 = .ok (.iload_n 2, 1) := by decide +kernel
theorem d_Word_agrees_16 : decode prog_9_method_10_code 16 = .ok (.if_icmp .ge 24, 3) := by decide +kernel
theorem d_Word_agrees_19 : decode prog_9_method_10_code 19 = .ok (.aload_n 0, 1) := by decide +kernel
theorem d_Word_agrees_20 : decode prog_9_method_10_code 20 = .ok (.iload_n 3, 1) := by decide +kernel
theorem d_Word_agrees_21 : decode prog_9_method_10_code 21 = .ok (.invokevirtual 19, 3) := by decide +kernel
theorem d_Word_agrees_24 : decode prog_9_method_10_code 24 = .ok (.aload_n 1, 1) := by decide +kernel
theorem d_Word_agrees_25 : decode prog_9_method_10_code 25 = .ok (.iload_n 3, 1) := by decide +kernel
theorem d_Word_agrees_26 : decode prog_9_method_10_code 26 = .ok (.invokevirtual 19, 3) := by decide +kernel
theorem d_Word_agrees_29 : decode prog_9_method_10_code 29 = .ok (.if_icmp .eq 5, 3) := by decide +kernel
theorem d_Word_agrees_32 : decode prog_9_method_10_code 32 = .ok (.iconst 0, 1) := by decide +kernel
theorem d_Word_agrees_33 : decode prog_9_method_10_code 33 = .ok (.ireturn, 1) := by decide +kernel
theorem d_Word_agrees_34 : decode prog_9_method_10_code 34 = .ok (.iinc 3 1, 3) := by decide +kernel
theorem d_Word_agrees_37 : decode prog_9_method_10_code 37 = .ok (.goto (-23), 3) := by decide +kernel
theorem d_Word_agrees_40 : decode prog_9_method_10_code 40 = .ok (.iconst 1, 1) := by decide +kernel
theorem d_Word_agrees_41 : decode prog_9_method_10_code 41 = .ok (.ireturn, 1) := by decide +kernel
theorem lp_Word_agrees {Q : gx_P} {w : gx_W} {h h2 cap cap2 : Nat} {l l2 : List Nat} (hw : w.1 h = some (gx_bx 0 cap l)) (hw2 : w.1 h2 = some (gx_bx 0 cap2 l2)) : ∀ (fu : Nat) (i : Nat), l.length - i < fu → (i ≤ min l.length l2.length) → (Q.1 (some (.int (nI (sp_agb (l.drop i) (l2.drop i)).toNat))) w) → gx_X (fun _ _ => True) M_Word_agrees 2 Q 14 [some (.ref h), some (.ref h2), some (.int (nI (min l.length l2.length))), some (.int (nI i))] [] w (0, 0) := by
  intro fu
  induction fu with
  | zero => intro i hfu; exact absurd hfu (Nat.not_lt_zero _)
  | succ fu ih =>
    intro i hfu hi hQ
    refine gx_bsz hw (fun hlen hcap hsm => ?_)
    refine gx_bsz hw2 (fun hlen2 hcap2 hsm2 => ?_)
    have hs := gx_sm_at hsm i
    have hs2 := gx_sm_at hsm2 i
    refine gx_iload_n d_Word_agrees_14 rfl ?_
    refine gx_iload_n d_Word_agrees_15 rfl ?_
    refine gx_icmp_geN (by omega) (by omega) (tgt := 40) d_Word_agrees_16 (by decide) (fun h16 => ?_) (fun h16 => ?_)
    · refine gx_iconst d_Word_agrees_40 (nI 1) (by decide) ?_
      refine gx_zreturn rfl gx_nz1 d_Word_agrees_41 ?_
      have e : sp_agb (l.drop i) (l2.drop i) = true := by
        rcases (show l.length ≤ i ∨ l2.length ≤ i by omega) with g | g
        · rw [List.drop_eq_nil_of_le g]; exact sp_agb_nil
        · rw [List.drop_eq_nil_of_le g]; exact sp_agb_nil2
      rw [e] at hQ
      exact hQ
    · refine gx_aload_n d_Word_agrees_19 rfl ?_
      refine gx_iload_n d_Word_agrees_20 rfl ?_
      refine gx_cV1 lk_Word_19 d_Word_agrees_21 (ct_Word_at hw (by omega)) (Or.inr ⟨_, _, hw⟩) (by omega) rfl rfl (Nat.le_of_ble_eq_true rfl) ?_
      refine gx_aload_n d_Word_agrees_24 rfl ?_
      refine gx_iload_n d_Word_agrees_25 rfl ?_
      refine gx_cV1 lk_Word_19 d_Word_agrees_26 (ct_Word_at hw2 (by omega)) (Or.inr ⟨_, _, hw2⟩) (by omega) rfl rfl (Nat.le_of_ble_eq_true rfl) ?_
      refine gx_icmp_eqN (by omega) (by omega) (tgt := 34) d_Word_agrees_29 (by decide) (fun h29 => ?_) (fun h29 => ?_)
      · refine gx_iincN (n := 1) d_Word_agrees_34 rfl (by decide) (Nat.le_of_ble_eq_true rfl) rfl ?_
        refine gx_goto (tgt := 14) d_Word_agrees_37 (by decide) ?_
        refine ih (i + 1) (by omega) (by omega) ?_
        rw [gx_drop_cons (show i < l.length by omega), gx_drop_cons (show i < l2.length by omega)] at hQ
        simp only [sp_agb, beq_iff_eq.mpr h29, Bool.true_and] at hQ
        exact hQ
      · refine gx_iconst d_Word_agrees_32 (nI 0) (by decide) ?_
        refine gx_zreturn rfl gx_nz0 d_Word_agrees_33 ?_
        rw [gx_drop_cons (show i < l.length by omega), gx_drop_cons (show i < l2.length by omega)] at hQ
        simp only [sp_agb, beq_eq_false_iff_ne.mpr h29, Bool.false_and] at hQ
        exact hQ
theorem gx_mnI {x y : Nat} (hx : x < 2 ^ 31) (hy : y < 2 ^ 31) : (if nI y < nI x then nI y else nI x) = nI (min x y) := by
  by_cases h : y < x
  · rw [if_pos (nI_lt h hx), Nat.min_eq_right (by omega)]
  · rw [if_neg (nI_nlt (by omega) hy), Nat.min_eq_left (by omega)]
theorem gx_mxI {x y : Nat} (hx : x < 2 ^ 31) (hy : y < 2 ^ 31) : (if nI x < nI y then nI y else nI x) = nI (max x y) := by
  by_cases h : x < y
  · rw [if_pos (nI_lt h hy), Nat.max_eq_right (by omega)]
  · rw [if_neg (nI_nlt (by omega) hx), Nat.max_eq_left (by omega)]
theorem ct_Word_agrees {w : gx_W} {h cap : Nat} {l : List Nat} {h2 cap2 : Nat} {l2 : List Nat} (hw : w.1 h = some (gx_bx 0 cap l)) (hw2 : w.1 h2 = some (gx_bx 0 cap2 l2)) : gx_Ct M_Word_agrees 2 0 0 [.ref h, .ref h2] w (gx_eq (some (.int (nI (sp_agb l l2).toNat))) w) := by
  refine gx_ct (L := [some (.ref h), some (.ref h2), none, none]) (by decide) (Nat.le_of_ble_eq_true rfl) rfl ?_
  refine gx_bsz hw (fun hlen hcap hsm => ?_)
  refine gx_bsz hw2 (fun hlen2 hcap2 hsm2 => ?_)
  refine gx_aload_n d_Word_agrees_0 rfl ?_
  refine gx_bln fl_Word_15 d_Word_agrees_1 hw ?_
  refine gx_aload_n d_Word_agrees_4 rfl ?_
  refine gx_bln fl_Word_15 d_Word_agrees_5 hw2 ?_
  refine gx_min lk_Word_38 (by omega) (Nat.le_of_ble_eq_true rfl) d_Word_agrees_8 ?_
  refine gx_top (gx_mnI (by omega) (by omega)) ?_
  refine gx_istore_n d_Word_agrees_11 (Nat.le_of_ble_eq_true rfl) rfl ?_
  refine gx_iconst d_Word_agrees_12 (nI 0) (by decide) ?_
  refine gx_istore_n d_Word_agrees_13 (Nat.le_of_ble_eq_true rfl) rfl ?_
  exact lp_Word_agrees hw hw2 (l.length + 1) 0 (by omega) (Nat.zero_le _) (by exact ⟨rfl, rfl⟩)
theorem d_Word_same_0 : decode prog_9_method_11_code 0 = .ok (.aload_n 0, 1) := by decide +kernel
theorem d_Word_same_1 : decode prog_9_method_11_code 1 = .ok (.getfield 15, 3) := by decide +kernel
theorem d_Word_same_4 : decode prog_9_method_11_code 4 = .ok (.aload_n 1, 1) := by decide +kernel
theorem d_Word_same_5 : decode prog_9_method_11_code 5 = .ok (.getfield 15, 3) := by decide +kernel
theorem d_Word_same_8 : decode prog_9_method_11_code 8 = .ok (.if_icmp .ne 15, 3) := by decide +kernel
theorem d_Word_same_11 : decode prog_9_method_11_code 11 = .ok (.aload_n 0, 1) := by decide +kernel
theorem d_Word_same_12 : decode prog_9_method_11_code 12 = .ok (.aload_n 1, 1) := by decide +kernel
theorem d_Word_same_13 : decode prog_9_method_11_code 13 = .ok (.invokevirtual 44, 3) := by decide +kernel
theorem d_Word_same_16 : decode prog_9_method_11_code 16 = .ok (.ifCond .eq 7, 3) := by decide +kernel
theorem d_Word_same_19 : decode prog_9_method_11_code 19 = .ok (.iconst 1, 1) := by decide +kernel
theorem d_Word_same_20 : decode prog_9_method_11_code 20 = .ok (.goto 4, 3) := by decide +kernel
theorem d_Word_same_23 : decode prog_9_method_11_code 23 = .ok (.iconst 0, 1) := by decide +kernel
theorem d_Word_same_24 : decode prog_9_method_11_code 24 = .ok (.ireturn, 1) := by decide +kernel
theorem ct_Word_same {w : gx_W} {h cap : Nat} {l : List Nat} {h2 cap2 : Nat} {l2 : List Nat} (hw : w.1 h = some (gx_bx 0 cap l)) (hw2 : w.1 h2 = some (gx_bx 0 cap2 l2)) : gx_Ct M_Word_same 3 0 0 [.ref h, .ref h2] w (gx_eq (some (.int (nI (decide (l = l2)).toNat))) w) := by
  refine gx_ct (L := [some (.ref h), some (.ref h2)]) (by decide) (Nat.le_of_ble_eq_true rfl) rfl ?_
  refine gx_bsz hw (fun hlen hcap hsm => ?_)
  refine gx_bsz hw2 (fun hlen2 hcap2 hsm2 => ?_)
  refine gx_aload_n d_Word_same_0 rfl ?_
  refine gx_bln fl_Word_15 d_Word_same_1 hw ?_
  refine gx_aload_n d_Word_same_4 rfl ?_
  refine gx_bln fl_Word_15 d_Word_same_5 hw2 ?_
  refine gx_icmp_neN (by omega) (by omega) (tgt := 23) d_Word_same_8 (by decide) (fun h8 => ?_) (fun h8 => ?_)
  · have e2 : ¬ l = l2 := fun g => h8 (by rw [g])
    rw [decide_eq_false e2]
    refine gx_iconst d_Word_same_23 (nI 0) (by decide) ?_
    refine gx_zreturn rfl (by decide) d_Word_same_24 ?_
    exact ⟨rfl, rfl⟩
  · refine gx_aload_n d_Word_same_11 rfl ?_
    refine gx_aload_n d_Word_same_12 rfl ?_
    refine gx_cV1 lk_Word_44 d_Word_same_13 (ct_Word_agrees hw hw2) (Or.inr ⟨_, _, hw⟩) (by omega) rfl rfl (Nat.le_of_ble_eq_true rfl) ?_
    have hbb : (sp_agb l l2).toNat < 2 ^ 31 := Nat.lt_of_le_of_lt (Bool.toNat_le _) (by decide)
    have hiff := sp_agb_eq h8
    refine gx_if_eqN (by omega) (tgt := 23) d_Word_same_16 (by decide) (fun h16 => ?_) (fun h16 => ?_)
    · have e : sp_agb l l2 = false := by cases hq : sp_agb l l2 <;> simp_all
      have e2 : ¬ l = l2 := fun g => by rw [hiff.mpr g] at e; cases e
      rw [decide_eq_false e2]
      refine gx_iconst d_Word_same_23 (nI 0) (by decide) ?_
      refine gx_zreturn rfl (by decide) d_Word_same_24 ?_
      exact ⟨rfl, rfl⟩
    · have e : sp_agb l l2 = true := by cases hq : sp_agb l l2 <;> simp_all
      rw [decide_eq_true (hiff.mp e)]
      refine gx_iconst d_Word_same_19 (nI 1) (by decide) ?_
      refine gx_goto (tgt := 24) d_Word_same_20 (by decide) ?_
      refine gx_zreturn rfl (by decide) d_Word_same_24 ?_
      exact ⟨rfl, rfl⟩
theorem d_Word_remove_0 : decode prog_9_method_9_code 0 = .ok (.iload_n 1, 1) := by decide +kernel
theorem d_Word_remove_1 : decode prog_9_method_9_code 1 = .ok (.ifCond .lt 11, 3) := by decide +kernel
theorem d_Word_remove_4 : decode prog_9_method_9_code 4 = .ok (.iload_n 1, 1) := by decide +kernel
theorem d_Word_remove_5 : decode prog_9_method_9_code 5 = .ok (.aload_n 0, 1) := by decide +kernel
theorem d_Word_remove_6 : decode prog_9_method_9_code 6 = .ok (.getfield 15, 3) := by decide +kernel
theorem d_Word_remove_9 : decode prog_9_method_9_code 9 = .ok (.if_icmp .lt 4, 3) := by decide +kernel
theorem d_Word_remove_12 : decode prog_9_method_9_code 12 = .ok (.return_, 1) := by decide +kernel
theorem d_Word_remove_13 : decode prog_9_method_9_code 13 = .ok (.iload_n 1, 1) := by decide +kernel
theorem d_Word_remove_14 : decode prog_9_method_9_code 14 = .ok (.iconst 1, 1) := by decide +kernel
theorem d_Word_remove_15 : decode prog_9_method_9_code 15 = .ok (.iadd, 1) := by decide +kernel
theorem d_Word_remove_16 : decode prog_9_method_9_code 16 = .ok (.istore_n 2, 1) := by decide +kernel
theorem d_Word_remove_17 : decode prog_9_method_9_code 17 = .ok (.iload_n 2, 1) := by decide +kernel
theorem d_Word_remove_18 : decode prog_9_method_9_code 18 = .ok (.aload_n 0, 1) := by decide +kernel
theorem d_Word_remove_19 : decode prog_9_method_9_code 19 = .ok (.getfield 15, 3) := by decide +kernel
theorem d_Word_remove_22 : decode prog_9_method_9_code 22 = .ok (.if_icmp .ge 23, 3) := by decide +kernel
theorem d_Word_remove_25 : decode prog_9_method_9_code 25 = .ok (.aload_n 0, 1) := by decide +kernel
theorem d_Word_remove_26 : decode prog_9_method_9_code 26 = .ok (.getfield 9, 3) := by decide +kernel
theorem d_Word_remove_29 : decode prog_9_method_9_code 29 = .ok (.iload_n 2, 1) := by decide +kernel
theorem d_Word_remove_30 : decode prog_9_method_9_code 30 = .ok (.iconst 1, 1) := by decide +kernel
theorem d_Word_remove_31 : decode prog_9_method_9_code 31 = .ok (.isub, 1) := by decide +kernel
theorem d_Word_remove_32 : decode prog_9_method_9_code 32 = .ok (.aload_n 0, 1) := by decide +kernel
theorem d_Word_remove_33 : decode prog_9_method_9_code 33 = .ok (.getfield 9, 3) := by decide +kernel
theorem d_Word_remove_36 : decode prog_9_method_9_code 36 = .ok (.iload_n 2, 1) := by decide +kernel
theorem d_Word_remove_37 : decode prog_9_method_9_code 37 = .ok (.caload, 1) := by decide +kernel
theorem d_Word_remove_38 : decode prog_9_method_9_code 38 = .ok (.castore, 1) := by decide +kernel
theorem d_Word_remove_39 : decode prog_9_method_9_code 39 = .ok (.iinc 2 1, 3) := by decide +kernel
theorem d_Word_remove_42 : decode prog_9_method_9_code 42 = .ok (.goto (-25), 3) := by decide +kernel
theorem d_Word_remove_45 : decode prog_9_method_9_code 45 = .ok (.aload_n 0, 1) := by decide +kernel
theorem d_Word_remove_46 : decode prog_9_method_9_code 46 = .ok (.dup, 1) := by decide +kernel
theorem d_Word_remove_47 : decode prog_9_method_9_code 47 = .ok (.getfield 15, 3) := by decide +kernel
theorem d_Word_remove_50 : decode prog_9_method_9_code 50 = .ok (.iconst 1, 1) := by decide +kernel
theorem d_Word_remove_51 : decode prog_9_method_9_code 51 = .ok (.isub, 1) := by decide +kernel
theorem d_Word_remove_52 : decode prog_9_method_9_code 52 = .ok (.putfield 15, 3) := by decide +kernel
theorem d_Word_remove_55 : decode prog_9_method_9_code 55 = .ok (.return_, 1) := by decide +kernel
theorem lp_Word_remove {Q : gx_P} {w : gx_W} {h cap p : Nat} {l : List Nat} (h0 : w.1 (h + 1) = none) (hp : p < l.length) (hlen : l.length ≤ cap) (hcap : cap < 65536) (hsm : gx_sm l) (hQ : Q.1 none (gx_st w h (gx_bx 0 cap (l.eraseIdx p)))) : ∀ (fu : Nat) (i : Nat) (f : Nat → Int32), l.length - i < fu → (p < i) → (i ≤ l.length) → (∀ j, j < p → f j = nI (l.getD j 0)) → (∀ j, p ≤ j → j + 1 < i → f j = nI (l.getD (j + 1) 0)) → (∀ j, i ≤ j → j < l.length → f j = nI (l.getD j 0)) → gx_X (fun _ _ => True) M_Word_remove 1 Q 17 [some (.ref h), some (.int (nI p)), some (.int (nI i))] [] (gx_raw w h 0 cap l.length f) (0, 0) := by
  intro fu
  induction fu with
  | zero => intro i f hfu; exact absurd hfu (Nat.not_lt_zero _)
  | succ fu ih =>
    intro i f hfu hi hil hg1 hg2 hg3
    refine gx_iload_n d_Word_remove_17 rfl ?_
    refine gx_aload_n d_Word_remove_18 rfl ?_
    refine gx_get fl_Word_15 d_Word_remove_19 gx_raw_h rfl ?_
    refine gx_icmp_geN (by omega) (by omega) (tgt := 45) d_Word_remove_22 (by decide) (fun h22 => ?_) (fun h22 => ?_)
    · refine gx_aload_n d_Word_remove_45 rfl ?_
      refine gx_dup d_Word_remove_46 rfl ?_
      refine gx_get fl_Word_15 d_Word_remove_47 gx_raw_h rfl ?_
      refine gx_iconst d_Word_remove_50 (nI 1) (by decide) ?_
      refine gx_isubN (by omega) d_Word_remove_51 ?_
      refine gx_bput fp_Word_15 d_Word_remove_52 ?_
      refine gx_box (l.eraseIdx p) h0 (by rw [List.length_eraseIdx_of_lt hp]) (by rw [List.length_eraseIdx_of_lt hp]; omega) hcap (gx_sm_er hsm) (fun j hj => ?_) ?_
      · rw [List.length_eraseIdx_of_lt hp] at hj
        rw [gx_gd_er]
        by_cases hjp : j < p
        · rw [if_pos hjp]; exact hg1 j hjp
        · rw [if_neg hjp]; exact hg2 j (by omega) (by omega)
      refine gx_return rfl d_Word_remove_55 ?_
      exact hQ
    · refine gx_aload_n d_Word_remove_25 rfl ?_
      refine gx_get fl_Word_9 d_Word_remove_26 gx_raw_h rfl ?_
      refine gx_iload_n d_Word_remove_29 rfl ?_
      refine gx_iconst d_Word_remove_30 (nI 1) (by decide) ?_
      refine gx_isubN (by omega) d_Word_remove_31 ?_
      refine gx_aload_n d_Word_remove_32 rfl ?_
      refine gx_get fl_Word_9 d_Word_remove_33 gx_raw_h rfl ?_
      refine gx_iload_n d_Word_remove_36 rfl ?_
      refine gx_cald d_Word_remove_37 gx_raw_h1 (by omega) (by omega) ?_
      refine gx_bcast d_Word_remove_38 (by omega) (by omega) (by rw [hg3 i (by omega) (by omega)]; exact gx_nc (gx_sm_at hsm i)) ?_
      refine gx_iincN (n := 1) d_Word_remove_39 rfl (by decide) (Nat.le_of_ble_eq_true rfl) rfl ?_
      refine gx_goto (tgt := 17) d_Word_remove_42 (by decide) ?_
      refine ih (i + 1) _ (by omega) (by omega) (by omega) (fun j hj => ?_) (fun j hj1 hj2 => ?_) (fun j hj1 hj2 => ?_)
      · rw [pk_un (by omega)]; exact hg1 j hj
      · by_cases e : j = i - 1
        · subst e; rw [pk_us, hg3 i (Nat.le_refl _) (by omega), show i - 1 + 1 = i by omega]
        · rw [pk_un e]; exact hg2 j hj1 (by omega)
      · rw [pk_un (by omega)]; exact hg3 j (by omega) hj2
theorem ct_Word_remove {w : gx_W} {h cap : Nat} {l : List Nat} {p : Nat} (hw : w.1 h = some (gx_bx 0 cap l)) (hp : p < l.length) : gx_Ct M_Word_remove 1 0 0 [.ref h, .int (nI p)] w (gx_eq none (gx_st w h (gx_bx 0 cap (l.eraseIdx p)))) := by
  refine gx_ct (L := [some (.ref h), some (.int (nI p)), none]) (by decide) (Nat.le_of_ble_eq_true rfl) rfl ?_
  refine gx_unbox hw (fun f hf hlen hcap hsm h0 => ?_)
  refine gx_iload_n d_Word_remove_0 rfl ?_
  refine gx_if_ltN (by omega) (tgt := 12) d_Word_remove_1 (by decide) ?_
  refine gx_iload_n d_Word_remove_4 rfl ?_
  refine gx_aload_n d_Word_remove_5 rfl ?_
  refine gx_get fl_Word_15 d_Word_remove_6 gx_raw_h rfl ?_
  refine gx_icmp_ltN (by omega) (by omega) (tgt := 13) d_Word_remove_9 (by decide) (fun h9 => ?_) (fun h9 => ?_)
  · refine gx_iload_n d_Word_remove_13 rfl ?_
    refine gx_iconst d_Word_remove_14 (nI 1) (by decide) ?_
    refine gx_iaddN d_Word_remove_15 ?_
    refine gx_istore_n d_Word_remove_16 (Nat.le_of_ble_eq_true rfl) rfl ?_
    exact lp_Word_remove h0 hp hlen hcap hsm (by exact ⟨rfl, rfl⟩) (l.length + 1) (p + 1) f (by omega) (by omega) (by omega) (fun j hj => hf j (by omega)) (fun j h1 h2 => absurd h2 (by omega)) (fun j h1 h2 => hf j h2)
  · exact absurd hp h9
theorem d_Word_init_0 : decode prog_9_method_1_code 0 = .ok (.aload_n 0, 1) := by decide +kernel
theorem d_Word_init_1 : decode prog_9_method_1_code 1 = .ok (.invokespecial 3, 3) := by decide +kernel
theorem d_Word_init_4 : decode prog_9_method_1_code 4 = .ok (.aload_n 0, 1) := by decide +kernel
theorem d_Word_init_5 : decode prog_9_method_1_code 5 = .ok (.iload_n 1, 1) := by decide +kernel
theorem d_Word_init_6 : decode prog_9_method_1_code 6 = .ok (.newarray .char, 2) := by decide +kernel
theorem d_Word_init_8 : decode prog_9_method_1_code 8 = .ok (.putfield 9, 3) := by decide +kernel
theorem d_Word_init_11 : decode prog_9_method_1_code 11 = .ok (.return_, 1) := by decide +kernel
theorem ct_Word_init {w : gx_W} {h cap : Nat} (hw : w.1 h = some (gx_ob 0 [.null, .int 0])) (hh : w.2 = h + 1) (hcap : cap < 65536) : gx_Ct M_Word_init 1 (0 + 1) (0 + cap) [.ref h, .int (nI cap)] w (gx_eq none (gx_st (gx_gr w 1) h (gx_bx 0 cap []))) := by
  refine gx_ct (L := [some (.ref h), some (.int (nI cap))]) (by decide) (Nat.le_of_ble_eq_true rfl) rfl ?_
  refine gx_fr (fun hfr => ?_)
  refine gx_aload_n d_Word_init_0 rfl ?_
  refine gx_objInit lk_Word_3 (by omega) (Nat.le_of_ble_eq_true rfl) d_Word_init_1 ?_
  refine gx_aload_n d_Word_init_4 rfl ?_
  refine gx_iload_n d_Word_init_5 rfl ?_
  refine gx_newc hcap d_Word_init_6 ?_
  refine gx_put fp_Word_9 (fun _ => rfl) d_Word_init_8 (fs := [.null, .int 0]) (by simp only [gx_al]; rw [if_neg (by omega)]; exact hw) rfl rfl (by decide) ?_
  refine gx_w (w' := gx_raw (gx_gr w 1) h 0 cap 0 (fun _ => 0)) ?_ ?_
  · rw [hh]
    unfold gx_st gx_al gx_raw gx_gr
    rw [hh]
    refine Prod.ext ?_ rfl
    funext q
    by_cases e0 : q = h
    · subst e0; simp; rfl
    · by_cases e1 : q = h + 1
      · subst e1; simp; rfl
      · simp [e0, e1]
  refine gx_box [] (by show w.1 (h + 1) = none; exact hfr _ (by omega)) rfl (Nat.zero_le _) hcap gx_sm_nil gx_fn_nil ?_
  refine gx_return rfl d_Word_init_11 ?_
  exact ⟨rfl, rfl⟩
end
section
/-! Row: its methods -/
theorem d_Row_size_0 : decode prog_6_method_2_code 0 = .ok (.aload_n 0, 1) := by decide +kernel
theorem d_Row_size_1 : decode prog_6_method_2_code 1 = .ok (.getfield 15, 3) := by decide +kernel
theorem d_Row_size_4 : decode prog_6_method_2_code 4 = .ok (.ireturn, 1) := by decide +kernel
theorem ct_Row_size {w : gx_W} {h cap : Nat} {l : List Nat} (hw : w.1 h = some (gx_bx 1 cap l)) : gx_Ct M_Row_size 1 0 0 [.ref h] w (gx_eq (some (.int (nI l.length))) w) := by
  refine gx_ct (L := [some (.ref h)]) (by decide) (Nat.le_of_ble_eq_true rfl) rfl ?_
  refine gx_aload_n d_Row_size_0 rfl ?_
  refine gx_bln fl_Row_15 d_Row_size_1 hw ?_
  refine gx_ireturn rfl d_Row_size_4 ?_
  exact ⟨rfl, rfl⟩
theorem d_Row_ask_0 : decode prog_6_method_3_code 0 = .ok (.iload_n 1, 1) := by decide +kernel
theorem d_Row_ask_1 : decode prog_6_method_3_code 1 = .ok (.iconst (-1), 1) := by decide +kernel
theorem d_Row_ask_2 : decode prog_6_method_3_code 2 = .ok (.if_icmp .ne 8, 3) := by decide +kernel
theorem d_Row_ask_5 : decode prog_6_method_3_code 5 = .ok (.aload_n 0, 1) := by decide +kernel
theorem d_Row_ask_6 : decode prog_6_method_3_code 6 = .ok (.getfield 15, 3) := by decide +kernel
theorem d_Row_ask_9 : decode prog_6_method_3_code 9 = .ok (.ireturn, 1) := by decide +kernel
theorem d_Row_ask_10 : decode prog_6_method_3_code 10 = .ok (.iload_n 1, 1) := by decide +kernel
theorem d_Row_ask_11 : decode prog_6_method_3_code 11 = .ok (.ifCond .lt 20, 3) := by decide +kernel
theorem d_Row_ask_14 : decode prog_6_method_3_code 14 = .ok (.iload_n 1, 1) := by decide +kernel
theorem d_Row_ask_15 : decode prog_6_method_3_code 15 = .ok (.aload_n 0, 1) := by decide +kernel
theorem d_Row_ask_16 : decode prog_6_method_3_code 16 = .ok (.getfield 15, 3) := by decide +kernel
theorem d_Row_ask_19 : decode prog_6_method_3_code 19 = .ok (.if_icmp .ge 12, 3) := by decide +kernel
theorem d_Row_ask_22 : decode prog_6_method_3_code 22 = .ok (.aload_n 0, 1) := by decide +kernel
theorem d_Row_ask_23 : decode prog_6_method_3_code 23 = .ok (.getfield 9, 3) := by decide +kernel
theorem d_Row_ask_26 : decode prog_6_method_3_code 26 = .ok (.iload_n 1, 1) := by decide +kernel
theorem d_Row_ask_27 : decode prog_6_method_3_code 27 = .ok (.iaload, 1) := by decide +kernel
theorem d_Row_ask_28 : decode prog_6_method_3_code 28 = .ok (.goto 4, 3) := by decide +kernel
theorem d_Row_ask_31 : decode prog_6_method_3_code 31 = .ok (.iconst (-1), 1) := by decide +kernel
theorem d_Row_ask_32 : decode prog_6_method_3_code 32 = .ok (.ireturn, 1) := by decide +kernel
theorem ct_Row_ask {w : gx_W} {h cap : Nat} {l : List Nat} {i : Int32} (hw : w.1 h = some (gx_bx 1 cap l)) : gx_Ct M_Row_ask 1 0 0 [.ref h, .int i] w (gx_eq (some (.int (sp_ask l i))) w) := by
  refine gx_ct (L := [some (.ref h), some (.int i)]) (by decide) (Nat.le_of_ble_eq_true rfl) rfl ?_
  refine gx_bsz hw (fun hlen hcap hsm => ?_)
  refine gx_iload_n d_Row_ask_0 rfl ?_
  refine gx_iconst d_Row_ask_1 (-1) (by decide) ?_
  refine gx_icmp_ne (tgt := 10) d_Row_ask_2 (by decide) (fun h2 => ?_) (fun h2 => ?_)
  · refine gx_iload_n d_Row_ask_10 rfl ?_
    refine gx_if_lt (tgt := 31) d_Row_ask_11 (by decide) (fun h11 => ?_) (fun h11 => ?_)
    · rw [sp_ask_lt h2 h11]
      refine gx_iconst d_Row_ask_31 (-1) (by decide) ?_
      refine gx_ireturn rfl d_Row_ask_32 ?_
      exact ⟨rfl, rfl⟩
    · refine gx_iload_n d_Row_ask_14 rfl ?_
      refine gx_aload_n d_Row_ask_15 rfl ?_
      refine gx_bln fl_Row_15 d_Row_ask_16 hw ?_
      refine gx_icmp_ge (tgt := 31) d_Row_ask_19 (by decide) (fun h19 => ?_) (fun h19 => ?_)
      · rw [sp_ask_ge h2 h19]
        refine gx_iconst d_Row_ask_31 (-1) (by decide) ?_
        refine gx_ireturn rfl d_Row_ask_32 ?_
        exact ⟨rfl, rfl⟩
      · obtain ⟨j, hj, rfl⟩ := nI_of h11
        have hj2 : j < l.length := Nat.lt_of_not_le (fun g => h19 (nI_le g hj))
        rw [sp_ask_in hj2 (by omega)]
        refine gx_aload_n d_Row_ask_22 rfl ?_
        refine gx_bar fl_Row_9 d_Row_ask_23 hw ?_
        refine gx_iload_n d_Row_ask_26 rfl ?_
        refine gx_bial d_Row_ask_27 hw hj2 ?_
        refine gx_goto (tgt := 32) d_Row_ask_28 (by decide) ?_
        refine gx_ireturn rfl d_Row_ask_32 ?_
        exact ⟨rfl, rfl⟩
  · subst h2
    rw [sp_ask_m1]
    refine gx_aload_n d_Row_ask_5 rfl ?_
    refine gx_bln fl_Row_15 d_Row_ask_6 hw ?_
    refine gx_ireturn rfl d_Row_ask_9 ?_
    exact ⟨rfl, rfl⟩
theorem d_Row_empty_0 : decode prog_6_method_4_code 0 = .ok (.aload_n 0, 1) := by decide +kernel
theorem d_Row_empty_1 : decode prog_6_method_4_code 1 = .ok (.iconst 0, 1) := by decide +kernel
theorem d_Row_empty_2 : decode prog_6_method_4_code 2 = .ok (.putfield 15, 3) := by decide +kernel
theorem d_Row_empty_5 : decode prog_6_method_4_code 5 = .ok (.return_, 1) := by decide +kernel
theorem ct_Row_empty {w : gx_W} {h cap : Nat} {l : List Nat} (hw : w.1 h = some (gx_bx 1 cap l)) : gx_Ct M_Row_empty 1 0 0 [.ref h] w (gx_eq none (gx_st w h (gx_bx 1 cap []))) := by
  refine gx_ct (L := [some (.ref h)]) (by decide) (Nat.le_of_ble_eq_true rfl) rfl ?_
  refine gx_unbox hw (fun f hf hlen hcap hsm h0 => ?_)
  refine gx_aload_n d_Row_empty_0 rfl ?_
  refine gx_iconst d_Row_empty_1 (nI 0) (by decide) ?_
  refine gx_bput (n' := 0) fp_Row_15 d_Row_empty_2 ?_
  refine gx_box [] h0 rfl (Nat.zero_le _) hcap gx_sm_nil gx_fn_nil ?_
  refine gx_return rfl d_Row_empty_5 ?_
  exact ⟨rfl, rfl⟩
theorem d_Row_add_0 : decode prog_6_method_5_code 0 = .ok (.aload_n 0, 1) := by decide +kernel
theorem d_Row_add_1 : decode prog_6_method_5_code 1 = .ok (.getfield 15, 3) := by decide +kernel
theorem d_Row_add_4 : decode prog_6_method_5_code 4 = .ok (.aload_n 0, 1) := by decide +kernel
theorem d_Row_add_5 : decode prog_6_method_5_code 5 = .ok (.getfield 9, 3) := by decide +kernel
theorem d_Row_add_8 : decode prog_6_method_5_code 8 = .ok (.arraylength, 1) := by decide +kernel
theorem d_Row_add_9 : decode prog_6_method_5_code 9 = .ok (.if_icmp .ge 23, 3) := by decide +kernel
theorem d_Row_add_12 : decode prog_6_method_5_code 12 = .ok (.aload_n 0, 1) := by decide +kernel
theorem d_Row_add_13 : decode prog_6_method_5_code 13 = .ok (.getfield 9, 3) := by decide +kernel
theorem d_Row_add_16 : decode prog_6_method_5_code 16 = .ok (.aload_n 0, 1) := by decide +kernel
theorem d_Row_add_17 : decode prog_6_method_5_code 17 = .ok (.getfield 15, 3) := by decide +kernel
theorem d_Row_add_20 : decode prog_6_method_5_code 20 = .ok (.iload_n 1, 1) := by decide +kernel
theorem d_Row_add_21 : decode prog_6_method_5_code 21 = .ok (.iastore, 1) := by decide +kernel
theorem d_Row_add_22 : decode prog_6_method_5_code 22 = .ok (.aload_n 0, 1) := by decide +kernel
theorem d_Row_add_23 : decode prog_6_method_5_code 23 = .ok (.dup, 1) := by decide +kernel
theorem d_Row_add_24 : decode prog_6_method_5_code 24 = .ok (.getfield 15, 3) := by decide +kernel
theorem d_Row_add_27 : decode prog_6_method_5_code 27 = .ok (.iconst 1, 1) := by decide +kernel
theorem d_Row_add_28 : decode prog_6_method_5_code 28 = .ok (.iadd, 1) := by decide +kernel
theorem d_Row_add_29 : decode prog_6_method_5_code 29 = .ok (.putfield 15, 3) := by decide +kernel
theorem d_Row_add_32 : decode prog_6_method_5_code 32 = .ok (.return_, 1) := by decide +kernel
theorem ct_Row_add {w : gx_W} {h cap : Nat} {l : List Nat} {c : Nat} (hw : w.1 h = some (gx_bx 1 cap l)) (hc : c < 65536) (hl : l.length < cap) : gx_Ct M_Row_add 1 0 0 [.ref h, .int (nI c)] w (gx_eq none (gx_st w h (gx_bx 1 cap (l ++ [c])))) := by
  refine gx_ct (L := [some (.ref h), some (.int (nI c))]) (by decide) (Nat.le_of_ble_eq_true rfl) rfl ?_
  refine gx_unbox hw (fun f hf hlen hcap hsm h0 => ?_)
  refine gx_aload_n d_Row_add_0 rfl ?_
  refine gx_get fl_Row_15 d_Row_add_1 gx_raw_h rfl ?_
  refine gx_aload_n d_Row_add_4 rfl ?_
  refine gx_get fl_Row_9 d_Row_add_5 gx_raw_h rfl ?_
  refine gx_alen (by decide) d_Row_add_8 gx_raw_h1 ?_
  refine gx_icmp_geN (by omega) (by omega) (tgt := 32) d_Row_add_9 (by decide) (fun h9 => ?_) (fun h9 => ?_)
  · exact absurd (show cap ≤ l.length from h9) (by omega)
  · refine gx_aload_n d_Row_add_12 rfl ?_
    refine gx_get fl_Row_9 d_Row_add_13 gx_raw_h rfl ?_
    refine gx_aload_n d_Row_add_16 rfl ?_
    refine gx_get fl_Row_15 d_Row_add_17 gx_raw_h rfl ?_
    refine gx_iload_n d_Row_add_20 rfl ?_
    refine gx_biast d_Row_add_21 (by omega) (by omega) ?_
    refine gx_aload_n d_Row_add_22 rfl ?_
    refine gx_dup d_Row_add_23 rfl ?_
    refine gx_get fl_Row_15 d_Row_add_24 gx_raw_h rfl ?_
    refine gx_iconst d_Row_add_27 (nI 1) (by decide) ?_
    refine gx_iaddN d_Row_add_28 ?_
    refine gx_bput fp_Row_15 d_Row_add_29 ?_
    refine gx_box (l ++ [c]) h0 (by simp) (by simp; omega) hcap (gx_sm_app hsm (gx_sm_1 hc)) (gx_fn_snoc hf) ?_
    refine gx_return rfl d_Row_add_32 ?_
    exact ⟨rfl, rfl⟩
theorem d_Row_copy_0 : decode prog_6_method_6_code 0 = .ok (.aload_n 0, 1) := by decide +kernel
theorem d_Row_copy_1 : decode prog_6_method_6_code 1 = .ok (.invokevirtual 19, 3) := by decide +kernel
theorem d_Row_copy_4 : decode prog_6_method_6_code 4 = .ok (.iconst 0, 1) := by decide +kernel
theorem d_Row_copy_5 : decode prog_6_method_6_code 5 = .ok (.istore_n 2, 1) := by decide +kernel
theorem d_Row_copy_6 : decode prog_6_method_6_code 6 = .ok (.iload_n 2, 1) := by decide +kernel
theorem d_Row_copy_7 : decode prog_6_method_6_code 7 = .ok (.aload_n 1, 1) := by decide +kernel
theorem d_Row_copy_8 : decode prog_6_method_6_code 8 = .ok (.invokevirtual 22, 3) := by decide +kernel
theorem d_Row_copy_11 : decode prog_6_method_6_code 11 = .ok (.if_icmp .ge 18, 3) := by decide +kernel
theorem d_Row_copy_14 : decode prog_6_method_6_code 14 = .ok (.aload_n 0, 1) := by decide +kernel
theorem d_Row_copy_15 : decode prog_6_method_6_code 15 = .ok (.aload_n 1, 1) := by decide +kernel
theorem d_Row_copy_16 : decode prog_6_method_6_code 16 = .ok (.iload_n 2, 1) := by decide +kernel
theorem d_Row_copy_17 : decode prog_6_method_6_code 17 = .ok (.invokevirtual 26, 3) := by decide +kernel
theorem d_Row_copy_20 : decode prog_6_method_6_code 20 = .ok (.invokevirtual 30, 3) := by decide +kernel
theorem d_Row_copy_23 : decode prog_6_method_6_code 23 = .ok (.iinc 2 1, 3) := by decide +kernel
theorem d_Row_copy_26 : decode prog_6_method_6_code 26 = .ok (.goto (-20), 3) := by decide +kernel
theorem d_Row_copy_29 : decode prog_6_method_6_code 29 = .ok (.return_, 1) := by decide +kernel
theorem lp_Row_copy {Q : gx_P} {h h2 cap cap2 : Nat} {l2 : List Nat} (hne : h2 ≠ h) : ∀ (fu : Nat) (i : Nat) (l : List Nat) (w : gx_W), l2.length - i < fu → (w.1 h = some (gx_bx 1 cap l)) → (w.1 h2 = some (gx_bx 1 cap2 l2)) → (l.length + (l2.length - i) ≤ cap) → (i ≤ l2.length) → (Q.1 none (gx_st w h (gx_bx 1 cap (l ++ l2.drop i)))) → gx_X (fun _ _ => True) M_Row_copy 2 Q 6 [some (.ref h), some (.ref h2), some (.int (nI i))] [] w (0, 0) := by
  intro fu
  induction fu with
  | zero => intro i l w hfu; exact absurd hfu (Nat.not_lt_zero _)
  | succ fu ih =>
    intro i l w hfu hw hw2 hlc hi hQ
    refine gx_bsz hw2 (fun hlen2 hcap2 hsm2 => ?_)
    refine gx_iload_n d_Row_copy_6 rfl ?_
    refine gx_aload_n d_Row_copy_7 rfl ?_
    refine gx_cV1 lk_Row_22 d_Row_copy_8 (ct_Row_size hw2) (Or.inr ⟨_, _, hw2⟩) (by omega) rfl rfl (Nat.le_of_ble_eq_true rfl) ?_
    refine gx_icmp_geN (by omega) (by omega) (tgt := 29) d_Row_copy_11 (by decide) (fun h11 => ?_) (fun h11 => ?_)
    · refine gx_return rfl d_Row_copy_29 ?_
      rw [List.drop_eq_nil_of_le h11, List.append_nil, gx_st_id hw] at hQ
      exact hQ
    · refine gx_aload_n d_Row_copy_14 rfl ?_
      refine gx_aload_n d_Row_copy_15 rfl ?_
      refine gx_iload_n d_Row_copy_16 rfl ?_
      refine gx_cV1 lk_Row_26 d_Row_copy_17 (ct_Row_ask (i := nI i) hw2) (Or.inr ⟨_, _, hw2⟩) (by omega) rfl rfl (Nat.le_of_ble_eq_true rfl) ?_
      refine gx_top (sp_ask_in (show i < l2.length by omega) (by omega)) ?_
      refine gx_cV0 lk_Row_30 d_Row_copy_20 (ct_Row_add hw (gx_sm_at hsm2 i) (by omega)) (Or.inr ⟨_, _, hw⟩) (by omega) rfl rfl (Nat.le_of_ble_eq_true rfl) ?_
      refine gx_iincN (n := 1) d_Row_copy_23 rfl (by decide) (Nat.le_of_ble_eq_true rfl) rfl ?_
      refine gx_goto (tgt := 6) d_Row_copy_26 (by decide) ?_
      refine ih (i + 1) (l ++ [l2.getD i 0]) _ (by omega) gx_st_eq (by rw [gx_st_ne hne]; exact hw2) (by simp; omega) (by omega) ?_
      rw [gx_st_st, List.append_assoc, List.singleton_append, ← gx_drop_cons (by omega)]
      exact hQ
theorem ct_Row_copy {w : gx_W} {h cap : Nat} {l : List Nat} {h2 cap2 : Nat} {l2 : List Nat} (hw : w.1 h = some (gx_bx 1 cap l)) (hw2 : w.1 h2 = some (gx_bx 1 cap2 l2)) (hne : h2 ≠ h) (hc : l2.length ≤ cap) : gx_Ct M_Row_copy 2 0 0 [.ref h, .ref h2] w (gx_eq none (gx_st w h (gx_bx 1 cap l2))) := by
  refine gx_ct (L := [some (.ref h), some (.ref h2), none]) (by decide) (Nat.le_of_ble_eq_true rfl) rfl ?_
  refine gx_aload_n d_Row_copy_0 rfl ?_
  refine gx_cV0 lk_Row_19 d_Row_copy_1 (ct_Row_empty hw) (Or.inr ⟨_, _, hw⟩) (by omega) rfl rfl (Nat.le_of_ble_eq_true rfl) ?_
  have hw1 : (gx_st w h (gx_bx 1 cap [])).1 h = some (gx_bx 1 cap []) := gx_st_eq
  have hw3 : (gx_st w h (gx_bx 1 cap [])).1 h2 = some (gx_bx 1 cap2 l2) := by rw [gx_st_ne hne]; exact hw2
  refine gx_iconst d_Row_copy_4 (nI 0) (by decide) ?_
  refine gx_istore_n d_Row_copy_5 (Nat.le_of_ble_eq_true rfl) rfl ?_
  exact lp_Row_copy hne (l2.length + 1) 0 [] _ (by omega) hw1 hw3 (by simpa using hc) (Nat.zero_le _) ⟨rfl, by rw [gx_st_st]; rfl⟩
theorem gx_gd_rev {l : List Nat} {j : Nat} (h : j < l.length) : l.reverse.getD j 0 = l.getD (l.length - 1 - j) 0 := by
  rw [List.getD_eq_getElem?_getD, List.getElem?_reverse h, List.getD_eq_getElem?_getD]
theorem gx_sm_rev {l : List Nat} (h : gx_sm l) : gx_sm l.reverse := fun c hc => h c (List.mem_reverse.mp hc)
theorem d_Row_turn_0 : decode prog_6_method_7_code 0 = .ok (.iconst 0, 1) := by decide +kernel
theorem d_Row_turn_1 : decode prog_6_method_7_code 1 = .ok (.istore_n 1, 1) := by decide +kernel
theorem d_Row_turn_2 : decode prog_6_method_7_code 2 = .ok (.iload_n 1, 1) := by decide +kernel
theorem d_Row_turn_3 : decode prog_6_method_7_code 3 = .ok (.aload_n 0, 1) := by decide +kernel
theorem d_Row_turn_4 : decode prog_6_method_7_code 4 = .ok (.getfield 15, 3) := by decide +kernel
theorem d_Row_turn_7 : decode prog_6_method_7_code 7 = .ok (.iconst 2, 1) := by decide +kernel
theorem d_Row_turn_8 : decode prog_6_method_7_code 8 = .ok (.idiv, 1) := by decide +kernel
theorem d_Row_turn_9 : decode prog_6_method_7_code 9 = .ok (.if_icmp .ge 49, 3) := by decide +kernel
theorem d_Row_turn_12 : decode prog_6_method_7_code 12 = .ok (.aload_n 0, 1) := by decide +kernel
theorem d_Row_turn_13 : decode prog_6_method_7_code 13 = .ok (.getfield 9, 3) := by decide +kernel
theorem d_Row_turn_16 : decode prog_6_method_7_code 16 = .ok (.iload_n 1, 1) := by decide +kernel
theorem d_Row_turn_17 : decode prog_6_method_7_code 17 = .ok (.iaload, 1) := by decide +kernel
theorem d_Row_turn_18 : decode prog_6_method_7_code 18 = .ok (.istore_n 2, 1) := by decide +kernel
theorem d_Row_turn_19 : decode prog_6_method_7_code 19 = .ok (.aload_n 0, 1) := by decide +kernel
theorem d_Row_turn_20 : decode prog_6_method_7_code 20 = .ok (.getfield 9, 3) := by decide +kernel
theorem d_Row_turn_23 : decode prog_6_method_7_code 23 = .ok (.iload_n 1, 1) := by decide +kernel
theorem d_Row_turn_24 : decode prog_6_method_7_code 24 = .ok (.aload_n 0, 1) := by decide +kernel
theorem d_Row_turn_25 : decode prog_6_method_7_code 25 = .ok (.getfield 9, 3) := by decide +kernel
theorem d_Row_turn_28 : decode prog_6_method_7_code 28 = .ok (.aload_n 0, 1) := by decide +kernel
theorem d_Row_turn_29 : decode prog_6_method_7_code 29 = .ok (.getfield 15, 3) := by decide +kernel
theorem d_Row_turn_32 : decode prog_6_method_7_code 32 = .ok (.iconst 1, 1) := by decide +kernel
theorem d_Row_turn_33 : decode prog_6_method_7_code 33 = .ok (.isub, 1) := by decide +kernel
theorem d_Row_turn_34 : decode prog_6_method_7_code 34 = .ok (.iload_n 1, 1) := by decide +kernel
theorem d_Row_turn_35 : decode prog_6_method_7_code 35 = .ok (.isub, 1) := by decide +kernel
theorem d_Row_turn_36 : decode prog_6_method_7_code 36 = .ok (.iaload, 1) := by decide +kernel
theorem d_Row_turn_37 : decode prog_6_method_7_code 37 = .ok (.iastore, 1) := by decide +kernel
theorem d_Row_turn_38 : decode prog_6_method_7_code 38 = .ok (.aload_n 0, 1) := by decide +kernel
theorem d_Row_turn_39 : decode prog_6_method_7_code 39 = .ok (.getfield 9, 3) := by decide +kernel
theorem d_Row_turn_42 : decode prog_6_method_7_code 42 = .ok (.aload_n 0, 1) := by decide +kernel
theorem d_Row_turn_43 : decode prog_6_method_7_code 43 = .ok (.getfield 15, 3) := by decide +kernel
theorem d_Row_turn_46 : decode prog_6_method_7_code 46 = .ok (.iconst 1, 1) := by decide +kernel
theorem d_Row_turn_47 : decode prog_6_method_7_code 47 = .ok (.isub, 1) := by decide +kernel
theorem d_Row_turn_48 : decode prog_6_method_7_code 48 = .ok (.iload_n 1, 1) := by decide +kernel
theorem d_Row_turn_49 : decode prog_6_method_7_code 49 = .ok (.isub, 1) := by decide +kernel
theorem d_Row_turn_50 : decode prog_6_method_7_code 50 = .ok (.iload_n 2, 1) := by decide +kernel
theorem d_Row_turn_51 : decode prog_6_method_7_code 51 = .ok (.iastore, 1) := by decide +kernel
theorem d_Row_turn_52 : decode prog_6_method_7_code 52 = .ok (.iinc 1 1, 3) := by decide +kernel
theorem d_Row_turn_55 : decode prog_6_method_7_code 55 = .ok (.goto (-53), 3) := by decide +kernel
theorem d_Row_turn_58 : decode prog_6_method_7_code 58 = .ok (.return_, 1) := by decide +kernel
theorem lp_Row_turn {Q : gx_P} {w : gx_W} {h cap : Nat} {l : List Nat} (h0 : w.1 (h + 1) = none) (hlen : l.length ≤ cap) (hcap : cap < 65536) (hsm : gx_sm l) (hQ : Q.1 none (gx_st w h (gx_bx 1 cap l.reverse))) : ∀ (fu : Nat) (i : Nat) (f : Nat → Int32) (L2 : Option Value), l.length - i < fu → (i ≤ l.length / 2) → (∀ j, j < i → f j = nI (l.getD (l.length - 1 - j) 0)) → (∀ j, j < i → f (l.length - 1 - j) = nI (l.getD j 0)) → (∀ j, i ≤ j → j < l.length - i → f j = nI (l.getD j 0)) → gx_X (fun _ _ => True) M_Row_turn 1 Q 2 [some (.ref h), some (.int (nI i)), L2] [] (gx_raw w h 1 cap l.length f) (0, 0) := by
  intro fu
  induction fu with
  | zero => intro i f L2 hfu; exact absurd hfu (Nat.not_lt_zero _)
  | succ fu ih =>
    intro i f L2 hfu hi hg1 hg2 hg3
    refine gx_iload_n d_Row_turn_2 rfl ?_
    refine gx_aload_n d_Row_turn_3 rfl ?_
    refine gx_get fl_Row_15 d_Row_turn_4 gx_raw_h rfl ?_
    refine gx_iconst d_Row_turn_7 (nI 2) (by decide) ?_
    refine gx_idivN (by omega) (by omega) (by omega) d_Row_turn_8 ?_
    refine gx_icmp_geN (by omega) (by omega) (tgt := 58) d_Row_turn_9 (by decide) (fun h9 => ?_) (fun h9 => ?_)
    · refine gx_box l.reverse h0 (by simp) (by simpa using hlen) hcap (gx_sm_rev hsm) (fun j hj => ?_) ?_
      · rw [List.length_reverse] at hj
        rw [gx_gd_rev hj]
        by_cases e : j < i
        · exact hg1 j e
        · by_cases e2 : j < l.length - i
          · rw [hg3 j (by omega) e2, show l.length - 1 - j = j by omega]
          · have h8 := hg2 (l.length - 1 - j) (by omega)
            rw [show l.length - 1 - (l.length - 1 - j) = j by omega] at h8
            exact h8
      refine gx_return rfl d_Row_turn_58 ?_
      exact hQ
    · refine gx_aload_n d_Row_turn_12 rfl ?_
      refine gx_get fl_Row_9 d_Row_turn_13 gx_raw_h rfl ?_
      refine gx_iload_n d_Row_turn_16 rfl ?_
      refine gx_iald d_Row_turn_17 gx_raw_h1 (by omega) (by omega) ?_
      refine gx_istore_n d_Row_turn_18 (Nat.le_of_ble_eq_true rfl) rfl ?_
      refine gx_aload_n d_Row_turn_19 rfl ?_
      refine gx_get fl_Row_9 d_Row_turn_20 gx_raw_h rfl ?_
      refine gx_iload_n d_Row_turn_23 rfl ?_
      refine gx_aload_n d_Row_turn_24 rfl ?_
      refine gx_get fl_Row_9 d_Row_turn_25 gx_raw_h rfl ?_
      refine gx_aload_n d_Row_turn_28 rfl ?_
      refine gx_get fl_Row_15 d_Row_turn_29 gx_raw_h rfl ?_
      refine gx_iconst d_Row_turn_32 (nI 1) (by decide) ?_
      refine gx_isubN (by omega) d_Row_turn_33 ?_
      refine gx_iload_n d_Row_turn_34 rfl ?_
      refine gx_isubN (by omega) d_Row_turn_35 ?_
      refine gx_iald d_Row_turn_36 gx_raw_h1 (by omega) (by omega) ?_
      refine gx_biast d_Row_turn_37 (by omega) (by omega) ?_
      refine gx_aload_n d_Row_turn_38 rfl ?_
      refine gx_get fl_Row_9 d_Row_turn_39 gx_raw_h rfl ?_
      refine gx_aload_n d_Row_turn_42 rfl ?_
      refine gx_get fl_Row_15 d_Row_turn_43 gx_raw_h rfl ?_
      refine gx_iconst d_Row_turn_46 (nI 1) (by decide) ?_
      refine gx_isubN (by omega) d_Row_turn_47 ?_
      refine gx_iload_n d_Row_turn_48 rfl ?_
      refine gx_isubN (by omega) d_Row_turn_49 ?_
      refine gx_iload_n d_Row_turn_50 rfl ?_
      refine gx_biast d_Row_turn_51 (by omega) (by omega) ?_
      refine gx_iincN (n := 1) d_Row_turn_52 rfl (by decide) (Nat.le_of_ble_eq_true rfl) rfl ?_
      refine gx_goto (tgt := 2) d_Row_turn_55 (by decide) ?_
      refine ih (i + 1) _ _ (by omega) (by omega) (fun j hj => ?_) (fun j hj => ?_) (fun j hj1 hj2 => ?_)
      · by_cases e : j = i
        · subst e; rw [pk_un (by omega), pk_us, hg3 (l.length - 1 - j) (by omega) (by omega)]
        · rw [pk_un (by omega), pk_un e]; exact hg1 j (by omega)
      · by_cases e : j = i
        · subst e; rw [pk_us, hg3 j (by omega) (by omega)]
        · rw [pk_un (by omega), pk_un (by omega)]; exact hg2 j (by omega)
      · rw [pk_un (by omega), pk_un (by omega)]; exact hg3 j (by omega) (by omega)
theorem ct_Row_turn {w : gx_W} {h cap : Nat} {l : List Nat} (hw : w.1 h = some (gx_bx 1 cap l)) : gx_Ct M_Row_turn 1 0 0 [.ref h] w (gx_eq none (gx_st w h (gx_bx 1 cap l.reverse))) := by
  refine gx_ct (L := [some (.ref h), none, none]) (by decide) (Nat.le_of_ble_eq_true rfl) rfl ?_
  refine gx_unbox hw (fun f hf hlen hcap hsm h0 => ?_)
  refine gx_iconst d_Row_turn_0 (nI 0) (by decide) ?_
  refine gx_istore_n d_Row_turn_1 (Nat.le_of_ble_eq_true rfl) rfl ?_
  exact lp_Row_turn h0 hlen hcap hsm (by exact ⟨rfl, rfl⟩) (l.length + 1) 0 f none (by omega) (Nat.zero_le _) (fun j h1 => absurd h1 (by omega)) (fun j h1 => absurd h1 (by omega)) (fun j h1 h2 => hf j (by omega))
theorem d_Row_init_0 : decode prog_6_method_1_code 0 = .ok (.aload_n 0, 1) := by decide +kernel
theorem d_Row_init_1 : decode prog_6_method_1_code 1 = .ok (.invokespecial 3, 3) := by decide +kernel
theorem d_Row_init_4 : decode prog_6_method_1_code 4 = .ok (.aload_n 0, 1) := by decide +kernel
theorem d_Row_init_5 : decode prog_6_method_1_code 5 = .ok (.iload_n 1, 1) := by decide +kernel
theorem d_Row_init_6 : decode prog_6_method_1_code 6 = .ok (.newarray .int, 2) := by decide +kernel
theorem d_Row_init_8 : decode prog_6_method_1_code 8 = .ok (.putfield 9, 3) := by decide +kernel
theorem d_Row_init_11 : decode prog_6_method_1_code 11 = .ok (.return_, 1) := by decide +kernel
theorem ct_Row_init {w : gx_W} {h cap : Nat} (hw : w.1 h = some (gx_ob 1 [.null, .int 0])) (hh : w.2 = h + 1) (hcap : cap < 65536) : gx_Ct M_Row_init 1 (0 + 1) (0 + cap) [.ref h, .int (nI cap)] w (gx_eq none (gx_st (gx_gr w 1) h (gx_bx 1 cap []))) := by
  refine gx_ct (L := [some (.ref h), some (.int (nI cap))]) (by decide) (Nat.le_of_ble_eq_true rfl) rfl ?_
  refine gx_fr (fun hfr => ?_)
  refine gx_aload_n d_Row_init_0 rfl ?_
  refine gx_objInit lk_Row_3 (by omega) (Nat.le_of_ble_eq_true rfl) d_Row_init_1 ?_
  refine gx_aload_n d_Row_init_4 rfl ?_
  refine gx_iload_n d_Row_init_5 rfl ?_
  refine gx_newi hcap d_Row_init_6 ?_
  refine gx_put fp_Row_9 (fun _ => rfl) d_Row_init_8 (fs := [.null, .int 0]) (by simp only [gx_al]; rw [if_neg (by omega)]; exact hw) rfl rfl (by decide) ?_
  refine gx_w (w' := gx_raw (gx_gr w 1) h 1 cap 0 (fun _ => 0)) ?_ ?_
  · rw [hh]
    unfold gx_st gx_al gx_raw gx_gr
    rw [hh]
    refine Prod.ext ?_ rfl
    funext q
    by_cases e0 : q = h
    · subst e0; simp; rfl
    · by_cases e1 : q = h + 1
      · subst e1; simp; rfl
      · simp [e0, e1]
  refine gx_box [] (by show w.1 (h + 1) = none; exact hfr _ (by omega)) rfl (Nat.zero_le _) hcap gx_sm_nil gx_fn_nil ?_
  refine gx_return rfl d_Row_init_11 ?_
  exact ⟨rfl, rfl⟩
/-! small static methods -/
def sp_let (q : Nat) : Nat := if q = 4 then 104 else 97 + q
def sp_in (x : Int32) (k : Nat) : Bool := decide (0 ≤ x) && decide (x < nI k)
theorem sp_in_nI {m k : Nat} (hm : m < 2 ^ 31) (hk : k < 2 ^ 31) : sp_in (nI m) k = decide (m < k) := by
  unfold sp_in
  rw [decide_eq_true (nI_pos' hm), Bool.true_and]
  exact decide_eq_decide.mpr (nI_ltI hm hk)
theorem sp_in_lt {x : Int32} {k : Nat} (h : x < 0) : sp_in x k = false := by
  unfold sp_in
  rw [decide_eq_false (fun g => by rw [Int32.le_iff_toInt_le] at g; rw [Int32.lt_iff_toInt_lt] at h; omega), Bool.false_and]
theorem sp_in_ge {x : Int32} {k : Nat} (h : nI k ≤ x) : sp_in x k = false := by
  unfold sp_in
  rw [decide_eq_false (p := x < nI k) (fun g => by rw [Int32.lt_iff_toInt_lt] at g; rw [Int32.le_iff_toInt_le] at h; omega), Bool.and_false]
theorem sp_in_t {x : Int32} {k : Nat} (h : ¬ x < 0) (h2 : ¬ nI k ≤ x) : sp_in x k = true := by
  unfold sp_in
  rw [decide_eq_true (by rw [Int32.le_iff_toInt_le]; rw [Int32.lt_iff_toInt_lt] at h; have : (0 : Int32).toInt = 0 := rfl; omega), decide_eq_true (by rw [Int32.lt_iff_toInt_lt]; rw [Int32.le_iff_toInt_le] at h2; omega)]
  rfl
theorem d_PC_letter_0 : decode prog_1_method_27_code 0 = .ok (.iload_n 0, 1) := by decide +kernel
theorem d_PC_letter_1 : decode prog_1_method_27_code 1 = .ok (.iconst 4, 1) := by decide +kernel
theorem d_PC_letter_2 : decode prog_1_method_27_code 2 = .ok (.if_icmp .ne 8, 3) := by decide +kernel
theorem d_PC_letter_5 : decode prog_1_method_27_code 5 = .ok (.bipush 104, 2) := by decide +kernel
theorem d_PC_letter_7 : decode prog_1_method_27_code 7 = .ok (.goto 8, 3) := by decide +kernel
theorem d_PC_letter_10 : decode prog_1_method_27_code 10 = .ok (.bipush 97, 2) := by decide +kernel
theorem d_PC_letter_12 : decode prog_1_method_27_code 12 = .ok (.iload_n 0, 1) := by decide +kernel
theorem d_PC_letter_13 : decode prog_1_method_27_code 13 = .ok (.iadd, 1) := by decide +kernel
theorem d_PC_letter_14 : decode prog_1_method_27_code 14 = .ok (.i2c, 1) := by decide +kernel
theorem d_PC_letter_15 : decode prog_1_method_27_code 15 = .ok (.ireturn, 1) := by decide +kernel
theorem ct_letter {w : gx_W} {q : Nat} (hq : q ≤ 4) : gx_Ct M_PC_letter 1 0 0 [.int (nI q)] w (gx_eq (some (.int (nI (sp_let q)))) w) := by
  refine gx_ct (L := [some (.int (nI q))]) (by decide) (Nat.le_of_ble_eq_true rfl) rfl ?_
  refine gx_iload_n d_PC_letter_0 rfl ?_
  refine gx_iconst d_PC_letter_1 (nI 4) (by decide) ?_
  refine gx_icmp_neN (by omega) (by omega) (tgt := 10) d_PC_letter_2 (by decide) (fun h2 => ?_) (fun h2 => ?_)
  · rw [show sp_let q = 97 + q from if_neg h2]
    refine gx_bipush d_PC_letter_10 (nI 97) (by decide) ?_
    refine gx_iload_n d_PC_letter_12 rfl ?_
    refine gx_iaddN d_PC_letter_13 ?_
    refine gx_i2cN (by omega) d_PC_letter_14 ?_
    refine gx_zreturn rfl (gx_nc (by omega)) d_PC_letter_15 ?_
    exact ⟨rfl, rfl⟩
  · rw [show sp_let q = 104 from if_pos h2]
    refine gx_bipush d_PC_letter_5 (nI 104) (by decide) ?_
    refine gx_goto (tgt := 15) d_PC_letter_7 (by decide) ?_
    refine gx_zreturn rfl (gx_nc (by omega)) d_PC_letter_15 ?_
    exact ⟨rfl, rfl⟩
theorem d_PC_digit_0 : decode prog_1_method_28_code 0 = .ok (.bipush 48, 2) := by decide +kernel
theorem d_PC_digit_2 : decode prog_1_method_28_code 2 = .ok (.iload_n 0, 1) := by decide +kernel
theorem d_PC_digit_3 : decode prog_1_method_28_code 3 = .ok (.iadd, 1) := by decide +kernel
theorem d_PC_digit_4 : decode prog_1_method_28_code 4 = .ok (.i2c, 1) := by decide +kernel
theorem d_PC_digit_5 : decode prog_1_method_28_code 5 = .ok (.ireturn, 1) := by decide +kernel
theorem ct_digit {w : gx_W} {s : Nat} (hs : s < 65000) : gx_Ct M_PC_digit 1 0 0 [.int (nI s)] w (gx_eq (some (.int (nI (48 + s)))) w) := by
  refine gx_ct (L := [some (.int (nI s))]) (by decide) (Nat.le_of_ble_eq_true rfl) rfl ?_
  refine gx_bipush d_PC_digit_0 (nI 48) (by decide) ?_
  refine gx_iload_n d_PC_digit_2 rfl ?_
  refine gx_iaddN d_PC_digit_3 ?_
  refine gx_i2cN (by omega) d_PC_digit_4 ?_
  refine gx_zreturn rfl (gx_nc (by omega)) d_PC_digit_5 ?_
  exact ⟨rfl, rfl⟩
theorem d_PC_symbolOf_0 : decode prog_1_method_29_code 0 = .ok (.iload_n 0, 1) := by decide +kernel
theorem d_PC_symbolOf_1 : decode prog_1_method_29_code 1 = .ok (.bipush 48, 2) := by decide +kernel
theorem d_PC_symbolOf_3 : decode prog_1_method_29_code 3 = .ok (.isub, 1) := by decide +kernel
theorem d_PC_symbolOf_4 : decode prog_1_method_29_code 4 = .ok (.ireturn, 1) := by decide +kernel
theorem ct_symbolOf {w : gx_W} {x : Int32} : gx_Ct M_PC_symbolOf 1 0 0 [.int x] w (gx_eq (some (.int (x - nI 48))) w) := by
  refine gx_ct (L := [some (.int x)]) (by decide) (Nat.le_of_ble_eq_true rfl) rfl ?_
  refine gx_iload_n d_PC_symbolOf_0 rfl ?_
  refine gx_bipush d_PC_symbolOf_1 (nI 48) (by decide) ?_
  refine gx_isub d_PC_symbolOf_3 ?_
  refine gx_ireturn rfl d_PC_symbolOf_4 ?_
  exact ⟨rfl, rfl⟩
theorem d_PC_isState_0 : decode prog_1_method_24_code 0 = .ok (.iload_n 0, 1) := by decide +kernel
theorem d_PC_isState_1 : decode prog_1_method_24_code 1 = .ok (.ifCond .lt 12, 3) := by decide +kernel
theorem d_PC_isState_4 : decode prog_1_method_24_code 4 = .ok (.iload_n 0, 1) := by decide +kernel
theorem d_PC_isState_5 : decode prog_1_method_24_code 5 = .ok (.iconst 4, 1) := by decide +kernel
theorem d_PC_isState_6 : decode prog_1_method_24_code 6 = .ok (.if_icmp .ge 7, 3) := by decide +kernel
theorem d_PC_isState_9 : decode prog_1_method_24_code 9 = .ok (.iconst 1, 1) := by decide +kernel
theorem d_PC_isState_10 : decode prog_1_method_24_code 10 = .ok (.goto 4, 3) := by decide +kernel
theorem d_PC_isState_13 : decode prog_1_method_24_code 13 = .ok (.iconst 0, 1) := by decide +kernel
theorem d_PC_isState_14 : decode prog_1_method_24_code 14 = .ok (.ireturn, 1) := by decide +kernel
theorem ct_isState {w : gx_W} {x : Int32} : gx_Ct M_PC_isState 1 0 0 [.int x] w (gx_eq (some (.int (nI (sp_in x 4).toNat))) w) := by
  refine gx_ct (L := [some (.int x)]) (by decide) (Nat.le_of_ble_eq_true rfl) rfl ?_
  refine gx_iload_n d_PC_isState_0 rfl ?_
  refine gx_if_lt (tgt := 13) d_PC_isState_1 (by decide) (fun h1 => ?_) (fun h1 => ?_)
  · rw [sp_in_lt h1]
    refine gx_iconst d_PC_isState_13 (nI 0) (by decide) ?_
    refine gx_zreturn rfl (by decide) d_PC_isState_14 ?_
    exact ⟨rfl, rfl⟩
  · refine gx_iload_n d_PC_isState_4 rfl ?_
    refine gx_iconst d_PC_isState_5 (nI 4) (by decide) ?_
    refine gx_icmp_ge (tgt := 13) d_PC_isState_6 (by decide) (fun h6 => ?_) (fun h6 => ?_)
    · rw [sp_in_ge h6]
      refine gx_iconst d_PC_isState_13 (nI 0) (by decide) ?_
      refine gx_zreturn rfl (by decide) d_PC_isState_14 ?_
      exact ⟨rfl, rfl⟩
    · rw [sp_in_t h1 h6]
      refine gx_iconst d_PC_isState_9 (nI 1) (by decide) ?_
      refine gx_goto (tgt := 14) d_PC_isState_10 (by decide) ?_
      refine gx_zreturn rfl (by decide) d_PC_isState_14 ?_
      exact ⟨rfl, rfl⟩
theorem d_PC_isSymbol_0 : decode prog_1_method_25_code 0 = .ok (.iload_n 0, 1) := by decide +kernel
theorem d_PC_isSymbol_1 : decode prog_1_method_25_code 1 = .ok (.ifCond .lt 12, 3) := by decide +kernel
theorem d_PC_isSymbol_4 : decode prog_1_method_25_code 4 = .ok (.iload_n 0, 1) := by decide +kernel
theorem d_PC_isSymbol_5 : decode prog_1_method_25_code 5 = .ok (.iconst 3, 1) := by decide +kernel
theorem d_PC_isSymbol_6 : decode prog_1_method_25_code 6 = .ok (.if_icmp .ge 7, 3) := by decide +kernel
theorem d_PC_isSymbol_9 : decode prog_1_method_25_code 9 = .ok (.iconst 1, 1) := by decide +kernel
theorem d_PC_isSymbol_10 : decode prog_1_method_25_code 10 = .ok (.goto 4, 3) := by decide +kernel
theorem d_PC_isSymbol_13 : decode prog_1_method_25_code 13 = .ok (.iconst 0, 1) := by decide +kernel
theorem d_PC_isSymbol_14 : decode prog_1_method_25_code 14 = .ok (.ireturn, 1) := by decide +kernel
theorem ct_isSymbol {w : gx_W} {x : Int32} : gx_Ct M_PC_isSymbol 1 0 0 [.int x] w (gx_eq (some (.int (nI (sp_in x 3).toNat))) w) := by
  refine gx_ct (L := [some (.int x)]) (by decide) (Nat.le_of_ble_eq_true rfl) rfl ?_
  refine gx_iload_n d_PC_isSymbol_0 rfl ?_
  refine gx_if_lt (tgt := 13) d_PC_isSymbol_1 (by decide) (fun h1 => ?_) (fun h1 => ?_)
  · rw [sp_in_lt h1]
    refine gx_iconst d_PC_isSymbol_13 (nI 0) (by decide) ?_
    refine gx_zreturn rfl (by decide) d_PC_isSymbol_14 ?_
    exact ⟨rfl, rfl⟩
  · refine gx_iload_n d_PC_isSymbol_4 rfl ?_
    refine gx_iconst d_PC_isSymbol_5 (nI 3) (by decide) ?_
    refine gx_icmp_ge (tgt := 13) d_PC_isSymbol_6 (by decide) (fun h6 => ?_) (fun h6 => ?_)
    · rw [sp_in_ge h6]
      refine gx_iconst d_PC_isSymbol_13 (nI 0) (by decide) ?_
      refine gx_zreturn rfl (by decide) d_PC_isSymbol_14 ?_
      exact ⟨rfl, rfl⟩
    · rw [sp_in_t h1 h6]
      refine gx_iconst d_PC_isSymbol_9 (nI 1) (by decide) ?_
      refine gx_goto (tgt := 14) d_PC_isSymbol_10 (by decide) ?_
      refine gx_zreturn rfl (by decide) d_PC_isSymbol_14 ?_
      exact ⟨rfl, rfl⟩
theorem d_PC_ruleNumber_0 : decode prog_1_method_26_code 0 = .ok (.iload_n 0, 1) := by decide +kernel
theorem d_PC_ruleNumber_1 : decode prog_1_method_26_code 1 = .ok (.iconst 3, 1) := by decide +kernel
theorem d_PC_ruleNumber_2 : decode prog_1_method_26_code 2 = .ok (.imul, 1) := by decide +kernel
theorem d_PC_ruleNumber_3 : decode prog_1_method_26_code 3 = .ok (.iload_n 1, 1) := by decide +kernel
theorem d_PC_ruleNumber_4 : decode prog_1_method_26_code 4 = .ok (.iadd, 1) := by decide +kernel
theorem d_PC_ruleNumber_5 : decode prog_1_method_26_code 5 = .ok (.ireturn, 1) := by decide +kernel
theorem ct_ruleNumber {w : gx_W} {x y : Nat} : gx_Ct M_PC_ruleNumber 1 0 0 [.int (nI x), .int (nI y)] w (gx_eq (some (.int (nI (x * 3 + y)))) w) := by
  refine gx_ct (L := [some (.int (nI x)), some (.int (nI y))]) (by decide) (Nat.le_of_ble_eq_true rfl) rfl ?_
  refine gx_iload_n d_PC_ruleNumber_0 rfl ?_
  refine gx_iconst d_PC_ruleNumber_1 (nI 3) (by decide) ?_
  refine gx_imulN d_PC_ruleNumber_2 ?_
  refine gx_iload_n d_PC_ruleNumber_3 rfl ?_
  refine gx_iaddN d_PC_ruleNumber_4 ?_
  refine gx_ireturn rfl d_PC_ruleNumber_5 ?_
  exact ⟨rfl, rfl⟩
end
section
/-! THE MATHEMATICS: the machine, its run, the dominoes, the way. Numbers: symbols 0..2, states 0..3, halt 4; characters by their codes. -/
/-- known, right, write, next of rule number r -/
abbrev sp_M : Type := (Nat → Nat) × (Nat → Nat) × (Nat → Nat) × (Nat → Nat)
def sp_kn (M : sp_M) (r : Nat) : Nat := M.1 r
def sp_rt (M : sp_M) (r : Nat) : Nat := M.2.1 r
def sp_wr (M : sp_M) (r : Nat) : Nat := M.2.2.1 r
def sp_nx (M : sp_M) (r : Nat) : Nat := M.2.2.2 r
def sp_Mok (M : sp_M) : Prop := ∀ r, sp_kn M r ≤ 1 ∧ sp_rt M r ≤ 1 ∧ sp_wr M r < 3 ∧ sp_nx M r ≤ 4
/-- a configuration: the symbols ahead of the state, the state, the symbols from the state on -/
abbrev sp_C : Type := List Nat × Nat × List Nat
def sp_ok (c : sp_C) : Prop := (∀ s ∈ c.1, s < 3) ∧ c.2.1 ≤ 4 ∧ ∀ s ∈ c.2.2, s < 3
def sp_ds (l : List Nat) : List Nat := l.map (fun s => 48 + s)
def sp_txt (c : sp_C) : List Nat := sp_ds c.1 ++ sp_let c.2.1 :: sp_ds c.2.2
def sp_len (c : sp_C) : Nat := c.1.length + 1 + c.2.2.length
def sp_lst (l : List Nat) : Nat := l.getD (l.length - 1) 0
/-- the rule that a configuration asks for -/
def sp_rl (M : sp_M) (c : sp_C) : Option Nat := if c.2.1 < 4 ∧ sp_kn M (c.2.1 * 3 + c.2.2.getD 0 0) = 1 then some (c.2.1 * 3 + c.2.2.getD 0 0) else none
def sp_step (M : sp_M) (c : sp_C) : Option sp_C := match sp_rl M c with
  | none => none
  | some r => if sp_rt M r = 1 then some (c.1 ++ [sp_wr M r], sp_nx M r, c.2.2.tail)
    else if c.1.length = 0 then none else some (c.1.dropLast, sp_nx M r, sp_lst c.1 :: sp_wr M r :: c.2.2.tail)
/-- the run, of at most n steps -/
def sp_run (M : sp_M) : Nat → sp_C → List sp_C
  | 0, c => [c]
  | n + 1, c => match sp_step M c with
    | none => [c]
    | some c' => if sp_len c' ≤ 10 then c :: sp_run M n c' else [c]
/-- the dominoes of rule r with what stands behind the state -/
def sp_re (M : sp_M) (r beh : Nat) (tail : List Nat) : List (List Nat × List Nat) :=
  if sp_rt M r = 1 then [([sp_let (r / 3), beh], [48 + sp_wr M r, sp_let (sp_nx M r)] ++ tail)]
  else [0, 1, 2].map (fun s => ([48 + s, sp_let (r / 3), beh], [sp_let (sp_nx M r), 48 + s, 48 + sp_wr M r] ++ tail))
def sp_rd (M : sp_M) (r : Nat) : List (List Nat × List Nat) :=
  if sp_kn M r = 1 then sp_re M r (48 + r % 3) [] ++ (if r % 3 = 0 then sp_re M r 35 [35] else []) else []
def sp_hd (t : List Nat) : List (List Nat × List Nat) := [([35], 35 :: t ++ [35]), ([35], [35]), ([48], [48]), ([49], [49]), ([50], [50])]
def sp_rs (M : sp_M) (n : Nat) : List (List Nat × List Nat) := (List.range n).flatMap (sp_rd M)
def sp_en : List (List Nat × List Nat) := [([48, 104], [104]), ([49, 104], [104]), ([50, 104], [104]), ([104, 48], [104]), ([104, 49], [104]), ([104, 50], [104]), ([104, 35, 35], [35])]
/-- t: the text of the first configuration -/
def sp_dom (M : sp_M) (t : List Nat) : List (List Nat × List Nat) := sp_hd t ++ sp_rs M 12 ++ sp_en
/-- the number of the first domino of rule r -/
def sp_fo (M : sp_M) (r : Nat) : Nat := 5 + (sp_rs M r).length
def sp_cp (l : List Nat) : List Nat := l.map (fun s => 2 + s)
/-- the dominoes that a step lays -/
def sp_ws (M : sp_M) (c : sp_C) : List Nat := match sp_rl M c with
  | none => []
  | some r => if sp_rt M r = 1 then sp_cp c.1 ++ (sp_fo M r + (if c.2.2.length = 0 then 1 else 0)) :: sp_cp c.2.2.tail ++ (if c.2.2.length = 0 then [] else [1])
    else sp_cp c.1.dropLast ++ (sp_fo M r + (if c.2.2.length = 0 then 3 else 0) + sp_lst c.1) :: sp_cp c.2.2.tail ++ (if c.2.2.length = 0 then [] else [1])
/-- the dominoes that take the symbols of a halted configuration away; e is the number of the first of them -/
def sp_hw (e : Nat) : Nat → List Nat → List Nat → List Nat
  | 0, _, _ => []
  | n + 1, l, r => if l.length = 0 then (e + 3 + r.getD 0 0) :: sp_cp r.tail ++ 1 :: sp_hw e n [] r.tail
    else sp_cp l.dropLast ++ (e + sp_lst l) :: sp_cp r ++ 1 :: sp_hw e n l.dropLast r
def sp_last (l : List sp_C) : sp_C := l.getLastD ([], 0, [])
def sp_way (M : sp_M) (inp : List Nat) : List Nat :=
  0 :: (sp_run M 12 ([], 0, inp)).dropLast.flatMap (sp_ws M) ++ sp_hw ((sp_dom M (sp_txt ([], 0, inp))).length - 7) ((sp_last (sp_run M 12 ([], 0, inp))).1.length + (sp_last (sp_run M 12 ([], 0, inp))).2.2.length) (sp_last (sp_run M 12 ([], 0, inp))).1 (sp_last (sp_run M 12 ([], 0, inp))).2.2 ++ [(sp_dom M (sp_txt ([], 0, inp))).length - 1]
/-! texts -/
theorem sp_ds_len (l : List Nat) : (sp_ds l).length = l.length := List.length_map ..
theorem sp_ds_at {l : List Nat} {i : Nat} (h : i < l.length) : (sp_ds l).getD i 0 = 48 + l.getD i 0 := by
  unfold sp_ds
  rw [List.getD_eq_getElem?_getD, List.getD_eq_getElem?_getD, List.getElem?_map, List.getElem?_eq_getElem h]
  rfl
theorem sp_txt_len (c : sp_C) : (sp_txt c).length = sp_len c := by
  unfold sp_txt sp_len
  rw [List.length_append, List.length_cons, sp_ds_len, sp_ds_len]; omega
theorem sp_txt_lo {c : sp_C} {i : Nat} (h : i < c.1.length) : (sp_txt c).getD i 0 = 48 + c.1.getD i 0 := by
  unfold sp_txt
  rw [gx_gd_app (by rw [sp_ds_len]; exact h), sp_ds_at h]
theorem sp_txt_mid {c : sp_C} : (sp_txt c).getD c.1.length 0 = sp_let c.2.1 := by
  unfold sp_txt
  have := gx_gd_mid (l := sp_ds c.1) (k := sp_ds c.2.2) (c := sp_let c.2.1)
  rwa [sp_ds_len] at this
theorem sp_txt_hi {c : sp_C} {i : Nat} (h : i < c.2.2.length) : (sp_txt c).getD (c.1.length + 1 + i) 0 = 48 + c.2.2.getD i 0 := by
  unfold sp_txt
  rw [show sp_ds c.1 ++ sp_let c.2.1 :: sp_ds c.2.2 = (sp_ds c.1 ++ [sp_let c.2.1]) ++ sp_ds c.2.2 by simp]
  have := gx_gd_app2 (l := sp_ds c.1 ++ [sp_let c.2.1]) (k := sp_ds c.2.2) (i := i)
  rw [List.length_append, sp_ds_len, List.length_singleton] at this
  rw [this, sp_ds_at h]
theorem sp_let_ge (q : Nat) : 97 ≤ sp_let q := by unfold sp_let; split <;> omega
theorem sp_let_lt {q : Nat} (h : q ≤ 4) : sp_let q < 105 := by unfold sp_let; split <;> omega
theorem sp_gd_lt {l : List Nat} (h : ∀ s ∈ l, s < 3) (i : Nat) : l.getD i 0 < 3 := by
  by_cases hi : i < l.length
  · exact h _ (gx_gd_mem hi)
  · rw [gx_gd_ge (by omega)]; omega
theorem sp_hd1 {c : sp_C} (h : sp_ok c) : ∀ i, i < c.1.length → (sp_txt c).getD i 0 < 97 := fun i hi => by
  rw [sp_txt_lo hi]
  have := sp_gd_lt h.1 i
  omega
theorem sp_hd2 {c : sp_C} : 97 ≤ (sp_txt c).getD c.1.length 0 := by rw [sp_txt_mid]; exact sp_let_ge _
theorem sp_hd3 {c : sp_C} : c.1.length < (sp_txt c).length := by rw [sp_txt_len]; unfold sp_len; omega
theorem sp_take0 {c : sp_C} : ((sp_txt c).take c.1.length).drop 0 = sp_ds c.1 := by
  unfold sp_txt
  rw [List.drop_zero, List.take_append_of_le_length (by rw [sp_ds_len]; exact Nat.le_refl _), List.take_of_length_le (by rw [sp_ds_len]; exact Nat.le_refl _)]
theorem sp_take1 {c : sp_C} : ((sp_txt c).take (c.1.length - 1)).drop 0 = sp_ds c.1.dropLast := by
  unfold sp_txt
  rw [List.drop_zero, List.take_append_of_le_length (by rw [sp_ds_len]; omega), List.dropLast_eq_take]
  unfold sp_ds
  rw [List.map_take]
theorem sp_drop2 {c : sp_C} : ((sp_txt c).take (sp_txt c).length).drop (c.1.length + 2) = sp_ds c.2.2.tail := by
  rw [List.take_of_length_le (Nat.le_refl _)]
  unfold sp_txt
  rw [show sp_ds c.1 ++ sp_let c.2.1 :: sp_ds c.2.2 = (sp_ds c.1 ++ [sp_let c.2.1]) ++ sp_ds c.2.2 by simp, show c.1.length + 2 = (sp_ds c.1 ++ [sp_let c.2.1]).length + 1 by rw [List.length_append, sp_ds_len]; rfl, List.drop_append]
  rw [List.drop_eq_nil_of_le (by omega), List.nil_append, Nat.add_sub_cancel_left]
  unfold sp_ds
  rw [← List.map_drop, List.drop_one]
theorem gx_nm1 {j : Nat} (h : j < 2 ^ 31) : ¬ nI j = -1 := fun g => by
  have := nI_toInt h
  rw [g] at this
  have h2 : (-1 : Int32).toInt = -1 := by decide
  omega
theorem sp_rl_lt {M : sp_M} {c : sp_C} {r : Nat} (h : sp_rl M c = some r) (hc : sp_ok c) : r < 12 ∧ r = c.2.1 * 3 + c.2.2.getD 0 0 ∧ c.2.1 < 4 ∧ sp_kn M r = 1 := by
  unfold sp_rl at h
  split at h
  · rename_i h1
    cases h
    have := sp_gd_lt hc.2.2 0
    exact ⟨by omega, rfl, h1.1, h1.2⟩
  · cases h
/-! the machine in the world: its object at a, its arrays at a + 1 .. a + 4, its first text at a + 5 -/
def mcAt (w : gx_W) (a : Nat) (M : sp_M) (t : List Nat) : Prop := w.1 a = some (gx_ob 2 [.ref (a + 1), .ref (a + 2), .ref (a + 3), .ref (a + 4), .ref (a + 5)]) ∧ w.1 (a + 1) = some (gx_ai 2 12 (fun r => nI (sp_kn M r))) ∧ w.1 (a + 2) = some (gx_ai 2 12 (fun r => nI (sp_rt M r))) ∧ w.1 (a + 3) = some (gx_ai 0 12 (fun r => nI (sp_wr M r))) ∧ w.1 (a + 4) = some (gx_ai 0 12 (fun r => nI (sp_nx M r))) ∧ w.1 (a + 5) = some (gx_bx 0 5 t)
/-- nothing changed but from lo up to hi -/
def gx_kp (w w' : gx_W) (lo hi : Nat) : Prop := w'.2 = w.2 ∧ ∀ q, (q < lo ∨ hi ≤ q) → w'.1 q = w.1 q
theorem gx_kp.rf {w : gx_W} {lo hi : Nat} : gx_kp w w lo hi := ⟨rfl, fun _ _ => rfl⟩
theorem gx_kp.trans {w w1 w2 : gx_W} {lo hi : Nat} (h : gx_kp w w1 lo hi) (h2 : gx_kp w1 w2 lo hi) : gx_kp w w2 lo hi := ⟨h2.1.trans h.1, fun q hq => (h2.2 q hq).trans (h.2 q hq)⟩
theorem gx_kp.st {w : gx_W} {lo hi a : Nat} {x : gx_E} (h1 : lo ≤ a) (h2 : a < hi) : gx_kp w (gx_st w a x) lo hi := ⟨rfl, fun q hq => gx_st_ne (by omega)⟩
theorem gx_kp.mono {w w' : gx_W} {lo hi lo' hi' : Nat} (h : gx_kp w w' lo hi) (h1 : lo' ≤ lo) (h2 : hi ≤ hi') : gx_kp w w' lo' hi' := ⟨h.1, fun q hq => h.2 q (by omega)⟩
theorem mcAt.kept {w w' : gx_W} {a lo hi : Nat} {M : sp_M} {t : List Nat} (h : mcAt w a M t) (hk : gx_kp w w' lo hi) (hd : a + 7 ≤ lo ∨ hi ≤ a) : mcAt w' a M t := by
  obtain ⟨h0, h1, h2, h3, h4, h5⟩ := h
  exact ⟨by rw [hk.2 _ (by omega)]; exact h0, by rw [hk.2 _ (by omega)]; exact h1, by rw [hk.2 _ (by omega)]; exact h2, by rw [hk.2 _ (by omega)]; exact h3, by rw [hk.2 _ (by omega)]; exact h4, by rw [hk.2 _ (by omega)]; exact h5⟩
end
section
/-! Machine: its methods -/
theorem d_Machine_ruleFor_0 : decode prog_5_method_5_code 0 = .ok (.aload_n 1, 1) := by decide +kernel
theorem d_Machine_ruleFor_1 : decode prog_5_method_5_code 1 = .ok (.invokevirtual 54, 3) := by decide +kernel
theorem d_Machine_ruleFor_4 : decode prog_5_method_5_code 4 = .ok (.istore_n 2, 1) := by decide +kernel
theorem d_Machine_ruleFor_5 : decode prog_5_method_5_code 5 = .ok (.aload_n 1, 1) := by decide +kernel
theorem d_Machine_ruleFor_6 : decode prog_5_method_5_code 6 = .ok (.iload_n 2, 1) := by decide +kernel
theorem d_Machine_ruleFor_7 : decode prog_5_method_5_code 7 = .ok (.invokevirtual 58, 3) := by decide +kernel
theorem d_Machine_ruleFor_10 : decode prog_5_method_5_code 10 = .ok (.iconst 0, 1) := by decide +kernel
theorem d_Machine_ruleFor_11 : decode prog_5_method_5_code 11 = .ok (.invokestatic 34, 3) := by decide +kernel
theorem d_Machine_ruleFor_14 : decode prog_5_method_5_code 14 = .ok (.isub, 1) := by decide +kernel
theorem d_Machine_ruleFor_15 : decode prog_5_method_5_code 15 = .ok (.istore_n 3, 1) := by decide +kernel
theorem d_Machine_ruleFor_16 : decode prog_5_method_5_code 16 = .ok (.iload_n 2, 1) := by decide +kernel
theorem d_Machine_ruleFor_17 : decode prog_5_method_5_code 17 = .ok (.iconst 1, 1) := by decide +kernel
theorem d_Machine_ruleFor_18 : decode prog_5_method_5_code 18 = .ok (.iadd, 1) := by decide +kernel
theorem d_Machine_ruleFor_19 : decode prog_5_method_5_code 19 = .ok (.aload_n 1, 1) := by decide +kernel
theorem d_Machine_ruleFor_20 : decode prog_5_method_5_code 20 = .ok (.invokevirtual 61, 3) := by decide +kernel
theorem d_Machine_ruleFor_23 : decode prog_5_method_5_code 23 = .ok (.if_icmp .ge 16, 3) := by decide +kernel
theorem d_Machine_ruleFor_26 : decode prog_5_method_5_code 26 = .ok (.aload_n 1, 1) := by decide +kernel
theorem d_Machine_ruleFor_27 : decode prog_5_method_5_code 27 = .ok (.iload_n 2, 1) := by decide +kernel
theorem d_Machine_ruleFor_28 : decode prog_5_method_5_code 28 = .ok (.iconst 1, 1) := by decide +kernel
theorem d_Machine_ruleFor_29 : decode prog_5_method_5_code 29 = .ok (.iadd, 1) := by decide +kernel
theorem d_Machine_ruleFor_30 : decode prog_5_method_5_code 30 = .ok (.invokevirtual 58, 3) := by decide +kernel
theorem d_Machine_ruleFor_33 : decode prog_5_method_5_code 33 = .ok (.invokestatic 64, 3) := by decide +kernel
theorem d_Machine_ruleFor_36 : decode prog_5_method_5_code 36 = .ok (.goto 4, 3) := by decide +kernel
theorem d_Machine_ruleFor_39 : decode prog_5_method_5_code 39 = .ok (.iconst 0, 1) := by decide +kernel
theorem d_Machine_ruleFor_40 : decode prog_5_method_5_code 40 = .ok (.istore 4, 2) := by decide +kernel
theorem d_Machine_ruleFor_42 : decode prog_5_method_5_code 42 = .ok (.iload_n 3, 1) := by decide +kernel
theorem d_Machine_ruleFor_43 : decode prog_5_method_5_code 43 = .ok (.invokestatic 68, 3) := by decide +kernel
theorem d_Machine_ruleFor_46 : decode prog_5_method_5_code 46 = .ok (.ifCond .eq 25, 3) := by decide +kernel
theorem d_Machine_ruleFor_49 : decode prog_5_method_5_code 49 = .ok (.iload 4, 2) := by decide +kernel
theorem d_Machine_ruleFor_51 : decode prog_5_method_5_code 51 = .ok (.invokestatic 72, 3) := by decide +kernel
theorem d_Machine_ruleFor_54 : decode prog_5_method_5_code 54 = .ok (.ifCond .eq 17, 3) := by decide +kernel
theorem d_Machine_ruleFor_57 : decode prog_5_method_5_code 57 = .ok (.aload_n 0, 1) := by decide +kernel
theorem d_Machine_ruleFor_58 : decode prog_5_method_5_code 58 = .ok (.getfield 9, 3) := by decide +kernel
theorem d_Machine_ruleFor_61 : decode prog_5_method_5_code 61 = .ok (.iload_n 3, 1) := by decide +kernel
theorem d_Machine_ruleFor_62 : decode prog_5_method_5_code 62 = .ok (.iload 4, 2) := by decide +kernel
theorem d_Machine_ruleFor_64 : decode prog_5_method_5_code 64 = .ok (.invokestatic 75, 3) := by decide +kernel
theorem d_Machine_ruleFor_67 : decode prog_5_method_5_code 67 = .ok (.baload, 1) := by decide +kernel
theorem d_Machine_ruleFor_68 : decode prog_5_method_5_code 68 = .ok (.ifCond .ne 5, 3) := by decide +kernel
theorem d_Machine_ruleFor_71 : decode prog_5_method_5_code 71 = .ok (.iconst (-1), 1) := by decide +kernel
theorem d_Machine_ruleFor_72 : decode prog_5_method_5_code 72 = .ok (.ireturn, 1) := by decide +kernel
theorem d_Machine_ruleFor_73 : decode prog_5_method_5_code 73 = .ok (.iload_n 3, 1) := by decide +kernel
theorem d_Machine_ruleFor_74 : decode prog_5_method_5_code 74 = .ok (.iload 4, 2) := by decide +kernel
theorem d_Machine_ruleFor_76 : decode prog_5_method_5_code 76 = .ok (.invokestatic 75, 3) := by decide +kernel
theorem d_Machine_ruleFor_79 : decode prog_5_method_5_code 79 = .ok (.ireturn, 1) := by decide +kernel
theorem rf_tail {Q : gx_P} {w : gx_W} {a : Nat} {M : sp_M} {t : List Nat} (hm : mcAt w a M t) (hM : sp_Mok M) {h k st s : Nat} {L4 : Option Value} (hs : s < 3) (hst : st < 8) (hQ : Q.1 (some (.int (if st < 4 ∧ sp_kn M (st * 3 + s) = 1 then nI (st * 3 + s) else -1))) w) : gx_X (fun _ _ => True) M_Machine_ruleFor 2 Q 40 [some (.ref a), some (.ref h), some (.int (nI k)), some (.int (nI st)), L4] [.int (nI s)] w (0, 0) := by
  obtain ⟨m0, m1, m2, m3, m4, m5⟩ := hm
  have hb1 := Bool.toNat_le (decide (st < 4))
  have hb2 := Bool.toNat_le (decide (s < 3))
  have hkn := (hM (st * 3 + s)).1
  refine gx_istore d_Machine_ruleFor_40 (Nat.le_of_ble_eq_true rfl) rfl ?_
  refine gx_iload_n d_Machine_ruleFor_42 rfl ?_
  refine gx_cS1 lk_Machine_68 d_Machine_ruleFor_43 (ct_isState) (by omega) rfl rfl (Nat.le_of_ble_eq_true rfl) ?_
  refine gx_top (show _ = nI (decide (st < 4)).toNat by rw [sp_in_nI (by omega) (by omega)]) ?_
  refine gx_if_eqN (by omega) (tgt := 71) d_Machine_ruleFor_46 (by decide) (fun h46 => ?_) (fun h46 => ?_)
  · have h4 : ¬ st < 4 := by simpa using h46
    rw [if_neg (fun g => h4 g.1)] at hQ
    refine gx_iconst d_Machine_ruleFor_71 (-1) (by decide) ?_
    refine gx_ireturn rfl d_Machine_ruleFor_72 ?_
    exact hQ
  · have h4 : st < 4 := by cases hq : decide (st < 4) <;> simp_all
    refine gx_iload d_Machine_ruleFor_49 rfl ?_
    refine gx_cS1 lk_Machine_72 d_Machine_ruleFor_51 (ct_isSymbol) (by omega) rfl rfl (Nat.le_of_ble_eq_true rfl) ?_
    refine gx_top (show _ = nI (decide (s < 3)).toNat by rw [sp_in_nI (by omega) (by omega)]) ?_
    refine gx_if_eqN (by omega) (tgt := 71) d_Machine_ruleFor_54 (by decide) (fun h54 => ?_) (fun h54 => ?_)
    · exact absurd (show decide (s < 3) = false by cases hq : decide (s < 3) <;> simp_all) (by simp [hs])
    · refine gx_aload_n d_Machine_ruleFor_57 rfl ?_
      refine gx_get fl_Machine_9 d_Machine_ruleFor_58 m0 rfl ?_
      refine gx_iload_n d_Machine_ruleFor_61 rfl ?_
      refine gx_iload d_Machine_ruleFor_62 rfl ?_
      refine gx_cS1 lk_Machine_75 d_Machine_ruleFor_64 (ct_ruleNumber) (by omega) rfl rfl (Nat.le_of_ble_eq_true rfl) ?_
      refine gx_zald d_Machine_ruleFor_67 m1 (by omega) (by omega) ?_
      refine gx_if_neN (by omega) (tgt := 73) d_Machine_ruleFor_68 (by decide) (fun h68 => ?_) (fun h68 => ?_)
      · rw [if_pos ⟨h4, by omega⟩] at hQ
        refine gx_iload_n d_Machine_ruleFor_73 rfl ?_
        refine gx_iload d_Machine_ruleFor_74 rfl ?_
        refine gx_cS1 lk_Machine_75 d_Machine_ruleFor_76 (ct_ruleNumber) (by omega) rfl rfl (Nat.le_of_ble_eq_true rfl) ?_
        refine gx_ireturn rfl d_Machine_ruleFor_79 ?_
        exact hQ
      · rw [if_neg (fun g => by omega)] at hQ
        refine gx_iconst d_Machine_ruleFor_71 (-1) (by decide) ?_
        refine gx_ireturn rfl d_Machine_ruleFor_72 ?_
        exact hQ
def sp_ri (M : sp_M) (c : sp_C) : Int32 := match sp_rl M c with
  | none => -1
  | some r => nI r
theorem sp_ri_eq {M : sp_M} {c : sp_C} (hc : sp_ok c) : (if sp_let c.2.1 - 97 < 4 ∧ sp_kn M ((sp_let c.2.1 - 97) * 3 + c.2.2.getD 0 0) = 1 then nI ((sp_let c.2.1 - 97) * 3 + c.2.2.getD 0 0) else -1) = sp_ri M c := by
  unfold sp_ri sp_rl
  by_cases h4 : c.2.1 = 4
  · rw [h4, if_neg (fun g => absurd g.1 (by decide)), if_neg (fun g => absurd g.1 (by decide))]
  · have e : sp_let c.2.1 - 97 = c.2.1 := by unfold sp_let; rw [if_neg h4]; omega
    rw [e]
    by_cases h5 : c.2.1 < 4 ∧ sp_kn M (c.2.1 * 3 + c.2.2.getD 0 0) = 1
    · rw [if_pos h5, if_pos h5]
    · rw [if_neg h5, if_neg h5]
theorem ct_ruleFor {w : gx_W} {a : Nat} {M : sp_M} {t : List Nat} (hm : mcAt w a M t) (hM : sp_Mok M) {h cap : Nat} {c : sp_C} (hw : w.1 h = some (gx_bx 0 cap (sp_txt c))) (hc : sp_ok c)  : gx_Ct M_Machine_ruleFor 2 0 0 [.ref a, .ref h] w (gx_eq (some (.int (sp_ri M c))) w) := by
  refine gx_ct (L := [some (.ref a), some (.ref h), none, none, none]) (by decide) (Nat.le_of_ble_eq_true rfl) rfl ?_
  have hm0 := hm
  obtain ⟨m0, m1, m2, m3, m4, m5⟩ := hm
  refine gx_bsz hw (fun hlen hcap hsm => ?_)
  rw [sp_txt_len] at hlen
  have hge := sp_let_ge c.2.1
  have hlt := sp_let_lt hc.2.1
  have hs3 := sp_gd_lt hc.2.2 0
  have hsl : sp_len c = c.1.length + 1 + c.2.2.length := rfl
  refine gx_aload_n d_Machine_ruleFor_0 rfl ?_
  refine gx_cV1 lk_Machine_54 d_Machine_ruleFor_1 (ct_Word_head hw sp_hd3 (sp_hd1 hc) sp_hd2) (Or.inr ⟨_, _, hw⟩) (by omega) rfl rfl (Nat.le_of_ble_eq_true rfl) ?_
  refine gx_istore_n d_Machine_ruleFor_4 (Nat.le_of_ble_eq_true rfl) rfl ?_
  refine gx_aload_n d_Machine_ruleFor_5 rfl ?_
  refine gx_iload_n d_Machine_ruleFor_6 rfl ?_
  refine gx_cV1 lk_Machine_58 d_Machine_ruleFor_7 (ct_Word_at (j := c.1.length) hw (by omega)) (Or.inr ⟨_, _, hw⟩) (by omega) rfl rfl (Nat.le_of_ble_eq_true rfl) ?_
  refine gx_top (congrArg nI sp_txt_mid) ?_
  refine gx_iconst d_Machine_ruleFor_10 (nI 0) (by decide) ?_
  refine gx_cS1 lk_Machine_34 d_Machine_ruleFor_11 (ct_letter (q := 0) (by omega)) (by omega) rfl rfl (Nat.le_of_ble_eq_true rfl) ?_
  refine gx_top (show _ = nI 97 from rfl) ?_
  refine gx_isubN (by omega) d_Machine_ruleFor_14 ?_
  refine gx_istore_n d_Machine_ruleFor_15 (Nat.le_of_ble_eq_true rfl) rfl ?_
  refine gx_iload_n d_Machine_ruleFor_16 rfl ?_
  refine gx_iconst d_Machine_ruleFor_17 (nI 1) (by decide) ?_
  refine gx_iaddN d_Machine_ruleFor_18 ?_
  refine gx_aload_n d_Machine_ruleFor_19 rfl ?_
  refine gx_cV1 lk_Machine_61 d_Machine_ruleFor_20 (ct_Word_size hw) (Or.inr ⟨_, _, hw⟩) (by omega) rfl rfl (Nat.le_of_ble_eq_true rfl) ?_
  refine gx_top (congrArg nI (sp_txt_len c)) ?_
  refine gx_icmp_geN (by omega) (by omega) (tgt := 39) d_Machine_ruleFor_23 (by decide) (fun h23 => ?_) (fun h23 => ?_)
  · refine gx_iconst d_Machine_ruleFor_39 (nI (c.2.2.getD 0 0)) (by rw [gx_gd_ge (by omega)]; decide) ?_
    exact rf_tail (s := c.2.2.getD 0 0) (st := sp_let c.2.1 - 97) ⟨m0, m1, m2, m3, m4, m5⟩ hM hs3 (by omega) ⟨by rw [sp_ri_eq hc], rfl⟩
  · refine gx_aload_n d_Machine_ruleFor_26 rfl ?_
    refine gx_iload_n d_Machine_ruleFor_27 rfl ?_
    refine gx_iconst d_Machine_ruleFor_28 (nI 1) (by decide) ?_
    refine gx_iaddN d_Machine_ruleFor_29 ?_
    refine gx_cV1 lk_Machine_58 d_Machine_ruleFor_30 (ct_Word_at (j := c.1.length + 1) hw (by omega)) (Or.inr ⟨_, _, hw⟩) (by omega) rfl rfl (Nat.le_of_ble_eq_true rfl) ?_
    refine gx_top (congrArg nI (sp_txt_hi (i := 0) (by omega))) ?_
    refine gx_cS1 lk_Machine_64 d_Machine_ruleFor_33 (ct_symbolOf) (by omega) rfl rfl (Nat.le_of_ble_eq_true rfl) ?_
    refine gx_top (show _ = nI (c.2.2.getD 0 0) by rw [pk_sub (by omega), Nat.add_sub_cancel_left]) ?_
    refine gx_goto (tgt := 40) d_Machine_ruleFor_36 (by decide) ?_
    exact rf_tail (s := c.2.2.getD 0 0) (st := sp_let c.2.1 - 97) ⟨m0, m1, m2, m3, m4, m5⟩ hM hs3 (by omega) ⟨by rw [sp_ri_eq hc], rfl⟩
theorem d_Machine_step_0 : decode prog_5_method_6_code 0 = .ok (.aload_n 0, 1) := by decide +kernel
theorem d_Machine_step_1 : decode prog_5_method_6_code 1 = .ok (.aload_n 1, 1) := by decide +kernel
theorem d_Machine_step_2 : decode prog_5_method_6_code 2 = .ok (.invokevirtual 78, 3) := by decide +kernel
theorem d_Machine_step_5 : decode prog_5_method_6_code 5 = .ok (.istore_n 3, 1) := by decide +kernel
theorem d_Machine_step_6 : decode prog_5_method_6_code 6 = .ok (.aload_n 1, 1) := by decide +kernel
theorem d_Machine_step_7 : decode prog_5_method_6_code 7 = .ok (.invokevirtual 54, 3) := by decide +kernel
theorem d_Machine_step_10 : decode prog_5_method_6_code 10 = .ok (.istore 4, 2) := by decide +kernel
theorem d_Machine_step_12 : decode prog_5_method_6_code 12 = .ok (.iload_n 3, 1) := by decide +kernel
theorem d_Machine_step_13 : decode prog_5_method_6_code 13 = .ok (.iconst (-1), 1) := by decide +kernel
theorem d_Machine_step_14 : decode prog_5_method_6_code 14 = .ok (.if_icmp .eq 17, 3) := by decide +kernel
theorem d_Machine_step_17 : decode prog_5_method_6_code 17 = .ok (.iload 4, 2) := by decide +kernel
theorem d_Machine_step_19 : decode prog_5_method_6_code 19 = .ok (.ifCond .ne 14, 3) := by decide +kernel
theorem d_Machine_step_22 : decode prog_5_method_6_code 22 = .ok (.aload_n 0, 1) := by decide +kernel
theorem d_Machine_step_23 : decode prog_5_method_6_code 23 = .ok (.getfield 15, 3) := by decide +kernel
theorem d_Machine_step_26 : decode prog_5_method_6_code 26 = .ok (.iload_n 3, 1) := by decide +kernel
theorem d_Machine_step_27 : decode prog_5_method_6_code 27 = .ok (.baload, 1) := by decide +kernel
theorem d_Machine_step_28 : decode prog_5_method_6_code 28 = .ok (.ifCond .ne 5, 3) := by decide +kernel
theorem d_Machine_step_31 : decode prog_5_method_6_code 31 = .ok (.iconst 0, 1) := by decide +kernel
theorem d_Machine_step_32 : decode prog_5_method_6_code 32 = .ok (.ireturn, 1) := by decide +kernel
theorem d_Machine_step_33 : decode prog_5_method_6_code 33 = .ok (.aload_n 2, 1) := by decide +kernel
theorem d_Machine_step_34 : decode prog_5_method_6_code 34 = .ok (.invokevirtual 42, 3) := by decide +kernel
theorem d_Machine_step_37 : decode prog_5_method_6_code 37 = .ok (.aload_n 0, 1) := by decide +kernel
theorem d_Machine_step_38 : decode prog_5_method_6_code 38 = .ok (.getfield 15, 3) := by decide +kernel
theorem d_Machine_step_41 : decode prog_5_method_6_code 41 = .ok (.iload_n 3, 1) := by decide +kernel
theorem d_Machine_step_42 : decode prog_5_method_6_code 42 = .ok (.baload, 1) := by decide +kernel
theorem d_Machine_step_43 : decode prog_5_method_6_code 43 = .ok (.ifCond .eq 40, 3) := by decide +kernel
theorem d_Machine_step_46 : decode prog_5_method_6_code 46 = .ok (.aload_n 2, 1) := by decide +kernel
theorem d_Machine_step_47 : decode prog_5_method_6_code 47 = .ok (.aload_n 1, 1) := by decide +kernel
theorem d_Machine_step_48 : decode prog_5_method_6_code 48 = .ok (.iconst 0, 1) := by decide +kernel
theorem d_Machine_step_49 : decode prog_5_method_6_code 49 = .ok (.iload 4, 2) := by decide +kernel
theorem d_Machine_step_51 : decode prog_5_method_6_code 51 = .ok (.invokevirtual 82, 3) := by decide +kernel
theorem d_Machine_step_54 : decode prog_5_method_6_code 54 = .ok (.aload_n 2, 1) := by decide +kernel
theorem d_Machine_step_55 : decode prog_5_method_6_code 55 = .ok (.aload_n 0, 1) := by decide +kernel
theorem d_Machine_step_56 : decode prog_5_method_6_code 56 = .ok (.getfield 18, 3) := by decide +kernel
theorem d_Machine_step_59 : decode prog_5_method_6_code 59 = .ok (.iload_n 3, 1) := by decide +kernel
theorem d_Machine_step_60 : decode prog_5_method_6_code 60 = .ok (.iaload, 1) := by decide +kernel
theorem d_Machine_step_61 : decode prog_5_method_6_code 61 = .ok (.invokestatic 45, 3) := by decide +kernel
theorem d_Machine_step_64 : decode prog_5_method_6_code 64 = .ok (.invokevirtual 38, 3) := by decide +kernel
theorem d_Machine_step_67 : decode prog_5_method_6_code 67 = .ok (.aload_n 0, 1) := by decide +kernel
theorem d_Machine_step_68 : decode prog_5_method_6_code 68 = .ok (.getfield 22, 3) := by decide +kernel
theorem d_Machine_step_71 : decode prog_5_method_6_code 71 = .ok (.iload_n 3, 1) := by decide +kernel
theorem d_Machine_step_72 : decode prog_5_method_6_code 72 = .ok (.iaload, 1) := by decide +kernel
theorem d_Machine_step_73 : decode prog_5_method_6_code 73 = .ok (.invokestatic 34, 3) := by decide +kernel
theorem d_Machine_step_76 : decode prog_5_method_6_code 76 = .ok (.invokevirtual 38, 3) := by decide +kernel
theorem d_Machine_step_79 : decode prog_5_method_6_code 79 = .ok (.pop, 1) := by decide +kernel
theorem d_Machine_step_80 : decode prog_5_method_6_code 80 = .ok (.goto 50, 3) := by decide +kernel
theorem d_Machine_step_83 : decode prog_5_method_6_code 83 = .ok (.aload_n 2, 1) := by decide +kernel
theorem d_Machine_step_84 : decode prog_5_method_6_code 84 = .ok (.aload_n 1, 1) := by decide +kernel
theorem d_Machine_step_85 : decode prog_5_method_6_code 85 = .ok (.iconst 0, 1) := by decide +kernel
theorem d_Machine_step_86 : decode prog_5_method_6_code 86 = .ok (.iload 4, 2) := by decide +kernel
theorem d_Machine_step_88 : decode prog_5_method_6_code 88 = .ok (.iconst 1, 1) := by decide +kernel
theorem d_Machine_step_89 : decode prog_5_method_6_code 89 = .ok (.isub, 1) := by decide +kernel
theorem d_Machine_step_90 : decode prog_5_method_6_code 90 = .ok (.invokevirtual 82, 3) := by decide +kernel
theorem d_Machine_step_93 : decode prog_5_method_6_code 93 = .ok (.aload_n 2, 1) := by decide +kernel
theorem d_Machine_step_94 : decode prog_5_method_6_code 94 = .ok (.aload_n 0, 1) := by decide +kernel
theorem d_Machine_step_95 : decode prog_5_method_6_code 95 = .ok (.getfield 22, 3) := by decide +kernel
theorem d_Machine_step_98 : decode prog_5_method_6_code 98 = .ok (.iload_n 3, 1) := by decide +kernel
theorem d_Machine_step_99 : decode prog_5_method_6_code 99 = .ok (.iaload, 1) := by decide +kernel
theorem d_Machine_step_100 : decode prog_5_method_6_code 100 = .ok (.invokestatic 34, 3) := by decide +kernel
theorem d_Machine_step_103 : decode prog_5_method_6_code 103 = .ok (.invokevirtual 38, 3) := by decide +kernel
theorem d_Machine_step_106 : decode prog_5_method_6_code 106 = .ok (.aload_n 1, 1) := by decide +kernel
theorem d_Machine_step_107 : decode prog_5_method_6_code 107 = .ok (.iload 4, 2) := by decide +kernel
theorem d_Machine_step_109 : decode prog_5_method_6_code 109 = .ok (.iconst 1, 1) := by decide +kernel
theorem d_Machine_step_110 : decode prog_5_method_6_code 110 = .ok (.isub, 1) := by decide +kernel
theorem d_Machine_step_111 : decode prog_5_method_6_code 111 = .ok (.invokevirtual 58, 3) := by decide +kernel
theorem d_Machine_step_114 : decode prog_5_method_6_code 114 = .ok (.invokevirtual 38, 3) := by decide +kernel
theorem d_Machine_step_117 : decode prog_5_method_6_code 117 = .ok (.aload_n 0, 1) := by decide +kernel
theorem d_Machine_step_118 : decode prog_5_method_6_code 118 = .ok (.getfield 18, 3) := by decide +kernel
theorem d_Machine_step_121 : decode prog_5_method_6_code 121 = .ok (.iload_n 3, 1) := by decide +kernel
theorem d_Machine_step_122 : decode prog_5_method_6_code 122 = .ok (.iaload, 1) := by decide +kernel
theorem d_Machine_step_123 : decode prog_5_method_6_code 123 = .ok (.invokestatic 45, 3) := by decide +kernel
theorem d_Machine_step_126 : decode prog_5_method_6_code 126 = .ok (.invokevirtual 38, 3) := by decide +kernel
theorem d_Machine_step_129 : decode prog_5_method_6_code 129 = .ok (.pop, 1) := by decide +kernel
theorem d_Machine_step_130 : decode prog_5_method_6_code 130 = .ok (.aload_n 2, 1) := by decide +kernel
theorem d_Machine_step_131 : decode prog_5_method_6_code 131 = .ok (.aload_n 1, 1) := by decide +kernel
theorem d_Machine_step_132 : decode prog_5_method_6_code 132 = .ok (.iload 4, 2) := by decide +kernel
theorem d_Machine_step_134 : decode prog_5_method_6_code 134 = .ok (.iconst 2, 1) := by decide +kernel
theorem d_Machine_step_135 : decode prog_5_method_6_code 135 = .ok (.iadd, 1) := by decide +kernel
theorem d_Machine_step_136 : decode prog_5_method_6_code 136 = .ok (.aload_n 1, 1) := by decide +kernel
theorem d_Machine_step_137 : decode prog_5_method_6_code 137 = .ok (.invokevirtual 61, 3) := by decide +kernel
theorem d_Machine_step_140 : decode prog_5_method_6_code 140 = .ok (.invokevirtual 82, 3) := by decide +kernel
theorem d_Machine_step_143 : decode prog_5_method_6_code 143 = .ok (.iconst 1, 1) := by decide +kernel
theorem d_Machine_step_144 : decode prog_5_method_6_code 144 = .ok (.ireturn, 1) := by decide +kernel
theorem ct_step_none {w : gx_W} {a : Nat} {M : sp_M} {t : List Nat} (hm : mcAt w a M t) (hM : sp_Mok M) {h cap : Nat} {c : sp_C} (hw : w.1 h = some (gx_bx 0 cap (sp_txt c))) (hc : sp_ok c) {h2 : Nat} (hn : sp_step M c = none) : gx_Ct M_Machine_step 3 0 0 [.ref a, .ref h, .ref h2] w (gx_eq (some (.int (nI 0))) w) := by
  refine gx_ct (L := [some (.ref a), some (.ref h), some (.ref h2), none, none]) (by decide) (Nat.le_of_ble_eq_true rfl) rfl ?_
  have hm0 := hm
  obtain ⟨m0, m1, m2, m3, m4, m5⟩ := hm
  refine gx_bsz hw (fun hlen hcap hsm => ?_)
  rw [sp_txt_len] at hlen
  have hsl : sp_len c = c.1.length + 1 + c.2.2.length := rfl
  refine gx_aload_n d_Machine_step_0 rfl ?_
  refine gx_aload_n d_Machine_step_1 rfl ?_
  refine gx_cV1 lk_Machine_78 d_Machine_step_2 (ct_ruleFor hm0 hM hw hc) (Or.inl ⟨_, m0⟩) (by omega) rfl rfl (Nat.le_of_ble_eq_true rfl) ?_
  refine gx_istore_n d_Machine_step_5 (Nat.le_of_ble_eq_true rfl) rfl ?_
  refine gx_aload_n d_Machine_step_6 rfl ?_
  refine gx_cV1 lk_Machine_54 d_Machine_step_7 (ct_Word_head hw sp_hd3 (sp_hd1 hc) sp_hd2) (Or.inr ⟨_, _, hw⟩) (by omega) rfl rfl (Nat.le_of_ble_eq_true rfl) ?_
  refine gx_istore d_Machine_step_10 (Nat.le_of_ble_eq_true rfl) rfl ?_
  refine gx_iload_n d_Machine_step_12 rfl ?_
  refine gx_iconst d_Machine_step_13 (-1) (by decide) ?_
  refine gx_icmp_eq (tgt := 31) d_Machine_step_14 (by decide) (fun h14 => ?_) (fun h14 => ?_)
  · refine gx_iconst d_Machine_step_31 (nI 0) (by decide) ?_
    refine gx_zreturn rfl (by decide) d_Machine_step_32 ?_
    exact ⟨rfl, rfl⟩
  · obtain ⟨r, hr, hri, hn0⟩ : ∃ r, sp_rl M c = some r ∧ sp_ri M c = nI r ∧ (sp_rt M r = 0 ∧ c.1.length = 0) := by
      cases hr : sp_rl M c with
      | none => exact absurd (show sp_ri M c = -1 by unfold sp_ri; rw [hr]) h14
      | some r =>
        refine ⟨r, rfl, by unfold sp_ri; rw [hr], ?_⟩
        unfold sp_step at hn
        rw [hr] at hn
        have h1 := (hM r).2.1
        by_cases e : sp_rt M r = 1
        · simp [e] at hn
        · by_cases e2 : c.1.length = 0
          · exact ⟨by omega, e2⟩
          · simp only [if_neg e, if_neg e2] at hn
            cases hn
    obtain ⟨hr12, -⟩ := sp_rl_lt hr hc
    rw [hri]
    refine gx_iload d_Machine_step_17 rfl ?_
    refine gx_if_neN (by omega) (tgt := 33) d_Machine_step_19 (by decide) (fun h19 => ?_) (fun h19 => ?_)
    · exact absurd hn0.2 h19
    · refine gx_aload_n d_Machine_step_22 rfl ?_
      refine gx_get fl_Machine_15 d_Machine_step_23 m0 rfl ?_
      refine gx_iload_n d_Machine_step_26 rfl ?_
      refine gx_zald d_Machine_step_27 m2 (by omega) (by omega) ?_
      refine gx_if_neN (by omega) (tgt := 33) d_Machine_step_28 (by decide) (fun h28 => ?_) (fun h28 => ?_)
      · exact absurd hn0.1 (by omega)
      · refine gx_iconst d_Machine_step_31 (nI 0) (by decide) ?_
        refine gx_zreturn rfl (by decide) d_Machine_step_32 ?_
        exact ⟨rfl, rfl⟩
theorem st_tail {Q : gx_P} {w : gx_W} {a h h2 cap cap2 r : Nat} {c : sp_C} {l : List Nat} (hw : w.1 h = some (gx_bx 0 cap (sp_txt c))) (hw2 : w.1 h2 = some (gx_bx 0 cap2 l)) (hne : h ≠ h2) (hl : l.length + c.2.2.tail.length ≤ cap2) (hQ : Q.1 (some (.int (nI 1))) (gx_st w h2 (gx_bx 0 cap2 (l ++ sp_ds c.2.2.tail)))) : gx_X (fun _ _ => True) M_Machine_step 3 Q 130 [some (.ref a), some (.ref h), some (.ref h2), some (.int (nI r)), some (.int (nI c.1.length))] [] w (0, 0) := by
  refine gx_bsz hw (fun hlen hcap hsm => ?_)
  have hlen2 := hlen
  rw [sp_txt_len] at hlen
  have hsl : sp_len c = c.1.length + 1 + c.2.2.length := rfl
  have htl : c.2.2.tail.length = c.2.2.length - 1 := List.length_tail
  refine gx_aload_n d_Machine_step_130 rfl ?_
  refine gx_aload_n d_Machine_step_131 rfl ?_
  refine gx_iload d_Machine_step_132 rfl ?_
  refine gx_iconst d_Machine_step_134 (nI 2) (by decide) ?_
  refine gx_iaddN d_Machine_step_135 ?_
  refine gx_aload_n d_Machine_step_136 rfl ?_
  refine gx_cV1 lk_Machine_61 d_Machine_step_137 (ct_Word_size hw) (Or.inr ⟨_, _, hw⟩) (by omega) rfl rfl (Nat.le_of_ble_eq_true rfl) ?_
  refine gx_cV0 lk_Machine_82 d_Machine_step_140 (ct_Word_addPart (a := c.1.length + 2) (b := (sp_txt c).length) hw2 hw hne (by omega) (Nat.le_refl _) (by rw [sp_txt_len]; omega)) (Or.inr ⟨_, _, hw2⟩) (by omega) rfl rfl (Nat.le_of_ble_eq_true rfl) ?_
  refine gx_iconst d_Machine_step_143 (nI 1) (by decide) ?_
  refine gx_zreturn rfl (by decide) d_Machine_step_144 ?_
  rw [sp_drop2]
  exact hQ
theorem sp_step_R {M : sp_M} {c c' : sp_C} {r : Nat} (h : sp_rl M c = some r) (h1 : sp_rt M r = 1) (h2 : sp_step M c = some c') : sp_txt c' = sp_ds c.1 ++ [48 + sp_wr M r] ++ [sp_let (sp_nx M r)] ++ sp_ds c.2.2.tail := by
  unfold sp_step at h2
  rw [h] at h2
  simp only [if_pos h1] at h2
  cases h2
  simp [sp_txt, sp_ds]
theorem sp_step_L {M : sp_M} {c c' : sp_C} {r : Nat} (h : sp_rl M c = some r) (h1 : ¬ sp_rt M r = 1) (h2 : sp_step M c = some c') : c.1.length ≠ 0 ∧ sp_txt c' = sp_ds c.1.dropLast ++ [sp_let (sp_nx M r)] ++ [48 + sp_lst c.1] ++ [48 + sp_wr M r] ++ sp_ds c.2.2.tail := by
  unfold sp_step at h2
  rw [h] at h2
  simp only [if_neg h1] at h2
  by_cases e : c.1.length = 0
  · rw [if_pos e] at h2; cases h2
  · rw [if_neg e] at h2
    cases h2
    exact ⟨e, by simp [sp_txt, sp_ds]⟩
theorem sp_step_rl {M : sp_M} {c c' : sp_C} (h : sp_step M c = some c') : ∃ r, sp_rl M c = some r ∧ sp_ri M c = nI r := by
  unfold sp_step at h
  unfold sp_ri
  cases hr : sp_rl M c with
  | none => rw [hr] at h; cases h
  | some r => exact ⟨r, rfl, rfl⟩
theorem ct_step_some {w : gx_W} {a : Nat} {M : sp_M} {t : List Nat} (hm : mcAt w a M t) (hM : sp_Mok M) {h cap : Nat} {c : sp_C} (hw : w.1 h = some (gx_bx 0 cap (sp_txt c))) (hc : sp_ok c) {h2 cap2 : Nat} {c' : sp_C} {l2 : List Nat} (hw2 : w.1 h2 = some (gx_bx 0 cap2 l2)) (hne : h ≠ h2) (hah : a + 7 ≤ h2) (hs : sp_step M c = some c') (hl : sp_len c' ≤ cap2) : gx_Ct M_Machine_step 3 0 0 [.ref a, .ref h, .ref h2] w (gx_eq (some (.int (nI 1))) (gx_st w h2 (gx_bx 0 cap2 (sp_txt c')))) := by
  refine gx_ct (L := [some (.ref a), some (.ref h), some (.ref h2), none, none]) (by decide) (Nat.le_of_ble_eq_true rfl) rfl ?_
  have hm0 := hm
  obtain ⟨m0, m1, m2, m3, m4, m5⟩ := hm
  refine gx_bsz hw (fun hlen hcap hsm => ?_)
  rw [sp_txt_len] at hlen
  have hsl : sp_len c = c.1.length + 1 + c.2.2.length := rfl
  obtain ⟨r, hr, hri⟩ := sp_step_rl hs
  obtain ⟨hr12, -⟩ := sp_rl_lt hr hc
  have hMr := hM r
  have htl : c.2.2.tail.length = c.2.2.length - 1 := List.length_tail
  rw [← sp_txt_len] at hl
  refine gx_aload_n d_Machine_step_0 rfl ?_
  refine gx_aload_n d_Machine_step_1 rfl ?_
  refine gx_cV1 lk_Machine_78 d_Machine_step_2 (ct_ruleFor hm0 hM hw hc) (Or.inl ⟨_, m0⟩) (by omega) rfl rfl (Nat.le_of_ble_eq_true rfl) ?_
  rw [hri]
  refine gx_istore_n d_Machine_step_5 (Nat.le_of_ble_eq_true rfl) rfl ?_
  refine gx_aload_n d_Machine_step_6 rfl ?_
  refine gx_cV1 lk_Machine_54 d_Machine_step_7 (ct_Word_head hw sp_hd3 (sp_hd1 hc) sp_hd2) (Or.inr ⟨_, _, hw⟩) (by omega) rfl rfl (Nat.le_of_ble_eq_true rfl) ?_
  refine gx_istore d_Machine_step_10 (Nat.le_of_ble_eq_true rfl) rfl ?_
  refine gx_iload_n d_Machine_step_12 rfl ?_
  refine gx_iconst d_Machine_step_13 (-1) (by decide) ?_
  refine gx_icmp_eq (tgt := 31) d_Machine_step_14 (by decide) (fun h14 => ?_) (fun h14 => ?_)
  · exact absurd h14 (gx_nm1 (by omega))
  · refine gx_iload d_Machine_step_17 rfl ?_
    refine gx_if_neN (by omega) (tgt := 33) d_Machine_step_19 (by decide) (fun h19 => ?_) (fun h19 => ?_)
    · refine gx_aload_n d_Machine_step_33 rfl ?_
      refine gx_cV0 lk_Machine_42 d_Machine_step_34 (ct_Word_empty hw2) (Or.inr ⟨_, _, hw2⟩) (by omega) rfl rfl (Nat.le_of_ble_eq_true rfl) ?_
      have e2 : (gx_st w h2 (gx_bx 0 cap2 [])).1 h2 = some (gx_bx 0 cap2 []) := gx_st_eq
      generalize hwe : gx_st w h2 (gx_bx 0 cap2 []) = w1 at e2 ⊢
      have k0 := (show w1.1 a = w.1 a by rw [← hwe, gx_st_ne (by omega)]).trans m0
      have k2 := (show w1.1 (a + 2) = w.1 (a + 2) by rw [← hwe, gx_st_ne (by omega)]).trans m2
      have k3 := (show w1.1 (a + 3) = w.1 (a + 3) by rw [← hwe, gx_st_ne (by omega)]).trans m3
      have k4 := (show w1.1 (a + 4) = w.1 (a + 4) by rw [← hwe, gx_st_ne (by omega)]).trans m4
      have kh := (show w1.1 h = w.1 h by rw [← hwe, gx_st_ne hne]).trans hw
      have kfin : ∀ x, gx_st w1 h2 x = gx_st w h2 x := fun x => by rw [← hwe, gx_st_st]
      refine gx_aload_n d_Machine_step_37 rfl ?_
      refine gx_get fl_Machine_15 d_Machine_step_38 k0 rfl ?_
      refine gx_iload_n d_Machine_step_41 rfl ?_
      refine gx_zald d_Machine_step_42 k2 (by omega) (by omega) ?_
      refine gx_if_eqN (by omega) (tgt := 83) d_Machine_step_43 (by decide) (fun h43 => ?_) (fun h43 => ?_)
      · have hLL := sp_step_L hr (by omega) hs
        refine gx_aload_n d_Machine_step_83 rfl ?_
        refine gx_aload_n d_Machine_step_84 rfl ?_
        refine gx_iconst d_Machine_step_85 (nI 0) (by decide) ?_
        refine gx_iload d_Machine_step_86 rfl ?_
        refine gx_iconst d_Machine_step_88 (nI 1) (by decide) ?_
        refine gx_isubN (by omega) d_Machine_step_89 ?_
        refine gx_cV0 lk_Machine_82 d_Machine_step_90 (ct_Word_addPart (a := 0) (b := c.1.length - 1) e2 kh hne (by omega) (by have := sp_hd3 (c := c); omega) (by rw [hLL.2] at hl; simp [sp_ds_len] at hl ⊢; omega)) (Or.inr ⟨_, _, e2⟩) (by omega) rfl rfl (Nat.le_of_ble_eq_true rfl) ?_
        rw [sp_take1, List.nil_append]
        refine gx_aload_n d_Machine_step_93 rfl ?_
        refine gx_aload_n d_Machine_step_94 rfl ?_
        refine gx_get fl_Machine_22 d_Machine_step_95 (by rw [gx_st_ne (by omega)]; exact k0) rfl ?_
        refine gx_iload_n d_Machine_step_98 rfl ?_
        refine gx_iald d_Machine_step_99 (by rw [gx_st_ne (by omega)]; exact k4) (by omega) (by omega) ?_
        refine gx_cS1 lk_Machine_34 d_Machine_step_100 (ct_letter hMr.2.2.2) (by omega) rfl rfl (Nat.le_of_ble_eq_true rfl) ?_
        refine gx_cV1 lk_Machine_38 d_Machine_step_103 (ct_Word_add gx_st_eq (by have := sp_let_lt hMr.2.2.2; omega) (by rw [hLL.2] at hl; simp [sp_ds_len] at hl ⊢; omega)) (Or.inr ⟨_, _, gx_st_eq⟩) (by omega) rfl rfl (Nat.le_of_ble_eq_true rfl) ?_
        rw [gx_st_st]
        refine gx_aload_n d_Machine_step_106 rfl ?_
        refine gx_iload d_Machine_step_107 rfl ?_
        refine gx_iconst d_Machine_step_109 (nI 1) (by decide) ?_
        refine gx_isubN (by omega) d_Machine_step_110 ?_
        refine gx_cV1 lk_Machine_58 d_Machine_step_111 (ct_Word_at (j := c.1.length - 1) (w := gx_st w1 h2 _) (by rw [gx_st_ne hne]; exact kh) (by omega)) (Or.inr ⟨_, _, by rw [gx_st_ne hne]; exact kh⟩) (by omega) rfl rfl (Nat.le_of_ble_eq_true rfl) ?_
        refine gx_top (congrArg nI (sp_txt_lo (by omega))) ?_
        refine gx_cV1 lk_Machine_38 d_Machine_step_114 (ct_Word_add gx_st_eq (by have := sp_gd_lt hc.1 (c.1.length - 1); omega) (by rw [hLL.2] at hl; simp [sp_ds_len] at hl ⊢; omega)) (Or.inr ⟨_, _, gx_st_eq⟩) (by omega) rfl rfl (Nat.le_of_ble_eq_true rfl) ?_
        rw [gx_st_st]
        refine gx_aload_n d_Machine_step_117 rfl ?_
        refine gx_get fl_Machine_18 d_Machine_step_118 (by rw [gx_st_ne (by omega)]; exact k0) rfl ?_
        refine gx_iload_n d_Machine_step_121 rfl ?_
        refine gx_iald d_Machine_step_122 (by rw [gx_st_ne (by omega)]; exact k3) (by omega) (by omega) ?_
        refine gx_cS1 lk_Machine_45 d_Machine_step_123 (ct_digit (by omega)) (by omega) rfl rfl (Nat.le_of_ble_eq_true rfl) ?_
        refine gx_cV1 lk_Machine_38 d_Machine_step_126 (ct_Word_add gx_st_eq (by omega) (by rw [hLL.2] at hl; simp [sp_ds_len] at hl ⊢; omega)) (Or.inr ⟨_, _, gx_st_eq⟩) (by omega) rfl rfl (Nat.le_of_ble_eq_true rfl) ?_
        rw [gx_st_st]
        refine gx_pop d_Machine_step_129 rfl ?_
        refine st_tail (w := gx_st w1 h2 _) (by rw [gx_st_ne hne]; exact kh) gx_st_eq hne ?_ ?_
        · first | (rw [hR] at hl; simp [sp_ds_len] at hl ⊢; omega) | (rw [hLL.2] at hl; simp [sp_ds_len] at hl ⊢; omega)
        · rw [gx_st_st, kfin]
          first | (rw [hR]; exact ⟨rfl, rfl⟩) | (rw [hLL.2]; exact ⟨rfl, rfl⟩)
      · have hR := sp_step_R hr (by omega) hs
        refine gx_aload_n d_Machine_step_46 rfl ?_
        refine gx_aload_n d_Machine_step_47 rfl ?_
        refine gx_iconst d_Machine_step_48 (nI 0) (by decide) ?_
        refine gx_iload d_Machine_step_49 rfl ?_
        refine gx_cV0 lk_Machine_82 d_Machine_step_51 (ct_Word_addPart (a := 0) (b := c.1.length) e2 kh hne (by omega) (Nat.le_of_lt sp_hd3) (by rw [hR] at hl; simp [sp_ds_len] at hl ⊢; omega)) (Or.inr ⟨_, _, e2⟩) (by omega) rfl rfl (Nat.le_of_ble_eq_true rfl) ?_
        rw [sp_take0, List.nil_append]
        refine gx_aload_n d_Machine_step_54 rfl ?_
        refine gx_aload_n d_Machine_step_55 rfl ?_
        refine gx_get fl_Machine_18 d_Machine_step_56 (by rw [gx_st_ne (by omega)]; exact k0) rfl ?_
        refine gx_iload_n d_Machine_step_59 rfl ?_
        refine gx_iald d_Machine_step_60 (by rw [gx_st_ne (by omega)]; exact k3) (by omega) (by omega) ?_
        refine gx_cS1 lk_Machine_45 d_Machine_step_61 (ct_digit (by omega)) (by omega) rfl rfl (Nat.le_of_ble_eq_true rfl) ?_
        refine gx_cV1 lk_Machine_38 d_Machine_step_64 (ct_Word_add gx_st_eq (by omega) (by rw [hR] at hl; simp [sp_ds_len] at hl ⊢; omega)) (Or.inr ⟨_, _, gx_st_eq⟩) (by omega) rfl rfl (Nat.le_of_ble_eq_true rfl) ?_
        rw [gx_st_st]
        refine gx_aload_n d_Machine_step_67 rfl ?_
        refine gx_get fl_Machine_22 d_Machine_step_68 (by rw [gx_st_ne (by omega)]; exact k0) rfl ?_
        refine gx_iload_n d_Machine_step_71 rfl ?_
        refine gx_iald d_Machine_step_72 (by rw [gx_st_ne (by omega)]; exact k4) (by omega) (by omega) ?_
        refine gx_cS1 lk_Machine_34 d_Machine_step_73 (ct_letter hMr.2.2.2) (by omega) rfl rfl (Nat.le_of_ble_eq_true rfl) ?_
        refine gx_cV1 lk_Machine_38 d_Machine_step_76 (ct_Word_add gx_st_eq (by have := sp_let_lt hMr.2.2.2; omega) (by rw [hR] at hl; simp [sp_ds_len] at hl ⊢; omega)) (Or.inr ⟨_, _, gx_st_eq⟩) (by omega) rfl rfl (Nat.le_of_ble_eq_true rfl) ?_
        rw [gx_st_st]
        refine gx_pop d_Machine_step_79 rfl ?_
        refine gx_goto (tgt := 130) d_Machine_step_80 (by decide) ?_
        refine st_tail (w := gx_st w1 h2 _) (by rw [gx_st_ne hne]; exact kh) gx_st_eq hne ?_ ?_
        · first | (rw [hR] at hl; simp [sp_ds_len] at hl ⊢; omega) | (rw [hLL.2] at hl; simp [sp_ds_len] at hl ⊢; omega)
        · rw [gx_st_st, kfin]
          first | (rw [hR]; exact ⟨rfl, rfl⟩) | (rw [hLL.2]; exact ⟨rfl, rfl⟩)
    · refine gx_aload_n d_Machine_step_22 rfl ?_
      refine gx_get fl_Machine_15 d_Machine_step_23 m0 rfl ?_
      refine gx_iload_n d_Machine_step_26 rfl ?_
      refine gx_zald d_Machine_step_27 m2 (by omega) (by omega) ?_
      refine gx_if_neN (by omega) (tgt := 33) d_Machine_step_28 (by decide) (fun h28 => ?_) (fun h28 => ?_)
      · refine gx_aload_n d_Machine_step_33 rfl ?_
        refine gx_cV0 lk_Machine_42 d_Machine_step_34 (ct_Word_empty hw2) (Or.inr ⟨_, _, hw2⟩) (by omega) rfl rfl (Nat.le_of_ble_eq_true rfl) ?_
        have e2 : (gx_st w h2 (gx_bx 0 cap2 [])).1 h2 = some (gx_bx 0 cap2 []) := gx_st_eq
        generalize hwe : gx_st w h2 (gx_bx 0 cap2 []) = w1 at e2 ⊢
        have k0 := (show w1.1 a = w.1 a by rw [← hwe, gx_st_ne (by omega)]).trans m0
        have k2 := (show w1.1 (a + 2) = w.1 (a + 2) by rw [← hwe, gx_st_ne (by omega)]).trans m2
        have k3 := (show w1.1 (a + 3) = w.1 (a + 3) by rw [← hwe, gx_st_ne (by omega)]).trans m3
        have k4 := (show w1.1 (a + 4) = w.1 (a + 4) by rw [← hwe, gx_st_ne (by omega)]).trans m4
        have kh := (show w1.1 h = w.1 h by rw [← hwe, gx_st_ne hne]).trans hw
        have kfin : ∀ x, gx_st w1 h2 x = gx_st w h2 x := fun x => by rw [← hwe, gx_st_st]
        refine gx_aload_n d_Machine_step_37 rfl ?_
        refine gx_get fl_Machine_15 d_Machine_step_38 k0 rfl ?_
        refine gx_iload_n d_Machine_step_41 rfl ?_
        refine gx_zald d_Machine_step_42 k2 (by omega) (by omega) ?_
        refine gx_if_eqN (by omega) (tgt := 83) d_Machine_step_43 (by decide) (fun h43 => ?_) (fun h43 => ?_)
        · have hLL := sp_step_L hr (by omega) hs
          refine gx_aload_n d_Machine_step_83 rfl ?_
          refine gx_aload_n d_Machine_step_84 rfl ?_
          refine gx_iconst d_Machine_step_85 (nI 0) (by decide) ?_
          refine gx_iload d_Machine_step_86 rfl ?_
          refine gx_iconst d_Machine_step_88 (nI 1) (by decide) ?_
          refine gx_isubN (by omega) d_Machine_step_89 ?_
          refine gx_cV0 lk_Machine_82 d_Machine_step_90 (ct_Word_addPart (a := 0) (b := c.1.length - 1) e2 kh hne (by omega) (by have := sp_hd3 (c := c); omega) (by rw [hLL.2] at hl; simp [sp_ds_len] at hl ⊢; omega)) (Or.inr ⟨_, _, e2⟩) (by omega) rfl rfl (Nat.le_of_ble_eq_true rfl) ?_
          rw [sp_take1, List.nil_append]
          refine gx_aload_n d_Machine_step_93 rfl ?_
          refine gx_aload_n d_Machine_step_94 rfl ?_
          refine gx_get fl_Machine_22 d_Machine_step_95 (by rw [gx_st_ne (by omega)]; exact k0) rfl ?_
          refine gx_iload_n d_Machine_step_98 rfl ?_
          refine gx_iald d_Machine_step_99 (by rw [gx_st_ne (by omega)]; exact k4) (by omega) (by omega) ?_
          refine gx_cS1 lk_Machine_34 d_Machine_step_100 (ct_letter hMr.2.2.2) (by omega) rfl rfl (Nat.le_of_ble_eq_true rfl) ?_
          refine gx_cV1 lk_Machine_38 d_Machine_step_103 (ct_Word_add gx_st_eq (by have := sp_let_lt hMr.2.2.2; omega) (by rw [hLL.2] at hl; simp [sp_ds_len] at hl ⊢; omega)) (Or.inr ⟨_, _, gx_st_eq⟩) (by omega) rfl rfl (Nat.le_of_ble_eq_true rfl) ?_
          rw [gx_st_st]
          refine gx_aload_n d_Machine_step_106 rfl ?_
          refine gx_iload d_Machine_step_107 rfl ?_
          refine gx_iconst d_Machine_step_109 (nI 1) (by decide) ?_
          refine gx_isubN (by omega) d_Machine_step_110 ?_
          refine gx_cV1 lk_Machine_58 d_Machine_step_111 (ct_Word_at (j := c.1.length - 1) (w := gx_st w1 h2 _) (by rw [gx_st_ne hne]; exact kh) (by omega)) (Or.inr ⟨_, _, by rw [gx_st_ne hne]; exact kh⟩) (by omega) rfl rfl (Nat.le_of_ble_eq_true rfl) ?_
          refine gx_top (congrArg nI (sp_txt_lo (by omega))) ?_
          refine gx_cV1 lk_Machine_38 d_Machine_step_114 (ct_Word_add gx_st_eq (by have := sp_gd_lt hc.1 (c.1.length - 1); omega) (by rw [hLL.2] at hl; simp [sp_ds_len] at hl ⊢; omega)) (Or.inr ⟨_, _, gx_st_eq⟩) (by omega) rfl rfl (Nat.le_of_ble_eq_true rfl) ?_
          rw [gx_st_st]
          refine gx_aload_n d_Machine_step_117 rfl ?_
          refine gx_get fl_Machine_18 d_Machine_step_118 (by rw [gx_st_ne (by omega)]; exact k0) rfl ?_
          refine gx_iload_n d_Machine_step_121 rfl ?_
          refine gx_iald d_Machine_step_122 (by rw [gx_st_ne (by omega)]; exact k3) (by omega) (by omega) ?_
          refine gx_cS1 lk_Machine_45 d_Machine_step_123 (ct_digit (by omega)) (by omega) rfl rfl (Nat.le_of_ble_eq_true rfl) ?_
          refine gx_cV1 lk_Machine_38 d_Machine_step_126 (ct_Word_add gx_st_eq (by omega) (by rw [hLL.2] at hl; simp [sp_ds_len] at hl ⊢; omega)) (Or.inr ⟨_, _, gx_st_eq⟩) (by omega) rfl rfl (Nat.le_of_ble_eq_true rfl) ?_
          rw [gx_st_st]
          refine gx_pop d_Machine_step_129 rfl ?_
          refine st_tail (w := gx_st w1 h2 _) (by rw [gx_st_ne hne]; exact kh) gx_st_eq hne ?_ ?_
          · first | (rw [hR] at hl; simp [sp_ds_len] at hl ⊢; omega) | (rw [hLL.2] at hl; simp [sp_ds_len] at hl ⊢; omega)
          · rw [gx_st_st, kfin]
            first | (rw [hR]; exact ⟨rfl, rfl⟩) | (rw [hLL.2]; exact ⟨rfl, rfl⟩)
        · have hR := sp_step_R hr (by omega) hs
          refine gx_aload_n d_Machine_step_46 rfl ?_
          refine gx_aload_n d_Machine_step_47 rfl ?_
          refine gx_iconst d_Machine_step_48 (nI 0) (by decide) ?_
          refine gx_iload d_Machine_step_49 rfl ?_
          refine gx_cV0 lk_Machine_82 d_Machine_step_51 (ct_Word_addPart (a := 0) (b := c.1.length) e2 kh hne (by omega) (Nat.le_of_lt sp_hd3) (by rw [hR] at hl; simp [sp_ds_len] at hl ⊢; omega)) (Or.inr ⟨_, _, e2⟩) (by omega) rfl rfl (Nat.le_of_ble_eq_true rfl) ?_
          rw [sp_take0, List.nil_append]
          refine gx_aload_n d_Machine_step_54 rfl ?_
          refine gx_aload_n d_Machine_step_55 rfl ?_
          refine gx_get fl_Machine_18 d_Machine_step_56 (by rw [gx_st_ne (by omega)]; exact k0) rfl ?_
          refine gx_iload_n d_Machine_step_59 rfl ?_
          refine gx_iald d_Machine_step_60 (by rw [gx_st_ne (by omega)]; exact k3) (by omega) (by omega) ?_
          refine gx_cS1 lk_Machine_45 d_Machine_step_61 (ct_digit (by omega)) (by omega) rfl rfl (Nat.le_of_ble_eq_true rfl) ?_
          refine gx_cV1 lk_Machine_38 d_Machine_step_64 (ct_Word_add gx_st_eq (by omega) (by rw [hR] at hl; simp [sp_ds_len] at hl ⊢; omega)) (Or.inr ⟨_, _, gx_st_eq⟩) (by omega) rfl rfl (Nat.le_of_ble_eq_true rfl) ?_
          rw [gx_st_st]
          refine gx_aload_n d_Machine_step_67 rfl ?_
          refine gx_get fl_Machine_22 d_Machine_step_68 (by rw [gx_st_ne (by omega)]; exact k0) rfl ?_
          refine gx_iload_n d_Machine_step_71 rfl ?_
          refine gx_iald d_Machine_step_72 (by rw [gx_st_ne (by omega)]; exact k4) (by omega) (by omega) ?_
          refine gx_cS1 lk_Machine_34 d_Machine_step_73 (ct_letter hMr.2.2.2) (by omega) rfl rfl (Nat.le_of_ble_eq_true rfl) ?_
          refine gx_cV1 lk_Machine_38 d_Machine_step_76 (ct_Word_add gx_st_eq (by have := sp_let_lt hMr.2.2.2; omega) (by rw [hR] at hl; simp [sp_ds_len] at hl ⊢; omega)) (Or.inr ⟨_, _, gx_st_eq⟩) (by omega) rfl rfl (Nat.le_of_ble_eq_true rfl) ?_
          rw [gx_st_st]
          refine gx_pop d_Machine_step_79 rfl ?_
          refine gx_goto (tgt := 130) d_Machine_step_80 (by decide) ?_
          refine st_tail (w := gx_st w1 h2 _) (by rw [gx_st_ne hne]; exact kh) gx_st_eq hne ?_ ?_
          · first | (rw [hR] at hl; simp [sp_ds_len] at hl ⊢; omega) | (rw [hLL.2] at hl; simp [sp_ds_len] at hl ⊢; omega)
          · rw [gx_st_st, kfin]
            first | (rw [hR]; exact ⟨rfl, rfl⟩) | (rw [hLL.2]; exact ⟨rfl, rfl⟩)
      · exact absurd (sp_step_L hr (by omega) hs).1 (by omega)
end
section
/-! Run: its methods -/
def rnF (r i : Nat) : Option Nat := if i < 13 then some (r + 2 + 2 * i) else none
/-- the run's object at r, its array at r + 1, its texts from r + 2 on -/
def rnAt (w : gx_W) (r n : Nat) (T : Nat → List Nat) : Prop := w.1 r = some (gx_ob 3 [.ref (r + 1), .int (nI n)]) ∧ w.1 (r + 1) = some (gx_ar 3 13 (rnF r)) ∧ ∀ i, i < 13 → w.1 (r + 2 + 2 * i) = some (gx_bx 0 11 (T i))
def rnOk (w : gx_W) (r : Nat) (rs : List sp_C) : Prop := rs ≠ [] ∧ rs.length ≤ 13 ∧ ∃ T, rnAt w r (rs.length - 1) T ∧ ∀ i, i < rs.length → T i = sp_txt (rs.getD i ([], 0, []))
theorem rnF_in {r i : Nat} (h : i < 13) : rnF r i = some (r + 2 + 2 * i) := if_pos h
theorem rnAt.kept {w w' : gx_W} {r n lo hi : Nat} {T : Nat → List Nat} (h : rnAt w r n T) (hk : gx_kp w w' lo hi) (hd : r + 28 ≤ lo ∨ hi ≤ r) : rnAt w' r n T := by
  obtain ⟨h0, h1, h2⟩ := h
  exact ⟨by rw [hk.2 _ (by omega)]; exact h0, by rw [hk.2 _ (by omega)]; exact h1, fun i hi => by rw [hk.2 _ (by omega)]; exact h2 i hi⟩
theorem rnOk.kept {w w' : gx_W} {r lo hi : Nat} {rs : List sp_C} (h : rnOk w r rs) (hk : gx_kp w w' lo hi) (hd : r + 28 ≤ lo ∨ hi ≤ r) : rnOk w' r rs := by
  obtain ⟨h0, h1, T, h2, h3⟩ := h
  exact ⟨h0, h1, T, h2.kept hk hd, h3⟩
theorem sp_step_len {M : sp_M} {c c' : sp_C} (h : sp_step M c = some c') : sp_len c' ≤ sp_len c + 1 := by
  unfold sp_step at h
  cases hr : sp_rl M c with
  | none => rw [hr] at h; cases h
  | some r =>
    rw [hr] at h
    have htl : c.2.2.tail.length = c.2.2.length - 1 := List.length_tail
    by_cases e : sp_rt M r = 1
    · simp only [if_pos e] at h
      cases h
      simp [sp_len]; omega
    · by_cases e2 : c.1.length = 0
      · simp only [if_neg e, if_pos e2] at h; cases h
      · simp only [if_neg e, if_neg e2] at h
        cases h
        simp [sp_len]; omega
theorem sp_step_ok {M : sp_M} {c c' : sp_C} (hM : sp_Mok M) (hc : sp_ok c) (h : sp_step M c = some c') : sp_ok c' := by
  unfold sp_step at h
  cases hr : sp_rl M c with
  | none => rw [hr] at h; cases h
  | some r =>
    rw [hr] at h
    obtain ⟨-, -, h3, h4⟩ := hM r
    have ht : ∀ s ∈ c.2.2.tail, s < 3 := fun s hs => hc.2.2 s (List.mem_of_mem_tail hs)
    by_cases e : sp_rt M r = 1
    · simp only [if_pos e] at h
      cases h
      refine ⟨fun s hs => ?_, h4, ht⟩
      rcases List.mem_append.mp hs with h5 | h5
      · exact hc.1 s h5
      · rw [List.mem_singleton.mp h5]; exact h3
    · by_cases e2 : c.1.length = 0
      · simp only [if_neg e, if_pos e2] at h; cases h
      · simp only [if_neg e, if_neg e2] at h
        cases h
        refine ⟨fun s hs => hc.1 s ((List.dropLast_sublist c.1).subset hs), h4, fun s hs => ?_⟩
        rcases List.mem_cons.mp hs with h5 | h5
        · rw [h5]; exact sp_gd_lt hc.1 _
        · rcases List.mem_cons.mp h5 with h6 | h6
          · rw [h6]; exact h3
          · exact ht s h6
theorem gx_gdc_lo {P K : List sp_C} {i : Nat} {d : sp_C} (h : i < P.length) : (P ++ K).getD i d = P.getD i d := by
  simp [List.getD_eq_getElem?_getD, List.getElem?_append_left h]
theorem gx_gdc_mid {P : List sp_C} {c d : sp_C} : (P ++ [c]).getD P.length d = c := by
  simp [List.getD_eq_getElem?_getD]
theorem rnOk.one {w : gx_W} {r k : Nat} {T : Nat → List Nat} {P : List sp_C} {c : sp_C} (h : rnAt w r k T) (hk : P.length = k) (hk2 : k < 13) (h1 : ∀ i, i < P.length → T i = sp_txt (P.getD i ([], 0, []))) (h2 : T k = sp_txt c) : rnOk w r (P ++ [c]) := by
  refine ⟨by simp, by simp; omega, T, by simpa [hk] using h, fun i hi => ?_⟩
  rw [List.length_append, List.length_singleton] at hi
  by_cases e : i < P.length
  · rw [gx_gdc_lo e]; exact h1 i e
  · have e2 : i = P.length := by omega
    rw [e2, gx_gdc_mid, hk]; exact h2
theorem d_Run_stepCount_0 : decode prog_7_method_2_code 0 = .ok (.aload_n 0, 1) := by decide +kernel
theorem d_Run_stepCount_1 : decode prog_7_method_2_code 1 = .ok (.getfield 20, 3) := by decide +kernel
theorem d_Run_stepCount_4 : decode prog_7_method_2_code 4 = .ok (.ireturn, 1) := by decide +kernel
theorem ct_stepCount {w : gx_W} {r m : Nat} {T : Nat → List Nat} (h : rnAt w r m T) : gx_Ct M_Run_stepCount 1 0 0 [.ref r] w (gx_eq (some (.int (nI m))) w) := by
  refine gx_ct (L := [some (.ref r)]) (by decide) (Nat.le_of_ble_eq_true rfl) rfl ?_
  refine gx_aload_n d_Run_stepCount_0 rfl ?_
  refine gx_get fl_Run_20 d_Run_stepCount_1 h.1 rfl ?_
  refine gx_ireturn rfl d_Run_stepCount_4 ?_
  exact ⟨rfl, rfl⟩
theorem d_Run_text_0 : decode prog_7_method_3_code 0 = .ok (.aload_n 0, 1) := by decide +kernel
theorem d_Run_text_1 : decode prog_7_method_3_code 1 = .ok (.getfield 11, 3) := by decide +kernel
theorem d_Run_text_4 : decode prog_7_method_3_code 4 = .ok (.iconst 0, 1) := by decide +kernel
theorem d_Run_text_5 : decode prog_7_method_3_code 5 = .ok (.iload_n 1, 1) := by decide +kernel
theorem d_Run_text_6 : decode prog_7_method_3_code 6 = .ok (.aload_n 0, 1) := by decide +kernel
theorem d_Run_text_7 : decode prog_7_method_3_code 7 = .ok (.getfield 20, 3) := by decide +kernel
theorem d_Run_text_10 : decode prog_7_method_3_code 10 = .ok (.invokestatic 24, 3) := by decide +kernel
theorem d_Run_text_13 : decode prog_7_method_3_code 13 = .ok (.invokestatic 30, 3) := by decide +kernel
theorem d_Run_text_16 : decode prog_7_method_3_code 16 = .ok (.aaload, 1) := by decide +kernel
theorem d_Run_text_17 : decode prog_7_method_3_code 17 = .ok (.areturn, 1) := by decide +kernel
theorem ct_text {w : gx_W} {r m j : Nat} {T : Nat → List Nat} (h : rnAt w r m T) (hj : j ≤ m) (hm : m < 13) : gx_Ct M_Run_text 1 0 0 [.ref r, .int (nI j)] w (gx_eq (some (.ref (r + 2 + 2 * j))) w) := by
  refine gx_ct (L := [some (.ref r), some (.int (nI j))]) (by decide) (Nat.le_of_ble_eq_true rfl) rfl ?_
  refine gx_aload_n d_Run_text_0 rfl ?_
  refine gx_get fl_Run_11 d_Run_text_1 h.1 rfl ?_
  refine gx_iconst d_Run_text_4 (nI 0) (by decide) ?_
  refine gx_iload_n d_Run_text_5 rfl ?_
  refine gx_aload_n d_Run_text_6 rfl ?_
  refine gx_get fl_Run_20 d_Run_text_7 h.1 rfl ?_
  refine gx_min lk_Run_24 (by omega) (Nat.le_of_ble_eq_true rfl) d_Run_text_10 ?_
  refine gx_top ((gx_mnI (by omega) (by omega)).trans (congrArg nI (Nat.min_eq_left hj))) ?_
  refine gx_max lk_Run_30 (by omega) (Nat.le_of_ble_eq_true rfl) d_Run_text_13 ?_
  refine gx_top ((gx_mxI (by omega) (by omega)).trans (congrArg nI (Nat.max_eq_right (Nat.zero_le _)))) ?_
  refine gx_aald3 d_Run_text_16 h.2.1 (by omega) (by omega) (rnF_in (by omega)) ?_
  refine gx_areturn rfl (Or.inl ⟨_, rfl⟩) (Or.inr ⟨_, rfl⟩) d_Run_text_17 ?_
  exact ⟨rfl, rfl⟩
theorem sp_let_h {q : Nat} (h : q ≤ 4) : sp_let q = 104 ↔ q = 4 := by
  unfold sp_let
  by_cases e : q = 4
  · rw [if_pos e]; exact ⟨fun _ => e, fun _ => rfl⟩
  · rw [if_neg e]; omega
theorem d_Run_isHalted_0 : decode prog_7_method_4_code 0 = .ok (.aload_n 0, 1) := by decide +kernel
theorem d_Run_isHalted_1 : decode prog_7_method_4_code 1 = .ok (.aload_n 0, 1) := by decide +kernel
theorem d_Run_isHalted_2 : decode prog_7_method_4_code 2 = .ok (.getfield 20, 3) := by decide +kernel
theorem d_Run_isHalted_5 : decode prog_7_method_4_code 5 = .ok (.invokevirtual 33, 3) := by decide +kernel
theorem d_Run_isHalted_8 : decode prog_7_method_4_code 8 = .ok (.astore_n 1, 1) := by decide +kernel
theorem d_Run_isHalted_9 : decode prog_7_method_4_code 9 = .ok (.aload_n 1, 1) := by decide +kernel
theorem d_Run_isHalted_10 : decode prog_7_method_4_code 10 = .ok (.aload_n 1, 1) := by decide +kernel
theorem d_Run_isHalted_11 : decode prog_7_method_4_code 11 = .ok (.invokevirtual 37, 3) := by decide +kernel
theorem d_Run_isHalted_14 : decode prog_7_method_4_code 14 = .ok (.invokevirtual 41, 3) := by decide +kernel
theorem d_Run_isHalted_17 : decode prog_7_method_4_code 17 = .ok (.iconst 4, 1) := by decide +kernel
theorem d_Run_isHalted_18 : decode prog_7_method_4_code 18 = .ok (.invokestatic 45, 3) := by decide +kernel
theorem d_Run_isHalted_21 : decode prog_7_method_4_code 21 = .ok (.if_icmp .ne 7, 3) := by decide +kernel
theorem d_Run_isHalted_24 : decode prog_7_method_4_code 24 = .ok (.iconst 1, 1) := by decide +kernel
theorem d_Run_isHalted_25 : decode prog_7_method_4_code 25 = .ok (.goto 4, 3) := by decide +kernel
theorem d_Run_isHalted_28 : decode prog_7_method_4_code 28 = .ok (.iconst 0, 1) := by decide +kernel
theorem d_Run_isHalted_29 : decode prog_7_method_4_code 29 = .ok (.ireturn, 1) := by decide +kernel
theorem ct_isHalted {w : gx_W} {r : Nat} {rs : List sp_C} {c : sp_C} (h : rnOk w r rs) (hc : sp_ok c) (hl : rs.getD (rs.length - 1) ([], 0, []) = c) : gx_Ct M_Run_isHalted 2 0 0 [.ref r] w (gx_eq (some (.int (nI (decide (c.2.1 = 4)).toNat))) w) := by
  refine gx_ct (L := [some (.ref r), none]) (by decide) (Nat.le_of_ble_eq_true rfl) rfl ?_
  obtain ⟨hne, h13, T, h, hT⟩ := h
  have hpos : 0 < rs.length := List.length_pos_iff.mpr hne
  have hw : w.1 (r + 2 + 2 * (rs.length - 1)) = some (gx_bx 0 11 (sp_txt c)) := by rw [h.2.2 _ (by omega), hT _ (by omega), hl]
  have hge := sp_let_lt hc.2.1
  refine gx_aload_n d_Run_isHalted_0 rfl ?_
  refine gx_aload_n d_Run_isHalted_1 rfl ?_
  refine gx_get fl_Run_20 d_Run_isHalted_2 h.1 rfl ?_
  refine gx_cV1 lk_Run_33 d_Run_isHalted_5 (ct_text h (Nat.le_refl _) (by omega)) (Or.inl ⟨_, h.1⟩) (by omega) rfl rfl (Nat.le_of_ble_eq_true rfl) ?_
  refine gx_astore_n d_Run_isHalted_8 (Nat.le_of_ble_eq_true rfl) rfl ?_
  refine gx_aload_n d_Run_isHalted_9 rfl ?_
  refine gx_aload_n d_Run_isHalted_10 rfl ?_
  refine gx_bsz hw (fun hlen hcap hsm => ?_)
  rw [sp_txt_len] at hlen
  have hsl : sp_len c = c.1.length + 1 + c.2.2.length := rfl
  refine gx_cV1 lk_Run_37 d_Run_isHalted_11 (ct_Word_head hw sp_hd3 (sp_hd1 hc) sp_hd2) (Or.inr ⟨_, _, hw⟩) (by omega) rfl rfl (Nat.le_of_ble_eq_true rfl) ?_
  refine gx_cV1 lk_Run_41 d_Run_isHalted_14 (ct_Word_at (j := c.1.length) hw (by omega)) (Or.inr ⟨_, _, hw⟩) (by omega) rfl rfl (Nat.le_of_ble_eq_true rfl) ?_
  refine gx_top (congrArg nI sp_txt_mid) ?_
  refine gx_iconst d_Run_isHalted_17 (nI 4) (by decide) ?_
  refine gx_cS1 lk_Run_45 d_Run_isHalted_18 (ct_letter (q := 4) (by omega)) (by omega) rfl rfl (Nat.le_of_ble_eq_true rfl) ?_
  refine gx_top (show _ = nI 104 from rfl) ?_
  refine gx_icmp_neN (by omega) (by omega) (tgt := 28) d_Run_isHalted_21 (by decide) (fun h21 => ?_) (fun h21 => ?_)
  · rw [decide_eq_false (fun g => h21 ((sp_let_h hc.2.1).mpr g))]
    refine gx_iconst d_Run_isHalted_28 (nI 0) (by decide) ?_
    refine gx_zreturn rfl (by decide) d_Run_isHalted_29 ?_
    exact ⟨rfl, rfl⟩
  · rw [decide_eq_true ((sp_let_h hc.2.1).mp h21)]
    refine gx_iconst d_Run_isHalted_24 (nI 1) (by decide) ?_
    refine gx_goto (tgt := 29) d_Run_isHalted_25 (by decide) ?_
    refine gx_zreturn rfl (by decide) d_Run_isHalted_29 ?_
    exact ⟨rfl, rfl⟩
theorem d_Run_follow_0 : decode prog_7_method_5_code 0 = .ok (.aload_n 0, 1) := by decide +kernel
theorem d_Run_follow_1 : decode prog_7_method_5_code 1 = .ok (.iconst 0, 1) := by decide +kernel
theorem d_Run_follow_2 : decode prog_7_method_5_code 2 = .ok (.putfield 20, 3) := by decide +kernel
theorem d_Run_follow_5 : decode prog_7_method_5_code 5 = .ok (.aload_n 0, 1) := by decide +kernel
theorem d_Run_follow_6 : decode prog_7_method_5_code 6 = .ok (.getfield 11, 3) := by decide +kernel
theorem d_Run_follow_9 : decode prog_7_method_5_code 9 = .ok (.iconst 0, 1) := by decide +kernel
theorem d_Run_follow_10 : decode prog_7_method_5_code 10 = .ok (.aaload, 1) := by decide +kernel
theorem d_Run_follow_11 : decode prog_7_method_5_code 11 = .ok (.aload_n 1, 1) := by decide +kernel
theorem d_Run_follow_12 : decode prog_7_method_5_code 12 = .ok (.getfield 48, 3) := by decide +kernel
theorem d_Run_follow_15 : decode prog_7_method_5_code 15 = .ok (.invokevirtual 54, 3) := by decide +kernel
theorem d_Run_follow_18 : decode prog_7_method_5_code 18 = .ok (.iconst 1, 1) := by decide +kernel
theorem d_Run_follow_19 : decode prog_7_method_5_code 19 = .ok (.istore_n 2, 1) := by decide +kernel
theorem d_Run_follow_20 : decode prog_7_method_5_code 20 = .ok (.iload_n 2, 1) := by decide +kernel
theorem d_Run_follow_21 : decode prog_7_method_5_code 21 = .ok (.aload_n 0, 1) := by decide +kernel
theorem d_Run_follow_22 : decode prog_7_method_5_code 22 = .ok (.getfield 11, 3) := by decide +kernel
theorem d_Run_follow_25 : decode prog_7_method_5_code 25 = .ok (.arraylength, 1) := by decide +kernel
theorem d_Run_follow_26 : decode prog_7_method_5_code 26 = .ok (.if_icmp .ge 50, 3) := by decide +kernel
theorem d_Run_follow_29 : decode prog_7_method_5_code 29 = .ok (.aload_n 1, 1) := by decide +kernel
theorem d_Run_follow_30 : decode prog_7_method_5_code 30 = .ok (.aload_n 0, 1) := by decide +kernel
theorem d_Run_follow_31 : decode prog_7_method_5_code 31 = .ok (.getfield 11, 3) := by decide +kernel
theorem d_Run_follow_34 : decode prog_7_method_5_code 34 = .ok (.iload_n 2, 1) := by decide +kernel
theorem d_Run_follow_35 : decode prog_7_method_5_code 35 = .ok (.iconst 1, 1) := by decide +kernel
theorem d_Run_follow_36 : decode prog_7_method_5_code 36 = .ok (.isub, 1) := by decide +kernel
theorem d_Run_follow_37 : decode prog_7_method_5_code 37 = .ok (.aaload, 1) := by decide +kernel
theorem d_Run_follow_38 : decode prog_7_method_5_code 38 = .ok (.aload_n 0, 1) := by decide +kernel
theorem d_Run_follow_39 : decode prog_7_method_5_code 39 = .ok (.getfield 11, 3) := by decide +kernel
theorem d_Run_follow_42 : decode prog_7_method_5_code 42 = .ok (.iload_n 2, 1) := by decide +kernel
theorem d_Run_follow_43 : decode prog_7_method_5_code 43 = .ok (.aaload, 1) := by decide +kernel
theorem d_Run_follow_44 : decode prog_7_method_5_code 44 = .ok (.invokevirtual 58, 3) := by decide +kernel
theorem d_Run_follow_47 : decode prog_7_method_5_code 47 = .ok (.ifCond .eq 17, 3) := by decide +kernel
theorem d_Run_follow_50 : decode prog_7_method_5_code 50 = .ok (.aload_n 0, 1) := by decide +kernel
theorem d_Run_follow_51 : decode prog_7_method_5_code 51 = .ok (.getfield 11, 3) := by decide +kernel
theorem d_Run_follow_54 : decode prog_7_method_5_code 54 = .ok (.iload_n 2, 1) := by decide +kernel
theorem d_Run_follow_55 : decode prog_7_method_5_code 55 = .ok (.aaload, 1) := by decide +kernel
theorem d_Run_follow_56 : decode prog_7_method_5_code 56 = .ok (.invokevirtual 62, 3) := by decide +kernel
theorem d_Run_follow_59 : decode prog_7_method_5_code 59 = .ok (.bipush 10, 2) := by decide +kernel
theorem d_Run_follow_61 : decode prog_7_method_5_code 61 = .ok (.if_icmp .le 4, 3) := by decide +kernel
theorem d_Run_follow_64 : decode prog_7_method_5_code 64 = .ok (.return_, 1) := by decide +kernel
theorem d_Run_follow_65 : decode prog_7_method_5_code 65 = .ok (.aload_n 0, 1) := by decide +kernel
theorem d_Run_follow_66 : decode prog_7_method_5_code 66 = .ok (.iload_n 2, 1) := by decide +kernel
theorem d_Run_follow_67 : decode prog_7_method_5_code 67 = .ok (.putfield 20, 3) := by decide +kernel
theorem d_Run_follow_70 : decode prog_7_method_5_code 70 = .ok (.iinc 2 1, 3) := by decide +kernel
theorem d_Run_follow_73 : decode prog_7_method_5_code 73 = .ok (.goto (-53), 3) := by decide +kernel
theorem d_Run_follow_76 : decode prog_7_method_5_code 76 = .ok (.return_, 1) := by decide +kernel
theorem fo_none {Q : gx_P} {w : gx_W} {a r k : Nat} {M : sp_M} {t : List Nat} {c : sp_C} {P : List sp_C} {T : Nat → List Nat} (hm : mcAt w a M t) (hM : sp_Mok M) (hra : a + 7 ≤ r) (hk1 : 1 ≤ k) (hk : k < 13) (hP : P.length = k - 1) (h : rnAt w r (k - 1) T) (h1 : ∀ i, i < P.length → T i = sp_txt (P.getD i ([], 0, []))) (h2 : T (k - 1) = sp_txt c) (hc : sp_ok c) (hs : sp_step M c = none) (hQ : Q.1 none w) : gx_X (fun _ _ => True) M_Run_follow 4 Q 44 [some (.ref r), some (.ref a), some (.int (nI k))] [.ref (r + 2 + 2 * k), .ref (r + 2 + 2 * (k - 1)), .ref a] w (0, 0) := by
  have hw := h.2.2 (k - 1) (by omega)
  rw [h2] at hw
  have hw2 := h.2.2 k (by omega)
  refine gx_cV1 lk_Run_58 d_Run_follow_44 (ct_step_none (h2 := r + 2 + 2 * k) hm hM hw hc hs) (Or.inl ⟨_, hm.1⟩) (by omega) rfl rfl (Nat.le_of_ble_eq_true rfl) ?_
  refine gx_if_eqN (by omega) (tgt := 64) d_Run_follow_47 (by decide) (fun h47 => ?_) (fun h47 => ?_)
  · refine gx_return rfl d_Run_follow_64 ?_
    exact hQ
  · exact absurd rfl h47
theorem rnAt.set {w : gx_W} {r n k : Nat} {T : Nat → List Nat} {l : List Nat} (h : rnAt w r n T) (hk : k < 13) : rnAt (gx_st w (r + 2 + 2 * k) (gx_bx 0 11 l)) r n (fun i => if i = k then l else T i) := by
  obtain ⟨h0, h1, h2⟩ := h
  refine ⟨by rw [gx_st_ne (by omega)]; exact h0, by rw [gx_st_ne (by omega)]; exact h1, fun i hi => ?_⟩
  by_cases e : i = k
  · subst e; rw [gx_st_eq]; simp
  · rw [gx_st_ne (by omega), h2 i hi]; simp [e]
theorem rnAt.num {w : gx_W} {r n k : Nat} {T : Nat → List Nat} (h : rnAt w r n T) : rnAt (gx_st w r (gx_ob 3 [.ref (r + 1), .int (nI k)])) r k T := by
  obtain ⟨h0, h1, h2⟩ := h
  exact ⟨gx_st_eq, by rw [gx_st_ne (by omega)]; exact h1, fun i hi => by rw [gx_st_ne (by omega)]; exact h2 i hi⟩
theorem fo_some {Q : gx_P} {w : gx_W} {a r k : Nat} {M : sp_M} {t : List Nat} {c : sp_C} {P : List sp_C} {T : Nat → List Nat} (hm : mcAt w a M t) (hM : sp_Mok M) (hra : a + 7 ≤ r) (hk1 : 1 ≤ k) (hk : k < 13) (hP : P.length = k - 1) (h : rnAt w r (k - 1) T) (h1 : ∀ i, i < P.length → T i = sp_txt (P.getD i ([], 0, []))) (h2 : T (k - 1) = sp_txt c) (hc : sp_ok c) {c' : sp_C} (hl : sp_len c ≤ 10) (hs : sp_step M c = some c') (hQ : ¬ sp_len c' ≤ 10 → ∀ w', rnAt w' r (k - 1) (fun i => if i = k then sp_txt c' else T i) → gx_kp w w' r (r + 28) → Q.1 none w') (hX : sp_len c' ≤ 10 → ∀ w', rnAt w' r k (fun i => if i = k then sp_txt c' else T i) → gx_kp w w' r (r + 28) → gx_X (fun _ _ => True) M_Run_follow 4 Q 20 [some (.ref r), some (.ref a), some (.int (nI (k + 1)))] [] w' (0, 0)) : gx_X (fun _ _ => True) M_Run_follow 4 Q 44 [some (.ref r), some (.ref a), some (.int (nI k))] [.ref (r + 2 + 2 * k), .ref (r + 2 + 2 * (k - 1)), .ref a] w (0, 0) := by
  have hw := h.2.2 (k - 1) (by omega)
  rw [h2] at hw
  have hw2 := h.2.2 k (by omega)
  have hsl := sp_step_len hs
  have hA := rnAt.set (l := sp_txt c') h hk
  have hK : gx_kp w (gx_st w (r + 2 + 2 * k) (gx_bx 0 11 (sp_txt c'))) r (r + 28) := gx_kp.st (by omega) (by omega)
  refine gx_cV1 lk_Run_58 d_Run_follow_44 (ct_step_some hm hM hw hc hw2 (by omega) (by omega) hs (by omega)) (Or.inl ⟨_, hm.1⟩) (by omega) rfl rfl (Nat.le_of_ble_eq_true rfl) ?_
  refine gx_if_eqN (by omega) (tgt := 64) d_Run_follow_47 (by decide) (fun h47 => ?_) (fun h47 => ?_)
  · exact absurd h47 (by decide)
  · refine gx_aload_n d_Run_follow_50 rfl ?_
    refine gx_get fl_Run_11 d_Run_follow_51 hA.1 rfl ?_
    refine gx_iload_n d_Run_follow_54 rfl ?_
    refine gx_aald3 d_Run_follow_55 hA.2.1 (by omega) (by omega) (rnF_in (by omega)) ?_
    refine gx_cV1 lk_Run_62 d_Run_follow_56 (ct_Word_size gx_st_eq) (Or.inr ⟨_, _, gx_st_eq⟩) (by omega) rfl rfl (Nat.le_of_ble_eq_true rfl) ?_
    refine gx_top (congrArg nI (sp_txt_len c')) ?_
    refine gx_bipush d_Run_follow_59 (nI 10) (by decide) ?_
    refine gx_icmp_leN (by omega) (by omega) (tgt := 65) d_Run_follow_61 (by decide) (fun h61 => ?_) (fun h61 => ?_)
    · refine gx_aload_n d_Run_follow_65 rfl ?_
      refine gx_iload_n d_Run_follow_66 rfl ?_
      refine gx_put fp_Run_20 (fun h => by cases h) d_Run_follow_67 hA.1 rfl rfl (Nat.le_of_ble_eq_true rfl) ?_
      refine gx_iincN (n := 1) d_Run_follow_70 rfl (by decide) (Nat.le_of_ble_eq_true rfl) rfl ?_
      refine gx_goto (tgt := 20) d_Run_follow_73 (by decide) ?_
      exact hX h61 _ hA.num (hK.trans (gx_kp.st (by omega) (by omega)))
    · refine gx_return rfl d_Run_follow_64 ?_
      exact hQ h61 _ hA hK
theorem lp_follow {Q : gx_P} {a r : Nat} {M : sp_M} {t : List Nat} (hM : sp_Mok M) (hra : a + 7 ≤ r) : ∀ (fu : Nat) (k : Nat) (P : List sp_C) (c : sp_C) (w : gx_W) (T : Nat → List Nat), 13 - k < fu → (mcAt w a M t) → (1 ≤ k) → (k ≤ 13) → (P.length = k - 1) → (rnAt w r (k - 1) T) → (∀ i, i < P.length → T i = sp_txt (P.getD i ([], 0, []))) → (T (k - 1) = sp_txt c) → (sp_ok c) → (sp_len c ≤ 10) → (∀ w', rnOk w' r (P ++ sp_run M (13 - k) c) → gx_kp w w' r (r + 28) → Q.1 none w') → gx_X (fun _ _ => True) M_Run_follow 4 Q 20 [some (.ref r), some (.ref a), some (.int (nI k))] [] w (0, 0) := by
  intro fu
  induction fu with
  | zero => intro k P c w T hfu; exact absurd hfu (Nat.not_lt_zero _)
  | succ fu ih =>
    intro k P c w T hfu hm hk1 hk hP h h1 h2 hc hl hQ
    refine gx_iload_n d_Run_follow_20 rfl ?_
    refine gx_aload_n d_Run_follow_21 rfl ?_
    refine gx_get fl_Run_11 d_Run_follow_22 h.1 rfl ?_
    refine gx_alen (by decide) d_Run_follow_25 h.2.1 ?_
    refine gx_icmp_geN (by omega) (by omega) (tgt := 76) d_Run_follow_26 (by decide) (fun h26 => ?_) (fun h26 => ?_)
    · refine gx_return rfl d_Run_follow_76 ?_
      have e : k = 13 := by omega
      subst e
      exact hQ w (rnOk.one h (by omega) (by omega) h1 h2) gx_kp.rf
    · refine gx_aload_n d_Run_follow_29 rfl ?_
      refine gx_aload_n d_Run_follow_30 rfl ?_
      refine gx_get fl_Run_11 d_Run_follow_31 h.1 rfl ?_
      refine gx_iload_n d_Run_follow_34 rfl ?_
      refine gx_iconst d_Run_follow_35 (nI 1) (by decide) ?_
      refine gx_isubN (by omega) d_Run_follow_36 ?_
      refine gx_aald3 d_Run_follow_37 h.2.1 (by omega) (by omega) (rnF_in (by omega)) ?_
      refine gx_aload_n d_Run_follow_38 rfl ?_
      refine gx_get fl_Run_11 d_Run_follow_39 h.1 rfl ?_
      refine gx_iload_n d_Run_follow_42 rfl ?_
      refine gx_aald3 d_Run_follow_43 h.2.1 (by omega) (by omega) (rnF_in (by omega)) ?_
      have e13 : 13 - k = (12 - k) + 1 := by omega
      rw [e13] at hQ
      cases hs : sp_step M c with
      | none =>
        refine fo_none hm hM hra hk1 (by omega) hP h h1 h2 hc hs (hQ w ?_ gx_kp.rf)
        simp only [sp_run, hs]
        exact rnOk.one h (by omega) (by omega) h1 h2
      | some c' =>
        simp only [sp_run, hs] at hQ
        refine fo_some hm hM hra hk1 (by omega) hP h h1 h2 hc hl hs (fun g w' hA hK => ?_) (fun g w' hA hK => ?_)
        · rw [if_neg g] at hQ
          refine hQ w' (rnOk.one hA (by omega) (by omega) (fun i hi => ?_) ?_) hK
          · show (if i = k then _ else _) = _
            rw [if_neg (by omega)]; exact h1 i hi
          · show (if k - 1 = k then _ else _) = _
            rw [if_neg (by omega)]; exact h2
        · rw [if_pos g] at hQ
          refine ih (k + 1) (P ++ [c]) c' w' _ (by omega) (hm.kept hK (by omega)) (by omega) (by omega) (by simp; omega) (by simpa using hA) (fun i hi => ?_) ?_ (sp_step_ok hM hc hs) g (fun w2 h3 hK2 => hQ w2 ?_ (hK.trans hK2))
          · rw [List.length_append, List.length_singleton] at hi
            show (if i = k then _ else _) = _
            rw [if_neg (by omega)]
            by_cases e : i < P.length
            · rw [gx_gdc_lo e]; exact h1 i e
            · have e2 : i = P.length := by omega
              rw [e2, gx_gdc_mid, hP]; exact h2
          · show (if k + 1 - 1 = k then _ else _) = _
            rw [if_pos (by omega)]
          · rw [List.append_assoc, show 13 - (k + 1) = 12 - k by omega] at h3
            exact h3
theorem ct_follow {w : gx_W} {a r m : Nat} {M : sp_M} {c : sp_C} {T : Nat → List Nat} (hm : mcAt w a M (sp_txt c)) (hM : sp_Mok M) (hra : a + 7 ≤ r) (h : rnAt w r m T) (hc : sp_ok c) (hl : sp_len c ≤ 5) : gx_Ct M_Run_follow 4 0 0 [.ref r, .ref a] w (fun v w' => v = none ∧ rnOk w' r (sp_run M 12 c) ∧ gx_kp w w' r (r + 28)) := by
  refine gx_ct (L := [some (.ref r), some (.ref a), none]) (by decide) (Nat.le_of_ble_eq_true rfl) rfl ?_
  refine gx_aload_n d_Run_follow_0 rfl ?_
  refine gx_iconst d_Run_follow_1 (nI 0) (by decide) ?_
  refine gx_put fp_Run_20 (fun h => by cases h) d_Run_follow_2 h.1 rfl rfl (Nat.le_of_ble_eq_true rfl) ?_
  have h3 := rnAt.num (k := 0) h
  refine gx_aload_n d_Run_follow_5 rfl ?_
  refine gx_get fl_Run_11 d_Run_follow_6 h3.1 rfl ?_
  refine gx_iconst d_Run_follow_9 (nI 0) (by decide) ?_
  refine gx_aald3 d_Run_follow_10 h3.2.1 (by omega) (by omega) (rnF_in (by omega)) ?_
  refine gx_aload_n d_Run_follow_11 rfl ?_
  have hm3 := hm.kept (gx_kp.st (x := gx_ob 3 [.ref (r + 1), .int (nI 0)]) (Nat.le_refl r) (show r < r + 28 by omega)) (by omega)
  refine gx_get fl_Run_48 d_Run_follow_12 hm3.1 rfl ?_
  refine gx_cV0 lk_Run_54 d_Run_follow_15 (ct_Word_copy (h := r + 2 + 2 * 0) (h3.2.2 0 (by omega)) hm3.2.2.2.2.2 (by omega) (by rw [sp_txt_len]; omega)) (Or.inr ⟨_, _, h3.2.2 0 (by omega)⟩) (by omega) rfl rfl (Nat.le_of_ble_eq_true rfl) ?_
  refine gx_iconst d_Run_follow_18 (nI 1) (by decide) ?_
  refine gx_istore_n d_Run_follow_19 (Nat.le_of_ble_eq_true rfl) rfl ?_
  have h4 := rnAt.set (l := sp_txt c) h3 (show 0 < 13 by omega)
  have hK : gx_kp w (gx_st (gx_st w r (gx_ob 3 [.ref (r + 1), .int (nI 0)])) (r + 2 + 2 * 0) (gx_bx 0 11 (sp_txt c))) r (r + 28) := (gx_kp.st (by omega) (by omega)).trans (gx_kp.st (by omega) (by omega))
  exact lp_follow hM hra 13 1 [] c _ _ (by omega) (hm.kept hK (by omega)) (by omega) (by omega) rfl h4 (fun i hi => absurd hi (Nat.not_lt_zero i)) rfl hc (by omega) (fun w' h5 hK2 => ⟨rfl, h5, hK.trans hK2⟩)
end
section
/-! Box: its methods -/
def bxF (x i : Nat) : Option Nat := if i < 60 then some (x + 3 + 5 * i) else none
theorem bxF_in {x i : Nat} (h : i < 60) : bxF x i = some (x + 3 + 5 * i) := if_pos h
def gx_u {α : Type} (f : Nat → α) (i : Nat) (v : α) : Nat → α := fun j => if j = i then v else f j
theorem gx_u_eq {α : Type} {f : Nat → α} {i : Nat} {v : α} : gx_u f i v i = v := if_pos rfl
theorem gx_u_ne {α : Type} {f : Nat → α} {i j : Nat} {v : α} (h : j ≠ i) : gx_u f i v j = f j := if_neg h
theorem gx_u_u {α : Type} {f : Nat → α} {i : Nat} {u v : α} : gx_u (gx_u f i u) i v = gx_u f i v := by
  funext j
  by_cases h : j = i <;> simp [gx_u, h]
theorem gx_u_upd {g : Nat → Nat} {i v : Nat} : upd (fun r => nI (g r)) i (nI v) = fun r => nI (gx_u g i v r) := by
  funext r
  by_cases h : r = i
  · subst h; rw [pk_us, gx_u_eq]
  · rw [pk_un h, gx_u_ne h]
/-- the box's object at x, its arrays at x + 1 and x + 2, its dominoes from x + 3 on -/
def bxAt (w : gx_W) (x m : Nat) (U V : Nat → List Nat) (fo : Nat → Nat) : Prop := w.1 x = some (gx_ob 5 [.ref (x + 1), .ref (x + 2), .int (nI m)]) ∧ w.1 (x + 1) = some (gx_ar 4 60 (bxF x)) ∧ w.1 (x + 2) = some (gx_ai 0 12 (fun r => nI (fo r))) ∧ ∀ i, i < 60 → w.1 (x + 3 + 5 * i) = some (gx_ob 4 [.ref (x + 4 + 5 * i), .ref (x + 6 + 5 * i)]) ∧ w.1 (x + 4 + 5 * i) = some (gx_bx 0 3 (U i)) ∧ w.1 (x + 6 + 5 * i) = some (gx_bx 0 7 (V i))
def bxOk (w : gx_W) (x : Nat) (ds : List (List Nat × List Nat)) (fo : Nat → Nat) : Prop := ds.length ≤ 60 ∧ ∃ U V, bxAt w x ds.length U V fo ∧ ∀ i, i < ds.length → U i = (ds.getD i ([], [])).1 ∧ V i = (ds.getD i ([], [])).2
theorem bxAt.kept {w w' : gx_W} {x m lo hi : Nat} {U V : Nat → List Nat} {fo : Nat → Nat} (h : bxAt w x m U V fo) (hk : gx_kp w w' lo hi) (hd : x + 303 ≤ lo ∨ hi ≤ x) : bxAt w' x m U V fo := by
  obtain ⟨h0, h1, h2, h3⟩ := h
  exact ⟨by rw [hk.2 _ (by omega)]; exact h0, by rw [hk.2 _ (by omega)]; exact h1, by rw [hk.2 _ (by omega)]; exact h2, fun i hi => ⟨by rw [hk.2 _ (by omega)]; exact (h3 i hi).1, by rw [hk.2 _ (by omega)]; exact (h3 i hi).2.1, by rw [hk.2 _ (by omega)]; exact (h3 i hi).2.2⟩⟩
theorem bxOk.kept {w w' : gx_W} {x lo hi : Nat} {ds : List (List Nat × List Nat)} {fo : Nat → Nat} (h : bxOk w x ds fo) (hk : gx_kp w w' lo hi) (hd : x + 303 ≤ lo ∨ hi ≤ x) : bxOk w' x ds fo := by
  obtain ⟨h0, U, V, h1, h2⟩ := h
  exact ⟨h0, U, V, h1.kept hk hd, h2⟩
theorem bxAt.num {w : gx_W} {x m k : Nat} {U V : Nat → List Nat} {fo : Nat → Nat} (h : bxAt w x m U V fo) : bxAt (gx_st w x (gx_ob 5 [.ref (x + 1), .ref (x + 2), .int (nI k)])) x k U V fo := by
  obtain ⟨h0, h1, h2, h3⟩ := h
  exact ⟨gx_st_eq, by rw [gx_st_ne (by omega)]; exact h1, by rw [gx_st_ne (by omega)]; exact h2, fun i hi => ⟨by rw [gx_st_ne (by omega)]; exact (h3 i hi).1, by rw [gx_st_ne (by omega)]; exact (h3 i hi).2.1, by rw [gx_st_ne (by omega)]; exact (h3 i hi).2.2⟩⟩
theorem bxAt.fst {w : gx_W} {x m k v : Nat} {U V : Nat → List Nat} {fo : Nat → Nat} (h : bxAt w x m U V fo) : bxAt (gx_st w (x + 2) (gx_ai 0 12 (fun r => nI (gx_u fo k v r)))) x m U V (gx_u fo k v) := by
  obtain ⟨h0, h1, h2, h3⟩ := h
  exact ⟨by rw [gx_st_ne (by omega)]; exact h0, by rw [gx_st_ne (by omega)]; exact h1, gx_st_eq, fun i hi => ⟨by rw [gx_st_ne (by omega)]; exact (h3 i hi).1, by rw [gx_st_ne (by omega)]; exact (h3 i hi).2.1, by rw [gx_st_ne (by omega)]; exact (h3 i hi).2.2⟩⟩
theorem bxAt.up {w : gx_W} {x m k : Nat} {U V : Nat → List Nat} {fo : Nat → Nat} (u : List Nat) (h : bxAt w x m U V fo) : bxAt (gx_st w (x + 4 + 5 * k) (gx_bx 0 3 u)) x m (gx_u U k u) V fo := by
  obtain ⟨h0, h1, h2, h3⟩ := h
  refine ⟨by rw [gx_st_ne (by omega)]; exact h0, by rw [gx_st_ne (by omega)]; exact h1, by rw [gx_st_ne (by omega)]; exact h2, fun i hi => ⟨by rw [gx_st_ne (by omega)]; exact (h3 i hi).1, ?_, by rw [gx_st_ne (by omega)]; exact (h3 i hi).2.2⟩⟩
  by_cases e : i = k
  · subst e; rw [gx_st_eq, gx_u_eq]
  · rw [gx_st_ne (by omega), gx_u_ne e]; exact (h3 i hi).2.1
theorem bxAt.lo {w : gx_W} {x m k : Nat} {U V : Nat → List Nat} {fo : Nat → Nat} (u : List Nat) (h : bxAt w x m U V fo) : bxAt (gx_st w (x + 6 + 5 * k) (gx_bx 0 7 u)) x m U (gx_u V k u) fo := by
  obtain ⟨h0, h1, h2, h3⟩ := h
  refine ⟨by rw [gx_st_ne (by omega)]; exact h0, by rw [gx_st_ne (by omega)]; exact h1, by rw [gx_st_ne (by omega)]; exact h2, fun i hi => ⟨by rw [gx_st_ne (by omega)]; exact (h3 i hi).1, by rw [gx_st_ne (by omega)]; exact (h3 i hi).2.1, ?_⟩⟩
  by_cases e : i = k
  · subst e; rw [gx_st_eq, gx_u_eq]
  · rw [gx_st_ne (by omega), gx_u_ne e]; exact (h3 i hi).2.2
/-- a domino, number m, in the making -/
def bxDm (w : gx_W) (x m : Nat) (U V : Nat → List Nat) (fo : Nat → Nat) (u v : List Nat) : Prop := m < 60 ∧ bxAt w x (m + 1) (gx_u U m u) (gx_u V m v) fo
section BXD
variable {w : gx_W} {x m : Nat} {U V : Nat → List Nat} {fo : Nat → Nat} {u v : List Nat}
theorem bxDm.ob (h : bxDm w x m U V fo u v) : w.1 (x + 3 + 5 * m) = some (gx_ob 4 [.ref (x + 4 + 5 * m), .ref (x + 6 + 5 * m)]) := (h.2.2.2.2 m h.1).1
theorem bxDm.uw (h : bxDm w x m U V fo u v) : w.1 (x + 4 + 5 * m) = some (gx_bx 0 3 u) := by
  have := (h.2.2.2.2 m h.1).2.1
  rwa [gx_u_eq] at this
theorem bxDm.lw (h : bxDm w x m U V fo u v) : w.1 (x + 6 + 5 * m) = some (gx_bx 0 7 v) := by
  have := (h.2.2.2.2 m h.1).2.2
  rwa [gx_u_eq] at this
theorem bxDm.up (u' : List Nat) (h : bxDm w x m U V fo u v) : bxDm (gx_st w (x + 4 + 5 * m) (gx_bx 0 3 u')) x m U V fo u' v := by
  refine ⟨h.1, ?_⟩
  have := h.2.up (k := m) u'
  rwa [gx_u_u] at this
theorem bxDm.lo (v' : List Nat) (h : bxDm w x m U V fo u v) : bxDm (gx_st w (x + 6 + 5 * m) (gx_bx 0 7 v')) x m U V fo u v' := by
  refine ⟨h.1, ?_⟩
  have := h.2.lo (k := m) v'
  rwa [gx_u_u] at this
theorem bxDm.ok {ds : List (List Nat × List Nat)} (h : bxDm w x ds.length U V fo u v) (hd : ∀ i, i < ds.length → U i = (ds.getD i ([], [])).1 ∧ V i = (ds.getD i ([], [])).2) : bxOk w x (ds ++ [(u, v)]) fo := by
  refine ⟨by have := h.1; simp; omega, _, _, by simpa using h.2, fun i hi => ?_⟩
  rw [List.length_append, List.length_singleton] at hi
  by_cases e : i < ds.length
  · rw [gx_u_ne (by omega), gx_u_ne (by omega), List.getD_eq_getElem?_getD, List.getElem?_append_left e, ← List.getD_eq_getElem?_getD]
    exact hd i e
  · have e2 : i = ds.length := by omega
    rw [e2, gx_u_eq, gx_u_eq]
    simp [List.getD_eq_getElem?_getD]
end BXD
theorem d_Box_size_0 : decode prog_2_method_2_code 0 = .ok (.aload_n 0, 1) := by decide +kernel
theorem d_Box_size_1 : decode prog_2_method_2_code 1 = .ok (.getfield 22, 3) := by decide +kernel
theorem d_Box_size_4 : decode prog_2_method_2_code 4 = .ok (.ireturn, 1) := by decide +kernel
theorem ct_Box_size {w : gx_W} {x m : Nat} {U V : Nat → List Nat} {fo : Nat → Nat} (h : bxAt w x m U V fo)  : gx_Ct M_Box_size 1 0 0 [.ref x] w (gx_eq (some (.int (nI m))) w) := by
  refine gx_ct (L := [some (.ref x)]) (by decide) (Nat.le_of_ble_eq_true rfl) rfl ?_
  refine gx_aload_n d_Box_size_0 rfl ?_
  refine gx_get fl_Box_22 d_Box_size_1 h.1 rfl ?_
  refine gx_ireturn rfl d_Box_size_4 ?_
  exact ⟨rfl, rfl⟩
theorem d_Box_firstEnding_0 : decode prog_2_method_7_code 0 = .ok (.aload_n 0, 1) := by decide +kernel
theorem d_Box_firstEnding_1 : decode prog_2_method_7_code 1 = .ok (.getfield 22, 3) := by decide +kernel
theorem d_Box_firstEnding_4 : decode prog_2_method_7_code 4 = .ok (.bipush 7, 2) := by decide +kernel
theorem d_Box_firstEnding_6 : decode prog_2_method_7_code 6 = .ok (.isub, 1) := by decide +kernel
theorem d_Box_firstEnding_7 : decode prog_2_method_7_code 7 = .ok (.ireturn, 1) := by decide +kernel
theorem ct_firstEnding {w : gx_W} {x m : Nat} {U V : Nat → List Nat} {fo : Nat → Nat} (h : bxAt w x m U V fo) (hm : 7 ≤ m) : gx_Ct M_Box_firstEnding 1 0 0 [.ref x] w (gx_eq (some (.int (nI (m - 7)))) w) := by
  refine gx_ct (L := [some (.ref x)]) (by decide) (Nat.le_of_ble_eq_true rfl) rfl ?_
  refine gx_aload_n d_Box_firstEnding_0 rfl ?_
  refine gx_get fl_Box_22 d_Box_firstEnding_1 h.1 rfl ?_
  refine gx_bipush d_Box_firstEnding_4 (nI 7) (by decide) ?_
  refine gx_isubN (by omega) d_Box_firstEnding_6 ?_
  refine gx_ireturn rfl d_Box_firstEnding_7 ?_
  exact ⟨rfl, rfl⟩
theorem d_Box_has_0 : decode prog_2_method_3_code 0 = .ok (.iload_n 1, 1) := by decide +kernel
theorem d_Box_has_1 : decode prog_2_method_3_code 1 = .ok (.ifCond .lt 15, 3) := by decide +kernel
theorem d_Box_has_4 : decode prog_2_method_3_code 4 = .ok (.iload_n 1, 1) := by decide +kernel
theorem d_Box_has_5 : decode prog_2_method_3_code 5 = .ok (.aload_n 0, 1) := by decide +kernel
theorem d_Box_has_6 : decode prog_2_method_3_code 6 = .ok (.getfield 22, 3) := by decide +kernel
theorem d_Box_has_9 : decode prog_2_method_3_code 9 = .ok (.if_icmp .ge 7, 3) := by decide +kernel
theorem d_Box_has_12 : decode prog_2_method_3_code 12 = .ok (.iconst 1, 1) := by decide +kernel
theorem d_Box_has_13 : decode prog_2_method_3_code 13 = .ok (.goto 4, 3) := by decide +kernel
theorem d_Box_has_16 : decode prog_2_method_3_code 16 = .ok (.iconst 0, 1) := by decide +kernel
theorem d_Box_has_17 : decode prog_2_method_3_code 17 = .ok (.ireturn, 1) := by decide +kernel
theorem ct_Box_has {w : gx_W} {x m : Nat} {U V : Nat → List Nat} {fo : Nat → Nat} (h : bxAt w x m U V fo) {i : Int32} : gx_Ct M_Box_has 1 0 0 [.ref x, .int i] w (gx_eq (some (.int (nI (sp_in i m).toNat))) w) := by
  refine gx_ct (L := [some (.ref x), some (.int i)]) (by decide) (Nat.le_of_ble_eq_true rfl) rfl ?_
  refine gx_iload_n d_Box_has_0 rfl ?_
  refine gx_if_lt (tgt := 16) d_Box_has_1 (by decide) (fun h1 => ?_) (fun h1 => ?_)
  · rw [sp_in_lt h1]
    refine gx_iconst d_Box_has_16 (nI 0) (by decide) ?_
    refine gx_zreturn rfl (by decide) d_Box_has_17 ?_
    exact ⟨rfl, rfl⟩
  · refine gx_iload_n d_Box_has_4 rfl ?_
    refine gx_aload_n d_Box_has_5 rfl ?_
    refine gx_get fl_Box_22 d_Box_has_6 h.1 rfl ?_
    refine gx_icmp_ge (tgt := 16) d_Box_has_9 (by decide) (fun h9 => ?_) (fun h9 => ?_)
    · rw [sp_in_ge h9]
      refine gx_iconst d_Box_has_16 (nI 0) (by decide) ?_
      refine gx_zreturn rfl (by decide) d_Box_has_17 ?_
      exact ⟨rfl, rfl⟩
    · rw [sp_in_t h1 h9]
      refine gx_iconst d_Box_has_12 (nI 1) (by decide) ?_
      refine gx_goto (tgt := 17) d_Box_has_13 (by decide) ?_
      refine gx_zreturn rfl (by decide) d_Box_has_17 ?_
      exact ⟨rfl, rfl⟩
theorem d_Box_get_0 : decode prog_2_method_4_code 0 = .ok (.aload_n 0, 1) := by decide +kernel
theorem d_Box_get_1 : decode prog_2_method_4_code 1 = .ok (.getfield 11, 3) := by decide +kernel
theorem d_Box_get_4 : decode prog_2_method_4_code 4 = .ok (.aload_n 0, 1) := by decide +kernel
theorem d_Box_get_5 : decode prog_2_method_4_code 5 = .ok (.iload_n 1, 1) := by decide +kernel
theorem d_Box_get_6 : decode prog_2_method_4_code 6 = .ok (.invokevirtual 26, 3) := by decide +kernel
theorem d_Box_get_9 : decode prog_2_method_4_code 9 = .ok (.ifCond .eq 7, 3) := by decide +kernel
theorem d_Box_get_12 : decode prog_2_method_4_code 12 = .ok (.iload_n 1, 1) := by decide +kernel
theorem d_Box_get_13 : decode prog_2_method_4_code 13 = .ok (.goto 4, 3) := by decide +kernel
theorem d_Box_get_16 : decode prog_2_method_4_code 16 = .ok (.iconst 0, 1) := by decide +kernel
theorem d_Box_get_17 : decode prog_2_method_4_code 17 = .ok (.aaload, 1) := by decide +kernel
theorem d_Box_get_18 : decode prog_2_method_4_code 18 = .ok (.areturn, 1) := by decide +kernel
theorem ct_Box_get {w : gx_W} {x m : Nat} {U V : Nat → List Nat} {fo : Nat → Nat} (h : bxAt w x m U V fo) {i : Nat} (hi : i < m) (hm : m ≤ 60) : gx_Ct M_Box_get 2 0 0 [.ref x, .int (nI i)] w (gx_eq (some (.ref (x + 3 + 5 * i))) w) := by
  refine gx_ct (L := [some (.ref x), some (.int (nI i))]) (by decide) (Nat.le_of_ble_eq_true rfl) rfl ?_
  refine gx_aload_n d_Box_get_0 rfl ?_
  refine gx_get fl_Box_11 d_Box_get_1 h.1 rfl ?_
  refine gx_aload_n d_Box_get_4 rfl ?_
  refine gx_iload_n d_Box_get_5 rfl ?_
  refine gx_cV1 lk_Box_26 d_Box_get_6 (ct_Box_has (i := nI i) h) (Or.inl ⟨_, h.1⟩) (by omega) rfl rfl (Nat.le_of_ble_eq_true rfl) ?_
  refine gx_top (show _ = nI 1 by rw [sp_in_nI (by omega) (by omega), decide_eq_true hi]; rfl) ?_
  refine gx_if_eqN (by omega) (tgt := 16) d_Box_get_9 (by decide) (fun h9 => ?_) (fun h9 => ?_)
  · exact absurd h9 (by decide)
  · refine gx_iload_n d_Box_get_12 rfl ?_
    refine gx_goto (tgt := 17) d_Box_get_13 (by decide) ?_
    refine gx_aald4 d_Box_get_17 h.2.1 (by omega) (by omega) (bxF_in (by omega)) ?_
    refine gx_areturn rfl (Or.inl ⟨_, rfl⟩) (Or.inr ⟨_, rfl⟩) d_Box_get_18 ?_
    exact ⟨rfl, rfl⟩
theorem d_Box_ofRule_0 : decode prog_2_method_6_code 0 = .ok (.iload_n 2, 1) := by decide +kernel
theorem d_Box_ofRule_1 : decode prog_2_method_6_code 1 = .ok (.ifCond .eq 21, 3) := by decide +kernel
theorem d_Box_ofRule_4 : decode prog_2_method_6_code 4 = .ok (.aload_n 0, 1) := by decide +kernel
theorem d_Box_ofRule_5 : decode prog_2_method_6_code 5 = .ok (.getfield 17, 3) := by decide +kernel
theorem d_Box_ofRule_8 : decode prog_2_method_6_code 8 = .ok (.iload_n 1, 1) := by decide +kernel
theorem d_Box_ofRule_9 : decode prog_2_method_6_code 9 = .ok (.iaload, 1) := by decide +kernel
theorem d_Box_ofRule_10 : decode prog_2_method_6_code 10 = .ok (.iload 4, 2) := by decide +kernel
theorem d_Box_ofRule_12 : decode prog_2_method_6_code 12 = .ok (.ifCond .eq 7, 3) := by decide +kernel
theorem d_Box_ofRule_15 : decode prog_2_method_6_code 15 = .ok (.iconst 1, 1) := by decide +kernel
theorem d_Box_ofRule_16 : decode prog_2_method_6_code 16 = .ok (.goto 4, 3) := by decide +kernel
theorem d_Box_ofRule_19 : decode prog_2_method_6_code 19 = .ok (.iconst 0, 1) := by decide +kernel
theorem d_Box_ofRule_20 : decode prog_2_method_6_code 20 = .ok (.iadd, 1) := by decide +kernel
theorem d_Box_ofRule_21 : decode prog_2_method_6_code 21 = .ok (.ireturn, 1) := by decide +kernel
theorem d_Box_ofRule_22 : decode prog_2_method_6_code 22 = .ok (.aload_n 0, 1) := by decide +kernel
theorem d_Box_ofRule_23 : decode prog_2_method_6_code 23 = .ok (.getfield 17, 3) := by decide +kernel
theorem d_Box_ofRule_26 : decode prog_2_method_6_code 26 = .ok (.iload_n 1, 1) := by decide +kernel
theorem d_Box_ofRule_27 : decode prog_2_method_6_code 27 = .ok (.iaload, 1) := by decide +kernel
theorem d_Box_ofRule_28 : decode prog_2_method_6_code 28 = .ok (.iload 4, 2) := by decide +kernel
theorem d_Box_ofRule_30 : decode prog_2_method_6_code 30 = .ok (.ifCond .eq 7, 3) := by decide +kernel
theorem d_Box_ofRule_33 : decode prog_2_method_6_code 33 = .ok (.iconst 3, 1) := by decide +kernel
theorem d_Box_ofRule_34 : decode prog_2_method_6_code 34 = .ok (.goto 4, 3) := by decide +kernel
theorem d_Box_ofRule_37 : decode prog_2_method_6_code 37 = .ok (.iconst 0, 1) := by decide +kernel
theorem d_Box_ofRule_38 : decode prog_2_method_6_code 38 = .ok (.iadd, 1) := by decide +kernel
theorem d_Box_ofRule_39 : decode prog_2_method_6_code 39 = .ok (.iload_n 3, 1) := by decide +kernel
theorem d_Box_ofRule_40 : decode prog_2_method_6_code 40 = .ok (.iadd, 1) := by decide +kernel
theorem d_Box_ofRule_41 : decode prog_2_method_6_code 41 = .ok (.ireturn, 1) := by decide +kernel
theorem ct_ofRule_R {w : gx_W} {x m : Nat} {U V : Nat → List Nat} {fo : Nat → Nat} (h : bxAt w x m U V fo) {r : Nat} {e : Bool} {y : Int32} (hr : r < 12) : gx_Ct M_Box_ofRule 1 0 0 [.ref x, .int (nI r), .int (nI 1), .int y, .int (nI e.toNat)] w (gx_eq (some (.int (nI (fo r + e.toNat)))) w) := by
  refine gx_ct (L := [some (.ref x), some (.int (nI r)), some (.int (nI 1)), some (.int y), some (.int (nI e.toNat))]) (by decide) (Nat.le_of_ble_eq_true rfl) rfl ?_
  have he := Bool.toNat_le e
  refine gx_iload_n d_Box_ofRule_0 rfl ?_
  refine gx_if_eqN (by omega) (tgt := 22) d_Box_ofRule_1 (by decide) (fun h1 => ?_) (fun h1 => ?_)
  · exact absurd h1 (by decide)
  · refine gx_aload_n d_Box_ofRule_4 rfl ?_
    refine gx_get fl_Box_17 d_Box_ofRule_5 h.1 rfl ?_
    refine gx_iload_n d_Box_ofRule_8 rfl ?_
    refine gx_iald d_Box_ofRule_9 h.2.2.1 (by omega) (by omega) ?_
    refine gx_iload d_Box_ofRule_10 rfl ?_
    refine gx_if_eqN (by omega) (tgt := 19) d_Box_ofRule_12 (by decide) (fun h12 => ?_) (fun h12 => ?_)
    · rw [h12]
      refine gx_iconst d_Box_ofRule_19 (nI 0) (by decide) ?_
      refine gx_iaddN d_Box_ofRule_20 ?_
      refine gx_ireturn rfl d_Box_ofRule_21 ?_
      exact ⟨rfl, rfl⟩
    · rw [show e.toNat = 1 by omega]
      refine gx_iconst d_Box_ofRule_15 (nI 1) (by decide) ?_
      refine gx_goto (tgt := 20) d_Box_ofRule_16 (by decide) ?_
      refine gx_iaddN d_Box_ofRule_20 ?_
      refine gx_ireturn rfl d_Box_ofRule_21 ?_
      exact ⟨rfl, rfl⟩
theorem ct_ofRule_L {w : gx_W} {x m : Nat} {U V : Nat → List Nat} {fo : Nat → Nat} (h : bxAt w x m U V fo) {r y : Nat} {e : Bool} (hr : r < 12) : gx_Ct M_Box_ofRule 1 0 0 [.ref x, .int (nI r), .int (nI 0), .int (nI y), .int (nI e.toNat)] w (gx_eq (some (.int (nI (fo r + 3 * e.toNat + y)))) w) := by
  refine gx_ct (L := [some (.ref x), some (.int (nI r)), some (.int (nI 0)), some (.int (nI y)), some (.int (nI e.toNat))]) (by decide) (Nat.le_of_ble_eq_true rfl) rfl ?_
  have he := Bool.toNat_le e
  refine gx_iload_n d_Box_ofRule_0 rfl ?_
  refine gx_if_eqN (by omega) (tgt := 22) d_Box_ofRule_1 (by decide) (fun h1 => ?_) (fun h1 => ?_)
  · refine gx_aload_n d_Box_ofRule_22 rfl ?_
    refine gx_get fl_Box_17 d_Box_ofRule_23 h.1 rfl ?_
    refine gx_iload_n d_Box_ofRule_26 rfl ?_
    refine gx_iald d_Box_ofRule_27 h.2.2.1 (by omega) (by omega) ?_
    refine gx_iload d_Box_ofRule_28 rfl ?_
    refine gx_if_eqN (by omega) (tgt := 37) d_Box_ofRule_30 (by decide) (fun h30 => ?_) (fun h30 => ?_)
    · rw [h30]
      refine gx_iconst d_Box_ofRule_37 (nI 0) (by decide) ?_
      refine gx_iaddN d_Box_ofRule_38 ?_
      refine gx_iload_n d_Box_ofRule_39 rfl ?_
      refine gx_iaddN d_Box_ofRule_40 ?_
      refine gx_ireturn rfl d_Box_ofRule_41 ?_
      exact ⟨rfl, rfl⟩
    · rw [show e.toNat = 1 by omega]
      refine gx_iconst d_Box_ofRule_33 (nI 3) (by decide) ?_
      refine gx_goto (tgt := 38) d_Box_ofRule_34 (by decide) ?_
      refine gx_iaddN d_Box_ofRule_38 ?_
      refine gx_iload_n d_Box_ofRule_39 rfl ?_
      refine gx_iaddN d_Box_ofRule_40 ?_
      refine gx_ireturn rfl d_Box_ofRule_41 ?_
      exact ⟨rfl, rfl⟩
  · exact absurd rfl h1
theorem d_Box_open_0 : decode prog_2_method_8_code 0 = .ok (.aload_n 0, 1) := by decide +kernel
theorem d_Box_open_1 : decode prog_2_method_8_code 1 = .ok (.aload_n 0, 1) := by decide +kernel
theorem d_Box_open_2 : decode prog_2_method_8_code 2 = .ok (.getfield 22, 3) := by decide +kernel
theorem d_Box_open_5 : decode prog_2_method_8_code 5 = .ok (.iconst 1, 1) := by decide +kernel
theorem d_Box_open_6 : decode prog_2_method_8_code 6 = .ok (.iadd, 1) := by decide +kernel
theorem d_Box_open_7 : decode prog_2_method_8_code 7 = .ok (.aload_n 0, 1) := by decide +kernel
theorem d_Box_open_8 : decode prog_2_method_8_code 8 = .ok (.getfield 11, 3) := by decide +kernel
theorem d_Box_open_11 : decode prog_2_method_8_code 11 = .ok (.arraylength, 1) := by decide +kernel
theorem d_Box_open_12 : decode prog_2_method_8_code 12 = .ok (.invokestatic 75, 3) := by decide +kernel
theorem d_Box_open_15 : decode prog_2_method_8_code 15 = .ok (.putfield 22, 3) := by decide +kernel
theorem d_Box_open_18 : decode prog_2_method_8_code 18 = .ok (.aload_n 0, 1) := by decide +kernel
theorem d_Box_open_19 : decode prog_2_method_8_code 19 = .ok (.getfield 11, 3) := by decide +kernel
theorem d_Box_open_22 : decode prog_2_method_8_code 22 = .ok (.aload_n 0, 1) := by decide +kernel
theorem d_Box_open_23 : decode prog_2_method_8_code 23 = .ok (.getfield 22, 3) := by decide +kernel
theorem d_Box_open_26 : decode prog_2_method_8_code 26 = .ok (.iconst 1, 1) := by decide +kernel
theorem d_Box_open_27 : decode prog_2_method_8_code 27 = .ok (.isub, 1) := by decide +kernel
theorem d_Box_open_28 : decode prog_2_method_8_code 28 = .ok (.aaload, 1) := by decide +kernel
theorem d_Box_open_29 : decode prog_2_method_8_code 29 = .ok (.astore_n 1, 1) := by decide +kernel
theorem d_Box_open_30 : decode prog_2_method_8_code 30 = .ok (.aload_n 1, 1) := by decide +kernel
theorem d_Box_open_31 : decode prog_2_method_8_code 31 = .ok (.getfield 34, 3) := by decide +kernel
theorem d_Box_open_34 : decode prog_2_method_8_code 34 = .ok (.invokevirtual 81, 3) := by decide +kernel
theorem d_Box_open_37 : decode prog_2_method_8_code 37 = .ok (.aload_n 1, 1) := by decide +kernel
theorem d_Box_open_38 : decode prog_2_method_8_code 38 = .ok (.getfield 44, 3) := by decide +kernel
theorem d_Box_open_41 : decode prog_2_method_8_code 41 = .ok (.invokevirtual 81, 3) := by decide +kernel
theorem d_Box_open_44 : decode prog_2_method_8_code 44 = .ok (.aload_n 1, 1) := by decide +kernel
theorem d_Box_open_45 : decode prog_2_method_8_code 45 = .ok (.areturn, 1) := by decide +kernel
theorem ct_open {w : gx_W} {x m : Nat} {U V : Nat → List Nat} {fo : Nat → Nat} (h : bxAt w x m U V fo) (hm : m < 60) : gx_Ct M_Box_open 2 0 0 [.ref x] w (fun r w' => r = some (.ref (x + 3 + 5 * m)) ∧ bxDm w' x m U V fo [] [] ∧ gx_kp w w' x (x + 303)) := by
  refine gx_ct (L := [some (.ref x), none]) (by decide) (Nat.le_of_ble_eq_true rfl) rfl ?_
  refine gx_aload_n d_Box_open_0 rfl ?_
  refine gx_aload_n d_Box_open_1 rfl ?_
  refine gx_get fl_Box_22 d_Box_open_2 h.1 rfl ?_
  refine gx_iconst d_Box_open_5 (nI 1) (by decide) ?_
  refine gx_iaddN d_Box_open_6 ?_
  refine gx_aload_n d_Box_open_7 rfl ?_
  refine gx_get fl_Box_11 d_Box_open_8 h.1 rfl ?_
  refine gx_alen (by decide) d_Box_open_11 h.2.1 ?_
  refine gx_min lk_Box_75 (by omega) (Nat.le_of_ble_eq_true rfl) d_Box_open_12 ?_
  refine gx_top ((gx_mnI (by omega) (by omega)).trans (congrArg nI (Nat.min_eq_left (by omega)))) ?_
  refine gx_put fp_Box_22 (fun h => by cases h) d_Box_open_15 h.1 rfl rfl (Nat.le_of_ble_eq_true rfl) ?_
  have h1 := bxAt.num (k := m + 1) h
  have k1 : gx_kp w _ x (x + 303) := gx_kp.st (a := x) (x := gx_ob 5 [.ref (x + 1), .ref (x + 2), .int (nI (m + 1))]) (by omega) (by omega)
  refine gx_w (w' := gx_st w x (gx_ob 5 [.ref (x + 1), .ref (x + 2), .int (nI (m + 1))])) rfl ?_
  refine gx_aload_n d_Box_open_18 rfl ?_
  refine gx_get fl_Box_11 d_Box_open_19 h1.1 rfl ?_
  refine gx_aload_n d_Box_open_22 rfl ?_
  refine gx_get fl_Box_22 d_Box_open_23 h1.1 rfl ?_
  refine gx_iconst d_Box_open_26 (nI 1) (by decide) ?_
  refine gx_isubN (by omega) d_Box_open_27 ?_
  refine gx_aald4 d_Box_open_28 h1.2.1 (by omega) (by omega) (bxF_in (by omega)) ?_
  refine gx_w rfl ?_
  refine gx_astore_n d_Box_open_29 (Nat.le_of_ble_eq_true rfl) rfl ?_
  refine gx_aload_n d_Box_open_30 rfl ?_
  refine gx_get fl_Box_34 d_Box_open_31 (h1.2.2.2 (m + 1 - 1) (by omega)).1 rfl ?_
  refine gx_cV0 lk_Box_81 d_Box_open_34 (ct_Word_empty (h1.2.2.2 (m + 1 - 1) (by omega)).2.1) (Or.inr ⟨_, _, (h1.2.2.2 (m + 1 - 1) (by omega)).2.1⟩) (by omega) rfl rfl (Nat.le_of_ble_eq_true rfl) ?_
  have h2 := bxAt.up (k := m + 1 - 1) [] h1
  have k2 := k1.trans (gx_kp.st (a := x + 4 + 5 * (m + 1 - 1)) (x := gx_bx 0 3 []) (by omega) (by omega))
  refine gx_aload_n d_Box_open_37 rfl ?_
  refine gx_get fl_Box_44 d_Box_open_38 (h2.2.2.2 (m + 1 - 1) (by omega)).1 rfl ?_
  refine gx_cV0 lk_Box_81 d_Box_open_41 (ct_Word_empty (h2.2.2.2 (m + 1 - 1) (by omega)).2.2) (Or.inr ⟨_, _, (h2.2.2.2 (m + 1 - 1) (by omega)).2.2⟩) (by omega) rfl rfl (Nat.le_of_ble_eq_true rfl) ?_
  have h3 := bxAt.lo (k := m + 1 - 1) [] h2
  have k3 := k2.trans (gx_kp.st (a := x + 6 + 5 * (m + 1 - 1)) (x := gx_bx 0 7 []) (by omega) (by omega))
  refine gx_aload_n d_Box_open_44 rfl ?_
  refine gx_areturn rfl (Or.inl ⟨_, rfl⟩) (Or.inr ⟨_, rfl⟩) d_Box_open_45 ?_
  rw [Nat.add_sub_cancel] at h3 k3 ⊢
  exact ⟨rfl, ⟨hm, h3⟩, k3⟩
theorem d_Box_addCopy_0 : decode prog_2_method_9_code 0 = .ok (.aload_n 0, 1) := by decide +kernel
theorem d_Box_addCopy_1 : decode prog_2_method_9_code 1 = .ok (.invokevirtual 30, 3) := by decide +kernel
theorem d_Box_addCopy_4 : decode prog_2_method_9_code 4 = .ok (.astore_n 2, 1) := by decide +kernel
theorem d_Box_addCopy_5 : decode prog_2_method_9_code 5 = .ok (.aload_n 2, 1) := by decide +kernel
theorem d_Box_addCopy_6 : decode prog_2_method_9_code 6 = .ok (.getfield 34, 3) := by decide +kernel
theorem d_Box_addCopy_9 : decode prog_2_method_9_code 9 = .ok (.iload_n 1, 1) := by decide +kernel
theorem d_Box_addCopy_10 : decode prog_2_method_9_code 10 = .ok (.invokevirtual 38, 3) := by decide +kernel
theorem d_Box_addCopy_13 : decode prog_2_method_9_code 13 = .ok (.pop, 1) := by decide +kernel
theorem d_Box_addCopy_14 : decode prog_2_method_9_code 14 = .ok (.aload_n 2, 1) := by decide +kernel
theorem d_Box_addCopy_15 : decode prog_2_method_9_code 15 = .ok (.getfield 44, 3) := by decide +kernel
theorem d_Box_addCopy_18 : decode prog_2_method_9_code 18 = .ok (.iload_n 1, 1) := by decide +kernel
theorem d_Box_addCopy_19 : decode prog_2_method_9_code 19 = .ok (.invokevirtual 38, 3) := by decide +kernel
theorem d_Box_addCopy_22 : decode prog_2_method_9_code 22 = .ok (.pop, 1) := by decide +kernel
theorem d_Box_addCopy_23 : decode prog_2_method_9_code 23 = .ok (.return_, 1) := by decide +kernel
theorem ct_addCopy {w : gx_W} {x : Nat} {ds : List (List Nat × List Nat)} {fo : Nat → Nat} (hb : bxOk w x ds fo) {c : Nat} (hc : c < 65536) (hn : ds.length < 60) : gx_Ct M_Box_addCopy 3 0 0 [.ref x, .int (nI c)] w (fun r w' => r = none ∧ bxOk w' x (ds ++ [([c], [c])]) fo ∧ gx_kp w w' x (x + 303)) := by
  refine gx_ct (L := [some (.ref x), some (.int (nI c)), none]) (by decide) (Nat.le_of_ble_eq_true rfl) rfl ?_
  obtain ⟨hd60, U, V, h, hd⟩ := hb
  refine gx_aload_n d_Box_addCopy_0 rfl ?_
  refine gx_cVr lk_Box_30 d_Box_addCopy_1 (ct_open h (by omega)) (Or.inl ⟨_, h.1⟩) (by omega) rfl rfl (Nat.le_of_ble_eq_true rfl) (fun r w1 hq => ?_)
  obtain ⟨rfl, hB, hK⟩ := hq
  refine gx_astore_n d_Box_addCopy_4 (Nat.le_of_ble_eq_true rfl) rfl ?_
  refine gx_aload_n d_Box_addCopy_5 rfl ?_
  refine gx_get fl_Box_34 d_Box_addCopy_6 hB.ob rfl ?_
  refine gx_iload_n d_Box_addCopy_9 rfl ?_
  refine gx_cV1 lk_Box_38 d_Box_addCopy_10 (ct_Word_add hB.uw (by omega) (by simp)) (Or.inr ⟨_, _, hB.uw⟩) (by omega) rfl rfl (Nat.le_of_ble_eq_true rfl) ?_
  replace hB := hB.up ([] ++ [c])
  replace hK := hK.trans (gx_kp.st (a := x + 4 + 5 * ds.length) (x := gx_bx 0 3 ([] ++ [c])) (by omega) (by omega))
  refine gx_pop d_Box_addCopy_13 rfl ?_
  refine gx_aload_n d_Box_addCopy_14 rfl ?_
  refine gx_get fl_Box_44 d_Box_addCopy_15 hB.ob rfl ?_
  refine gx_iload_n d_Box_addCopy_18 rfl ?_
  refine gx_cV1 lk_Box_38 d_Box_addCopy_19 (ct_Word_add hB.lw (by omega) (by simp)) (Or.inr ⟨_, _, hB.lw⟩) (by omega) rfl rfl (Nat.le_of_ble_eq_true rfl) ?_
  replace hB := hB.lo ([] ++ [c])
  replace hK := hK.trans (gx_kp.st (a := x + 6 + 5 * ds.length) (x := gx_bx 0 7 ([] ++ [c])) (by omega) (by omega))
  refine gx_pop d_Box_addCopy_22 rfl ?_
  refine gx_return rfl d_Box_addCopy_23 ?_
  exact ⟨rfl, hB.ok hd, hK⟩
theorem d_Box_keepHash_0 : decode prog_2_method_13_code 0 = .ok (.iload_n 1, 1) := by decide +kernel
theorem d_Box_keepHash_1 : decode prog_2_method_13_code 1 = .ok (.bipush 35, 2) := by decide +kernel
theorem d_Box_keepHash_3 : decode prog_2_method_13_code 3 = .ok (.if_icmp .ne 13, 3) := by decide +kernel
theorem d_Box_keepHash_6 : decode prog_2_method_13_code 6 = .ok (.aload_n 0, 1) := by decide +kernel
theorem d_Box_keepHash_7 : decode prog_2_method_13_code 7 = .ok (.getfield 44, 3) := by decide +kernel
theorem d_Box_keepHash_10 : decode prog_2_method_13_code 10 = .ok (.bipush 35, 2) := by decide +kernel
theorem d_Box_keepHash_12 : decode prog_2_method_13_code 12 = .ok (.invokevirtual 38, 3) := by decide +kernel
theorem d_Box_keepHash_15 : decode prog_2_method_13_code 15 = .ok (.pop, 1) := by decide +kernel
theorem d_Box_keepHash_16 : decode prog_2_method_13_code 16 = .ok (.return_, 1) := by decide +kernel
theorem ct_keepHash {w : gx_W} {x m beh : Nat} {U V : Nat → List Nat} {fo : Nat → Nat} {u v : List Nat} (hB : bxDm w x m U V fo u v) (hb : beh < 65536) (hv : v.length < 7) : gx_Ct M_Box_keepHash 2 0 0 [.ref (x + 3 + 5 * m), .int (nI beh)] w (fun r w' => r = none ∧ bxDm w' x m U V fo u (v ++ (if beh = 35 then [35] else [])) ∧ gx_kp w w' x (x + 303)) := by
  refine gx_ct (L := [some (.ref (x + 3 + 5 * m)), some (.int (nI beh))]) (by decide) (Nat.le_of_ble_eq_true rfl) rfl ?_
  have hm60 := hB.1
  refine gx_iload_n d_Box_keepHash_0 rfl ?_
  refine gx_bipush d_Box_keepHash_1 (nI 35) (by decide) ?_
  refine gx_icmp_neN (by omega) (by omega) (tgt := 16) d_Box_keepHash_3 (by decide) (fun h3 => ?_) (fun h3 => ?_)
  · rw [if_neg h3, List.append_nil]
    refine gx_return rfl d_Box_keepHash_16 ?_
    exact ⟨rfl, hB, gx_kp.rf⟩
  · rw [if_pos h3]
    refine gx_aload_n d_Box_keepHash_6 rfl ?_
    refine gx_get fl_Box_44 d_Box_keepHash_7 hB.ob rfl ?_
    refine gx_bipush d_Box_keepHash_10 (nI 35) (by decide) ?_
    refine gx_cV1 lk_Box_38 d_Box_keepHash_12 (ct_Word_add hB.lw (by omega) hv) (Or.inr ⟨_, _, hB.lw⟩) (by omega) rfl rfl (Nat.le_of_ble_eq_true rfl) ?_
    replace hB := hB.lo (v ++ [35])
    refine gx_pop d_Box_keepHash_15 rfl ?_
    refine gx_return rfl d_Box_keepHash_16 ?_
    exact ⟨rfl, hB, gx_kp.st (by omega) (by omega)⟩
theorem d_Box_addRight_0 : decode prog_2_method_11_code 0 = .ok (.aload_n 0, 1) := by decide +kernel
theorem d_Box_addRight_1 : decode prog_2_method_11_code 1 = .ok (.invokevirtual 30, 3) := by decide +kernel
theorem d_Box_addRight_4 : decode prog_2_method_11_code 4 = .ok (.astore 4, 2) := by decide +kernel
theorem d_Box_addRight_6 : decode prog_2_method_11_code 6 = .ok (.aload 4, 2) := by decide +kernel
theorem d_Box_addRight_8 : decode prog_2_method_11_code 8 = .ok (.getfield 34, 3) := by decide +kernel
theorem d_Box_addRight_11 : decode prog_2_method_11_code 11 = .ok (.iload_n 2, 1) := by decide +kernel
theorem d_Box_addRight_12 : decode prog_2_method_11_code 12 = .ok (.iconst 3, 1) := by decide +kernel
theorem d_Box_addRight_13 : decode prog_2_method_11_code 13 = .ok (.idiv, 1) := by decide +kernel
theorem d_Box_addRight_14 : decode prog_2_method_11_code 14 = .ok (.invokestatic 98, 3) := by decide +kernel
theorem d_Box_addRight_17 : decode prog_2_method_11_code 17 = .ok (.invokevirtual 38, 3) := by decide +kernel
theorem d_Box_addRight_20 : decode prog_2_method_11_code 20 = .ok (.iload_n 3, 1) := by decide +kernel
theorem d_Box_addRight_21 : decode prog_2_method_11_code 21 = .ok (.invokevirtual 38, 3) := by decide +kernel
theorem d_Box_addRight_24 : decode prog_2_method_11_code 24 = .ok (.pop, 1) := by decide +kernel
theorem d_Box_addRight_25 : decode prog_2_method_11_code 25 = .ok (.aload 4, 2) := by decide +kernel
theorem d_Box_addRight_27 : decode prog_2_method_11_code 27 = .ok (.getfield 44, 3) := by decide +kernel
theorem d_Box_addRight_30 : decode prog_2_method_11_code 30 = .ok (.aload_n 1, 1) := by decide +kernel
theorem d_Box_addRight_31 : decode prog_2_method_11_code 31 = .ok (.getfield 101, 3) := by decide +kernel
theorem d_Box_addRight_34 : decode prog_2_method_11_code 34 = .ok (.iload_n 2, 1) := by decide +kernel
theorem d_Box_addRight_35 : decode prog_2_method_11_code 35 = .ok (.iaload, 1) := by decide +kernel
theorem d_Box_addRight_36 : decode prog_2_method_11_code 36 = .ok (.invokestatic 64, 3) := by decide +kernel
theorem d_Box_addRight_39 : decode prog_2_method_11_code 39 = .ok (.invokevirtual 38, 3) := by decide +kernel
theorem d_Box_addRight_42 : decode prog_2_method_11_code 42 = .ok (.aload_n 1, 1) := by decide +kernel
theorem d_Box_addRight_43 : decode prog_2_method_11_code 43 = .ok (.getfield 104, 3) := by decide +kernel
theorem d_Box_addRight_46 : decode prog_2_method_11_code 46 = .ok (.iload_n 2, 1) := by decide +kernel
theorem d_Box_addRight_47 : decode prog_2_method_11_code 47 = .ok (.iaload, 1) := by decide +kernel
theorem d_Box_addRight_48 : decode prog_2_method_11_code 48 = .ok (.invokestatic 98, 3) := by decide +kernel
theorem d_Box_addRight_51 : decode prog_2_method_11_code 51 = .ok (.invokevirtual 38, 3) := by decide +kernel
theorem d_Box_addRight_54 : decode prog_2_method_11_code 54 = .ok (.pop, 1) := by decide +kernel
theorem d_Box_addRight_55 : decode prog_2_method_11_code 55 = .ok (.aload 4, 2) := by decide +kernel
theorem d_Box_addRight_57 : decode prog_2_method_11_code 57 = .ok (.iload_n 3, 1) := by decide +kernel
theorem d_Box_addRight_58 : decode prog_2_method_11_code 58 = .ok (.invokestatic 107, 3) := by decide +kernel
theorem d_Box_addRight_61 : decode prog_2_method_11_code 61 = .ok (.return_, 1) := by decide +kernel
theorem ct_addRight {w : gx_W} {x a r beh : Nat} {M : sp_M} {t : List Nat} {ds : List (List Nat × List Nat)} {fo : Nat → Nat} (hm : mcAt w a M t) (hM : sp_Mok M) (hxa : a + 7 ≤ x) (hr : r < 12) (hbe : beh < 65536) (hb : bxOk w x ds fo) (hn : ds.length < 60)  : gx_Ct M_Box_addRight 3 0 0 [.ref x, .ref a, .int (nI r), .int (nI beh)] w (fun v w' => v = none ∧ bxOk w' x (ds ++ [([sp_let (r / 3), beh], [48 + sp_wr M r, sp_let (sp_nx M r)] ++ (if beh = 35 then [35] else []))]) fo ∧ gx_kp w w' x (x + 303)) := by
  refine gx_ct (L := [some (.ref x), some (.ref a), some (.int (nI r)), some (.int (nI beh)), none]) (by decide) (Nat.le_of_ble_eq_true rfl) rfl ?_
  obtain ⟨hd60, U, V, h, hd⟩ := hb
  have hMr := hM r
  have hl1 := sp_let_lt (show r / 3 ≤ 4 by omega)
  have hl2 := sp_let_lt hMr.2.2.2
  refine gx_aload_n d_Box_addRight_0 rfl ?_
  refine gx_cVr lk_Box_30 d_Box_addRight_1 (ct_open h (by omega)) (Or.inl ⟨_, h.1⟩) (by omega) rfl rfl (Nat.le_of_ble_eq_true rfl) (fun r w1 hq => ?_)
  obtain ⟨rfl, hB, hK⟩ := hq
  refine gx_astore d_Box_addRight_4 (Nat.le_of_ble_eq_true rfl) rfl ?_
  refine gx_aload d_Box_addRight_6 rfl ?_
  refine gx_get fl_Box_34 d_Box_addRight_8 hB.ob rfl ?_
  refine gx_iload_n d_Box_addRight_11 rfl ?_
  refine gx_iconst d_Box_addRight_12 (nI 3) (by decide) ?_
  refine gx_idivN (by omega) (by omega) (by omega) d_Box_addRight_13 ?_
  refine gx_cS1 lk_Box_98 d_Box_addRight_14 (ct_letter (q := r / 3) (by omega)) (by omega) rfl rfl (Nat.le_of_ble_eq_true rfl) ?_
  refine gx_cV1 lk_Box_38 d_Box_addRight_17 (ct_Word_add hB.uw (by omega) (by simp)) (Or.inr ⟨_, _, hB.uw⟩) (by omega) rfl rfl (Nat.le_of_ble_eq_true rfl) ?_
  replace hB := hB.up ([] ++ [sp_let (r / 3)])
  replace hK := hK.trans (gx_kp.st (a := x + 4 + 5 * ds.length) (x := gx_bx 0 3 ([] ++ [sp_let (r / 3)])) (by omega) (by omega))
  refine gx_iload_n d_Box_addRight_20 rfl ?_
  refine gx_cV1 lk_Box_38 d_Box_addRight_21 (ct_Word_add hB.uw (by omega) (by simp)) (Or.inr ⟨_, _, hB.uw⟩) (by omega) rfl rfl (Nat.le_of_ble_eq_true rfl) ?_
  replace hB := hB.up (([] ++ [sp_let (r / 3)]) ++ [beh])
  replace hK := hK.trans (gx_kp.st (a := x + 4 + 5 * ds.length) (x := gx_bx 0 3 (([] ++ [sp_let (r / 3)]) ++ [beh])) (by omega) (by omega))
  refine gx_pop d_Box_addRight_24 rfl ?_
  refine gx_aload d_Box_addRight_25 rfl ?_
  refine gx_get fl_Box_44 d_Box_addRight_27 hB.ob rfl ?_
  refine gx_aload_n d_Box_addRight_30 rfl ?_
  have hmk := hm.kept hK (by omega)
  refine gx_get fl_Box_101 d_Box_addRight_31 hmk.1 rfl ?_
  refine gx_iload_n d_Box_addRight_34 rfl ?_
  refine gx_iald d_Box_addRight_35 hmk.2.2.2.1 (by omega) (by omega) ?_
  refine gx_cS1 lk_Box_64 d_Box_addRight_36 (ct_digit (by omega)) (by omega) rfl rfl (Nat.le_of_ble_eq_true rfl) ?_
  refine gx_cV1 lk_Box_38 d_Box_addRight_39 (ct_Word_add hB.lw (by omega) (by simp)) (Or.inr ⟨_, _, hB.lw⟩) (by omega) rfl rfl (Nat.le_of_ble_eq_true rfl) ?_
  replace hB := hB.lo ([] ++ [48 + sp_wr M r])
  replace hK := hK.trans (gx_kp.st (a := x + 6 + 5 * ds.length) (x := gx_bx 0 7 ([] ++ [48 + sp_wr M r])) (by omega) (by omega))
  refine gx_aload_n d_Box_addRight_42 rfl ?_
  have hmk := hm.kept hK (by omega)
  refine gx_get fl_Box_104 d_Box_addRight_43 hmk.1 rfl ?_
  refine gx_iload_n d_Box_addRight_46 rfl ?_
  refine gx_iald d_Box_addRight_47 hmk.2.2.2.2.1 (by omega) (by omega) ?_
  refine gx_cS1 lk_Box_98 d_Box_addRight_48 (ct_letter hMr.2.2.2) (by omega) rfl rfl (Nat.le_of_ble_eq_true rfl) ?_
  refine gx_cV1 lk_Box_38 d_Box_addRight_51 (ct_Word_add hB.lw (by omega) (by simp)) (Or.inr ⟨_, _, hB.lw⟩) (by omega) rfl rfl (Nat.le_of_ble_eq_true rfl) ?_
  replace hB := hB.lo (([] ++ [48 + sp_wr M r]) ++ [sp_let (sp_nx M r)])
  replace hK := hK.trans (gx_kp.st (a := x + 6 + 5 * ds.length) (x := gx_bx 0 7 (([] ++ [48 + sp_wr M r]) ++ [sp_let (sp_nx M r)])) (by omega) (by omega))
  refine gx_pop d_Box_addRight_54 rfl ?_
  refine gx_aload d_Box_addRight_55 rfl ?_
  refine gx_iload_n d_Box_addRight_57 rfl ?_
  refine gx_cSr lk_Box_107 d_Box_addRight_58 (ct_keepHash hB (by omega) (by simp)) (by omega) rfl rfl (Nat.le_of_ble_eq_true rfl) (fun r2 w2 hq => ?_)
  obtain ⟨rfl, hB2, hK2⟩ := hq
  refine gx_return rfl d_Box_addRight_61 ?_
  exact ⟨rfl, hB2.ok hd, hK.trans hK2⟩
theorem d_Box_addLeft_0 : decode prog_2_method_12_code 0 = .ok (.aload_n 0, 1) := by decide +kernel
theorem d_Box_addLeft_1 : decode prog_2_method_12_code 1 = .ok (.invokevirtual 30, 3) := by decide +kernel
theorem d_Box_addLeft_4 : decode prog_2_method_12_code 4 = .ok (.astore 5, 2) := by decide +kernel
theorem d_Box_addLeft_6 : decode prog_2_method_12_code 6 = .ok (.aload 5, 2) := by decide +kernel
theorem d_Box_addLeft_8 : decode prog_2_method_12_code 8 = .ok (.getfield 34, 3) := by decide +kernel
theorem d_Box_addLeft_11 : decode prog_2_method_12_code 11 = .ok (.iload_n 3, 1) := by decide +kernel
theorem d_Box_addLeft_12 : decode prog_2_method_12_code 12 = .ok (.invokevirtual 38, 3) := by decide +kernel
theorem d_Box_addLeft_15 : decode prog_2_method_12_code 15 = .ok (.iload_n 2, 1) := by decide +kernel
theorem d_Box_addLeft_16 : decode prog_2_method_12_code 16 = .ok (.iconst 3, 1) := by decide +kernel
theorem d_Box_addLeft_17 : decode prog_2_method_12_code 17 = .ok (.idiv, 1) := by decide +kernel
theorem d_Box_addLeft_18 : decode prog_2_method_12_code 18 = .ok (.invokestatic 98, 3) := by decide +kernel
theorem d_Box_addLeft_21 : decode prog_2_method_12_code 21 = .ok (.invokevirtual 38, 3) := by decide +kernel
theorem d_Box_addLeft_24 : decode prog_2_method_12_code 24 = .ok (.iload 4, 2) := by decide +kernel
theorem d_Box_addLeft_26 : decode prog_2_method_12_code 26 = .ok (.invokevirtual 38, 3) := by decide +kernel
theorem d_Box_addLeft_29 : decode prog_2_method_12_code 29 = .ok (.pop, 1) := by decide +kernel
theorem d_Box_addLeft_30 : decode prog_2_method_12_code 30 = .ok (.aload 5, 2) := by decide +kernel
theorem d_Box_addLeft_32 : decode prog_2_method_12_code 32 = .ok (.getfield 44, 3) := by decide +kernel
theorem d_Box_addLeft_35 : decode prog_2_method_12_code 35 = .ok (.aload_n 1, 1) := by decide +kernel
theorem d_Box_addLeft_36 : decode prog_2_method_12_code 36 = .ok (.getfield 104, 3) := by decide +kernel
theorem d_Box_addLeft_39 : decode prog_2_method_12_code 39 = .ok (.iload_n 2, 1) := by decide +kernel
theorem d_Box_addLeft_40 : decode prog_2_method_12_code 40 = .ok (.iaload, 1) := by decide +kernel
theorem d_Box_addLeft_41 : decode prog_2_method_12_code 41 = .ok (.invokestatic 98, 3) := by decide +kernel
theorem d_Box_addLeft_44 : decode prog_2_method_12_code 44 = .ok (.invokevirtual 38, 3) := by decide +kernel
theorem d_Box_addLeft_47 : decode prog_2_method_12_code 47 = .ok (.iload_n 3, 1) := by decide +kernel
theorem d_Box_addLeft_48 : decode prog_2_method_12_code 48 = .ok (.invokevirtual 38, 3) := by decide +kernel
theorem d_Box_addLeft_51 : decode prog_2_method_12_code 51 = .ok (.aload_n 1, 1) := by decide +kernel
theorem d_Box_addLeft_52 : decode prog_2_method_12_code 52 = .ok (.getfield 101, 3) := by decide +kernel
theorem d_Box_addLeft_55 : decode prog_2_method_12_code 55 = .ok (.iload_n 2, 1) := by decide +kernel
theorem d_Box_addLeft_56 : decode prog_2_method_12_code 56 = .ok (.iaload, 1) := by decide +kernel
theorem d_Box_addLeft_57 : decode prog_2_method_12_code 57 = .ok (.invokestatic 64, 3) := by decide +kernel
theorem d_Box_addLeft_60 : decode prog_2_method_12_code 60 = .ok (.invokevirtual 38, 3) := by decide +kernel
theorem d_Box_addLeft_63 : decode prog_2_method_12_code 63 = .ok (.pop, 1) := by decide +kernel
theorem d_Box_addLeft_64 : decode prog_2_method_12_code 64 = .ok (.aload 5, 2) := by decide +kernel
theorem d_Box_addLeft_66 : decode prog_2_method_12_code 66 = .ok (.iload 4, 2) := by decide +kernel
theorem d_Box_addLeft_68 : decode prog_2_method_12_code 68 = .ok (.invokestatic 107, 3) := by decide +kernel
theorem d_Box_addLeft_71 : decode prog_2_method_12_code 71 = .ok (.return_, 1) := by decide +kernel
theorem ct_addLeft {w : gx_W} {x a r beh : Nat} {M : sp_M} {t : List Nat} {ds : List (List Nat × List Nat)} {fo : Nat → Nat} (hm : mcAt w a M t) (hM : sp_Mok M) (hxa : a + 7 ≤ x) (hr : r < 12) (hbe : beh < 65536) (hb : bxOk w x ds fo) (hn : ds.length < 60) {ah : Nat} (hah : ah < 65536) : gx_Ct M_Box_addLeft 3 0 0 [.ref x, .ref a, .int (nI r), .int (nI ah), .int (nI beh)] w (fun v w' => v = none ∧ bxOk w' x (ds ++ [([ah, sp_let (r / 3), beh], [sp_let (sp_nx M r), ah, 48 + sp_wr M r] ++ (if beh = 35 then [35] else []))]) fo ∧ gx_kp w w' x (x + 303)) := by
  refine gx_ct (L := [some (.ref x), some (.ref a), some (.int (nI r)), some (.int (nI ah)), some (.int (nI beh)), none]) (by decide) (Nat.le_of_ble_eq_true rfl) rfl ?_
  obtain ⟨hd60, U, V, h, hd⟩ := hb
  have hMr := hM r
  have hl1 := sp_let_lt (show r / 3 ≤ 4 by omega)
  have hl2 := sp_let_lt hMr.2.2.2
  refine gx_aload_n d_Box_addLeft_0 rfl ?_
  refine gx_cVr lk_Box_30 d_Box_addLeft_1 (ct_open h (by omega)) (Or.inl ⟨_, h.1⟩) (by omega) rfl rfl (Nat.le_of_ble_eq_true rfl) (fun r w1 hq => ?_)
  obtain ⟨rfl, hB, hK⟩ := hq
  refine gx_astore d_Box_addLeft_4 (Nat.le_of_ble_eq_true rfl) rfl ?_
  refine gx_aload d_Box_addLeft_6 rfl ?_
  refine gx_get fl_Box_34 d_Box_addLeft_8 hB.ob rfl ?_
  refine gx_iload_n d_Box_addLeft_11 rfl ?_
  refine gx_cV1 lk_Box_38 d_Box_addLeft_12 (ct_Word_add hB.uw (by omega) (by simp)) (Or.inr ⟨_, _, hB.uw⟩) (by omega) rfl rfl (Nat.le_of_ble_eq_true rfl) ?_
  replace hB := hB.up ([] ++ [ah])
  replace hK := hK.trans (gx_kp.st (a := x + 4 + 5 * ds.length) (x := gx_bx 0 3 ([] ++ [ah])) (by omega) (by omega))
  refine gx_iload_n d_Box_addLeft_15 rfl ?_
  refine gx_iconst d_Box_addLeft_16 (nI 3) (by decide) ?_
  refine gx_idivN (by omega) (by omega) (by omega) d_Box_addLeft_17 ?_
  refine gx_cS1 lk_Box_98 d_Box_addLeft_18 (ct_letter (q := r / 3) (by omega)) (by omega) rfl rfl (Nat.le_of_ble_eq_true rfl) ?_
  refine gx_cV1 lk_Box_38 d_Box_addLeft_21 (ct_Word_add hB.uw (by omega) (by simp)) (Or.inr ⟨_, _, hB.uw⟩) (by omega) rfl rfl (Nat.le_of_ble_eq_true rfl) ?_
  replace hB := hB.up (([] ++ [ah]) ++ [sp_let (r / 3)])
  replace hK := hK.trans (gx_kp.st (a := x + 4 + 5 * ds.length) (x := gx_bx 0 3 (([] ++ [ah]) ++ [sp_let (r / 3)])) (by omega) (by omega))
  refine gx_iload d_Box_addLeft_24 rfl ?_
  refine gx_cV1 lk_Box_38 d_Box_addLeft_26 (ct_Word_add hB.uw (by omega) (by simp)) (Or.inr ⟨_, _, hB.uw⟩) (by omega) rfl rfl (Nat.le_of_ble_eq_true rfl) ?_
  replace hB := hB.up ((([] ++ [ah]) ++ [sp_let (r / 3)]) ++ [beh])
  replace hK := hK.trans (gx_kp.st (a := x + 4 + 5 * ds.length) (x := gx_bx 0 3 ((([] ++ [ah]) ++ [sp_let (r / 3)]) ++ [beh])) (by omega) (by omega))
  refine gx_pop d_Box_addLeft_29 rfl ?_
  refine gx_aload d_Box_addLeft_30 rfl ?_
  refine gx_get fl_Box_44 d_Box_addLeft_32 hB.ob rfl ?_
  refine gx_aload_n d_Box_addLeft_35 rfl ?_
  have hmk := hm.kept hK (by omega)
  refine gx_get fl_Box_104 d_Box_addLeft_36 hmk.1 rfl ?_
  refine gx_iload_n d_Box_addLeft_39 rfl ?_
  refine gx_iald d_Box_addLeft_40 hmk.2.2.2.2.1 (by omega) (by omega) ?_
  refine gx_cS1 lk_Box_98 d_Box_addLeft_41 (ct_letter hMr.2.2.2) (by omega) rfl rfl (Nat.le_of_ble_eq_true rfl) ?_
  refine gx_cV1 lk_Box_38 d_Box_addLeft_44 (ct_Word_add hB.lw (by omega) (by simp)) (Or.inr ⟨_, _, hB.lw⟩) (by omega) rfl rfl (Nat.le_of_ble_eq_true rfl) ?_
  replace hB := hB.lo ([] ++ [sp_let (sp_nx M r)])
  replace hK := hK.trans (gx_kp.st (a := x + 6 + 5 * ds.length) (x := gx_bx 0 7 ([] ++ [sp_let (sp_nx M r)])) (by omega) (by omega))
  refine gx_iload_n d_Box_addLeft_47 rfl ?_
  refine gx_cV1 lk_Box_38 d_Box_addLeft_48 (ct_Word_add hB.lw (by omega) (by simp)) (Or.inr ⟨_, _, hB.lw⟩) (by omega) rfl rfl (Nat.le_of_ble_eq_true rfl) ?_
  replace hB := hB.lo (([] ++ [sp_let (sp_nx M r)]) ++ [ah])
  replace hK := hK.trans (gx_kp.st (a := x + 6 + 5 * ds.length) (x := gx_bx 0 7 (([] ++ [sp_let (sp_nx M r)]) ++ [ah])) (by omega) (by omega))
  refine gx_aload_n d_Box_addLeft_51 rfl ?_
  have hmk := hm.kept hK (by omega)
  refine gx_get fl_Box_101 d_Box_addLeft_52 hmk.1 rfl ?_
  refine gx_iload_n d_Box_addLeft_55 rfl ?_
  refine gx_iald d_Box_addLeft_56 hmk.2.2.2.1 (by omega) (by omega) ?_
  refine gx_cS1 lk_Box_64 d_Box_addLeft_57 (ct_digit (by omega)) (by omega) rfl rfl (Nat.le_of_ble_eq_true rfl) ?_
  refine gx_cV1 lk_Box_38 d_Box_addLeft_60 (ct_Word_add hB.lw (by omega) (by simp)) (Or.inr ⟨_, _, hB.lw⟩) (by omega) rfl rfl (Nat.le_of_ble_eq_true rfl) ?_
  replace hB := hB.lo ((([] ++ [sp_let (sp_nx M r)]) ++ [ah]) ++ [48 + sp_wr M r])
  replace hK := hK.trans (gx_kp.st (a := x + 6 + 5 * ds.length) (x := gx_bx 0 7 ((([] ++ [sp_let (sp_nx M r)]) ++ [ah]) ++ [48 + sp_wr M r])) (by omega) (by omega))
  refine gx_pop d_Box_addLeft_63 rfl ?_
  refine gx_aload d_Box_addLeft_64 rfl ?_
  refine gx_iload d_Box_addLeft_66 rfl ?_
  refine gx_cSr lk_Box_107 d_Box_addLeft_68 (ct_keepHash hB (by omega) (by simp)) (by omega) rfl rfl (Nat.le_of_ble_eq_true rfl) (fun r2 w2 hq => ?_)
  obtain ⟨rfl, hB2, hK2⟩ := hq
  refine gx_return rfl d_Box_addLeft_71 ?_
  exact ⟨rfl, hB2.ok hd, hK.trans hK2⟩
end
section
/-! Box: rules, endings, fill -/
theorem sp_d3 : ∀ c, c < 3 → [0, 1, 2].drop c = c :: [0, 1, 2].drop (c + 1) := by decide
theorem bxOk.rc {w : gx_W} {x : Nat} {ds : List (List Nat × List Nat)} {fo : Nat → Nat} (h : bxOk w x ds fo) : gx_rc w x 5 := by
  obtain ⟨-, U, V, h, -⟩ := h
  exact Or.inl ⟨_, h.1⟩
theorem bxOk.le {w : gx_W} {x : Nat} {ds : List (List Nat × List Nat)} {fo : Nat → Nat} (h : bxOk w x ds fo) : ds.length ≤ 60 := h.1
theorem d_Box_addRule_0 : decode prog_2_method_10_code 0 = .ok (.aload_n 1, 1) := by decide +kernel
theorem d_Box_addRule_1 : decode prog_2_method_10_code 1 = .ok (.getfield 84, 3) := by decide +kernel
theorem d_Box_addRule_4 : decode prog_2_method_10_code 4 = .ok (.iload_n 2, 1) := by decide +kernel
theorem d_Box_addRule_5 : decode prog_2_method_10_code 5 = .ok (.baload, 1) := by decide +kernel
theorem d_Box_addRule_6 : decode prog_2_method_10_code 6 = .ok (.ifCond .ne 4, 3) := by decide +kernel
theorem d_Box_addRule_9 : decode prog_2_method_10_code 9 = .ok (.return_, 1) := by decide +kernel
theorem d_Box_addRule_10 : decode prog_2_method_10_code 10 = .ok (.aload_n 1, 1) := by decide +kernel
theorem d_Box_addRule_11 : decode prog_2_method_10_code 11 = .ok (.getfield 88, 3) := by decide +kernel
theorem d_Box_addRule_14 : decode prog_2_method_10_code 14 = .ok (.iload_n 2, 1) := by decide +kernel
theorem d_Box_addRule_15 : decode prog_2_method_10_code 15 = .ok (.baload, 1) := by decide +kernel
theorem d_Box_addRule_16 : decode prog_2_method_10_code 16 = .ok (.ifCond .eq 11, 3) := by decide +kernel
theorem d_Box_addRule_19 : decode prog_2_method_10_code 19 = .ok (.aload_n 0, 1) := by decide +kernel
theorem d_Box_addRule_20 : decode prog_2_method_10_code 20 = .ok (.aload_n 1, 1) := by decide +kernel
theorem d_Box_addRule_21 : decode prog_2_method_10_code 21 = .ok (.iload_n 2, 1) := by decide +kernel
theorem d_Box_addRule_22 : decode prog_2_method_10_code 22 = .ok (.iload_n 3, 1) := by decide +kernel
theorem d_Box_addRule_23 : decode prog_2_method_10_code 23 = .ok (.invokevirtual 91, 3) := by decide +kernel
theorem d_Box_addRule_26 : decode prog_2_method_10_code 26 = .ok (.return_, 1) := by decide +kernel
theorem d_Box_addRule_27 : decode prog_2_method_10_code 27 = .ok (.iconst 0, 1) := by decide +kernel
theorem d_Box_addRule_28 : decode prog_2_method_10_code 28 = .ok (.istore 4, 2) := by decide +kernel
theorem d_Box_addRule_30 : decode prog_2_method_10_code 30 = .ok (.iload 4, 2) := by decide +kernel
theorem d_Box_addRule_32 : decode prog_2_method_10_code 32 = .ok (.iconst 3, 1) := by decide +kernel
theorem d_Box_addRule_33 : decode prog_2_method_10_code 33 = .ok (.if_icmp .ge 21, 3) := by decide +kernel
theorem d_Box_addRule_36 : decode prog_2_method_10_code 36 = .ok (.aload_n 0, 1) := by decide +kernel
theorem d_Box_addRule_37 : decode prog_2_method_10_code 37 = .ok (.aload_n 1, 1) := by decide +kernel
theorem d_Box_addRule_38 : decode prog_2_method_10_code 38 = .ok (.iload_n 2, 1) := by decide +kernel
theorem d_Box_addRule_39 : decode prog_2_method_10_code 39 = .ok (.iload 4, 2) := by decide +kernel
theorem d_Box_addRule_41 : decode prog_2_method_10_code 41 = .ok (.invokestatic 64, 3) := by decide +kernel
theorem d_Box_addRule_44 : decode prog_2_method_10_code 44 = .ok (.iload_n 3, 1) := by decide +kernel
theorem d_Box_addRule_45 : decode prog_2_method_10_code 45 = .ok (.invokevirtual 94, 3) := by decide +kernel
theorem d_Box_addRule_48 : decode prog_2_method_10_code 48 = .ok (.iinc 4 1, 3) := by decide +kernel
theorem d_Box_addRule_51 : decode prog_2_method_10_code 51 = .ok (.goto (-21), 3) := by decide +kernel
theorem d_Box_addRule_54 : decode prog_2_method_10_code 54 = .ok (.return_, 1) := by decide +kernel
theorem lp_addRule {Q : gx_P} {x a r beh : Nat} {M : sp_M} {t : List Nat} {fo : Nat → Nat} (hM : sp_Mok M) (hxa : a + 7 ≤ x) (hr : r < 12) (hbe : beh < 65536) : ∀ (fu : Nat) (c : Nat) (ds : List (List Nat × List Nat)) (w : gx_W), 3 - c < fu → (mcAt w a M t) → (bxOk w x ds fo) → (c ≤ 3) → (ds.length + (3 - c) ≤ 60) → (∀ w', bxOk w' x (ds ++ ([0, 1, 2].drop c).map (fun s => ([48 + s, sp_let (r / 3), beh], [sp_let (sp_nx M r), 48 + s, 48 + sp_wr M r] ++ (if beh = 35 then [35] else [])))) fo → gx_kp w w' x (x + 303) → Q.1 none w') → gx_X (fun _ _ => True) M_Box_addRule 4 Q 30 [some (.ref x), some (.ref a), some (.int (nI r)), some (.int (nI beh)), some (.int (nI c))] [] w (0, 0) := by
  intro fu
  induction fu with
  | zero => intro c ds w hfu; exact absurd hfu (Nat.not_lt_zero _)
  | succ fu ih =>
    intro c ds w hfu hm hb hc hn hQ
    refine gx_iload d_Box_addRule_30 rfl ?_
    refine gx_iconst d_Box_addRule_32 (nI 3) (by decide) ?_
    refine gx_icmp_geN (by omega) (by omega) (tgt := 54) d_Box_addRule_33 (by decide) (fun h33 => ?_) (fun h33 => ?_)
    · refine gx_return rfl d_Box_addRule_54 ?_
      have e : c = 3 := by omega
      subst e
      exact hQ w (by simpa using hb) gx_kp.rf
    · refine gx_aload_n d_Box_addRule_36 rfl ?_
      refine gx_aload_n d_Box_addRule_37 rfl ?_
      refine gx_iload_n d_Box_addRule_38 rfl ?_
      refine gx_iload d_Box_addRule_39 rfl ?_
      refine gx_cS1 lk_Box_64 d_Box_addRule_41 (ct_digit (by omega)) (by omega) rfl rfl (Nat.le_of_ble_eq_true rfl) ?_
      refine gx_iload_n d_Box_addRule_44 rfl ?_
      refine gx_cVr lk_Box_94 d_Box_addRule_45 (ct_addLeft (ah := 48 + c) hm hM hxa hr hbe hb (by omega) (by omega)) hb.rc (by omega) rfl rfl (Nat.le_of_ble_eq_true rfl) (fun r2 w2 hq => ?_)
      obtain ⟨rfl, hb, hK2⟩ := hq
      refine gx_iincN (n := 1) d_Box_addRule_48 rfl (by decide) (Nat.le_of_ble_eq_true rfl) rfl ?_
      refine gx_goto (tgt := 30) d_Box_addRule_51 (by decide) ?_
      refine ih (c + 1) _ _ (by omega) (hm.kept hK2 (by omega)) hb (by omega) (by simp; omega) (fun w' h1 h2 => hQ w' ?_ (hK2.trans h2))
      rw [sp_d3 c (by omega), List.map_cons]
      rwa [List.append_assoc, List.singleton_append] at h1
def sp_ar (M : sp_M) (r beh : Nat) : List (List Nat × List Nat) := if sp_kn M r = 1 then sp_re M r beh (if beh = 35 then [35] else []) else []
theorem sp_ar_len (M : sp_M) (r beh : Nat) : (sp_ar M r beh).length ≤ 3 := by
  unfold sp_ar sp_re
  split
  · split <;> simp
  · simp
theorem ct_addRule {w : gx_W} {x a r beh : Nat} {M : sp_M} {t : List Nat} {ds : List (List Nat × List Nat)} {fo : Nat → Nat} (hm : mcAt w a M t) (hM : sp_Mok M) (hxa : a + 7 ≤ x) (hr : r < 12) (hbe : beh < 65536) (hb : bxOk w x ds fo) (hn : ds.length + 3 ≤ 60) : gx_Ct M_Box_addRule 4 0 0 [.ref x, .ref a, .int (nI r), .int (nI beh)] w (fun v w' => v = none ∧ bxOk w' x (ds ++ sp_ar M r beh) fo ∧ gx_kp w w' x (x + 303)) := by
  refine gx_ct (L := [some (.ref x), some (.ref a), some (.int (nI r)), some (.int (nI beh)), none]) (by decide) (Nat.le_of_ble_eq_true rfl) rfl ?_
  have hMr := hM r
  refine gx_aload_n d_Box_addRule_0 rfl ?_
  refine gx_get fl_Box_84 d_Box_addRule_1 hm.1 rfl ?_
  refine gx_iload_n d_Box_addRule_4 rfl ?_
  refine gx_zald d_Box_addRule_5 hm.2.1 (by omega) (by omega) ?_
  refine gx_if_neN (by omega) (tgt := 10) d_Box_addRule_6 (by decide) (fun h6 => ?_) (fun h6 => ?_)
  · rw [show sp_ar M r beh = sp_re M r beh (if beh = 35 then [35] else []) from if_pos (by omega)]
    unfold sp_re
    refine gx_aload_n d_Box_addRule_10 rfl ?_
    refine gx_get fl_Box_88 d_Box_addRule_11 hm.1 rfl ?_
    refine gx_iload_n d_Box_addRule_14 rfl ?_
    refine gx_zald d_Box_addRule_15 hm.2.2.1 (by omega) (by omega) ?_
    refine gx_if_eqN (by omega) (tgt := 27) d_Box_addRule_16 (by decide) (fun h16 => ?_) (fun h16 => ?_)
    · rw [if_neg (show ¬ sp_rt M r = 1 by omega)]
      refine gx_iconst d_Box_addRule_27 (nI 0) (by decide) ?_
      refine gx_istore d_Box_addRule_28 (Nat.le_of_ble_eq_true rfl) rfl ?_
      exact lp_addRule hM hxa hr hbe 4 0 ds w (by omega) hm hb (by omega) hn (fun w' h1 h2 => ⟨rfl, h1, h2⟩)
    · rw [if_pos (show sp_rt M r = 1 by omega)]
      refine gx_aload_n d_Box_addRule_19 rfl ?_
      refine gx_aload_n d_Box_addRule_20 rfl ?_
      refine gx_iload_n d_Box_addRule_21 rfl ?_
      refine gx_iload_n d_Box_addRule_22 rfl ?_
      refine gx_cVr lk_Box_91 d_Box_addRule_23 (ct_addRight hm hM hxa hr hbe hb (by omega)) hb.rc (by omega) rfl rfl (Nat.le_of_ble_eq_true rfl) (fun r2 w2 hq => ?_)
      obtain ⟨rfl, hb, hK2⟩ := hq
      refine gx_return rfl d_Box_addRule_26 ?_
      exact ⟨rfl, hb, hK2⟩
  · rw [show sp_ar M r beh = [] from if_neg (by omega), List.append_nil]
    refine gx_return rfl d_Box_addRule_9 ?_
    exact ⟨rfl, hb, gx_kp.rf⟩
theorem d_Box_addEnding_0 : decode prog_2_method_14_code 0 = .ok (.iconst 4, 1) := by decide +kernel
theorem d_Box_addEnding_1 : decode prog_2_method_14_code 1 = .ok (.invokestatic 98, 3) := by decide +kernel
theorem d_Box_addEnding_4 : decode prog_2_method_14_code 4 = .ok (.istore_n 1, 1) := by decide +kernel
theorem d_Box_addEnding_5 : decode prog_2_method_14_code 5 = .ok (.iconst 0, 1) := by decide +kernel
theorem d_Box_addEnding_6 : decode prog_2_method_14_code 6 = .ok (.istore_n 2, 1) := by decide +kernel
theorem d_Box_addEnding_7 : decode prog_2_method_14_code 7 = .ok (.iload_n 2, 1) := by decide +kernel
theorem d_Box_addEnding_8 : decode prog_2_method_14_code 8 = .ok (.iconst 3, 1) := by decide +kernel
theorem d_Box_addEnding_9 : decode prog_2_method_14_code 9 = .ok (.if_icmp .ge 39, 3) := by decide +kernel
theorem d_Box_addEnding_12 : decode prog_2_method_14_code 12 = .ok (.aload_n 0, 1) := by decide +kernel
theorem d_Box_addEnding_13 : decode prog_2_method_14_code 13 = .ok (.invokevirtual 30, 3) := by decide +kernel
theorem d_Box_addEnding_16 : decode prog_2_method_14_code 16 = .ok (.astore_n 3, 1) := by decide +kernel
theorem d_Box_addEnding_17 : decode prog_2_method_14_code 17 = .ok (.aload_n 3, 1) := by decide +kernel
theorem d_Box_addEnding_18 : decode prog_2_method_14_code 18 = .ok (.getfield 34, 3) := by decide +kernel
theorem d_Box_addEnding_21 : decode prog_2_method_14_code 21 = .ok (.iload_n 2, 1) := by decide +kernel
theorem d_Box_addEnding_22 : decode prog_2_method_14_code 22 = .ok (.invokestatic 64, 3) := by decide +kernel
theorem d_Box_addEnding_25 : decode prog_2_method_14_code 25 = .ok (.invokevirtual 38, 3) := by decide +kernel
theorem d_Box_addEnding_28 : decode prog_2_method_14_code 28 = .ok (.iload_n 1, 1) := by decide +kernel
theorem d_Box_addEnding_29 : decode prog_2_method_14_code 29 = .ok (.invokevirtual 38, 3) := by decide +kernel
theorem d_Box_addEnding_32 : decode prog_2_method_14_code 32 = .ok (.pop, 1) := by decide +kernel
theorem d_Box_addEnding_33 : decode prog_2_method_14_code 33 = .ok (.aload_n 3, 1) := by decide +kernel
theorem d_Box_addEnding_34 : decode prog_2_method_14_code 34 = .ok (.getfield 44, 3) := by decide +kernel
theorem d_Box_addEnding_37 : decode prog_2_method_14_code 37 = .ok (.iload_n 1, 1) := by decide +kernel
theorem d_Box_addEnding_38 : decode prog_2_method_14_code 38 = .ok (.invokevirtual 38, 3) := by decide +kernel
theorem d_Box_addEnding_41 : decode prog_2_method_14_code 41 = .ok (.pop, 1) := by decide +kernel
theorem d_Box_addEnding_42 : decode prog_2_method_14_code 42 = .ok (.iinc 2 1, 3) := by decide +kernel
theorem d_Box_addEnding_45 : decode prog_2_method_14_code 45 = .ok (.goto (-38), 3) := by decide +kernel
theorem d_Box_addEnding_48 : decode prog_2_method_14_code 48 = .ok (.iconst 0, 1) := by decide +kernel
theorem d_Box_addEnding_49 : decode prog_2_method_14_code 49 = .ok (.istore_n 2, 1) := by decide +kernel
theorem d_Box_addEnding_50 : decode prog_2_method_14_code 50 = .ok (.iload_n 2, 1) := by decide +kernel
theorem d_Box_addEnding_51 : decode prog_2_method_14_code 51 = .ok (.iconst 3, 1) := by decide +kernel
theorem d_Box_addEnding_52 : decode prog_2_method_14_code 52 = .ok (.if_icmp .ge 39, 3) := by decide +kernel
theorem d_Box_addEnding_55 : decode prog_2_method_14_code 55 = .ok (.aload_n 0, 1) := by decide +kernel
theorem d_Box_addEnding_56 : decode prog_2_method_14_code 56 = .ok (.invokevirtual 30, 3) := by decide +kernel
theorem d_Box_addEnding_59 : decode prog_2_method_14_code 59 = .ok (.astore_n 3, 1) := by decide +kernel
theorem d_Box_addEnding_60 : decode prog_2_method_14_code 60 = .ok (.aload_n 3, 1) := by decide +kernel
theorem d_Box_addEnding_61 : decode prog_2_method_14_code 61 = .ok (.getfield 34, 3) := by decide +kernel
theorem d_Box_addEnding_64 : decode prog_2_method_14_code 64 = .ok (.iload_n 1, 1) := by decide +kernel
theorem d_Box_addEnding_65 : decode prog_2_method_14_code 65 = .ok (.invokevirtual 38, 3) := by decide +kernel
theorem d_Box_addEnding_68 : decode prog_2_method_14_code 68 = .ok (.iload_n 2, 1) := by decide +kernel
theorem d_Box_addEnding_69 : decode prog_2_method_14_code 69 = .ok (.invokestatic 64, 3) := by decide +kernel
theorem d_Box_addEnding_72 : decode prog_2_method_14_code 72 = .ok (.invokevirtual 38, 3) := by decide +kernel
theorem d_Box_addEnding_75 : decode prog_2_method_14_code 75 = .ok (.pop, 1) := by decide +kernel
theorem d_Box_addEnding_76 : decode prog_2_method_14_code 76 = .ok (.aload_n 3, 1) := by decide +kernel
theorem d_Box_addEnding_77 : decode prog_2_method_14_code 77 = .ok (.getfield 44, 3) := by decide +kernel
theorem d_Box_addEnding_80 : decode prog_2_method_14_code 80 = .ok (.iload_n 1, 1) := by decide +kernel
theorem d_Box_addEnding_81 : decode prog_2_method_14_code 81 = .ok (.invokevirtual 38, 3) := by decide +kernel
theorem d_Box_addEnding_84 : decode prog_2_method_14_code 84 = .ok (.pop, 1) := by decide +kernel
theorem d_Box_addEnding_85 : decode prog_2_method_14_code 85 = .ok (.iinc 2 1, 3) := by decide +kernel
theorem d_Box_addEnding_88 : decode prog_2_method_14_code 88 = .ok (.goto (-38), 3) := by decide +kernel
theorem d_Box_addEnding_91 : decode prog_2_method_14_code 91 = .ok (.aload_n 0, 1) := by decide +kernel
theorem d_Box_addEnding_92 : decode prog_2_method_14_code 92 = .ok (.invokevirtual 30, 3) := by decide +kernel
theorem d_Box_addEnding_95 : decode prog_2_method_14_code 95 = .ok (.astore_n 2, 1) := by decide +kernel
theorem d_Box_addEnding_96 : decode prog_2_method_14_code 96 = .ok (.aload_n 2, 1) := by decide +kernel
theorem d_Box_addEnding_97 : decode prog_2_method_14_code 97 = .ok (.getfield 34, 3) := by decide +kernel
theorem d_Box_addEnding_100 : decode prog_2_method_14_code 100 = .ok (.iload_n 1, 1) := by decide +kernel
theorem d_Box_addEnding_101 : decode prog_2_method_14_code 101 = .ok (.invokevirtual 38, 3) := by decide +kernel
theorem d_Box_addEnding_104 : decode prog_2_method_14_code 104 = .ok (.bipush 35, 2) := by decide +kernel
theorem d_Box_addEnding_106 : decode prog_2_method_14_code 106 = .ok (.invokevirtual 38, 3) := by decide +kernel
theorem d_Box_addEnding_109 : decode prog_2_method_14_code 109 = .ok (.bipush 35, 2) := by decide +kernel
theorem d_Box_addEnding_111 : decode prog_2_method_14_code 111 = .ok (.invokevirtual 38, 3) := by decide +kernel
theorem d_Box_addEnding_114 : decode prog_2_method_14_code 114 = .ok (.pop, 1) := by decide +kernel
theorem d_Box_addEnding_115 : decode prog_2_method_14_code 115 = .ok (.aload_n 2, 1) := by decide +kernel
theorem d_Box_addEnding_116 : decode prog_2_method_14_code 116 = .ok (.getfield 44, 3) := by decide +kernel
theorem d_Box_addEnding_119 : decode prog_2_method_14_code 119 = .ok (.bipush 35, 2) := by decide +kernel
theorem d_Box_addEnding_121 : decode prog_2_method_14_code 121 = .ok (.invokevirtual 38, 3) := by decide +kernel
theorem d_Box_addEnding_124 : decode prog_2_method_14_code 124 = .ok (.pop, 1) := by decide +kernel
theorem d_Box_addEnding_125 : decode prog_2_method_14_code 125 = .ok (.return_, 1) := by decide +kernel
theorem lp_end1 {Q : gx_P} {x : Nat} {fo : Nat → Nat} : ∀ (fu : Nat) (s : Nat) (ds : List (List Nat × List Nat)) (w : gx_W) (L3 : Option Value), 3 - s < fu → (bxOk w x ds fo) → (s ≤ 3) → (ds.length + (3 - s) ≤ 60) → (∀ w' L', bxOk w' x (ds ++ ([0, 1, 2].drop s).map (fun s => ([48 + s, 104], [104]))) fo → gx_kp w w' x (x + 303) → gx_X (fun _ _ => True) M_Box_addEnding 3 Q 48 [some (.ref x), some (.int (nI 104)), some (.int (nI 3)), L'] [] w' (0, 0)) → gx_X (fun _ _ => True) M_Box_addEnding 3 Q 7 [some (.ref x), some (.int (nI 104)), some (.int (nI s)), L3] [] w (0, 0) := by
  intro fu
  induction fu with
  | zero => intro s ds w L3 hfu; exact absurd hfu (Nat.not_lt_zero _)
  | succ fu ih =>
    intro s ds w L3 hfu hb hs hn hX
    refine gx_iload_n d_Box_addEnding_7 rfl ?_
    refine gx_iconst d_Box_addEnding_8 (nI 3) (by decide) ?_
    refine gx_icmp_geN (by omega) (by omega) (tgt := 48) d_Box_addEnding_9 (by decide) (fun h9 => ?_) (fun h9 => ?_)
    · have e : s = 3 := by omega
      subst e
      exact hX w _ (by simpa using hb) gx_kp.rf
    · refine gx_aload_n d_Box_addEnding_12 rfl ?_
      obtain ⟨hd60, U, V, h, hd⟩ := hb
      refine gx_cVr lk_Box_30 d_Box_addEnding_13 (ct_open h (by omega)) (Or.inl ⟨_, h.1⟩) (by omega) rfl rfl (Nat.le_of_ble_eq_true rfl) (fun r w1 hq => ?_)
      obtain ⟨rfl, hB, hK⟩ := hq
      refine gx_astore_n d_Box_addEnding_16 (Nat.le_of_ble_eq_true rfl) rfl ?_
      refine gx_aload_n d_Box_addEnding_17 rfl ?_
      refine gx_get fl_Box_34 d_Box_addEnding_18 hB.ob rfl ?_
      refine gx_iload_n d_Box_addEnding_21 rfl ?_
      refine gx_cS1 lk_Box_64 d_Box_addEnding_22 (ct_digit (by omega)) (by omega) rfl rfl (Nat.le_of_ble_eq_true rfl) ?_
      refine gx_cV1 lk_Box_38 d_Box_addEnding_25 (ct_Word_add hB.uw (by omega) (by simp)) (Or.inr ⟨_, _, hB.uw⟩) (by omega) rfl rfl (Nat.le_of_ble_eq_true rfl) ?_
      replace hB := hB.up ([] ++ [48 + s])
      replace hK := hK.trans (gx_kp.st (a := x + 4 + 5 * ds.length) (x := gx_bx 0 3 ([] ++ [48 + s])) (by omega) (by omega))
      refine gx_iload_n d_Box_addEnding_28 rfl ?_
      refine gx_cV1 lk_Box_38 d_Box_addEnding_29 (ct_Word_add hB.uw (by omega) (by simp)) (Or.inr ⟨_, _, hB.uw⟩) (by omega) rfl rfl (Nat.le_of_ble_eq_true rfl) ?_
      replace hB := hB.up (([] ++ [48 + s]) ++ [104])
      replace hK := hK.trans (gx_kp.st (a := x + 4 + 5 * ds.length) (x := gx_bx 0 3 (([] ++ [48 + s]) ++ [104])) (by omega) (by omega))
      refine gx_pop d_Box_addEnding_32 rfl ?_
      refine gx_aload_n d_Box_addEnding_33 rfl ?_
      refine gx_get fl_Box_44 d_Box_addEnding_34 hB.ob rfl ?_
      refine gx_iload_n d_Box_addEnding_37 rfl ?_
      refine gx_cV1 lk_Box_38 d_Box_addEnding_38 (ct_Word_add hB.lw (by omega) (by simp)) (Or.inr ⟨_, _, hB.lw⟩) (by omega) rfl rfl (Nat.le_of_ble_eq_true rfl) ?_
      replace hB := hB.lo ([] ++ [104])
      replace hK := hK.trans (gx_kp.st (a := x + 6 + 5 * ds.length) (x := gx_bx 0 7 ([] ++ [104])) (by omega) (by omega))
      refine gx_pop d_Box_addEnding_41 rfl ?_
      refine gx_iincN (n := 1) d_Box_addEnding_42 rfl (by decide) (Nat.le_of_ble_eq_true rfl) rfl ?_
      refine gx_goto (tgt := 7) d_Box_addEnding_45 (by decide) ?_
      refine ih (s + 1) (ds ++ [([48 + s, 104], [104])]) _ _ (by omega) (hB.ok hd) (by omega) (by simp; omega) (fun w' L' h1 h2 => hX w' L' ?_ (hK.trans h2))
      rw [sp_d3 s (by omega), List.map_cons]
      rwa [List.append_assoc, List.singleton_append] at h1
theorem lp_end2 {Q : gx_P} {x : Nat} {fo : Nat → Nat} : ∀ (fu : Nat) (s : Nat) (ds : List (List Nat × List Nat)) (w : gx_W) (L3 : Option Value), 3 - s < fu → (bxOk w x ds fo) → (s ≤ 3) → (ds.length + (3 - s) ≤ 60) → (∀ w' L', bxOk w' x (ds ++ ([0, 1, 2].drop s).map (fun s => ([104, 48 + s], [104]))) fo → gx_kp w w' x (x + 303) → gx_X (fun _ _ => True) M_Box_addEnding 3 Q 91 [some (.ref x), some (.int (nI 104)), some (.int (nI 3)), L'] [] w' (0, 0)) → gx_X (fun _ _ => True) M_Box_addEnding 3 Q 50 [some (.ref x), some (.int (nI 104)), some (.int (nI s)), L3] [] w (0, 0) := by
  intro fu
  induction fu with
  | zero => intro s ds w L3 hfu; exact absurd hfu (Nat.not_lt_zero _)
  | succ fu ih =>
    intro s ds w L3 hfu hb hs hn hX
    refine gx_iload_n d_Box_addEnding_50 rfl ?_
    refine gx_iconst d_Box_addEnding_51 (nI 3) (by decide) ?_
    refine gx_icmp_geN (by omega) (by omega) (tgt := 91) d_Box_addEnding_52 (by decide) (fun h52 => ?_) (fun h52 => ?_)
    · have e : s = 3 := by omega
      subst e
      exact hX w _ (by simpa using hb) gx_kp.rf
    · refine gx_aload_n d_Box_addEnding_55 rfl ?_
      obtain ⟨hd60, U, V, h, hd⟩ := hb
      refine gx_cVr lk_Box_30 d_Box_addEnding_56 (ct_open h (by omega)) (Or.inl ⟨_, h.1⟩) (by omega) rfl rfl (Nat.le_of_ble_eq_true rfl) (fun r w1 hq => ?_)
      obtain ⟨rfl, hB, hK⟩ := hq
      refine gx_astore_n d_Box_addEnding_59 (Nat.le_of_ble_eq_true rfl) rfl ?_
      refine gx_aload_n d_Box_addEnding_60 rfl ?_
      refine gx_get fl_Box_34 d_Box_addEnding_61 hB.ob rfl ?_
      refine gx_iload_n d_Box_addEnding_64 rfl ?_
      refine gx_cV1 lk_Box_38 d_Box_addEnding_65 (ct_Word_add hB.uw (by omega) (by simp)) (Or.inr ⟨_, _, hB.uw⟩) (by omega) rfl rfl (Nat.le_of_ble_eq_true rfl) ?_
      replace hB := hB.up ([] ++ [104])
      replace hK := hK.trans (gx_kp.st (a := x + 4 + 5 * ds.length) (x := gx_bx 0 3 ([] ++ [104])) (by omega) (by omega))
      refine gx_iload_n d_Box_addEnding_68 rfl ?_
      refine gx_cS1 lk_Box_64 d_Box_addEnding_69 (ct_digit (by omega)) (by omega) rfl rfl (Nat.le_of_ble_eq_true rfl) ?_
      refine gx_cV1 lk_Box_38 d_Box_addEnding_72 (ct_Word_add hB.uw (by omega) (by simp)) (Or.inr ⟨_, _, hB.uw⟩) (by omega) rfl rfl (Nat.le_of_ble_eq_true rfl) ?_
      replace hB := hB.up (([] ++ [104]) ++ [48 + s])
      replace hK := hK.trans (gx_kp.st (a := x + 4 + 5 * ds.length) (x := gx_bx 0 3 (([] ++ [104]) ++ [48 + s])) (by omega) (by omega))
      refine gx_pop d_Box_addEnding_75 rfl ?_
      refine gx_aload_n d_Box_addEnding_76 rfl ?_
      refine gx_get fl_Box_44 d_Box_addEnding_77 hB.ob rfl ?_
      refine gx_iload_n d_Box_addEnding_80 rfl ?_
      refine gx_cV1 lk_Box_38 d_Box_addEnding_81 (ct_Word_add hB.lw (by omega) (by simp)) (Or.inr ⟨_, _, hB.lw⟩) (by omega) rfl rfl (Nat.le_of_ble_eq_true rfl) ?_
      replace hB := hB.lo ([] ++ [104])
      replace hK := hK.trans (gx_kp.st (a := x + 6 + 5 * ds.length) (x := gx_bx 0 7 ([] ++ [104])) (by omega) (by omega))
      refine gx_pop d_Box_addEnding_84 rfl ?_
      refine gx_iincN (n := 1) d_Box_addEnding_85 rfl (by decide) (Nat.le_of_ble_eq_true rfl) rfl ?_
      refine gx_goto (tgt := 50) d_Box_addEnding_88 (by decide) ?_
      refine ih (s + 1) (ds ++ [([104, 48 + s], [104])]) _ _ (by omega) (hB.ok hd) (by omega) (by simp; omega) (fun w' L' h1 h2 => hX w' L' ?_ (hK.trans h2))
      rw [sp_d3 s (by omega), List.map_cons]
      rwa [List.append_assoc, List.singleton_append] at h1
theorem end3 {Q : gx_P} {w : gx_W} {x : Nat} {ds : List (List Nat × List Nat)} {fo : Nat → Nat} {L2 L3 : Option Value} (hb : bxOk w x ds fo) (hn : ds.length < 60) (hQ : ∀ w', bxOk w' x (ds ++ [([104, 35, 35], [35])]) fo → gx_kp w w' x (x + 303) → Q.1 none w') : gx_X (fun _ _ => True) M_Box_addEnding 3 Q 91 [some (.ref x), some (.int (nI 104)), L2, L3] [] w (0, 0) := by
  refine gx_aload_n d_Box_addEnding_91 rfl ?_
  obtain ⟨hd60, U, V, h, hd⟩ := hb
  refine gx_cVr lk_Box_30 d_Box_addEnding_92 (ct_open h (by omega)) (Or.inl ⟨_, h.1⟩) (by omega) rfl rfl (Nat.le_of_ble_eq_true rfl) (fun r w1 hq => ?_)
  obtain ⟨rfl, hB, hK⟩ := hq
  refine gx_astore_n d_Box_addEnding_95 (Nat.le_of_ble_eq_true rfl) rfl ?_
  refine gx_aload_n d_Box_addEnding_96 rfl ?_
  refine gx_get fl_Box_34 d_Box_addEnding_97 hB.ob rfl ?_
  refine gx_iload_n d_Box_addEnding_100 rfl ?_
  refine gx_cV1 lk_Box_38 d_Box_addEnding_101 (ct_Word_add hB.uw (by omega) (by simp)) (Or.inr ⟨_, _, hB.uw⟩) (by omega) rfl rfl (Nat.le_of_ble_eq_true rfl) ?_
  replace hB := hB.up ([] ++ [104])
  replace hK := hK.trans (gx_kp.st (a := x + 4 + 5 * ds.length) (x := gx_bx 0 3 ([] ++ [104])) (by omega) (by omega))
  refine gx_bipush d_Box_addEnding_104 (nI 35) (by decide) ?_
  refine gx_cV1 lk_Box_38 d_Box_addEnding_106 (ct_Word_add hB.uw (by omega) (by simp)) (Or.inr ⟨_, _, hB.uw⟩) (by omega) rfl rfl (Nat.le_of_ble_eq_true rfl) ?_
  replace hB := hB.up (([] ++ [104]) ++ [35])
  replace hK := hK.trans (gx_kp.st (a := x + 4 + 5 * ds.length) (x := gx_bx 0 3 (([] ++ [104]) ++ [35])) (by omega) (by omega))
  refine gx_bipush d_Box_addEnding_109 (nI 35) (by decide) ?_
  refine gx_cV1 lk_Box_38 d_Box_addEnding_111 (ct_Word_add hB.uw (by omega) (by simp)) (Or.inr ⟨_, _, hB.uw⟩) (by omega) rfl rfl (Nat.le_of_ble_eq_true rfl) ?_
  replace hB := hB.up ((([] ++ [104]) ++ [35]) ++ [35])
  replace hK := hK.trans (gx_kp.st (a := x + 4 + 5 * ds.length) (x := gx_bx 0 3 ((([] ++ [104]) ++ [35]) ++ [35])) (by omega) (by omega))
  refine gx_pop d_Box_addEnding_114 rfl ?_
  refine gx_aload_n d_Box_addEnding_115 rfl ?_
  refine gx_get fl_Box_44 d_Box_addEnding_116 hB.ob rfl ?_
  refine gx_bipush d_Box_addEnding_119 (nI 35) (by decide) ?_
  refine gx_cV1 lk_Box_38 d_Box_addEnding_121 (ct_Word_add hB.lw (by omega) (by simp)) (Or.inr ⟨_, _, hB.lw⟩) (by omega) rfl rfl (Nat.le_of_ble_eq_true rfl) ?_
  replace hB := hB.lo ([] ++ [35])
  replace hK := hK.trans (gx_kp.st (a := x + 6 + 5 * ds.length) (x := gx_bx 0 7 ([] ++ [35])) (by omega) (by omega))
  refine gx_pop d_Box_addEnding_124 rfl ?_
  refine gx_return rfl d_Box_addEnding_125 ?_
  exact hQ _ (hB.ok hd) hK
theorem ct_addEnding {w : gx_W} {x : Nat} {ds : List (List Nat × List Nat)} {fo : Nat → Nat} (hb : bxOk w x ds fo) (hn : ds.length + 7 ≤ 60) : gx_Ct M_Box_addEnding 3 0 0 [.ref x] w (fun v w' => v = none ∧ bxOk w' x (ds ++ sp_en) fo ∧ gx_kp w w' x (x + 303)) := by
  refine gx_ct (L := [some (.ref x), none, none, none]) (by decide) (Nat.le_of_ble_eq_true rfl) rfl ?_
  refine gx_iconst d_Box_addEnding_0 (nI 4) (by decide) ?_
  refine gx_cS1 lk_Box_98 d_Box_addEnding_1 (ct_letter (q := 4) (by omega)) (by omega) rfl rfl (Nat.le_of_ble_eq_true rfl) ?_
  refine gx_top (show _ = nI 104 from rfl) ?_
  refine gx_istore_n d_Box_addEnding_4 (Nat.le_of_ble_eq_true rfl) rfl ?_
  refine gx_iconst d_Box_addEnding_5 (nI 0) (by decide) ?_
  refine gx_istore_n d_Box_addEnding_6 (Nat.le_of_ble_eq_true rfl) rfl ?_
  refine lp_end1 4 0 ds w none (by omega) hb (by omega) (by omega) (fun w1 L1 hb1 k1 => ?_)
  refine gx_iconst d_Box_addEnding_48 (nI 0) (by decide) ?_
  refine gx_istore_n d_Box_addEnding_49 (Nat.le_of_ble_eq_true rfl) rfl ?_
  refine lp_end2 4 0 _ w1 L1 (by omega) hb1 (by omega) (by simp; omega) (fun w2 L2 hb2 k2 => ?_)
  refine end3 hb2 (by simp; omega) (fun w3 hb3 k3 => ⟨rfl, ?_, (k1.trans k2).trans k3⟩)
  simpa [sp_en] using hb3
theorem d_Box_fill_0 : decode prog_2_method_5_code 0 = .ok (.aload_n 0, 1) := by decide +kernel
theorem d_Box_fill_1 : decode prog_2_method_5_code 1 = .ok (.iconst 0, 1) := by decide +kernel
theorem d_Box_fill_2 : decode prog_2_method_5_code 2 = .ok (.putfield 22, 3) := by decide +kernel
theorem d_Box_fill_5 : decode prog_2_method_5_code 5 = .ok (.aload_n 0, 1) := by decide +kernel
theorem d_Box_fill_6 : decode prog_2_method_5_code 6 = .ok (.invokevirtual 30, 3) := by decide +kernel
theorem d_Box_fill_9 : decode prog_2_method_5_code 9 = .ok (.astore_n 2, 1) := by decide +kernel
theorem d_Box_fill_10 : decode prog_2_method_5_code 10 = .ok (.aload_n 2, 1) := by decide +kernel
theorem d_Box_fill_11 : decode prog_2_method_5_code 11 = .ok (.getfield 34, 3) := by decide +kernel
theorem d_Box_fill_14 : decode prog_2_method_5_code 14 = .ok (.bipush 35, 2) := by decide +kernel
theorem d_Box_fill_16 : decode prog_2_method_5_code 16 = .ok (.invokevirtual 38, 3) := by decide +kernel
theorem d_Box_fill_19 : decode prog_2_method_5_code 19 = .ok (.pop, 1) := by decide +kernel
theorem d_Box_fill_20 : decode prog_2_method_5_code 20 = .ok (.aload_n 2, 1) := by decide +kernel
theorem d_Box_fill_21 : decode prog_2_method_5_code 21 = .ok (.getfield 44, 3) := by decide +kernel
theorem d_Box_fill_24 : decode prog_2_method_5_code 24 = .ok (.bipush 35, 2) := by decide +kernel
theorem d_Box_fill_26 : decode prog_2_method_5_code 26 = .ok (.invokevirtual 38, 3) := by decide +kernel
theorem d_Box_fill_29 : decode prog_2_method_5_code 29 = .ok (.aload_n 1, 1) := by decide +kernel
theorem d_Box_fill_30 : decode prog_2_method_5_code 30 = .ok (.getfield 47, 3) := by decide +kernel
theorem d_Box_fill_33 : decode prog_2_method_5_code 33 = .ok (.iconst 0, 1) := by decide +kernel
theorem d_Box_fill_34 : decode prog_2_method_5_code 34 = .ok (.aload_n 1, 1) := by decide +kernel
theorem d_Box_fill_35 : decode prog_2_method_5_code 35 = .ok (.getfield 47, 3) := by decide +kernel
theorem d_Box_fill_38 : decode prog_2_method_5_code 38 = .ok (.invokevirtual 52, 3) := by decide +kernel
theorem d_Box_fill_41 : decode prog_2_method_5_code 41 = .ok (.invokevirtual 56, 3) := by decide +kernel
theorem d_Box_fill_44 : decode prog_2_method_5_code 44 = .ok (.aload_n 2, 1) := by decide +kernel
theorem d_Box_fill_45 : decode prog_2_method_5_code 45 = .ok (.getfield 44, 3) := by decide +kernel
theorem d_Box_fill_48 : decode prog_2_method_5_code 48 = .ok (.bipush 35, 2) := by decide +kernel
theorem d_Box_fill_50 : decode prog_2_method_5_code 50 = .ok (.invokevirtual 38, 3) := by decide +kernel
theorem d_Box_fill_53 : decode prog_2_method_5_code 53 = .ok (.pop, 1) := by decide +kernel
theorem d_Box_fill_54 : decode prog_2_method_5_code 54 = .ok (.aload_n 0, 1) := by decide +kernel
theorem d_Box_fill_55 : decode prog_2_method_5_code 55 = .ok (.bipush 35, 2) := by decide +kernel
theorem d_Box_fill_57 : decode prog_2_method_5_code 57 = .ok (.invokevirtual 60, 3) := by decide +kernel
theorem d_Box_fill_60 : decode prog_2_method_5_code 60 = .ok (.iconst 0, 1) := by decide +kernel
theorem d_Box_fill_61 : decode prog_2_method_5_code 61 = .ok (.istore_n 3, 1) := by decide +kernel
theorem d_Box_fill_62 : decode prog_2_method_5_code 62 = .ok (.iload_n 3, 1) := by decide +kernel
theorem d_Box_fill_63 : decode prog_2_method_5_code 63 = .ok (.iconst 3, 1) := by decide +kernel
theorem d_Box_fill_64 : decode prog_2_method_5_code 64 = .ok (.if_icmp .ge 17, 3) := by decide +kernel
theorem d_Box_fill_67 : decode prog_2_method_5_code 67 = .ok (.aload_n 0, 1) := by decide +kernel
theorem d_Box_fill_68 : decode prog_2_method_5_code 68 = .ok (.iload_n 3, 1) := by decide +kernel
theorem d_Box_fill_69 : decode prog_2_method_5_code 69 = .ok (.invokestatic 64, 3) := by decide +kernel
theorem d_Box_fill_72 : decode prog_2_method_5_code 72 = .ok (.invokevirtual 60, 3) := by decide +kernel
theorem d_Box_fill_75 : decode prog_2_method_5_code 75 = .ok (.iinc 3 1, 3) := by decide +kernel
theorem d_Box_fill_78 : decode prog_2_method_5_code 78 = .ok (.goto (-16), 3) := by decide +kernel
theorem d_Box_fill_81 : decode prog_2_method_5_code 81 = .ok (.iconst 0, 1) := by decide +kernel
theorem d_Box_fill_82 : decode prog_2_method_5_code 82 = .ok (.istore_n 3, 1) := by decide +kernel
theorem d_Box_fill_83 : decode prog_2_method_5_code 83 = .ok (.iload_n 3, 1) := by decide +kernel
theorem d_Box_fill_84 : decode prog_2_method_5_code 84 = .ok (.bipush 12, 2) := by decide +kernel
theorem d_Box_fill_86 : decode prog_2_method_5_code 86 = .ok (.if_icmp .ge 45, 3) := by decide +kernel
theorem d_Box_fill_89 : decode prog_2_method_5_code 89 = .ok (.aload_n 0, 1) := by decide +kernel
theorem d_Box_fill_90 : decode prog_2_method_5_code 90 = .ok (.getfield 17, 3) := by decide +kernel
theorem d_Box_fill_93 : decode prog_2_method_5_code 93 = .ok (.iload_n 3, 1) := by decide +kernel
theorem d_Box_fill_94 : decode prog_2_method_5_code 94 = .ok (.aload_n 0, 1) := by decide +kernel
theorem d_Box_fill_95 : decode prog_2_method_5_code 95 = .ok (.getfield 22, 3) := by decide +kernel
theorem d_Box_fill_98 : decode prog_2_method_5_code 98 = .ok (.iastore, 1) := by decide +kernel
theorem d_Box_fill_99 : decode prog_2_method_5_code 99 = .ok (.aload_n 0, 1) := by decide +kernel
theorem d_Box_fill_100 : decode prog_2_method_5_code 100 = .ok (.aload_n 1, 1) := by decide +kernel
theorem d_Box_fill_101 : decode prog_2_method_5_code 101 = .ok (.iload_n 3, 1) := by decide +kernel
theorem d_Box_fill_102 : decode prog_2_method_5_code 102 = .ok (.iload_n 3, 1) := by decide +kernel
theorem d_Box_fill_103 : decode prog_2_method_5_code 103 = .ok (.iconst 3, 1) := by decide +kernel
theorem d_Box_fill_104 : decode prog_2_method_5_code 104 = .ok (.irem, 1) := by decide +kernel
theorem d_Box_fill_105 : decode prog_2_method_5_code 105 = .ok (.invokestatic 64, 3) := by decide +kernel
theorem d_Box_fill_108 : decode prog_2_method_5_code 108 = .ok (.invokevirtual 68, 3) := by decide +kernel
theorem d_Box_fill_111 : decode prog_2_method_5_code 111 = .ok (.iload_n 3, 1) := by decide +kernel
theorem d_Box_fill_112 : decode prog_2_method_5_code 112 = .ok (.iconst 3, 1) := by decide +kernel
theorem d_Box_fill_113 : decode prog_2_method_5_code 113 = .ok (.irem, 1) := by decide +kernel
theorem d_Box_fill_114 : decode prog_2_method_5_code 114 = .ok (.ifCond .ne 11, 3) := by decide +kernel
theorem d_Box_fill_117 : decode prog_2_method_5_code 117 = .ok (.aload_n 0, 1) := by decide +kernel
theorem d_Box_fill_118 : decode prog_2_method_5_code 118 = .ok (.aload_n 1, 1) := by decide +kernel
theorem d_Box_fill_119 : decode prog_2_method_5_code 119 = .ok (.iload_n 3, 1) := by decide +kernel
theorem d_Box_fill_120 : decode prog_2_method_5_code 120 = .ok (.bipush 35, 2) := by decide +kernel
theorem d_Box_fill_122 : decode prog_2_method_5_code 122 = .ok (.invokevirtual 68, 3) := by decide +kernel
theorem d_Box_fill_125 : decode prog_2_method_5_code 125 = .ok (.iinc 3 1, 3) := by decide +kernel
theorem d_Box_fill_128 : decode prog_2_method_5_code 128 = .ok (.goto (-45), 3) := by decide +kernel
theorem d_Box_fill_131 : decode prog_2_method_5_code 131 = .ok (.aload_n 0, 1) := by decide +kernel
theorem d_Box_fill_132 : decode prog_2_method_5_code 132 = .ok (.invokevirtual 72, 3) := by decide +kernel
theorem d_Box_fill_135 : decode prog_2_method_5_code 135 = .ok (.return_, 1) := by decide +kernel
theorem lp_fill1 {Q : gx_P} {x a : Nat} {fo : Nat → Nat} {z : Nat} : ∀ (fu : Nat) (s : Nat) (ds : List (List Nat × List Nat)) (w : gx_W), 3 - s < fu → (bxOk w x ds fo) → (s ≤ 3) → (ds.length + (3 - s) ≤ 60) → (∀ w', bxOk w' x (ds ++ ([0, 1, 2].drop s).map (fun s => ([48 + s], [48 + s]))) fo → gx_kp w w' x (x + 303) → gx_X (fun _ _ => True) M_Box_fill 5 Q 81 [some (.ref x), some (.ref a), some (.ref z), some (.int (nI 3))] [] w' (0, 0)) → gx_X (fun _ _ => True) M_Box_fill 5 Q 62 [some (.ref x), some (.ref a), some (.ref z), some (.int (nI s))] [] w (0, 0) := by
  intro fu
  induction fu with
  | zero => intro s ds w hfu; exact absurd hfu (Nat.not_lt_zero _)
  | succ fu ih =>
    intro s ds w hfu hb hs hn hX
    refine gx_iload_n d_Box_fill_62 rfl ?_
    refine gx_iconst d_Box_fill_63 (nI 3) (by decide) ?_
    refine gx_icmp_geN (by omega) (by omega) (tgt := 81) d_Box_fill_64 (by decide) (fun h64 => ?_) (fun h64 => ?_)
    · have e : s = 3 := by omega
      subst e
      exact hX w (by simpa using hb) gx_kp.rf
    · refine gx_aload_n d_Box_fill_67 rfl ?_
      refine gx_iload_n d_Box_fill_68 rfl ?_
      refine gx_cS1 lk_Box_64 d_Box_fill_69 (ct_digit (by omega)) (by omega) rfl rfl (Nat.le_of_ble_eq_true rfl) ?_
      refine gx_cVr lk_Box_60 d_Box_fill_72 (ct_addCopy (c := 48 + s) hb (by omega) (by omega)) hb.rc (by omega) rfl rfl (Nat.le_of_ble_eq_true rfl) (fun r2 w2 hq => ?_)
      obtain ⟨rfl, hb, hK2⟩ := hq
      refine gx_iincN (n := 1) d_Box_fill_75 rfl (by decide) (Nat.le_of_ble_eq_true rfl) rfl ?_
      refine gx_goto (tgt := 62) d_Box_fill_78 (by decide) ?_
      refine ih (s + 1) _ _ (by omega) hb (by omega) (by simp; omega) (fun w' h1 h2 => hX w' ?_ (hK2.trans h2))
      rw [sp_d3 s (by omega), List.map_cons]
      rwa [List.append_assoc, List.singleton_append] at h1
theorem sp_rd_ar (M : sp_M) (r : Nat) : sp_rd M r = sp_ar M r (48 + r % 3) ++ (if r % 3 = 0 then sp_ar M r 35 else []) := by
  unfold sp_rd sp_ar
  have h1 : ¬ 48 + r % 3 = 35 := by omega
  by_cases e : sp_kn M r = 1
  · rw [if_pos e, if_pos e, if_pos e, if_neg h1, if_pos rfl]
  · rw [if_neg e, if_neg e, if_neg e]; simp
theorem sp_rs_succ (M : sp_M) (r : Nat) : sp_rs M (r + 1) = sp_rs M r ++ sp_rd M r := by
  unfold sp_rs
  rw [List.range_succ, List.flatMap_append]
  simp
theorem sp_rd_len (M : sp_M) (r : Nat) : (sp_rd M r).length ≤ 3 + (if r % 3 = 0 then 3 else 0) := by
  rw [sp_rd_ar, List.length_append]
  have h1 := sp_ar_len M r (48 + r % 3)
  have h2 := sp_ar_len M r 35
  by_cases e : r % 3 = 0
  · rw [if_pos e, if_pos e]; omega
  · rw [if_neg e, if_neg e]; simp; omega
theorem sp_rs_len (M : sp_M) : ∀ r, (sp_rs M r).length ≤ 3 * r + 3 * ((r + 2) / 3)
  | 0 => by simp [sp_rs]
  | r + 1 => by
    have h1 := sp_rs_len M r
    have h2 := sp_rd_len M r
    rw [sp_rs_succ, List.length_append]
    by_cases e : r % 3 = 0
    · rw [if_pos e] at h2; omega
    · rw [if_neg e] at h2; omega
theorem bxOk.fst {w : gx_W} {x k v : Nat} {ds : List (List Nat × List Nat)} {fo : Nat → Nat} (h : bxOk w x ds fo) : bxOk (gx_st w (x + 2) (gx_ai 0 12 (fun r => nI (gx_u fo k v r)))) x ds (gx_u fo k v) := by
  obtain ⟨h0, U, V, h1, h2⟩ := h
  exact ⟨h0, U, V, h1.fst, h2⟩
theorem bxOk.at {w : gx_W} {x : Nat} {ds : List (List Nat × List Nat)} {fo : Nat → Nat} (h : bxOk w x ds fo) : w.1 x = some (gx_ob 5 [.ref (x + 1), .ref (x + 2), .int (nI ds.length)]) ∧ w.1 (x + 2) = some (gx_ai 0 12 (fun r => nI (fo r))) := by
  obtain ⟨h0, U, V, h1, h2⟩ := h
  exact ⟨h1.1, h1.2.2.1⟩
theorem lp_fill2 {Q : gx_P} {x a : Nat} {M : sp_M} {t : List Nat} {H : List (List Nat × List Nat)} {z : Nat} (hM : sp_Mok M) (hxa : a + 7 ≤ x) (hH : H.length = 5) : ∀ (fu : Nat) (r : Nat) (fo : Nat → Nat) (w : gx_W), 12 - r < fu → (mcAt w a M t) → (bxOk w x (H ++ sp_rs M r) fo) → (r ≤ 12) → (∀ i, i < r → fo i = sp_fo M i) → (∀ w' fo', bxOk w' x (H ++ sp_rs M 12) fo' → (∀ i, i < 12 → fo' i = sp_fo M i) → gx_kp w w' x (x + 303) → gx_X (fun _ _ => True) M_Box_fill 5 Q 131 [some (.ref x), some (.ref a), some (.ref z), some (.int (nI 12))] [] w' (0, 0)) → gx_X (fun _ _ => True) M_Box_fill 5 Q 83 [some (.ref x), some (.ref a), some (.ref z), some (.int (nI r))] [] w (0, 0) := by
  intro fu
  induction fu with
  | zero => intro r fo w hfu; exact absurd hfu (Nat.not_lt_zero _)
  | succ fu ih =>
    intro r fo w hfu hm hb hr hfo hX
    refine gx_iload_n d_Box_fill_83 rfl ?_
    refine gx_bipush d_Box_fill_84 (nI 12) (by decide) ?_
    refine gx_icmp_geN (by omega) (by omega) (tgt := 131) d_Box_fill_86 (by decide) (fun h86 => ?_) (fun h86 => ?_)
    · have e : r = 12 := by omega
      subst e
      exact hX w fo hb hfo gx_kp.rf
    · refine gx_aload_n d_Box_fill_89 rfl ?_
      have hB := hb.at
      have hlen := sp_rs_len M r
      refine gx_get fl_Box_17 d_Box_fill_90 hB.1 rfl ?_
      refine gx_iload_n d_Box_fill_93 rfl ?_
      refine gx_aload_n d_Box_fill_94 rfl ?_
      refine gx_get fl_Box_22 d_Box_fill_95 hB.1 rfl ?_
      refine gx_iast d_Box_fill_98 hB.2 (by omega) (by omega) ?_
      rw [gx_u_upd]
      have hb1 := bxOk.fst (k := r) (v := (H ++ sp_rs M r).length) hb
      have k1 : gx_kp w (gx_st w (x + 2) (gx_ai 0 12 (fun q => nI (gx_u fo r (H ++ sp_rs M r).length q)))) x (x + 303) := gx_kp.st (by omega) (by omega)
      have hm1 := hm.kept k1 (by omega)
      have hle : (H ++ sp_rs M r).length = 5 + (sp_rs M r).length := by rw [List.length_append, hH]
      refine gx_aload_n d_Box_fill_99 rfl ?_
      refine gx_aload_n d_Box_fill_100 rfl ?_
      refine gx_iload_n d_Box_fill_101 rfl ?_
      refine gx_iload_n d_Box_fill_102 rfl ?_
      refine gx_iconst d_Box_fill_103 (nI 3) (by decide) ?_
      refine gx_iremN (by omega) (by omega) (by omega) d_Box_fill_104 ?_
      refine gx_cS1 lk_Box_64 d_Box_fill_105 (ct_digit (s := r % 3) (by omega)) (by omega) rfl rfl (Nat.le_of_ble_eq_true rfl) ?_
      refine gx_cVr lk_Box_68 d_Box_fill_108 (ct_addRule (beh := 48 + r % 3) hm1 hM hxa (by omega) (by omega) hb1 (by omega)) hb1.rc (by omega) rfl rfl (Nat.le_of_ble_eq_true rfl) (fun r2 w2 hq => ?_)
      obtain ⟨rfl, hb2, k2⟩ := hq
      have hm2 := hm1.kept k2 (by omega)
      have hl2 := sp_ar_len M r (48 + r % 3)
      have hle2 : (H ++ sp_rs M r ++ sp_ar M r (48 + r % 3)).length ≤ 57 := by rw [List.length_append]; omega
      refine gx_iload_n d_Box_fill_111 rfl ?_
      refine gx_iconst d_Box_fill_112 (nI 3) (by decide) ?_
      refine gx_iremN (by omega) (by omega) (by omega) d_Box_fill_113 ?_
      refine gx_if_neN (by omega) (tgt := 125) d_Box_fill_114 (by decide) (fun h114 => ?_) (fun h114 => ?_)
      · refine gx_iincN (n := 1) d_Box_fill_125 rfl (by decide) (Nat.le_of_ble_eq_true rfl) rfl ?_
        refine gx_goto (tgt := 83) d_Box_fill_128 (by decide) ?_
        refine ih (r + 1) (gx_u fo r (H ++ sp_rs M r).length) _ (by omega) (hm2) ?_ (by omega) (fun i hi => ?_) (fun w' fo' h1 h2 h3 => hX w' fo' h1 h2 ((k1.trans k2).trans h3))
        · rw [sp_rs_succ, sp_rd_ar, if_neg h114, List.append_nil]
          simpa [List.append_assoc] using hb2
        · by_cases e : i = r
          · subst e
            rw [gx_u_eq, hle]; rfl
          · rw [gx_u_ne e]; exact hfo i (by omega)
      · refine gx_aload_n d_Box_fill_117 rfl ?_
        refine gx_aload_n d_Box_fill_118 rfl ?_
        refine gx_iload_n d_Box_fill_119 rfl ?_
        refine gx_bipush d_Box_fill_120 (nI 35) (by decide) ?_
        refine gx_cVr lk_Box_68 d_Box_fill_122 (ct_addRule (beh := 35) hm2 hM hxa (by omega) (by omega) hb2 (by omega)) hb2.rc (by omega) rfl rfl (Nat.le_of_ble_eq_true rfl) (fun r2 w3 hq => ?_)
        obtain ⟨rfl, hb3, k3⟩ := hq
        refine gx_iincN (n := 1) d_Box_fill_125 rfl (by decide) (Nat.le_of_ble_eq_true rfl) rfl ?_
        refine gx_goto (tgt := 83) d_Box_fill_128 (by decide) ?_
        refine ih (r + 1) (gx_u fo r (H ++ sp_rs M r).length) _ (by omega) (hm2.kept k3 (by omega)) ?_ (by omega) (fun i hi => ?_) (fun w' fo' h1 h2 h3 => hX w' fo' h1 h2 (((k1.trans k2).trans k3).trans h3))
        · rw [sp_rs_succ, sp_rd_ar, if_pos h114]
          simpa [List.append_assoc] using hb3
        · by_cases e : i = r
          · subst e
            rw [gx_u_eq, hle]; rfl
          · rw [gx_u_ne e]; exact hfo i (by omega)
theorem ct_fill {w : gx_W} {x a m : Nat} {M : sp_M} {t : List Nat} {U V : Nat → List Nat} {fo : Nat → Nat} (hm : mcAt w a M t) (hM : sp_Mok M) (hxa : a + 7 ≤ x) (h : bxAt w x m U V fo) (ht : t.length ≤ 5) : gx_Ct M_Box_fill 5 0 0 [.ref x, .ref a] w (fun v w' => v = none ∧ ∃ fo', bxOk w' x (sp_dom M t) fo' ∧ (∀ i, i < 12 → fo' i = sp_fo M i) ∧ gx_kp w w' x (x + 303)) := by
  refine gx_ct (L := [some (.ref x), some (.ref a), none, none]) (by decide) (Nat.le_of_ble_eq_true rfl) rfl ?_
  refine gx_aload_n d_Box_fill_0 rfl ?_
  refine gx_iconst d_Box_fill_1 (nI 0) (by decide) ?_
  refine gx_put fp_Box_22 (fun h => by cases h) d_Box_fill_2 h.1 rfl rfl (Nat.le_of_ble_eq_true rfl) ?_
  have h1 := bxAt.num (k := 0) h
  have k1 : gx_kp w (gx_st w x (gx_ob 5 [.ref (x + 1), .ref (x + 2), .int (nI 0)])) x (x + 303) := gx_kp.st (by omega) (by omega)
  refine gx_w (w' := gx_st w x (gx_ob 5 [.ref (x + 1), .ref (x + 2), .int (nI 0)])) rfl ?_
  have hm1 := hm.kept k1 (by omega)
  refine gx_aload_n d_Box_fill_5 rfl ?_
  refine gx_cVr lk_Box_30 d_Box_fill_6 (ct_open h1 (by omega)) (Or.inl ⟨_, h1.1⟩) (by omega) rfl rfl (Nat.le_of_ble_eq_true rfl) (fun r w1 hq => ?_)
  obtain ⟨rfl, hB, hK⟩ := hq
  refine gx_astore_n d_Box_fill_9 (Nat.le_of_ble_eq_true rfl) rfl ?_
  refine gx_aload_n d_Box_fill_10 rfl ?_
  refine gx_get fl_Box_34 d_Box_fill_11 hB.ob rfl ?_
  refine gx_bipush d_Box_fill_14 (nI 35) (by decide) ?_
  refine gx_cV1 lk_Box_38 d_Box_fill_16 (ct_Word_add hB.uw (by omega) (by simp)) (Or.inr ⟨_, _, hB.uw⟩) (by omega) rfl rfl (Nat.le_of_ble_eq_true rfl) ?_
  replace hB := hB.up ([] ++ [35])
  replace hK := hK.trans (gx_kp.st (a := x + 4 + 5 * 0) (x := gx_bx 0 3 ([] ++ [35])) (by omega) (by omega))
  refine gx_pop d_Box_fill_19 rfl ?_
  refine gx_aload_n d_Box_fill_20 rfl ?_
  refine gx_get fl_Box_44 d_Box_fill_21 hB.ob rfl ?_
  refine gx_bipush d_Box_fill_24 (nI 35) (by decide) ?_
  refine gx_cV1 lk_Box_38 d_Box_fill_26 (ct_Word_add hB.lw (by omega) (by simp)) (Or.inr ⟨_, _, hB.lw⟩) (by omega) rfl rfl (Nat.le_of_ble_eq_true rfl) ?_
  replace hB := hB.lo ([] ++ [35])
  replace hK := hK.trans (gx_kp.st (a := x + 6 + 5 * 0) (x := gx_bx 0 7 ([] ++ [35])) (by omega) (by omega))
  refine gx_aload_n d_Box_fill_29 rfl ?_
  have hmk := hm1.kept hK (by omega)
  refine gx_get fl_Box_47 d_Box_fill_30 hmk.1 rfl ?_
  refine gx_iconst d_Box_fill_33 (nI 0) (by decide) ?_
  refine gx_aload_n d_Box_fill_34 rfl ?_
  refine gx_get fl_Box_47 d_Box_fill_35 hmk.1 rfl ?_
  refine gx_cV1 lk_Box_52 d_Box_fill_38 (ct_Word_size hmk.2.2.2.2.2) (Or.inr ⟨_, _, hmk.2.2.2.2.2⟩) (by omega) rfl rfl (Nat.le_of_ble_eq_true rfl) ?_
  refine gx_cV0 lk_Box_56 d_Box_fill_41 (ct_Word_addPart (a := 0) (b := t.length) hB.lw hmk.2.2.2.2.2 (by omega) (by omega) (Nat.le_refl _) (by simp; omega)) (Or.inr ⟨_, _, hB.lw⟩) (by omega) rfl rfl (Nat.le_of_ble_eq_true rfl) ?_
  rw [List.take_of_length_le (Nat.le_refl _), List.drop_zero]
  replace hB := hB.lo ([] ++ [35] ++ t)
  replace hK := hK.trans (gx_kp.st (a := x + 6 + 5 * 0) (x := gx_bx 0 7 ([] ++ [35] ++ t)) (by omega) (by omega))
  refine gx_aload_n d_Box_fill_44 rfl ?_
  refine gx_get fl_Box_44 d_Box_fill_45 hB.ob rfl ?_
  refine gx_bipush d_Box_fill_48 (nI 35) (by decide) ?_
  refine gx_cV1 lk_Box_38 d_Box_fill_50 (ct_Word_add hB.lw (by omega) (by simp; omega)) (Or.inr ⟨_, _, hB.lw⟩) (by omega) rfl rfl (Nat.le_of_ble_eq_true rfl) ?_
  replace hB := hB.lo (([] ++ [35] ++ t) ++ [35])
  replace hK := hK.trans (gx_kp.st (a := x + 6 + 5 * 0) (x := gx_bx 0 7 (([] ++ [35] ++ t) ++ [35])) (by omega) (by omega))
  have hb0 : bxOk _ x ([] ++ [([35], [35] ++ t ++ [35])]) fo := bxDm.ok (ds := []) hB (fun i hi => absurd hi (Nat.not_lt_zero i))
  generalize hwg : gx_st _ (x + 6 + 5 * 0) (gx_bx 0 7 ([] ++ [35] ++ t ++ [35])) = wg at hb0 hK ⊢
  refine gx_pop d_Box_fill_53 rfl ?_
  refine gx_aload_n d_Box_fill_54 rfl ?_
  refine gx_bipush d_Box_fill_55 (nI 35) (by decide) ?_
  refine gx_cVr lk_Box_60 d_Box_fill_57 (ct_addCopy (c := 35) hb0 (by omega) (by simp)) hb0.rc (by omega) rfl rfl (Nat.le_of_ble_eq_true rfl) (fun r2 w2 hq => ?_)
  obtain ⟨rfl, hb1, k2⟩ := hq
  refine gx_iconst d_Box_fill_60 (nI 0) (by decide) ?_
  refine gx_istore_n d_Box_fill_61 (Nat.le_of_ble_eq_true rfl) rfl ?_
  have kk := (k1.trans hK).trans k2
  have hX2 : ∀ w' fo', bxOk w' x (sp_hd t ++ sp_rs M 12) fo' → (∀ i, i < 12 → fo' i = sp_fo M i) → gx_kp w w' x (x + 303) → gx_X (fun _ _ => True) M_Box_fill 5 (gx_nt (fun v w' => v = none ∧ ∃ fo', bxOk w' x (sp_dom M t) fo' ∧ (∀ i, i < 12 → fo' i = sp_fo M i) ∧ gx_kp w w' x (x + 303))) 131 [some (.ref x), some (.ref a), some (.ref (x + 3 + 5 * 0)), some (.int (nI 12))] [] w' (0, 0) := by
    intro w' fo' hb' hfo' hk'
    have hlen := sp_rs_len M 12
    refine gx_aload_n d_Box_fill_131 rfl ?_
    refine gx_cVr lk_Box_72 d_Box_fill_132 (ct_addEnding hb' (by rw [List.length_append]; have : (sp_hd t).length = 5 := rfl; omega)) hb'.rc (by omega) rfl rfl (Nat.le_of_ble_eq_true rfl) (fun r2 w5 hq => ?_)
    obtain ⟨rfl, hb5, k5⟩ := hq
    refine gx_return rfl d_Box_fill_135 ?_
    exact ⟨rfl, fo', hb5, hfo', hk'.trans k5⟩
  refine lp_fill1 4 0 _ _ (by omega) hb1 (by omega) (by simp) (fun w3 hb3 k3 => ?_)
  refine gx_iconst d_Box_fill_81 (nI 0) (by decide) ?_
  refine gx_istore_n d_Box_fill_82 (Nat.le_of_ble_eq_true rfl) rfl ?_
  refine lp_fill2 (H := sp_hd t) hM hxa rfl 13 0 fo w3 (by omega) (hm.kept (kk.trans k3) (by omega)) ?_ (by omega) (fun i hi => absurd hi (Nat.not_lt_zero i)) (fun w4 fo4 hb4 hfo4 k4 => hX2 w4 fo4 hb4 hfo4 ((kk.trans k3).trans k4))
  simpa [sp_hd, sp_rs] using hb3
end
section
/-! Way: its methods -/
/-- the way's object at y, its row at y + 1, what is left of the text at y + 3 -/
def wyAt (w : gx_W) (y : Nat) (p t : List Nat) : Prop := w.1 y = some (gx_ob 6 [.ref (y + 1), .ref (y + 3)]) ∧ w.1 (y + 1) = some (gx_bx 1 222 p) ∧ w.1 (y + 3) = some (gx_bx 0 10 t)
theorem wyAt.kept {w w' : gx_W} {y lo hi : Nat} {p t : List Nat} (h : wyAt w y p t) (hk : gx_kp w w' lo hi) (hd : y + 5 ≤ lo ∨ hi ≤ y) : wyAt w' y p t := by
  obtain ⟨h0, h1, h2⟩ := h
  exact ⟨by rw [hk.2 _ (by omega)]; exact h0, by rw [hk.2 _ (by omega)]; exact h1, by rw [hk.2 _ (by omega)]; exact h2⟩
theorem wyAt.row {w : gx_W} {y : Nat} {p t : List Nat} (h : wyAt w y p t) (p' : List Nat) : wyAt (gx_st w (y + 1) (gx_bx 1 222 p')) y p' t := by
  obtain ⟨h0, h1, h2⟩ := h
  exact ⟨by rw [gx_st_ne (by omega)]; exact h0, gx_st_eq, by rw [gx_st_ne (by omega)]; exact h2⟩
theorem wyAt.rest {w : gx_W} {y : Nat} {p t : List Nat} (h : wyAt w y p t) (t' : List Nat) : wyAt (gx_st w (y + 3) (gx_bx 0 10 t')) y p t' := by
  obtain ⟨h0, h1, h2⟩ := h
  exact ⟨by rw [gx_st_ne (by omega)]; exact h0, by rw [gx_st_ne (by omega)]; exact h1, gx_st_eq⟩
def sp_sy (l : List Nat) : List Nat := l.map (fun c => c - 46)
theorem sp_sy_ds (l : List Nat) : sp_sy (sp_ds l) = sp_cp l := by
  unfold sp_sy sp_ds sp_cp
  rw [List.map_map]
  apply List.map_congr_left
  intro a _
  show 48 + a - 46 = 2 + a
  omega
theorem d_Way_row_0 : decode prog_8_method_2_code 0 = .ok (.aload_n 0, 1) := by decide +kernel
theorem d_Way_row_1 : decode prog_8_method_2_code 1 = .ok (.getfield 14, 3) := by decide +kernel
theorem d_Way_row_4 : decode prog_8_method_2_code 4 = .ok (.areturn, 1) := by decide +kernel
theorem ct_Way_row {w : gx_W} {y : Nat} {p t : List Nat} (h : wyAt w y p t) : gx_Ct M_Way_row 1 0 0 [.ref y] w (gx_eq (some (.ref (y + 1))) w) := by
  refine gx_ct (L := [some (.ref y)]) (by decide) (Nat.le_of_ble_eq_true rfl) rfl ?_
  refine gx_aload_n d_Way_row_0 rfl ?_
  refine gx_get fl_Way_14 d_Way_row_1 h.1 rfl ?_
  refine gx_areturn rfl (Or.inl ⟨_, rfl⟩) (Or.inr ⟨_, rfl⟩) d_Way_row_4 ?_
  exact ⟨rfl, rfl⟩
theorem d_Way_copySymbols_0 : decode prog_8_method_7_code 0 = .ok (.iload_n 2, 1) := by decide +kernel
theorem d_Way_copySymbols_1 : decode prog_8_method_7_code 1 = .ok (.istore 4, 2) := by decide +kernel
theorem d_Way_copySymbols_3 : decode prog_8_method_7_code 3 = .ok (.iload 4, 2) := by decide +kernel
theorem d_Way_copySymbols_5 : decode prog_8_method_7_code 5 = .ok (.iload_n 3, 1) := by decide +kernel
theorem d_Way_copySymbols_6 : decode prog_8_method_7_code 6 = .ok (.if_icmp .ge 27, 3) := by decide +kernel
theorem d_Way_copySymbols_9 : decode prog_8_method_7_code 9 = .ok (.aload_n 0, 1) := by decide +kernel
theorem d_Way_copySymbols_10 : decode prog_8_method_7_code 10 = .ok (.getfield 14, 3) := by decide +kernel
theorem d_Way_copySymbols_13 : decode prog_8_method_7_code 13 = .ok (.iconst 2, 1) := by decide +kernel
theorem d_Way_copySymbols_14 : decode prog_8_method_7_code 14 = .ok (.aload_n 1, 1) := by decide +kernel
theorem d_Way_copySymbols_15 : decode prog_8_method_7_code 15 = .ok (.iload 4, 2) := by decide +kernel
theorem d_Way_copySymbols_17 : decode prog_8_method_7_code 17 = .ok (.invokevirtual 78, 3) := by decide +kernel
theorem d_Way_copySymbols_20 : decode prog_8_method_7_code 20 = .ok (.invokestatic 82, 3) := by decide +kernel
theorem d_Way_copySymbols_23 : decode prog_8_method_7_code 23 = .ok (.iadd, 1) := by decide +kernel
theorem d_Way_copySymbols_24 : decode prog_8_method_7_code 24 = .ok (.invokevirtual 36, 3) := by decide +kernel
theorem d_Way_copySymbols_27 : decode prog_8_method_7_code 27 = .ok (.iinc 4 1, 3) := by decide +kernel
theorem d_Way_copySymbols_30 : decode prog_8_method_7_code 30 = .ok (.goto (-27), 3) := by decide +kernel
theorem d_Way_copySymbols_33 : decode prog_8_method_7_code 33 = .ok (.return_, 1) := by decide +kernel
theorem lp_copySymbols {Q : gx_P} {y h cap a b : Nat} {l : List Nat} (hy : h ≠ y + 1) (hb : b ≤ l.length) (hl : ∀ i, a ≤ i → i < b → 48 ≤ l.getD i 0) : ∀ (fu : Nat) (i : Nat) (p : List Nat) (t : List Nat) (w : gx_W), b - i < fu → (i < 2 ^ 31) → (wyAt w y p t) → (w.1 h = some (gx_bx 0 cap l)) → (a ≤ i) → (p.length + (b - i) ≤ 222) → (Q.1 none (gx_st w (y + 1) (gx_bx 1 222 (p ++ sp_sy ((l.take b).drop i))))) → gx_X (fun _ _ => True) M_Way_copySymbols 2 Q 3 [some (.ref y), some (.ref h), some (.int (nI a)), some (.int (nI b)), some (.int (nI i))] [] w (0, 0) := by
  intro fu
  induction fu with
  | zero => intro i p t w hfu; exact absurd hfu (Nat.not_lt_zero _)
  | succ fu ih =>
    intro i p t w hfu hi0 hwy hw hi hp hQ
    refine gx_bsz hw (fun hlen hcap hsm => ?_)
    have hs := gx_sm_at hsm i
    refine gx_iload d_Way_copySymbols_3 rfl ?_
    refine gx_iload_n d_Way_copySymbols_5 rfl ?_
    refine gx_icmp_geN (by omega) (by omega) (tgt := 33) d_Way_copySymbols_6 (by decide) (fun h6 => ?_) (fun h6 => ?_)
    · refine gx_return rfl d_Way_copySymbols_33 ?_
      rw [gx_drop_nil h6] at hQ
      rw [show sp_sy [] = [] from rfl, List.append_nil, gx_st_id hwy.2.1] at hQ
      exact hQ
    · refine gx_aload_n d_Way_copySymbols_9 rfl ?_
      refine gx_get fl_Way_14 d_Way_copySymbols_10 hwy.1 rfl ?_
      refine gx_iconst d_Way_copySymbols_13 (nI 2) (by decide) ?_
      refine gx_aload_n d_Way_copySymbols_14 rfl ?_
      refine gx_iload d_Way_copySymbols_15 rfl ?_
      refine gx_cV1 lk_Way_78 d_Way_copySymbols_17 (ct_Word_at hw hi0) (Or.inr ⟨_, _, hw⟩) (by omega) rfl rfl (Nat.le_of_ble_eq_true rfl) ?_
      have h48 := hl i hi (by omega)
      refine gx_cS1 lk_Way_82 d_Way_copySymbols_20 (ct_symbolOf) (by omega) rfl rfl (Nat.le_of_ble_eq_true rfl) ?_
      refine gx_top (pk_sub h48) ?_
      refine gx_iaddN d_Way_copySymbols_23 ?_
      refine gx_top (show _ = nI (l.getD i 0 - 46) from congrArg nI (by omega)) ?_
      refine gx_cV0 lk_Way_36 d_Way_copySymbols_24 (ct_Row_add hwy.2.1 (by omega) (by omega)) (Or.inr ⟨_, _, hwy.2.1⟩) (by omega) rfl rfl (Nat.le_of_ble_eq_true rfl) ?_
      refine gx_iincN (n := 1) d_Way_copySymbols_27 rfl (by decide) (Nat.le_of_ble_eq_true rfl) rfl ?_
      refine gx_goto (tgt := 3) d_Way_copySymbols_30 (by decide) ?_
      refine ih (i + 1) (p ++ [l.getD i 0 - 46]) t _ (by omega) (by omega) (hwy.row _) (by rw [gx_st_ne hy]; exact hw) (by omega) (by simp; omega) ?_
      rw [gx_drop_step (by omega) hb] at hQ
      rw [gx_st_st, List.append_assoc, List.singleton_append]
      exact hQ
theorem ct_copySymbols {w : gx_W} {y h cap a b : Nat} {l p t : List Nat} (hwy : wyAt w y p t) (hw : w.1 h = some (gx_bx 0 cap l)) (hy : h ≠ y + 1) (ha : a < 2 ^ 31) (hb : b ≤ l.length) (hl : ∀ i, a ≤ i → i < b → 48 ≤ l.getD i 0) (hp : p.length + (b - a) ≤ 222) : gx_Ct M_Way_copySymbols 2 0 0 [.ref y, .ref h, .int (nI a), .int (nI b)] w (gx_eq none (gx_st w (y + 1) (gx_bx 1 222 (p ++ sp_sy ((l.take b).drop a))))) := by
  refine gx_ct (L := [some (.ref y), some (.ref h), some (.int (nI a)), some (.int (nI b)), none]) (by decide) (Nat.le_of_ble_eq_true rfl) rfl ?_
  refine gx_iload_n d_Way_copySymbols_0 rfl ?_
  refine gx_istore d_Way_copySymbols_1 (Nat.le_of_ble_eq_true rfl) rfl ?_
  exact lp_copySymbols hy hb hl (b - a + 1) a p t w (by omega) ha hwy hw (Nat.le_refl _) hp (by exact ⟨rfl, rfl⟩)
theorem d_Way_pass_0 : decode prog_8_method_6_code 0 = .ok (.aload_n 0, 1) := by decide +kernel
theorem d_Way_pass_1 : decode prog_8_method_6_code 1 = .ok (.aload_n 1, 1) := by decide +kernel
theorem d_Way_pass_2 : decode prog_8_method_6_code 2 = .ok (.iconst 0, 1) := by decide +kernel
theorem d_Way_pass_3 : decode prog_8_method_6_code 3 = .ok (.iload_n 2, 1) := by decide +kernel
theorem d_Way_pass_4 : decode prog_8_method_6_code 4 = .ok (.invokevirtual 109, 3) := by decide +kernel
theorem d_Way_pass_7 : decode prog_8_method_6_code 7 = .ok (.aload_n 0, 1) := by decide +kernel
theorem d_Way_pass_8 : decode prog_8_method_6_code 8 = .ok (.getfield 14, 3) := by decide +kernel
theorem d_Way_pass_11 : decode prog_8_method_6_code 11 = .ok (.iload 4, 2) := by decide +kernel
theorem d_Way_pass_13 : decode prog_8_method_6_code 13 = .ok (.invokevirtual 36, 3) := by decide +kernel
theorem d_Way_pass_16 : decode prog_8_method_6_code 16 = .ok (.aload_n 0, 1) := by decide +kernel
theorem d_Way_pass_17 : decode prog_8_method_6_code 17 = .ok (.aload_n 1, 1) := by decide +kernel
theorem d_Way_pass_18 : decode prog_8_method_6_code 18 = .ok (.iload_n 3, 1) := by decide +kernel
theorem d_Way_pass_19 : decode prog_8_method_6_code 19 = .ok (.aload_n 1, 1) := by decide +kernel
theorem d_Way_pass_20 : decode prog_8_method_6_code 20 = .ok (.invokevirtual 55, 3) := by decide +kernel
theorem d_Way_pass_23 : decode prog_8_method_6_code 23 = .ok (.invokevirtual 109, 3) := by decide +kernel
theorem d_Way_pass_26 : decode prog_8_method_6_code 26 = .ok (.iload_n 3, 1) := by decide +kernel
theorem d_Way_pass_27 : decode prog_8_method_6_code 27 = .ok (.aload_n 1, 1) := by decide +kernel
theorem d_Way_pass_28 : decode prog_8_method_6_code 28 = .ok (.invokevirtual 55, 3) := by decide +kernel
theorem d_Way_pass_31 : decode prog_8_method_6_code 31 = .ok (.if_icmp .gt 11, 3) := by decide +kernel
theorem d_Way_pass_34 : decode prog_8_method_6_code 34 = .ok (.aload_n 0, 1) := by decide +kernel
theorem d_Way_pass_35 : decode prog_8_method_6_code 35 = .ok (.getfield 14, 3) := by decide +kernel
theorem d_Way_pass_38 : decode prog_8_method_6_code 38 = .ok (.iconst 1, 1) := by decide +kernel
theorem d_Way_pass_39 : decode prog_8_method_6_code 39 = .ok (.invokevirtual 36, 3) := by decide +kernel
theorem d_Way_pass_42 : decode prog_8_method_6_code 42 = .ok (.return_, 1) := by decide +kernel
theorem ct_pass {w : gx_W} {y h cap a e q : Nat} {l p t : List Nat} (hwy : wyAt w y p t) (hw : w.1 h = some (gx_bx 0 cap l)) (hy : h ≠ y + 1) (ha : a ≤ l.length) (he : e < 2 ^ 31) (hq : q < 65536) (hl : ∀ i, i < l.length → (i < a ∨ e ≤ i) → 48 ≤ l.getD i 0) (hp : p.length + a + (l.length - e) + 2 ≤ 222) : gx_Ct M_Way_pass 3 0 0 [.ref y, .ref h, .int (nI a), .int (nI e), .int (nI q)] w (gx_eq none (gx_st w (y + 1) (gx_bx 1 222 (p ++ sp_sy (l.take a) ++ q :: sp_sy (l.drop e) ++ (if e ≤ l.length then [1] else []))))) := by
  refine gx_ct (L := [some (.ref y), some (.ref h), some (.int (nI a)), some (.int (nI e)), some (.int (nI q))]) (by decide) (Nat.le_of_ble_eq_true rfl) rfl ?_
  refine gx_bsz hw (fun hlen hcap hsm => ?_)
  have hsl : ∀ k : List Nat, (sp_sy k).length = k.length := fun k => List.length_map ..
  have hta : (l.take a).length = a := by rw [List.length_take]; omega
  refine gx_aload_n d_Way_pass_0 rfl ?_
  refine gx_aload_n d_Way_pass_1 rfl ?_
  refine gx_iconst d_Way_pass_2 (nI 0) (by decide) ?_
  refine gx_iload_n d_Way_pass_3 rfl ?_
  refine gx_cV0 lk_Way_109 d_Way_pass_4 (ct_copySymbols (a := 0) (b := a) hwy hw hy (by omega) ha (fun i _ h2 => hl i (by omega) (Or.inl h2)) (by omega)) (Or.inl ⟨_, hwy.1⟩) (by omega) rfl rfl (Nat.le_of_ble_eq_true rfl) ?_
  rw [List.drop_zero]
  have hy1 := hwy.row (p ++ sp_sy (l.take a))
  have hw1 : (gx_st w (y + 1) (gx_bx 1 222 (p ++ sp_sy (l.take a)))).1 h = some (gx_bx 0 cap l) := by rw [gx_st_ne hy]; exact hw
  refine gx_aload_n d_Way_pass_7 rfl ?_
  refine gx_get fl_Way_14 d_Way_pass_8 hy1.1 rfl ?_
  refine gx_iload d_Way_pass_11 rfl ?_
  refine gx_cV0 lk_Way_36 d_Way_pass_13 (ct_Row_add hy1.2.1 hq (by rw [List.length_append, hsl, hta]; omega)) (Or.inr ⟨_, _, hy1.2.1⟩) (by omega) rfl rfl (Nat.le_of_ble_eq_true rfl) ?_
  rw [gx_st_st]
  have hy2 := hwy.row (p ++ sp_sy (l.take a) ++ [q])
  have hw2 : (gx_st w (y + 1) (gx_bx 1 222 (p ++ sp_sy (l.take a) ++ [q]))).1 h = some (gx_bx 0 cap l) := by rw [gx_st_ne hy]; exact hw
  refine gx_aload_n d_Way_pass_16 rfl ?_
  refine gx_aload_n d_Way_pass_17 rfl ?_
  refine gx_iload_n d_Way_pass_18 rfl ?_
  refine gx_aload_n d_Way_pass_19 rfl ?_
  refine gx_cV1 lk_Way_55 d_Way_pass_20 (ct_Word_size hw2) (Or.inr ⟨_, _, hw2⟩) (by omega) rfl rfl (Nat.le_of_ble_eq_true rfl) ?_
  refine gx_cV0 lk_Way_109 d_Way_pass_23 (ct_copySymbols (a := e) (b := l.length) hy2 hw2 hy he (Nat.le_refl _) (fun i h1 h2 => hl i h2 (Or.inr h1)) (by rw [List.length_append, List.length_append, hsl, hta]; simp; omega)) (Or.inl ⟨_, hy2.1⟩) (by omega) rfl rfl (Nat.le_of_ble_eq_true rfl) ?_
  rw [gx_st_st, List.take_of_length_le (Nat.le_refl _)]
  have hy3 := hwy.row (p ++ sp_sy (l.take a) ++ [q] ++ sp_sy (l.drop e))
  have hw3 : (gx_st w (y + 1) (gx_bx 1 222 (p ++ sp_sy (l.take a) ++ [q] ++ sp_sy (l.drop e)))).1 h = some (gx_bx 0 cap l) := by rw [gx_st_ne hy]; exact hw
  refine gx_iload_n d_Way_pass_26 rfl ?_
  refine gx_aload_n d_Way_pass_27 rfl ?_
  refine gx_cV1 lk_Way_55 d_Way_pass_28 (ct_Word_size hw3) (Or.inr ⟨_, _, hw3⟩) (by omega) rfl rfl (Nat.le_of_ble_eq_true rfl) ?_
  refine gx_icmp_gtN (by omega) (by omega) (tgt := 42) d_Way_pass_31 (by decide) (fun h31 => ?_) (fun h31 => ?_)
  · rw [if_neg (show ¬ e ≤ l.length by omega)]
    refine gx_return rfl d_Way_pass_42 ?_
    exact ⟨rfl, by simp [List.append_assoc]⟩
  · rw [if_pos (show e ≤ l.length by omega)]
    refine gx_aload_n d_Way_pass_34 rfl ?_
    refine gx_get fl_Way_14 d_Way_pass_35 hy3.1 rfl ?_
    refine gx_iconst d_Way_pass_38 (nI 1) (by decide) ?_
    refine gx_cV0 lk_Way_36 d_Way_pass_39 (ct_Row_add hy3.2.1 (by omega) (by rw [List.length_append, List.length_append, List.length_append, hsl, hta, hsl]; simp; omega)) (Or.inr ⟨_, _, hy3.2.1⟩) (by omega) rfl rfl (Nat.le_of_ble_eq_true rfl) ?_
    rw [gx_st_st]
    refine gx_return rfl d_Way_pass_42 ?_
    exact ⟨rfl, by simp [List.append_assoc]⟩
theorem sp_48 {c : sp_C} {i : Nat} (hi : i < (sp_txt c).length) : 48 ≤ (sp_txt c).getD i 0 := by
  by_cases h1 : i < c.1.length
  · rw [sp_txt_lo h1]; omega
  · by_cases h2 : i = c.1.length
    · rw [h2, sp_txt_mid]; have := sp_let_ge c.2.1; omega
    · have h3 : i = c.1.length + 1 + (i - c.1.length - 1) := by omega
      rw [sp_txt_len] at hi
      unfold sp_len at hi
      rw [h3, sp_txt_hi (by omega)]; omega
theorem sp_dropk {c : sp_C} : (sp_txt c).drop (c.1.length + 2) = sp_ds c.2.2.tail := by
  have := sp_drop2 (c := c)
  rwa [List.take_of_length_le (Nat.le_refl _)] at this
theorem sp_takek {c : sp_C} : (sp_txt c).take c.1.length = sp_ds c.1 := by
  have := sp_take0 (c := c)
  rwa [List.drop_zero] at this
theorem sp_takek1 {c : sp_C} : (sp_txt c).take (c.1.length - 1) = sp_ds c.1.dropLast := by
  have := sp_take1 (c := c)
  rwa [List.drop_zero] at this
theorem sp_rs_mono (M : sp_M) {r s : Nat} (h : r ≤ s) : (sp_rs M r).length ≤ (sp_rs M s).length := by
  induction s with
  | zero => rw [Nat.le_zero.mp h]; exact Nat.le_refl _
  | succ s ih =>
    by_cases e : r = s + 1
    · rw [e]; exact Nat.le_refl _
    · rw [sp_rs_succ, List.length_append]
      have := ih (by omega)
      omega
theorem sp_fo_lt (M : sp_M) {r : Nat} (h : r < 12) : sp_fo M r ≤ 53 := by
  have h1 := sp_rs_mono M (show r ≤ 12 by omega)
  have h2 := sp_rs_len M 12
  unfold sp_fo
  omega
theorem d_Way_passStep_0 : decode prog_8_method_4_code 0 = .ok (.aload_n 1, 1) := by decide +kernel
theorem d_Way_passStep_1 : decode prog_8_method_4_code 1 = .ok (.aload_n 2, 1) := by decide +kernel
theorem d_Way_passStep_2 : decode prog_8_method_4_code 2 = .ok (.invokevirtual 65, 3) := by decide +kernel
theorem d_Way_passStep_5 : decode prog_8_method_4_code 5 = .ok (.istore 4, 2) := by decide +kernel
theorem d_Way_passStep_7 : decode prog_8_method_4_code 7 = .ok (.iload 4, 2) := by decide +kernel
theorem d_Way_passStep_9 : decode prog_8_method_4_code 9 = .ok (.iconst (-1), 1) := by decide +kernel
theorem d_Way_passStep_10 : decode prog_8_method_4_code 10 = .ok (.if_icmp .ne 4, 3) := by decide +kernel
theorem d_Way_passStep_13 : decode prog_8_method_4_code 13 = .ok (.return_, 1) := by decide +kernel
theorem d_Way_passStep_14 : decode prog_8_method_4_code 14 = .ok (.aload_n 2, 1) := by decide +kernel
theorem d_Way_passStep_15 : decode prog_8_method_4_code 15 = .ok (.invokevirtual 71, 3) := by decide +kernel
theorem d_Way_passStep_18 : decode prog_8_method_4_code 18 = .ok (.istore 5, 2) := by decide +kernel
theorem d_Way_passStep_20 : decode prog_8_method_4_code 20 = .ok (.aload_n 1, 1) := by decide +kernel
theorem d_Way_passStep_21 : decode prog_8_method_4_code 21 = .ok (.getfield 74, 3) := by decide +kernel
theorem d_Way_passStep_24 : decode prog_8_method_4_code 24 = .ok (.iload 4, 2) := by decide +kernel
theorem d_Way_passStep_26 : decode prog_8_method_4_code 26 = .ok (.baload, 1) := by decide +kernel
theorem d_Way_passStep_27 : decode prog_8_method_4_code 27 = .ok (.istore 6, 2) := by decide +kernel
theorem d_Way_passStep_29 : decode prog_8_method_4_code 29 = .ok (.iload 5, 2) := by decide +kernel
theorem d_Way_passStep_31 : decode prog_8_method_4_code 31 = .ok (.iconst 1, 1) := by decide +kernel
theorem d_Way_passStep_32 : decode prog_8_method_4_code 32 = .ok (.iadd, 1) := by decide +kernel
theorem d_Way_passStep_33 : decode prog_8_method_4_code 33 = .ok (.aload_n 2, 1) := by decide +kernel
theorem d_Way_passStep_34 : decode prog_8_method_4_code 34 = .ok (.invokevirtual 55, 3) := by decide +kernel
theorem d_Way_passStep_37 : decode prog_8_method_4_code 37 = .ok (.if_icmp .ne 7, 3) := by decide +kernel
theorem d_Way_passStep_40 : decode prog_8_method_4_code 40 = .ok (.iconst 1, 1) := by decide +kernel
theorem d_Way_passStep_41 : decode prog_8_method_4_code 41 = .ok (.goto 4, 3) := by decide +kernel
theorem d_Way_passStep_44 : decode prog_8_method_4_code 44 = .ok (.iconst 0, 1) := by decide +kernel
theorem d_Way_passStep_45 : decode prog_8_method_4_code 45 = .ok (.istore 7, 2) := by decide +kernel
theorem d_Way_passStep_47 : decode prog_8_method_4_code 47 = .ok (.aload_n 2, 1) := by decide +kernel
theorem d_Way_passStep_48 : decode prog_8_method_4_code 48 = .ok (.iload 5, 2) := by decide +kernel
theorem d_Way_passStep_50 : decode prog_8_method_4_code 50 = .ok (.iconst 1, 1) := by decide +kernel
theorem d_Way_passStep_51 : decode prog_8_method_4_code 51 = .ok (.isub, 1) := by decide +kernel
theorem d_Way_passStep_52 : decode prog_8_method_4_code 52 = .ok (.invokevirtual 78, 3) := by decide +kernel
theorem d_Way_passStep_55 : decode prog_8_method_4_code 55 = .ok (.invokestatic 82, 3) := by decide +kernel
theorem d_Way_passStep_58 : decode prog_8_method_4_code 58 = .ok (.istore 8, 2) := by decide +kernel
theorem d_Way_passStep_60 : decode prog_8_method_4_code 60 = .ok (.aload_n 0, 1) := by decide +kernel
theorem d_Way_passStep_61 : decode prog_8_method_4_code 61 = .ok (.aload_n 2, 1) := by decide +kernel
theorem d_Way_passStep_62 : decode prog_8_method_4_code 62 = .ok (.iload 6, 2) := by decide +kernel
theorem d_Way_passStep_64 : decode prog_8_method_4_code 64 = .ok (.ifCond .eq 8, 3) := by decide +kernel
theorem d_Way_passStep_67 : decode prog_8_method_4_code 67 = .ok (.iload 5, 2) := by decide +kernel
theorem d_Way_passStep_69 : decode prog_8_method_4_code 69 = .ok (.goto 7, 3) := by decide +kernel
theorem d_Way_passStep_72 : decode prog_8_method_4_code 72 = .ok (.iload 5, 2) := by decide +kernel
theorem d_Way_passStep_74 : decode prog_8_method_4_code 74 = .ok (.iconst 1, 1) := by decide +kernel
theorem d_Way_passStep_75 : decode prog_8_method_4_code 75 = .ok (.isub, 1) := by decide +kernel
theorem d_Way_passStep_76 : decode prog_8_method_4_code 76 = .ok (.iload 5, 2) := by decide +kernel
theorem d_Way_passStep_78 : decode prog_8_method_4_code 78 = .ok (.iconst 2, 1) := by decide +kernel
theorem d_Way_passStep_79 : decode prog_8_method_4_code 79 = .ok (.iadd, 1) := by decide +kernel
theorem d_Way_passStep_80 : decode prog_8_method_4_code 80 = .ok (.aload_n 3, 1) := by decide +kernel
theorem d_Way_passStep_81 : decode prog_8_method_4_code 81 = .ok (.iload 4, 2) := by decide +kernel
theorem d_Way_passStep_83 : decode prog_8_method_4_code 83 = .ok (.iload 6, 2) := by decide +kernel
theorem d_Way_passStep_85 : decode prog_8_method_4_code 85 = .ok (.iload 8, 2) := by decide +kernel
theorem d_Way_passStep_87 : decode prog_8_method_4_code 87 = .ok (.iload 7, 2) := by decide +kernel
theorem d_Way_passStep_89 : decode prog_8_method_4_code 89 = .ok (.invokevirtual 86, 3) := by decide +kernel
theorem d_Way_passStep_92 : decode prog_8_method_4_code 92 = .ok (.invokevirtual 90, 3) := by decide +kernel
theorem d_Way_passStep_95 : decode prog_8_method_4_code 95 = .ok (.return_, 1) := by decide +kernel
theorem ps_R {Q : gx_P} {w : gx_W} {y a h x cap m r : Nat} {M : sp_M} {t p tr : List Nat} {c : sp_C} {U V : Nat → List Nat} {fo : Nat → Nat} (hwy : wyAt w y p tr) (hm : mcAt w a M t) (hM : sp_Mok M) (hw : w.1 h = some (gx_bx 0 cap (sp_txt c))) (hc : sp_ok c) (hcl : sp_len c ≤ 10) (hx : bxAt w x m U V fo) (hfo : ∀ i, i < 12 → fo i = sp_fo M i) (hy : h ≠ y + 1) (hr : sp_rl M c = some r) (hp : p.length + 12 ≤ 222) {z : Int32} (hrt : sp_rt M r = 1) (hQ : Q.1 none (gx_st w (y + 1) (gx_bx 1 222 (p ++ sp_ws M c)))) : gx_X (fun _ _ => True) M_Way_passStep 4 Q 60 [some (.ref y), some (.ref a), some (.ref h), some (.ref x), some (.int (nI r)), some (.int (nI c.1.length)), some (.int (nI (sp_rt M r))), some (.int (nI (decide (c.2.2.length = 0)).toNat)), some (.int z)] [] w (0, 0) := by
  obtain ⟨hr12, -⟩ := sp_rl_lt hr hc
  have hsl : sp_len c = c.1.length + 1 + c.2.2.length := rfl
  have htl := sp_txt_len c
  have hF := sp_fo_lt M hr12
  have hbt := Bool.toNat_le (decide (c.2.2.length = 0))
  have hle : (c.1.length + 2 ≤ (sp_txt c).length) = (¬ c.2.2.length = 0) := propext (by rw [htl]; omega)
  refine gx_aload_n d_Way_passStep_60 rfl ?_
  refine gx_aload_n d_Way_passStep_61 rfl ?_
  refine gx_iload d_Way_passStep_62 rfl ?_
  refine gx_if_eqN (by omega) (tgt := 72) d_Way_passStep_64 (by decide) (fun h64 => ?_) (fun h64 => ?_)
  · exact absurd h64 (by omega)
  · refine gx_iload d_Way_passStep_67 rfl ?_
    refine gx_goto (tgt := 76) d_Way_passStep_69 (by decide) ?_
    refine gx_iload d_Way_passStep_76 rfl ?_
    refine gx_iconst d_Way_passStep_78 (nI 2) (by decide) ?_
    refine gx_iaddN d_Way_passStep_79 ?_
    refine gx_aload_n d_Way_passStep_80 rfl ?_
    refine gx_iload d_Way_passStep_81 rfl ?_
    refine gx_iload d_Way_passStep_83 rfl ?_
    refine gx_iload d_Way_passStep_85 rfl ?_
    refine gx_iload d_Way_passStep_87 rfl ?_
    rw [hrt]
    refine gx_cV1 lk_Way_86 d_Way_passStep_89 (ct_ofRule_R (e := decide (c.2.2.length = 0)) hx hr12) (Or.inl ⟨_, hx.1⟩) (by omega) rfl rfl (Nat.le_of_ble_eq_true rfl) ?_
    refine gx_top (congrArg nI (show _ = sp_fo M r + (if c.2.2.length = 0 then 1 else 0) by rw [hfo r hr12]; by_cases e : c.2.2.length = 0 <;> simp [e])) ?_
    refine gx_cV0 lk_Way_90 d_Way_passStep_92 (ct_pass (a := c.1.length) (e := c.1.length + 2) hwy hw hy (by omega) (by omega) (by split <;> omega) (fun i hi _ => sp_48 hi) (by omega)) (Or.inl ⟨_, hwy.1⟩) (by omega) rfl rfl (Nat.le_of_ble_eq_true rfl) ?_
    refine gx_return rfl d_Way_passStep_95 ?_
    unfold sp_ws at hQ
    rw [hr] at hQ
    simp only [if_pos hrt] at hQ
    rw [sp_takek, sp_dropk, sp_sy_ds, sp_sy_ds]
    simp only [hle, ite_not]
    simpa [List.append_assoc] using hQ
theorem ps_L {Q : gx_P} {w : gx_W} {y a h x cap m r : Nat} {M : sp_M} {t p tr : List Nat} {c : sp_C} {U V : Nat → List Nat} {fo : Nat → Nat} (hwy : wyAt w y p tr) (hm : mcAt w a M t) (hM : sp_Mok M) (hw : w.1 h = some (gx_bx 0 cap (sp_txt c))) (hc : sp_ok c) (hcl : sp_len c ≤ 10) (hx : bxAt w x m U V fo) (hfo : ∀ i, i < 12 → fo i = sp_fo M i) (hy : h ≠ y + 1) (hr : sp_rl M c = some r) (hp : p.length + 12 ≤ 222) (hrt : sp_rt M r = 0) (hL : 0 < c.1.length) (hQ : Q.1 none (gx_st w (y + 1) (gx_bx 1 222 (p ++ sp_ws M c)))) : gx_X (fun _ _ => True) M_Way_passStep 4 Q 60 [some (.ref y), some (.ref a), some (.ref h), some (.ref x), some (.int (nI r)), some (.int (nI c.1.length)), some (.int (nI (sp_rt M r))), some (.int (nI (decide (c.2.2.length = 0)).toNat)), some (.int (nI (sp_lst c.1)))] [] w (0, 0) := by
  obtain ⟨hr12, -⟩ := sp_rl_lt hr hc
  have hsl : sp_len c = c.1.length + 1 + c.2.2.length := rfl
  have htl := sp_txt_len c
  have hF := sp_fo_lt M hr12
  have hbt := Bool.toNat_le (decide (c.2.2.length = 0))
  have hle : (c.1.length + 2 ≤ (sp_txt c).length) = (¬ c.2.2.length = 0) := propext (by rw [htl]; omega)
  have hlst : sp_lst c.1 < 3 := sp_gd_lt hc.1 _
  refine gx_aload_n d_Way_passStep_60 rfl ?_
  refine gx_aload_n d_Way_passStep_61 rfl ?_
  refine gx_iload d_Way_passStep_62 rfl ?_
  refine gx_if_eqN (by omega) (tgt := 72) d_Way_passStep_64 (by decide) (fun h64 => ?_) (fun h64 => ?_)
  · refine gx_iload d_Way_passStep_72 rfl ?_
    refine gx_iconst d_Way_passStep_74 (nI 1) (by decide) ?_
    refine gx_isubN (by omega) d_Way_passStep_75 ?_
    refine gx_iload d_Way_passStep_76 rfl ?_
    refine gx_iconst d_Way_passStep_78 (nI 2) (by decide) ?_
    refine gx_iaddN d_Way_passStep_79 ?_
    refine gx_aload_n d_Way_passStep_80 rfl ?_
    refine gx_iload d_Way_passStep_81 rfl ?_
    refine gx_iload d_Way_passStep_83 rfl ?_
    refine gx_iload d_Way_passStep_85 rfl ?_
    refine gx_iload d_Way_passStep_87 rfl ?_
    rw [hrt]
    refine gx_cV1 lk_Way_86 d_Way_passStep_89 (ct_ofRule_L (e := decide (c.2.2.length = 0)) hx hr12) (Or.inl ⟨_, hx.1⟩) (by omega) rfl rfl (Nat.le_of_ble_eq_true rfl) ?_
    refine gx_top (congrArg nI (show _ = sp_fo M r + (if c.2.2.length = 0 then 3 else 0) + sp_lst c.1 by rw [hfo r hr12]; by_cases e : c.2.2.length = 0 <;> simp [e])) ?_
    refine gx_cV0 lk_Way_90 d_Way_passStep_92 (ct_pass (a := c.1.length - 1) (e := c.1.length + 2) hwy hw hy (by omega) (by omega) (by split <;> omega) (fun i hi _ => sp_48 hi) (by omega)) (Or.inl ⟨_, hwy.1⟩) (by omega) rfl rfl (Nat.le_of_ble_eq_true rfl) ?_
    refine gx_return rfl d_Way_passStep_95 ?_
    unfold sp_ws at hQ
    rw [hr] at hQ
    simp only [if_neg (show ¬ sp_rt M r = 1 by omega)] at hQ
    rw [sp_takek1, sp_dropk, sp_sy_ds, sp_sy_ds]
    simp only [hle, ite_not]
    simpa [List.append_assoc] using hQ
  · exact absurd hrt h64
theorem ps_mid {Q : gx_P} {w : gx_W} {y a h x cap m r : Nat} {M : sp_M} {t p tr : List Nat} {c : sp_C} {U V : Nat → List Nat} {fo : Nat → Nat} (hwy : wyAt w y p tr) (hm : mcAt w a M t) (hM : sp_Mok M) (hw : w.1 h = some (gx_bx 0 cap (sp_txt c))) (hc : sp_ok c) (hcl : sp_len c ≤ 10) (hx : bxAt w x m U V fo) (hfo : ∀ i, i < 12 → fo i = sp_fo M i) (hy : h ≠ y + 1) (hr : sp_rl M c = some r) (hp : p.length + 12 ≤ 222) (hLR : sp_rt M r = 1 ∨ (sp_rt M r = 0 ∧ 0 < c.1.length)) {L8 : Option Value} (hQ : Q.1 none (gx_st w (y + 1) (gx_bx 1 222 (p ++ sp_ws M c)))) : gx_X (fun _ _ => True) M_Way_passStep 4 Q 47 [some (.ref y), some (.ref a), some (.ref h), some (.ref x), some (.int (nI r)), some (.int (nI c.1.length)), some (.int (nI (sp_rt M r))), some (.int (nI (decide (c.2.2.length = 0)).toNat)), L8] [] w (0, 0) := by
  obtain ⟨hr12, -⟩ := sp_rl_lt hr hc
  have hsl : sp_len c = c.1.length + 1 + c.2.2.length := rfl
  have htl := sp_txt_len c
  have hF := sp_fo_lt M hr12
  have hbt := Bool.toNat_le (decide (c.2.2.length = 0))
  have hle : (c.1.length + 2 ≤ (sp_txt c).length) = (¬ c.2.2.length = 0) := propext (by rw [htl]; omega)
  refine gx_bsz hw (fun hlen hcap hsm => ?_)
  by_cases e0 : c.1.length = 0
  · have hrt : sp_rt M r = 1 := by omega
    refine gx_aload_n d_Way_passStep_47 rfl ?_
    refine gx_iload d_Way_passStep_48 rfl ?_
    refine gx_iconst d_Way_passStep_50 (nI 1) (by decide) ?_
    refine gx_isub d_Way_passStep_51 ?_
    refine gx_top (show _ = (-1 : Int32) by rw [e0]; decide) ?_
    refine gx_cV1 lk_Way_78 d_Way_passStep_52 (ct_Word_at_neg hw) (Or.inr ⟨_, _, hw⟩) (by omega) rfl rfl (Nat.le_of_ble_eq_true rfl) ?_
    refine gx_cS1 lk_Way_82 d_Way_passStep_55 (ct_symbolOf) (by omega) rfl rfl (Nat.le_of_ble_eq_true rfl) ?_
    refine gx_istore d_Way_passStep_58 (Nat.le_of_ble_eq_true rfl) rfl ?_
    exact ps_R hwy hm hM hw hc hcl hx hfo hy hr hp hrt hQ
  · rcases hLR with hrt | ⟨hrt, hpos⟩
    · refine gx_aload_n d_Way_passStep_47 rfl ?_
      refine gx_iload d_Way_passStep_48 rfl ?_
      refine gx_iconst d_Way_passStep_50 (nI 1) (by decide) ?_
      refine gx_isubN (by omega) d_Way_passStep_51 ?_
      refine gx_cV1 lk_Way_78 d_Way_passStep_52 (ct_Word_at (j := c.1.length - 1) hw (by omega)) (Or.inr ⟨_, _, hw⟩) (by omega) rfl rfl (Nat.le_of_ble_eq_true rfl) ?_
      refine gx_top (congrArg nI (sp_txt_lo (by omega))) ?_
      refine gx_cS1 lk_Way_82 d_Way_passStep_55 (ct_symbolOf) (by omega) rfl rfl (Nat.le_of_ble_eq_true rfl) ?_
      refine gx_top (show _ = nI (sp_lst c.1) by rw [pk_sub (by omega), Nat.add_sub_cancel_left]; rfl) ?_
      refine gx_istore d_Way_passStep_58 (Nat.le_of_ble_eq_true rfl) rfl ?_
      exact ps_R hwy hm hM hw hc hcl hx hfo hy hr hp hrt hQ
    · refine gx_aload_n d_Way_passStep_47 rfl ?_
      refine gx_iload d_Way_passStep_48 rfl ?_
      refine gx_iconst d_Way_passStep_50 (nI 1) (by decide) ?_
      refine gx_isubN (by omega) d_Way_passStep_51 ?_
      refine gx_cV1 lk_Way_78 d_Way_passStep_52 (ct_Word_at (j := c.1.length - 1) hw (by omega)) (Or.inr ⟨_, _, hw⟩) (by omega) rfl rfl (Nat.le_of_ble_eq_true rfl) ?_
      refine gx_top (congrArg nI (sp_txt_lo (by omega))) ?_
      refine gx_cS1 lk_Way_82 d_Way_passStep_55 (ct_symbolOf) (by omega) rfl rfl (Nat.le_of_ble_eq_true rfl) ?_
      refine gx_top (show _ = nI (sp_lst c.1) by rw [pk_sub (by omega), Nat.add_sub_cancel_left]; rfl) ?_
      refine gx_istore d_Way_passStep_58 (Nat.le_of_ble_eq_true rfl) rfl ?_
      exact ps_L hwy hm hM hw hc hcl hx hfo hy hr hp hrt hpos hQ
theorem ct_passStep {w : gx_W} {y a h x cap m r : Nat} {M : sp_M} {t p tr : List Nat} {c : sp_C} {U V : Nat → List Nat} {fo : Nat → Nat} (hwy : wyAt w y p tr) (hm : mcAt w a M t) (hM : sp_Mok M) (hw : w.1 h = some (gx_bx 0 cap (sp_txt c))) (hc : sp_ok c) (hcl : sp_len c ≤ 10) (hx : bxAt w x m U V fo) (hfo : ∀ i, i < 12 → fo i = sp_fo M i) (hy : h ≠ y + 1) (hr : sp_rl M c = some r) (hp : p.length + 12 ≤ 222) (hst : sp_step M c ≠ none) : gx_Ct M_Way_passStep 4 0 0 [.ref y, .ref a, .ref h, .ref x] w (gx_eq none (gx_st w (y + 1) (gx_bx 1 222 (p ++ sp_ws M c)))) := by
  refine gx_ct (L := [some (.ref y), some (.ref a), some (.ref h), some (.ref x), none, none, none, none, none]) (by decide) (Nat.le_of_ble_eq_true rfl) rfl ?_
  obtain ⟨hr12, -⟩ := sp_rl_lt hr hc
  have hsl : sp_len c = c.1.length + 1 + c.2.2.length := rfl
  have htl := sp_txt_len c
  have hF := sp_fo_lt M hr12
  have hbt := Bool.toNat_le (decide (c.2.2.length = 0))
  have hle : (c.1.length + 2 ≤ (sp_txt c).length) = (¬ c.2.2.length = 0) := propext (by rw [htl]; omega)
  refine gx_bsz hw (fun hlen hcap hsm => ?_)
  have hri : sp_ri M c = nI r := by unfold sp_ri; rw [hr]
  have hMr := hM r
  have hLR : sp_rt M r = 1 ∨ (sp_rt M r = 0 ∧ 0 < c.1.length) := by
    by_cases e : sp_rt M r = 1
    · exact Or.inl e
    · refine Or.inr ⟨by omega, Nat.pos_of_ne_zero fun e2 => hst ?_⟩
      unfold sp_step
      rw [hr]
      simp only [if_neg e, if_pos e2]
  refine gx_aload_n d_Way_passStep_0 rfl ?_
  refine gx_aload_n d_Way_passStep_1 rfl ?_
  refine gx_cV1 lk_Way_65 d_Way_passStep_2 (ct_ruleFor hm hM hw hc) (Or.inl ⟨_, hm.1⟩) (by omega) rfl rfl (Nat.le_of_ble_eq_true rfl) ?_
  rw [hri]
  refine gx_istore d_Way_passStep_5 (Nat.le_of_ble_eq_true rfl) rfl ?_
  refine gx_iload d_Way_passStep_7 rfl ?_
  refine gx_iconst d_Way_passStep_9 (-1) (by decide) ?_
  refine gx_icmp_ne (tgt := 14) d_Way_passStep_10 (by decide) (fun h10 => ?_) (fun h10 => ?_)
  · refine gx_aload_n d_Way_passStep_14 rfl ?_
    refine gx_cV1 lk_Way_71 d_Way_passStep_15 (ct_Word_head hw sp_hd3 (sp_hd1 hc) sp_hd2) (Or.inr ⟨_, _, hw⟩) (by omega) rfl rfl (Nat.le_of_ble_eq_true rfl) ?_
    refine gx_istore d_Way_passStep_18 (Nat.le_of_ble_eq_true rfl) rfl ?_
    refine gx_aload_n d_Way_passStep_20 rfl ?_
    refine gx_get fl_Way_74 d_Way_passStep_21 hm.1 rfl ?_
    refine gx_iload d_Way_passStep_24 rfl ?_
    refine gx_zald d_Way_passStep_26 hm.2.2.1 (by omega) (by omega) ?_
    refine gx_istore d_Way_passStep_27 (Nat.le_of_ble_eq_true rfl) rfl ?_
    refine gx_iload d_Way_passStep_29 rfl ?_
    refine gx_iconst d_Way_passStep_31 (nI 1) (by decide) ?_
    refine gx_iaddN d_Way_passStep_32 ?_
    refine gx_aload_n d_Way_passStep_33 rfl ?_
    refine gx_cV1 lk_Way_55 d_Way_passStep_34 (ct_Word_size hw) (Or.inr ⟨_, _, hw⟩) (by omega) rfl rfl (Nat.le_of_ble_eq_true rfl) ?_
    refine gx_icmp_neN (by omega) (by omega) (tgt := 44) d_Way_passStep_37 (by decide) (fun h37 => ?_) (fun h37 => ?_)
    · refine gx_iconst d_Way_passStep_44 (nI (decide (c.2.2.length = 0)).toNat) (by rw [decide_eq_false (show ¬ c.2.2.length = 0 by omega)]; decide) ?_
      refine gx_istore d_Way_passStep_45 (Nat.le_of_ble_eq_true rfl) rfl ?_
      exact ps_mid hwy hm hM hw hc hcl hx hfo hy hr hp hLR (by exact ⟨rfl, rfl⟩)
    · refine gx_iconst d_Way_passStep_40 (nI (decide (c.2.2.length = 0)).toNat) (by rw [decide_eq_true (show c.2.2.length = 0 by omega)]; decide) ?_
      refine gx_goto (tgt := 45) d_Way_passStep_41 (by decide) ?_
      refine gx_istore d_Way_passStep_45 (Nat.le_of_ble_eq_true rfl) rfl ?_
      exact ps_mid hwy hm hM hw hc hcl hx hfo hy hr hp hLR (by exact ⟨rfl, rfl⟩)
  · exact absurd h10 (gx_nm1 (by omega))
end
section
/-! Way: the shortening, the trace -/
def sp_h1 (c : sp_C) : sp_C := if c.1.length = 0 then ([], c.2.1, c.2.2.tail) else (c.1.dropLast, c.2.1, c.2.2)
def sp_p1 (e : Nat) (c : sp_C) : List Nat := if c.1.length = 0 then (e + 3 + c.2.2.getD 0 0) :: sp_cp c.2.2.tail ++ [1] else sp_cp c.1.dropLast ++ (e + sp_lst c.1) :: sp_cp c.2.2 ++ [1]
theorem sp_hw_succ (e n : Nat) (c : sp_C) : sp_hw e (n + 1) c.1 c.2.2 = sp_p1 e c ++ sp_hw e n (sp_h1 c).1 (sp_h1 c).2.2 := by
  unfold sp_p1 sp_h1
  rw [sp_hw]
  by_cases h : c.1.length = 0
  · rw [if_pos h, if_pos h, if_pos h]; simp
  · rw [if_neg h, if_neg h, if_neg h]; simp
theorem sp_h1_ok {c : sp_C} (h : sp_ok c) : sp_ok (sp_h1 c) := by
  unfold sp_h1
  split
  · exact ⟨(fun s hs => by cases hs), h.2.1, fun s hs => h.2.2 s (List.mem_of_mem_tail hs)⟩
  · exact ⟨fun s hs => h.1 s ((List.dropLast_sublist c.1).subset hs), h.2.1, h.2.2⟩
theorem sp_h1_q (c : sp_C) : (sp_h1 c).2.1 = c.2.1 := by unfold sp_h1; split <;> rfl
theorem sp_h1_n {c : sp_C} {n : Nat} (h : c.1.length + c.2.2.length = n + 1) : (sp_h1 c).1.length + (sp_h1 c).2.2.length = n := by
  unfold sp_h1
  split
  · simp; omega
  · simp; omega
theorem sp_p1_len {e : Nat} {c : sp_C} : (sp_p1 e c).length ≤ c.1.length + c.2.2.length + 2 := by
  unfold sp_p1 sp_cp
  split
  · simp; omega
  · simp; omega
theorem sp_eraseA {c : sp_C} (h : 0 < c.1.length) : (sp_txt c).eraseIdx (c.1.length - 1) = sp_txt (c.1.dropLast, c.2.1, c.2.2) := by
  have hl := sp_txt_len c
  have hl2 := sp_txt_len (c.1.dropLast, c.2.1, c.2.2)
  have hd : c.1.dropLast.length = c.1.length - 1 := List.length_dropLast
  unfold sp_len at hl hl2
  simp only at hl2
  have hlt : c.1.length - 1 < (sp_txt c).length := by omega
  apply gx_ext
  · rw [List.length_eraseIdx_of_lt hlt]; omega
  · intro i hi
    rw [List.length_eraseIdx_of_lt hlt] at hi
    rw [gx_gd_er]
    by_cases h1 : i < c.1.length - 1
    · rw [if_pos h1, sp_txt_lo (by omega), sp_txt_lo (c := (c.1.dropLast, c.2.1, c.2.2)) (by simp only; omega)]
      simp only
      rw [List.dropLast_eq_take, gx_gd_take h1]
    · rw [if_neg h1]
      by_cases h2 : i = c.1.length - 1
      · have e1 : i + 1 = c.1.length := by omega
        rw [e1, sp_txt_mid]
        have e2 : i = (c.1.dropLast, c.2.1, c.2.2).1.length := by simp only; omega
        rw [e2, sp_txt_mid]
      · have e1 : i + 1 = c.1.length + 1 + (i - c.1.length) := by omega
        have e2 : i = (c.1.dropLast, c.2.1, c.2.2).1.length + 1 + (i - c.1.length) := by simp only; omega
        rw [e1, sp_txt_hi (by omega)]
        conv => rhs; rw [e2]
        rw [sp_txt_hi (c := (c.1.dropLast, c.2.1, c.2.2)) (by simp only; omega)]
theorem sp_eraseB {c : sp_C} (h : c.1.length = 0) : (sp_txt c).eraseIdx 1 = sp_txt ([], c.2.1, c.2.2.tail) := by
  have e : c.1 = [] := List.length_eq_zero_iff.mp h
  unfold sp_txt sp_ds
  rw [e]
  cases c.2.2 <;> simp
theorem sp_drop1 {c : sp_C} : (sp_txt c).drop (c.1.length + 1) = sp_ds c.2.2 := by
  unfold sp_txt
  rw [show sp_ds c.1 ++ sp_let c.2.1 :: sp_ds c.2.2 = (sp_ds c.1 ++ [sp_let c.2.1]) ++ sp_ds c.2.2 by simp]
  exact List.drop_left' (by rw [List.length_append, sp_ds_len]; rfl)
theorem d_Way_passShorter_0 : decode prog_8_method_5_code 0 = .ok (.aload_n 0, 1) := by decide +kernel
theorem d_Way_passShorter_1 : decode prog_8_method_5_code 1 = .ok (.getfield 23, 3) := by decide +kernel
theorem d_Way_passShorter_4 : decode prog_8_method_5_code 4 = .ok (.invokevirtual 71, 3) := by decide +kernel
theorem d_Way_passShorter_7 : decode prog_8_method_5_code 7 = .ok (.istore_n 2, 1) := by decide +kernel
theorem d_Way_passShorter_8 : decode prog_8_method_5_code 8 = .ok (.iload_n 2, 1) := by decide +kernel
theorem d_Way_passShorter_9 : decode prog_8_method_5_code 9 = .ok (.ifCond .le 7, 3) := by decide +kernel
theorem d_Way_passShorter_12 : decode prog_8_method_5_code 12 = .ok (.iconst 1, 1) := by decide +kernel
theorem d_Way_passShorter_13 : decode prog_8_method_5_code 13 = .ok (.goto 4, 3) := by decide +kernel
theorem d_Way_passShorter_16 : decode prog_8_method_5_code 16 = .ok (.iconst 0, 1) := by decide +kernel
theorem d_Way_passShorter_17 : decode prog_8_method_5_code 17 = .ok (.istore_n 3, 1) := by decide +kernel
theorem d_Way_passShorter_18 : decode prog_8_method_5_code 18 = .ok (.iload_n 3, 1) := by decide +kernel
theorem d_Way_passShorter_19 : decode prog_8_method_5_code 19 = .ok (.ifCond .eq 9, 3) := by decide +kernel
theorem d_Way_passShorter_22 : decode prog_8_method_5_code 22 = .ok (.iload_n 2, 1) := by decide +kernel
theorem d_Way_passShorter_23 : decode prog_8_method_5_code 23 = .ok (.iconst 1, 1) := by decide +kernel
theorem d_Way_passShorter_24 : decode prog_8_method_5_code 24 = .ok (.isub, 1) := by decide +kernel
theorem d_Way_passShorter_25 : decode prog_8_method_5_code 25 = .ok (.goto 6, 3) := by decide +kernel
theorem d_Way_passShorter_28 : decode prog_8_method_5_code 28 = .ok (.iload_n 2, 1) := by decide +kernel
theorem d_Way_passShorter_29 : decode prog_8_method_5_code 29 = .ok (.iconst 1, 1) := by decide +kernel
theorem d_Way_passShorter_30 : decode prog_8_method_5_code 30 = .ok (.iadd, 1) := by decide +kernel
theorem d_Way_passShorter_31 : decode prog_8_method_5_code 31 = .ok (.istore 4, 2) := by decide +kernel
theorem d_Way_passShorter_33 : decode prog_8_method_5_code 33 = .ok (.aload_n 1, 1) := by decide +kernel
theorem d_Way_passShorter_34 : decode prog_8_method_5_code 34 = .ok (.invokevirtual 94, 3) := by decide +kernel
theorem d_Way_passShorter_37 : decode prog_8_method_5_code 37 = .ok (.iload_n 3, 1) := by decide +kernel
theorem d_Way_passShorter_38 : decode prog_8_method_5_code 38 = .ok (.ifCond .eq 7, 3) := by decide +kernel
theorem d_Way_passShorter_41 : decode prog_8_method_5_code 41 = .ok (.iconst 0, 1) := by decide +kernel
theorem d_Way_passShorter_42 : decode prog_8_method_5_code 42 = .ok (.goto 4, 3) := by decide +kernel
theorem d_Way_passShorter_45 : decode prog_8_method_5_code 45 = .ok (.iconst 3, 1) := by decide +kernel
theorem d_Way_passShorter_46 : decode prog_8_method_5_code 46 = .ok (.iadd, 1) := by decide +kernel
theorem d_Way_passShorter_47 : decode prog_8_method_5_code 47 = .ok (.aload_n 0, 1) := by decide +kernel
theorem d_Way_passShorter_48 : decode prog_8_method_5_code 48 = .ok (.getfield 23, 3) := by decide +kernel
theorem d_Way_passShorter_51 : decode prog_8_method_5_code 51 = .ok (.iload 4, 2) := by decide +kernel
theorem d_Way_passShorter_53 : decode prog_8_method_5_code 53 = .ok (.invokevirtual 78, 3) := by decide +kernel
theorem d_Way_passShorter_56 : decode prog_8_method_5_code 56 = .ok (.invokestatic 82, 3) := by decide +kernel
theorem d_Way_passShorter_59 : decode prog_8_method_5_code 59 = .ok (.iadd, 1) := by decide +kernel
theorem d_Way_passShorter_60 : decode prog_8_method_5_code 60 = .ok (.istore 5, 2) := by decide +kernel
theorem d_Way_passShorter_62 : decode prog_8_method_5_code 62 = .ok (.aload_n 0, 1) := by decide +kernel
theorem d_Way_passShorter_63 : decode prog_8_method_5_code 63 = .ok (.aload_n 0, 1) := by decide +kernel
theorem d_Way_passShorter_64 : decode prog_8_method_5_code 64 = .ok (.getfield 23, 3) := by decide +kernel
theorem d_Way_passShorter_67 : decode prog_8_method_5_code 67 = .ok (.iload_n 2, 1) := by decide +kernel
theorem d_Way_passShorter_68 : decode prog_8_method_5_code 68 = .ok (.iload 4, 2) := by decide +kernel
theorem d_Way_passShorter_70 : decode prog_8_method_5_code 70 = .ok (.invokestatic 97, 3) := by decide +kernel
theorem d_Way_passShorter_73 : decode prog_8_method_5_code 73 = .ok (.iload_n 2, 1) := by decide +kernel
theorem d_Way_passShorter_74 : decode prog_8_method_5_code 74 = .ok (.iload 4, 2) := by decide +kernel
theorem d_Way_passShorter_76 : decode prog_8_method_5_code 76 = .ok (.invokestatic 103, 3) := by decide +kernel
theorem d_Way_passShorter_79 : decode prog_8_method_5_code 79 = .ok (.iconst 1, 1) := by decide +kernel
theorem d_Way_passShorter_80 : decode prog_8_method_5_code 80 = .ok (.iadd, 1) := by decide +kernel
theorem d_Way_passShorter_81 : decode prog_8_method_5_code 81 = .ok (.iload 5, 2) := by decide +kernel
theorem d_Way_passShorter_83 : decode prog_8_method_5_code 83 = .ok (.invokevirtual 90, 3) := by decide +kernel
theorem d_Way_passShorter_86 : decode prog_8_method_5_code 86 = .ok (.aload_n 0, 1) := by decide +kernel
theorem d_Way_passShorter_87 : decode prog_8_method_5_code 87 = .ok (.getfield 23, 3) := by decide +kernel
theorem d_Way_passShorter_90 : decode prog_8_method_5_code 90 = .ok (.iload 4, 2) := by decide +kernel
theorem d_Way_passShorter_92 : decode prog_8_method_5_code 92 = .ok (.invokevirtual 106, 3) := by decide +kernel
theorem d_Way_passShorter_95 : decode prog_8_method_5_code 95 = .ok (.return_, 1) := by decide +kernel
theorem ct_passShorter_A {w : gx_W} {y x m : Nat} {p : List Nat} {c : sp_C} {U V : Nat → List Nat} {fo : Nat → Nat} (hwy : wyAt w y p (sp_txt c)) (hc : sp_ok c) (hx : bxAt w x m U V fo) (hm7 : 7 ≤ m) (hm60 : m ≤ 60) (hxy : x + 303 ≤ y) (hp : p.length + 12 ≤ 222) (hL : 0 < c.1.length) : gx_Ct M_Way_passShorter 4 0 0 [.ref y, .ref x] w (gx_eq none (gx_st (gx_st w (y + 1) (gx_bx 1 222 (p ++ sp_p1 (m - 7) c))) (y + 3) (gx_bx 0 10 (sp_txt (sp_h1 c))))) := by
  refine gx_ct (L := [some (.ref y), some (.ref x), none, none, none, none]) (by decide) (Nat.le_of_ble_eq_true rfl) rfl ?_
  have hsl : sp_len c = c.1.length + 1 + c.2.2.length := rfl
  have htl := sp_txt_len c
  refine gx_bsz hwy.2.2 (fun hlen hcap hsm => ?_)
  have hs3 := sp_gd_lt hc.2.2 0
  have hlst : sp_lst c.1 < 3 := sp_gd_lt hc.1 _
  have hne : ¬ c.1.length = 0 := by omega
  rw [show sp_p1 (m - 7) c = sp_cp c.1.dropLast ++ (m - 7 + sp_lst c.1) :: sp_cp c.2.2 ++ [1] from if_neg hne, show sp_h1 c = (c.1.dropLast, c.2.1, c.2.2) from if_neg hne]
  refine gx_aload_n d_Way_passShorter_0 rfl ?_
  refine gx_get fl_Way_23 d_Way_passShorter_1 hwy.1 rfl ?_
  refine gx_cV1 lk_Way_71 d_Way_passShorter_4 (ct_Word_head hwy.2.2 sp_hd3 (sp_hd1 hc) sp_hd2) (Or.inr ⟨_, _, hwy.2.2⟩) (by omega) rfl rfl (Nat.le_of_ble_eq_true rfl) ?_
  refine gx_istore_n d_Way_passShorter_7 (Nat.le_of_ble_eq_true rfl) rfl ?_
  refine gx_iload_n d_Way_passShorter_8 rfl ?_
  refine gx_if_leN (by omega) (tgt := 16) d_Way_passShorter_9 (by decide) (fun h9 => ?_) (fun h9 => ?_)
  · exact absurd h9 (by omega)
  · refine gx_iconst d_Way_passShorter_12 (nI 1) (by decide) ?_
    refine gx_goto (tgt := 17) d_Way_passShorter_13 (by decide) ?_
    refine gx_istore_n d_Way_passShorter_17 (Nat.le_of_ble_eq_true rfl) rfl ?_
    refine gx_iload_n d_Way_passShorter_18 rfl ?_
    refine gx_if_eqN (by omega) (tgt := 28) d_Way_passShorter_19 (by decide) (fun h19 => ?_) (fun h19 => ?_)
    · exact absurd h19 (by decide)
    · refine gx_iload_n d_Way_passShorter_22 rfl ?_
      refine gx_iconst d_Way_passShorter_23 (nI 1) (by decide) ?_
      refine gx_isubN (by omega) d_Way_passShorter_24 ?_
      refine gx_goto (tgt := 31) d_Way_passShorter_25 (by decide) ?_
      refine gx_istore d_Way_passShorter_31 (Nat.le_of_ble_eq_true rfl) rfl ?_
      refine gx_aload_n d_Way_passShorter_33 rfl ?_
      refine gx_cV1 lk_Way_94 d_Way_passShorter_34 (ct_firstEnding hx hm7) (Or.inl ⟨_, hx.1⟩) (by omega) rfl rfl (Nat.le_of_ble_eq_true rfl) ?_
      refine gx_iload_n d_Way_passShorter_37 rfl ?_
      refine gx_if_eqN (by omega) (tgt := 45) d_Way_passShorter_38 (by decide) (fun h38 => ?_) (fun h38 => ?_)
      · exact absurd h38 (by decide)
      · refine gx_iconst d_Way_passShorter_41 (nI 0) (by decide) ?_
        refine gx_goto (tgt := 46) d_Way_passShorter_42 (by decide) ?_
        refine gx_iaddN d_Way_passShorter_46 ?_
        refine gx_aload_n d_Way_passShorter_47 rfl ?_
        refine gx_get fl_Way_23 d_Way_passShorter_48 hwy.1 rfl ?_
        refine gx_iload d_Way_passShorter_51 rfl ?_
        refine gx_cV1 lk_Way_78 d_Way_passShorter_53 (ct_Word_at (j := c.1.length - 1) hwy.2.2 (by omega)) (Or.inr ⟨_, _, hwy.2.2⟩) (by omega) rfl rfl (Nat.le_of_ble_eq_true rfl) ?_
        refine gx_top (congrArg nI (sp_txt_lo (by omega))) ?_
        refine gx_cS1 lk_Way_82 d_Way_passShorter_56 (ct_symbolOf) (by omega) rfl rfl (Nat.le_of_ble_eq_true rfl) ?_
        refine gx_top (show _ = nI (sp_lst c.1) by rw [pk_sub (by omega), Nat.add_sub_cancel_left]; rfl) ?_
        refine gx_iaddN d_Way_passShorter_59 ?_
        refine gx_istore d_Way_passShorter_60 (Nat.le_of_ble_eq_true rfl) rfl ?_
        refine gx_aload_n d_Way_passShorter_62 rfl ?_
        refine gx_aload_n d_Way_passShorter_63 rfl ?_
        refine gx_get fl_Way_23 d_Way_passShorter_64 hwy.1 rfl ?_
        refine gx_iload_n d_Way_passShorter_67 rfl ?_
        refine gx_iload d_Way_passShorter_68 rfl ?_
        refine gx_min lk_Way_97 (by omega) (Nat.le_of_ble_eq_true rfl) d_Way_passShorter_70 ?_
        refine gx_top ((gx_mnI (by omega) (by omega)).trans (congrArg nI (Nat.min_eq_right (by omega)))) ?_
        refine gx_iload_n d_Way_passShorter_73 rfl ?_
        refine gx_iload d_Way_passShorter_74 rfl ?_
        refine gx_max lk_Way_103 (by omega) (Nat.le_of_ble_eq_true rfl) d_Way_passShorter_76 ?_
        refine gx_top ((gx_mxI (by omega) (by omega)).trans (congrArg nI (Nat.max_eq_left (by omega)))) ?_
        refine gx_iconst d_Way_passShorter_79 (nI 1) (by decide) ?_
        refine gx_iaddN d_Way_passShorter_80 ?_
        refine gx_iload d_Way_passShorter_81 rfl ?_
        refine gx_cV0 lk_Way_90 d_Way_passShorter_83 (ct_pass (a := c.1.length - 1) (e := c.1.length + 1) (q := m - 7 + 0 + sp_lst c.1) hwy hwy.2.2 (by omega) (by omega) (by omega) (by omega) (fun i hi _ => sp_48 hi) (by omega)) (Or.inl ⟨_, hwy.1⟩) (by omega) rfl rfl (Nat.le_of_ble_eq_true rfl) ?_
        rw [sp_takek1, sp_drop1, sp_sy_ds, sp_sy_ds, if_pos (show c.1.length + 1 ≤ (sp_txt c).length by omega), Nat.add_zero]
        have hwy2 := hwy.row (p ++ sp_cp c.1.dropLast ++ (m - 7 + sp_lst c.1) :: sp_cp c.2.2 ++ [1])
        refine gx_aload_n d_Way_passShorter_86 rfl ?_
        refine gx_get fl_Way_23 d_Way_passShorter_87 hwy2.1 rfl ?_
        refine gx_iload d_Way_passShorter_90 rfl ?_
        refine gx_cV0 lk_Way_106 d_Way_passShorter_92 (ct_Word_remove hwy2.2.2 (by omega)) (Or.inr ⟨_, _, hwy2.2.2⟩) (by omega) rfl rfl (Nat.le_of_ble_eq_true rfl) ?_
        refine gx_return rfl d_Way_passShorter_95 ?_
        rw [sp_eraseA hL]
        exact ⟨rfl, by simp [List.append_assoc]⟩
theorem ct_passShorter_B {w : gx_W} {y x m : Nat} {p : List Nat} {c : sp_C} {U V : Nat → List Nat} {fo : Nat → Nat} (hwy : wyAt w y p (sp_txt c)) (hc : sp_ok c) (hx : bxAt w x m U V fo) (hm7 : 7 ≤ m) (hm60 : m ≤ 60) (hxy : x + 303 ≤ y) (hp : p.length + 12 ≤ 222) (hL : c.1.length = 0) (hR : 0 < c.2.2.length) : gx_Ct M_Way_passShorter 4 0 0 [.ref y, .ref x] w (gx_eq none (gx_st (gx_st w (y + 1) (gx_bx 1 222 (p ++ sp_p1 (m - 7) c))) (y + 3) (gx_bx 0 10 (sp_txt (sp_h1 c))))) := by
  refine gx_ct (L := [some (.ref y), some (.ref x), none, none, none, none]) (by decide) (Nat.le_of_ble_eq_true rfl) rfl ?_
  have hsl : sp_len c = c.1.length + 1 + c.2.2.length := rfl
  have htl := sp_txt_len c
  refine gx_bsz hwy.2.2 (fun hlen hcap hsm => ?_)
  have hs3 := sp_gd_lt hc.2.2 0
  have hlst : sp_lst c.1 < 3 := sp_gd_lt hc.1 _
  rw [show sp_p1 (m - 7) c = (m - 7 + 3 + c.2.2.getD 0 0) :: sp_cp c.2.2.tail ++ [1] from if_pos hL, show sp_h1 c = ([], c.2.1, c.2.2.tail) from if_pos hL]
  refine gx_aload_n d_Way_passShorter_0 rfl ?_
  refine gx_get fl_Way_23 d_Way_passShorter_1 hwy.1 rfl ?_
  refine gx_cV1 lk_Way_71 d_Way_passShorter_4 (ct_Word_head hwy.2.2 sp_hd3 (sp_hd1 hc) sp_hd2) (Or.inr ⟨_, _, hwy.2.2⟩) (by omega) rfl rfl (Nat.le_of_ble_eq_true rfl) ?_
  refine gx_istore_n d_Way_passShorter_7 (Nat.le_of_ble_eq_true rfl) rfl ?_
  refine gx_iload_n d_Way_passShorter_8 rfl ?_
  refine gx_if_leN (by omega) (tgt := 16) d_Way_passShorter_9 (by decide) (fun h9 => ?_) (fun h9 => ?_)
  · refine gx_iconst d_Way_passShorter_16 (nI 0) (by decide) ?_
    refine gx_istore_n d_Way_passShorter_17 (Nat.le_of_ble_eq_true rfl) rfl ?_
    refine gx_iload_n d_Way_passShorter_18 rfl ?_
    refine gx_if_eqN (by omega) (tgt := 28) d_Way_passShorter_19 (by decide) (fun h19 => ?_) (fun h19 => ?_)
    · refine gx_iload_n d_Way_passShorter_28 rfl ?_
      refine gx_iconst d_Way_passShorter_29 (nI 1) (by decide) ?_
      refine gx_iaddN d_Way_passShorter_30 ?_
      refine gx_istore d_Way_passShorter_31 (Nat.le_of_ble_eq_true rfl) rfl ?_
      refine gx_aload_n d_Way_passShorter_33 rfl ?_
      refine gx_cV1 lk_Way_94 d_Way_passShorter_34 (ct_firstEnding hx hm7) (Or.inl ⟨_, hx.1⟩) (by omega) rfl rfl (Nat.le_of_ble_eq_true rfl) ?_
      refine gx_iload_n d_Way_passShorter_37 rfl ?_
      refine gx_if_eqN (by omega) (tgt := 45) d_Way_passShorter_38 (by decide) (fun h38 => ?_) (fun h38 => ?_)
      · refine gx_iconst d_Way_passShorter_45 (nI 3) (by decide) ?_
        refine gx_iaddN d_Way_passShorter_46 ?_
        refine gx_aload_n d_Way_passShorter_47 rfl ?_
        refine gx_get fl_Way_23 d_Way_passShorter_48 hwy.1 rfl ?_
        refine gx_iload d_Way_passShorter_51 rfl ?_
        refine gx_cV1 lk_Way_78 d_Way_passShorter_53 (ct_Word_at (j := c.1.length + 1) hwy.2.2 (by omega)) (Or.inr ⟨_, _, hwy.2.2⟩) (by omega) rfl rfl (Nat.le_of_ble_eq_true rfl) ?_
        refine gx_top (congrArg nI (sp_txt_hi (i := 0) (by omega))) ?_
        refine gx_cS1 lk_Way_82 d_Way_passShorter_56 (ct_symbolOf) (by omega) rfl rfl (Nat.le_of_ble_eq_true rfl) ?_
        refine gx_top (show _ = nI (c.2.2.getD 0 0) by rw [pk_sub (by omega), Nat.add_sub_cancel_left]) ?_
        refine gx_iaddN d_Way_passShorter_59 ?_
        refine gx_istore d_Way_passShorter_60 (Nat.le_of_ble_eq_true rfl) rfl ?_
        refine gx_aload_n d_Way_passShorter_62 rfl ?_
        refine gx_aload_n d_Way_passShorter_63 rfl ?_
        refine gx_get fl_Way_23 d_Way_passShorter_64 hwy.1 rfl ?_
        refine gx_iload_n d_Way_passShorter_67 rfl ?_
        refine gx_iload d_Way_passShorter_68 rfl ?_
        refine gx_min lk_Way_97 (by omega) (Nat.le_of_ble_eq_true rfl) d_Way_passShorter_70 ?_
        refine gx_top ((gx_mnI (by omega) (by omega)).trans (congrArg nI (Nat.min_eq_left (by omega)))) ?_
        refine gx_iload_n d_Way_passShorter_73 rfl ?_
        refine gx_iload d_Way_passShorter_74 rfl ?_
        refine gx_max lk_Way_103 (by omega) (Nat.le_of_ble_eq_true rfl) d_Way_passShorter_76 ?_
        refine gx_top ((gx_mxI (by omega) (by omega)).trans (congrArg nI (Nat.max_eq_right (by omega)))) ?_
        refine gx_iconst d_Way_passShorter_79 (nI 1) (by decide) ?_
        refine gx_iaddN d_Way_passShorter_80 ?_
        refine gx_iload d_Way_passShorter_81 rfl ?_
        refine gx_cV0 lk_Way_90 d_Way_passShorter_83 (ct_pass (a := c.1.length) (e := c.1.length + 1 + 1) (q := m - 7 + 3 + c.2.2.getD 0 0) hwy hwy.2.2 (by omega) (by omega) (by omega) (by omega) (fun i hi _ => sp_48 hi) (by omega)) (Or.inl ⟨_, hwy.1⟩) (by omega) rfl rfl (Nat.le_of_ble_eq_true rfl) ?_
        rw [sp_takek, show c.1.length + 1 + 1 = c.1.length + 2 from rfl, sp_dropk, sp_sy_ds, sp_sy_ds, if_pos (show c.1.length + 2 ≤ (sp_txt c).length by omega), show sp_cp c.1 = [] by rw [List.length_eq_zero_iff.mp hL]; rfl, List.append_nil]
        have hwy2 := hwy.row (p ++ (m - 7 + 3 + c.2.2.getD 0 0) :: sp_cp c.2.2.tail ++ [1])
        refine gx_aload_n d_Way_passShorter_86 rfl ?_
        refine gx_get fl_Way_23 d_Way_passShorter_87 hwy2.1 rfl ?_
        refine gx_iload d_Way_passShorter_90 rfl ?_
        refine gx_cV0 lk_Way_106 d_Way_passShorter_92 (ct_Word_remove hwy2.2.2 (by omega)) (Or.inr ⟨_, _, hwy2.2.2⟩) (by omega) rfl rfl (Nat.le_of_ble_eq_true rfl) ?_
        refine gx_return rfl d_Way_passShorter_95 ?_
        rw [show c.1.length + 1 = 1 by omega, sp_eraseB hL]
        exact ⟨rfl, by simp [List.append_assoc]⟩
      · exact absurd rfl h38
    · exact absurd rfl h19
  · exact absurd h9 (by omega)
theorem ct_passShorter {w : gx_W} {y x m : Nat} {p : List Nat} {c : sp_C} {U V : Nat → List Nat} {fo : Nat → Nat} (hwy : wyAt w y p (sp_txt c)) (hc : sp_ok c) (hx : bxAt w x m U V fo) (hm7 : 7 ≤ m) (hm60 : m ≤ 60) (hxy : x + 303 ≤ y) (hp : p.length + 12 ≤ 222) (hn : 0 < c.1.length + c.2.2.length) : gx_Ct M_Way_passShorter 4 0 0 [.ref y, .ref x] w (gx_eq none (gx_st (gx_st w (y + 1) (gx_bx 1 222 (p ++ sp_p1 (m - 7) c))) (y + 3) (gx_bx 0 10 (sp_txt (sp_h1 c))))) := by
  by_cases hL : c.1.length = 0
  · exact ct_passShorter_B hwy hc hx hm7 hm60 hxy hp hL (by omega)
  · exact ct_passShorter_A hwy hc hx hm7 hm60 hxy hp (by omega)
theorem sp_ws_len {M : sp_M} {c : sp_C} (h : sp_step M c ≠ none) : (sp_ws M c).length ≤ sp_len c := by
  unfold sp_ws
  cases hr : sp_rl M c with
  | none => simp
  | some r =>
    have htl : c.2.2.tail.length = c.2.2.length - 1 := List.length_tail
    by_cases e : sp_rt M r = 1
    · simp only [if_pos e, sp_cp, sp_len]
      by_cases e2 : c.2.2.length = 0
      · simp [e2] <;> omega
      · simp [e2] <;> omega
    · have hne : ¬ c.1.length = 0 := fun e2 => h (by unfold sp_step; rw [hr]; simp only [if_neg e, if_pos e2])
      simp only [if_neg e, sp_cp, sp_len]
      by_cases e2 : c.2.2.length = 0
      · simp [e2] <;> omega
      · simp [e2] <;> omega
theorem sp_run_ne (M : sp_M) (n : Nat) (c : sp_C) : sp_run M n c ≠ [] := by
  cases n with
  | zero => simp [sp_run]
  | succ n =>
    rw [sp_run]
    cases sp_step M c with
    | none => simp
    | some c' => simp only; split <;> simp
theorem sp_run_len (M : sp_M) : ∀ (n : Nat) (c : sp_C), (sp_run M n c).length ≤ n + 1
  | 0, c => by simp [sp_run]
  | n + 1, c => by
    rw [sp_run]
    cases sp_step M c with
    | none => simp
    | some c' =>
      simp only
      split
      · have := sp_run_len M n c'
        simp; omega
      · simp
theorem sp_run_ok {M : sp_M} (hM : sp_Mok M) : ∀ (n : Nat) (c : sp_C), sp_ok c → sp_len c ≤ 10 → ∀ k, k ∈ sp_run M n c → sp_ok k ∧ sp_len k ≤ 10
  | 0, c, hc, hl, k, hk => by
    rw [sp_run] at hk
    rw [List.mem_singleton.mp hk]; exact ⟨hc, hl⟩
  | n + 1, c, hc, hl, k, hk => by
    rw [sp_run] at hk
    cases hs : sp_step M c with
    | none =>
      rw [hs] at hk
      rw [List.mem_singleton.mp hk]; exact ⟨hc, hl⟩
    | some c' =>
      rw [hs] at hk
      simp only at hk
      by_cases h : sp_len c' ≤ 10
      · rw [if_pos h] at hk
        rcases List.mem_cons.mp hk with h1 | h1
        · rw [h1]; exact ⟨hc, hl⟩
        · exact sp_run_ok hM n c' (sp_step_ok hM hc hs) h k h1
      · rw [if_neg h] at hk
        rw [List.mem_singleton.mp hk]; exact ⟨hc, hl⟩
theorem sp_run_hd (M : sp_M) (n : Nat) (c d : sp_C) : (sp_run M n c).getD 0 d = c := by
  cases n with
  | zero => rfl
  | succ n =>
    rw [sp_run]
    cases sp_step M c with
    | none => rfl
    | some c' => simp only; split <;> rfl
theorem sp_run_step {M : sp_M} (d : sp_C) : ∀ (n : Nat) (c : sp_C) (i : Nat), i + 1 < (sp_run M n c).length → sp_step M ((sp_run M n c).getD i d) = some ((sp_run M n c).getD (i + 1) d)
  | 0, c, i, h => by simp [sp_run] at h
  | n + 1, c, i, h => by
    rw [sp_run] at h ⊢
    cases hs : sp_step M c with
    | none => rw [hs] at h; simp at h
    | some c' =>
      rw [hs] at h
      simp only at h ⊢
      by_cases h1 : sp_len c' ≤ 10
      · rw [if_pos h1] at h ⊢
        cases i with
        | zero =>
          show sp_step M c = some ((sp_run M n c').getD 0 d)
          rw [sp_run_hd, hs]
        | succ i =>
          show sp_step M ((sp_run M n c').getD i d) = some ((sp_run M n c').getD (i + 1) d)
          exact sp_run_step d n c' i (by simpa using h)
      · rw [if_neg h1] at h
        simp at h
theorem sp_step_rls {M : sp_M} {c c' : sp_C} (h : sp_step M c = some c') : ∃ r, sp_rl M c = some r := by
  obtain ⟨r, hr, -⟩ := sp_step_rl h
  exact ⟨r, hr⟩
theorem gx_tk_snoc {l : List sp_C} {k : Nat} {d : sp_C} (h : k < l.length) : l.take (k + 1) = l.take k ++ [l.getD k d] := by
  rw [List.take_succ, List.getD_eq_getElem?_getD, List.getElem?_eq_getElem h]
  rfl
theorem gx_gdc_mem {l : List sp_C} {k : Nat} {d : sp_C} (h : k < l.length) : l.getD k d ∈ l := by
  rw [List.getD_eq_getElem?_getD, List.getElem?_eq_getElem h]
  exact List.getElem_mem h
theorem d_Way_trace_0 : decode prog_8_method_3_code 0 = .ok (.aload_n 0, 1) := by decide +kernel
theorem d_Way_trace_1 : decode prog_8_method_3_code 1 = .ok (.getfield 14, 3) := by decide +kernel
theorem d_Way_trace_4 : decode prog_8_method_3_code 4 = .ok (.invokevirtual 27, 3) := by decide +kernel
theorem d_Way_trace_7 : decode prog_8_method_3_code 7 = .ok (.aload_n 2, 1) := by decide +kernel
theorem d_Way_trace_8 : decode prog_8_method_3_code 8 = .ok (.invokevirtual 30, 3) := by decide +kernel
theorem d_Way_trace_11 : decode prog_8_method_3_code 11 = .ok (.ifCond .ne 4, 3) := by decide +kernel
theorem d_Way_trace_14 : decode prog_8_method_3_code 14 = .ok (.return_, 1) := by decide +kernel
theorem d_Way_trace_15 : decode prog_8_method_3_code 15 = .ok (.aload_n 0, 1) := by decide +kernel
theorem d_Way_trace_16 : decode prog_8_method_3_code 16 = .ok (.getfield 14, 3) := by decide +kernel
theorem d_Way_trace_19 : decode prog_8_method_3_code 19 = .ok (.iconst 0, 1) := by decide +kernel
theorem d_Way_trace_20 : decode prog_8_method_3_code 20 = .ok (.invokevirtual 36, 3) := by decide +kernel
theorem d_Way_trace_23 : decode prog_8_method_3_code 23 = .ok (.iconst 0, 1) := by decide +kernel
theorem d_Way_trace_24 : decode prog_8_method_3_code 24 = .ok (.istore 4, 2) := by decide +kernel
theorem d_Way_trace_26 : decode prog_8_method_3_code 26 = .ok (.iload 4, 2) := by decide +kernel
theorem d_Way_trace_28 : decode prog_8_method_3_code 28 = .ok (.aload_n 2, 1) := by decide +kernel
theorem d_Way_trace_29 : decode prog_8_method_3_code 29 = .ok (.invokevirtual 39, 3) := by decide +kernel
theorem d_Way_trace_32 : decode prog_8_method_3_code 32 = .ok (.if_icmp .ge 21, 3) := by decide +kernel
theorem d_Way_trace_35 : decode prog_8_method_3_code 35 = .ok (.aload_n 0, 1) := by decide +kernel
theorem d_Way_trace_36 : decode prog_8_method_3_code 36 = .ok (.aload_n 1, 1) := by decide +kernel
theorem d_Way_trace_37 : decode prog_8_method_3_code 37 = .ok (.aload_n 2, 1) := by decide +kernel
theorem d_Way_trace_38 : decode prog_8_method_3_code 38 = .ok (.iload 4, 2) := by decide +kernel
theorem d_Way_trace_40 : decode prog_8_method_3_code 40 = .ok (.invokevirtual 43, 3) := by decide +kernel
theorem d_Way_trace_43 : decode prog_8_method_3_code 43 = .ok (.aload_n 3, 1) := by decide +kernel
theorem d_Way_trace_44 : decode prog_8_method_3_code 44 = .ok (.invokevirtual 47, 3) := by decide +kernel
theorem d_Way_trace_47 : decode prog_8_method_3_code 47 = .ok (.iinc 4 1, 3) := by decide +kernel
theorem d_Way_trace_50 : decode prog_8_method_3_code 50 = .ok (.goto (-24), 3) := by decide +kernel
theorem d_Way_trace_53 : decode prog_8_method_3_code 53 = .ok (.aload_n 0, 1) := by decide +kernel
theorem d_Way_trace_54 : decode prog_8_method_3_code 54 = .ok (.getfield 23, 3) := by decide +kernel
theorem d_Way_trace_57 : decode prog_8_method_3_code 57 = .ok (.aload_n 2, 1) := by decide +kernel
theorem d_Way_trace_58 : decode prog_8_method_3_code 58 = .ok (.aload_n 2, 1) := by decide +kernel
theorem d_Way_trace_59 : decode prog_8_method_3_code 59 = .ok (.invokevirtual 39, 3) := by decide +kernel
theorem d_Way_trace_62 : decode prog_8_method_3_code 62 = .ok (.invokevirtual 43, 3) := by decide +kernel
theorem d_Way_trace_65 : decode prog_8_method_3_code 65 = .ok (.invokevirtual 51, 3) := by decide +kernel
theorem d_Way_trace_68 : decode prog_8_method_3_code 68 = .ok (.aload_n 0, 1) := by decide +kernel
theorem d_Way_trace_69 : decode prog_8_method_3_code 69 = .ok (.getfield 23, 3) := by decide +kernel
theorem d_Way_trace_72 : decode prog_8_method_3_code 72 = .ok (.invokevirtual 55, 3) := by decide +kernel
theorem d_Way_trace_75 : decode prog_8_method_3_code 75 = .ok (.istore 4, 2) := by decide +kernel
theorem d_Way_trace_77 : decode prog_8_method_3_code 77 = .ok (.iload 4, 2) := by decide +kernel
theorem d_Way_trace_79 : decode prog_8_method_3_code 79 = .ok (.iconst 1, 1) := by decide +kernel
theorem d_Way_trace_80 : decode prog_8_method_3_code 80 = .ok (.if_icmp .le 14, 3) := by decide +kernel
theorem d_Way_trace_83 : decode prog_8_method_3_code 83 = .ok (.aload_n 0, 1) := by decide +kernel
theorem d_Way_trace_84 : decode prog_8_method_3_code 84 = .ok (.aload_n 3, 1) := by decide +kernel
theorem d_Way_trace_85 : decode prog_8_method_3_code 85 = .ok (.invokevirtual 58, 3) := by decide +kernel
theorem d_Way_trace_88 : decode prog_8_method_3_code 88 = .ok (.iinc 4 (-1), 3) := by decide +kernel
theorem d_Way_trace_91 : decode prog_8_method_3_code 91 = .ok (.goto (-14), 3) := by decide +kernel
theorem d_Way_trace_94 : decode prog_8_method_3_code 94 = .ok (.aload_n 0, 1) := by decide +kernel
theorem d_Way_trace_95 : decode prog_8_method_3_code 95 = .ok (.getfield 14, 3) := by decide +kernel
theorem d_Way_trace_98 : decode prog_8_method_3_code 98 = .ok (.aload_n 3, 1) := by decide +kernel
theorem d_Way_trace_99 : decode prog_8_method_3_code 99 = .ok (.invokevirtual 62, 3) := by decide +kernel
theorem d_Way_trace_102 : decode prog_8_method_3_code 102 = .ok (.iconst 1, 1) := by decide +kernel
theorem d_Way_trace_103 : decode prog_8_method_3_code 103 = .ok (.isub, 1) := by decide +kernel
theorem d_Way_trace_104 : decode prog_8_method_3_code 104 = .ok (.invokevirtual 36, 3) := by decide +kernel
theorem d_Way_trace_107 : decode prog_8_method_3_code 107 = .ok (.return_, 1) := by decide +kernel
theorem lp_trace1 {Q : gx_P} {w0 : gx_W} {a r x y : Nat} {M : sp_M} {t : List Nat} {rs : List sp_C} {ds : List (List Nat × List Nat)} {fo : Nat → Nat} {c0 : sp_C} (hm : mcAt w0 a M t) (hM : sp_Mok M) (hr : rnOk w0 r rs) (hrs : rs = sp_run M 12 c0) (hc0 : sp_ok c0) (hl0 : sp_len c0 ≤ 10) (hb : bxOk w0 x ds fo) (hfo : ∀ i, i < 12 → fo i = sp_fo M i) (hd7 : 7 ≤ ds.length) (ha : a + 7 ≤ r) (hrx : r + 28 ≤ x) (hxy : x + 303 ≤ y)  : ∀ (fu : Nat) (k : Nat) (p : List Nat) (w : gx_W) (tr : List Nat), rs.length - k < fu → (gx_kp w0 w y (y + 5)) → (wyAt w y p tr) → (p = 0 :: (rs.take k).flatMap (sp_ws M)) → (p.length ≤ 1 + 10 * k) → (k ≤ rs.length - 1) → (∀ w' p', gx_kp w0 w' y (y + 5) → wyAt w' y p' tr → p' = 0 :: (rs.take (rs.length - 1)).flatMap (sp_ws M) → p'.length ≤ 1 + 10 * (rs.length - 1) → gx_X (fun _ _ => True) M_Way_trace 5 Q 53 [some (.ref y), some (.ref a), some (.ref r), some (.ref x), some (.int (nI (rs.length - 1)))] [] w' (0, 0)) → gx_X (fun _ _ => True) M_Way_trace 5 Q 26 [some (.ref y), some (.ref a), some (.ref r), some (.ref x), some (.int (nI k))] [] w (0, 0) := by
  intro fu
  induction fu with
  | zero => intro k p w tr hfu; exact absurd hfu (Nat.not_lt_zero _)
  | succ fu ih =>
    intro k p w tr hfu hk hwy hp hpl hkn hX
    obtain ⟨hne, h13, T, hr1, hT⟩ := hr.kept hk (by omega)
    obtain ⟨hd60, U, V, hb1, hd⟩ := hb.kept hk (by omega)
    have hm1 := hm.kept hk (by omega)
    have hpos : 0 < rs.length := List.length_pos_iff.mpr hne
    refine gx_iload d_Way_trace_26 rfl ?_
    refine gx_aload_n d_Way_trace_28 rfl ?_
    refine gx_cV1 lk_Way_39 d_Way_trace_29 (ct_stepCount hr1) (Or.inl ⟨_, hr1.1⟩) (by omega) rfl rfl (Nat.le_of_ble_eq_true rfl) ?_
    refine gx_icmp_geN (by omega) (by omega) (tgt := 53) d_Way_trace_32 (by decide) (fun h32 => ?_) (fun h32 => ?_)
    · have e : k = rs.length - 1 := by omega
      rw [e] at hp hpl ⊢
      exact hX w p hk hwy hp hpl
    · refine gx_aload_n d_Way_trace_35 rfl ?_
      refine gx_aload_n d_Way_trace_36 rfl ?_
      refine gx_aload_n d_Way_trace_37 rfl ?_
      refine gx_iload d_Way_trace_38 rfl ?_
      refine gx_cV1 lk_Way_43 d_Way_trace_40 (ct_text hr1 hkn (by omega)) (Or.inl ⟨_, hr1.1⟩) (by omega) rfl rfl (Nat.le_of_ble_eq_true rfl) ?_
      refine gx_aload_n d_Way_trace_43 rfl ?_
      have hkl : k + 1 < rs.length := by omega
      have hmem := gx_gdc_mem (d := ([], 0, [])) (show k < rs.length by omega)
      have hok : sp_ok (rs.getD k ([], 0, [])) ∧ sp_len (rs.getD k ([], 0, [])) ≤ 10 := by
        rw [hrs] at hmem ⊢
        exact sp_run_ok hM 12 c0 hc0 hl0 _ hmem
      have hstep : sp_step M (rs.getD k ([], 0, [])) = some (rs.getD (k + 1) ([], 0, [])) := by
        rw [hrs] at hkl ⊢
        exact sp_run_step _ 12 c0 k hkl
      obtain ⟨r9, hr9⟩ := sp_step_rls hstep
      have hwt : w.1 (r + 2 + 2 * k) = some (gx_bx 0 11 (sp_txt (rs.getD k ([], 0, [])))) := by rw [hr1.2.2 k (by omega), hT k (by omega)]
      have hwl := sp_ws_len (M := M) (c := rs.getD k ([], 0, [])) (by rw [hstep]; exact fun h => by cases h)
      refine gx_cV0 lk_Way_47 d_Way_trace_44 (ct_passStep hwy hm1 hM hwt hok.1 hok.2 hb1 hfo (by omega) hr9 (by omega) (by rw [hstep]; exact fun h => by cases h)) (Or.inl ⟨_, hwy.1⟩) (by omega) rfl rfl (Nat.le_of_ble_eq_true rfl) ?_
      refine gx_iincN (n := 1) d_Way_trace_47 rfl (by decide) (Nat.le_of_ble_eq_true rfl) rfl ?_
      refine gx_goto (tgt := 26) d_Way_trace_50 (by decide) ?_
      refine ih (k + 1) _ _ tr (by omega) (hk.trans (gx_kp.st (by omega) (by omega))) (hwy.row _) ?_ ?_ (by omega) hX
      · rw [hp, gx_tk_snoc (d := ([], 0, [])) (by omega), List.flatMap_append]
        simp
      · rw [List.length_append]; omega
theorem lp_trace2 {Q : gx_P} {w0 : gx_W} {a r x y : Nat} {M : sp_M} {t : List Nat} {rs : List sp_C} {ds : List (List Nat × List Nat)} {fo : Nat → Nat} {c0 : sp_C} (hm : mcAt w0 a M t) (hM : sp_Mok M) (hr : rnOk w0 r rs) (hrs : rs = sp_run M 12 c0) (hc0 : sp_ok c0) (hl0 : sp_len c0 ≤ 10) (hb : bxOk w0 x ds fo) (hfo : ∀ i, i < 12 → fo i = sp_fo M i) (hd7 : 7 ≤ ds.length) (ha : a + 7 ≤ r) (hrx : r + 28 ≤ x) (hxy : x + 303 ≤ y)  : ∀ (fu : Nat) (n : Nat) (c : sp_C) (p : List Nat) (w : gx_W), n < fu → (gx_kp w0 w y (y + 5)) → (wyAt w y p (sp_txt c)) → (sp_ok c) → (c.1.length + c.2.2.length = n) → (n ≤ 9) → (p.length + 11 * n ≤ 221) → (∀ w' t', gx_kp w0 w' y (y + 5) → wyAt w' y (p ++ sp_hw (ds.length - 7) n c.1 c.2.2) t' → gx_X (fun _ _ => True) M_Way_trace 5 Q 94 [some (.ref y), some (.ref a), some (.ref r), some (.ref x), some (.int (nI 1))] [] w' (0, 0)) → gx_X (fun _ _ => True) M_Way_trace 5 Q 77 [some (.ref y), some (.ref a), some (.ref r), some (.ref x), some (.int (nI (n + 1)))] [] w (0, 0) := by
  intro fu
  induction fu with
  | zero => intro n c p w hfu; exact absurd hfu (Nat.not_lt_zero _)
  | succ fu ih =>
    intro n c p w hfu hk hwy hc hn hn9 hpl hX
    obtain ⟨hne, h13, T, hr1, hT⟩ := hr.kept hk (by omega)
    obtain ⟨hd60, U, V, hb1, hd⟩ := hb.kept hk (by omega)
    have hm1 := hm.kept hk (by omega)
    have hpos : 0 < rs.length := List.length_pos_iff.mpr hne
    refine gx_iload d_Way_trace_77 rfl ?_
    refine gx_iconst d_Way_trace_79 (nI 1) (by decide) ?_
    refine gx_icmp_leN (by omega) (by omega) (tgt := 94) d_Way_trace_80 (by decide) (fun h80 => ?_) (fun h80 => ?_)
    · have e : n = 0 := by omega
      subst e
      exact hX w _ hk (by simpa [sp_hw] using hwy)
    · obtain ⟨n2, rfl⟩ : ∃ n2, n = n2 + 1 := ⟨n - 1, by omega⟩
      have hp1 := sp_p1_len (e := ds.length - 7) (c := c)
      refine gx_aload_n d_Way_trace_83 rfl ?_
      refine gx_aload_n d_Way_trace_84 rfl ?_
      refine gx_cV0 lk_Way_58 d_Way_trace_85 (ct_passShorter hwy hc hb1 hd7 hd60 hxy (by omega) (by omega)) (Or.inl ⟨_, hwy.1⟩) (by omega) rfl rfl (Nat.le_of_ble_eq_true rfl) ?_
      refine gx_iincM d_Way_trace_88 rfl (by decide) (Nat.le_of_ble_eq_true rfl) rfl ?_
      refine gx_goto (tgt := 77) d_Way_trace_91 (by decide) ?_
      refine ih n2 (sp_h1 c) (p ++ sp_p1 (ds.length - 7) c) _ (by omega) ((hk.trans (gx_kp.st (by omega) (by omega))).trans (gx_kp.st (by omega) (by omega))) ((hwy.row _).rest _) (sp_h1_ok hc) (sp_h1_n hn) (by omega) (by rw [List.length_append]; omega) (fun w' t' h1 h2 => hX w' t' h1 ?_)
      rw [sp_hw_succ, ← List.append_assoc]
      exact h2
def sp_wy (M : sp_M) (rs : List sp_C) (n : Nat) : List Nat := 0 :: (rs.take (rs.length - 1)).flatMap (sp_ws M) ++ sp_hw (n - 7) ((rs.getD (rs.length - 1) ([], 0, [])).1.length + (rs.getD (rs.length - 1) ([], 0, [])).2.2.length) (rs.getD (rs.length - 1) ([], 0, [])).1 (rs.getD (rs.length - 1) ([], 0, [])).2.2 ++ [n - 1]
theorem sp_hw_len (e : Nat) : ∀ (n : Nat) (c : sp_C), c.1.length + c.2.2.length = n → (sp_hw e n c.1 c.2.2).length ≤ n * (n + 2)
  | 0, c, _ => by simp [sp_hw]
  | n + 1, c, h => by
    rw [sp_hw_succ, List.length_append]
    have h1 := sp_p1_len (e := e) (c := c)
    have h2 := sp_hw_len e n (sp_h1 c) (sp_h1_n h)
    have h3 : n * (n + 2) ≤ n * (n + 1 + 2) := Nat.mul_le_mul_left n (by omega)
    have h4 : (n + 1) * (n + 1 + 2) = n * (n + 1 + 2) + (n + 1 + 2) := by rw [Nat.succ_mul]
    omega
theorem ct_trace {w : gx_W} {a r x y : Nat} {M : sp_M} {t : List Nat} {rs : List sp_C} {ds : List (List Nat × List Nat)} {fo : Nat → Nat} {c0 : sp_C} (hm : mcAt w a M t) (hM : sp_Mok M) (hr : rnOk w r rs) (hrs : rs = sp_run M 12 c0) (hc0 : sp_ok c0) (hl0 : sp_len c0 ≤ 10) {p0 tr : List Nat} {c : sp_C} (hwy : wyAt w y p0 tr) (hlast : rs.getD (rs.length - 1) ([], 0, []) = c) (hb : bxOk w x ds fo) (hfo : ∀ i, i < 12 → fo i = sp_fo M i) (hd7 : 7 ≤ ds.length) (ha : a + 7 ≤ r) (hrx : r + 28 ≤ x) (hxy : x + 303 ≤ y)  : gx_Ct M_Way_trace 5 0 0 [.ref y, .ref a, .ref r, .ref x] w (fun v w' => v = none ∧ gx_kp w w' y (y + 5) ∧ ∃ t', wyAt w' y (if c.2.1 = 4 then sp_wy M rs ds.length else []) t') := by
  refine gx_ct (L := [some (.ref y), some (.ref a), some (.ref r), some (.ref x), none]) (by decide) (Nat.le_of_ble_eq_true rfl) rfl ?_
  have hr0 := hr
  have hb0 := hb
  obtain ⟨hne, h13, T, hr1, hT⟩ := hr
  obtain ⟨hd60, U, V, hb1, hd⟩ := hb
  have hpos : 0 < rs.length := List.length_pos_iff.mpr hne
  have hcok : sp_ok c ∧ sp_len c ≤ 10 := by
    have hmem := gx_gdc_mem (d := ([], 0, [])) (show rs.length - 1 < rs.length by omega)
    rw [hlast] at hmem
    rw [hrs] at hmem
    exact sp_run_ok hM 12 c0 hc0 hl0 _ hmem
  have hbt := Bool.toNat_le (decide (c.2.1 = 4))
  refine gx_aload_n d_Way_trace_0 rfl ?_
  refine gx_get fl_Way_14 d_Way_trace_1 hwy.1 rfl ?_
  refine gx_cV0 lk_Way_27 d_Way_trace_4 (ct_Row_empty hwy.2.1) (Or.inr ⟨_, _, hwy.2.1⟩) (by omega) rfl rfl (Nat.le_of_ble_eq_true rfl) ?_
  have k1 : gx_kp w (gx_st w (y + 1) (gx_bx 1 222 [])) y (y + 5) := gx_kp.st (by omega) (by omega)
  have hwy1 := hwy.row []
  have hr2 := hr0.kept k1 (by omega)
  refine gx_aload_n d_Way_trace_7 rfl ?_
  refine gx_cV1 lk_Way_30 d_Way_trace_8 (ct_isHalted hr2 hcok.1 hlast) (Or.inl ⟨_, (hr1.kept k1 (by omega)).1⟩) (by omega) rfl rfl (Nat.le_of_ble_eq_true rfl) ?_
  refine gx_if_neN (by omega) (tgt := 15) d_Way_trace_11 (by decide) (fun h11 => ?_) (fun h11 => ?_)
  · have hh : c.2.1 = 4 := by cases hq : decide (c.2.1 = 4) <;> simp_all
    rw [if_pos hh]
    refine gx_aload_n d_Way_trace_15 rfl ?_
    refine gx_get fl_Way_14 d_Way_trace_16 hwy1.1 rfl ?_
    refine gx_iconst d_Way_trace_19 (nI 0) (by decide) ?_
    refine gx_cV0 lk_Way_36 d_Way_trace_20 (ct_Row_add (c := 0) hwy1.2.1 (by omega) (by simp)) (Or.inr ⟨_, _, hwy1.2.1⟩) (by omega) rfl rfl (Nat.le_of_ble_eq_true rfl) ?_
    refine gx_iconst d_Way_trace_23 (nI 0) (by decide) ?_
    refine gx_istore d_Way_trace_24 (Nat.le_of_ble_eq_true rfl) rfl ?_
    have k2 := k1.trans (gx_kp.st (w := gx_st w (y + 1) (gx_bx 1 222 [])) (a := y + 1) (x := gx_bx 1 222 ([] ++ [0])) (show y ≤ y + 1 by omega) (show y + 1 < y + 5 by omega))
    refine lp_trace1 hm hM hr0 hrs hc0 hl0 hb0 hfo hd7 ha hrx hxy (rs.length + 1) 0 ([] ++ [0]) _ tr (by omega) k2 (hwy1.row _) (by simp) (by simp) (by omega) (fun w3 p3 k3 hwy3 hp3 hl3 => ?_)
    have hr3 := hr0.kept k3 (by omega)
    obtain ⟨-, -, T3, hr4, hT3⟩ := hr3
    have hw3 : w3.1 (r + 2 + 2 * (rs.length - 1)) = some (gx_bx 0 11 (sp_txt c)) := by rw [hr4.2.2 _ (by omega), hT3 _ (by omega), hlast]
    refine gx_aload_n d_Way_trace_53 rfl ?_
    refine gx_get fl_Way_23 d_Way_trace_54 hwy3.1 rfl ?_
    refine gx_aload_n d_Way_trace_57 rfl ?_
    refine gx_aload_n d_Way_trace_58 rfl ?_
    refine gx_cV1 lk_Way_39 d_Way_trace_59 (ct_stepCount hr4) (Or.inl ⟨_, hr4.1⟩) (by omega) rfl rfl (Nat.le_of_ble_eq_true rfl) ?_
    refine gx_cV1 lk_Way_43 d_Way_trace_62 (ct_text hr4 (Nat.le_refl _) (by omega)) (Or.inl ⟨_, hr4.1⟩) (by omega) rfl rfl (Nat.le_of_ble_eq_true rfl) ?_
    refine gx_cV0 lk_Way_51 d_Way_trace_65 (ct_Word_copy hwy3.2.2 hw3 (by omega) (by rw [sp_txt_len]; exact hcok.2)) (Or.inr ⟨_, _, hwy3.2.2⟩) (by omega) rfl rfl (Nat.le_of_ble_eq_true rfl) ?_
    have hwy4 := hwy3.rest (sp_txt c)
    have k4 := k3.trans (gx_kp.st (w := w3) (a := y + 3) (x := gx_bx 0 10 (sp_txt c)) (show y ≤ y + 3 by omega) (show y + 3 < y + 5 by omega))
    refine gx_aload_n d_Way_trace_68 rfl ?_
    refine gx_get fl_Way_23 d_Way_trace_69 hwy4.1 rfl ?_
    refine gx_cV1 lk_Way_55 d_Way_trace_72 (ct_Word_size hwy4.2.2) (Or.inr ⟨_, _, hwy4.2.2⟩) (by omega) rfl rfl (Nat.le_of_ble_eq_true rfl) ?_
    have hsl : sp_len c = c.1.length + 1 + c.2.2.length := rfl
    refine gx_top (congrArg nI (show _ = c.1.length + c.2.2.length + 1 by rw [sp_txt_len]; omega)) ?_
    refine gx_istore d_Way_trace_75 (Nat.le_of_ble_eq_true rfl) rfl ?_
    have hc10 := hcok.2
    refine lp_trace2 hm hM hr0 hrs hc0 hl0 hb0 hfo hd7 ha hrx hxy (c.1.length + c.2.2.length + 1) (c.1.length + c.2.2.length) c p3 _ (by omega) k4 hwy4 hcok.1 rfl (by omega) (by omega) (fun w5 t5 k5 hwy5 => ?_)
    obtain ⟨-, U5, V5, hb5, -⟩ := hb0.kept k5 (by omega)
    have hln := sp_hw_len (ds.length - 7) (c.1.length + c.2.2.length) c rfl
    have hmm : (c.1.length + c.2.2.length) * (c.1.length + c.2.2.length + 2) ≤ 9 * 11 := Nat.mul_le_mul (by omega) (by omega)
    refine gx_aload_n d_Way_trace_94 rfl ?_
    refine gx_get fl_Way_14 d_Way_trace_95 hwy5.1 rfl ?_
    refine gx_aload_n d_Way_trace_98 rfl ?_
    refine gx_cV1 lk_Way_62 d_Way_trace_99 (ct_Box_size hb5) (Or.inl ⟨_, hb5.1⟩) (by omega) rfl rfl (Nat.le_of_ble_eq_true rfl) ?_
    refine gx_iconst d_Way_trace_102 (nI 1) (by decide) ?_
    refine gx_isubN (by omega) d_Way_trace_103 ?_
    refine gx_cV0 lk_Way_36 d_Way_trace_104 (ct_Row_add hwy5.2.1 (by omega) (by rw [List.length_append]; omega)) (Or.inr ⟨_, _, hwy5.2.1⟩) (by omega) rfl rfl (Nat.le_of_ble_eq_true rfl) ?_
    refine gx_return rfl d_Way_trace_107 ?_
    refine ⟨rfl, k5.trans (gx_kp.st (by omega) (by omega)), t5, ?_⟩
    have h9 := hwy5.row (p3 ++ sp_hw (ds.length - 7) (c.1.length + c.2.2.length) c.1 c.2.2 ++ [ds.length - 1])
    rw [show sp_wy M rs ds.length = p3 ++ sp_hw (ds.length - 7) (c.1.length + c.2.2.length) c.1 c.2.2 ++ [ds.length - 1] by unfold sp_wy; rw [hlast, hp3]]
    exact h9
  · have hh : ¬ c.2.1 = 4 := by cases hq : decide (c.2.1 = 4) <;> simp_all
    rw [if_neg hh]
    refine gx_return rfl d_Way_trace_14 ?_
    exact ⟨rfl, k1, tr, hwy1⟩
end
section
/-! Hunt: its methods -/
/-- a row in the queue: the row it goes on from, its last domino, its size, what its lower word has more -/
abbrev sp_E : Type := Int32 × Nat × Nat × List Nat
def sp_e0 : sp_E := (-1, 0, 0, [])
def hnR (w : gx_W) (z m : Nat) (lk : Int32) (op : List Nat) (f1 f2 f3 f4 f5 : Nat → Int32) : Prop := w.1 z = some (gx_ob 7 [.ref (z + 1), .ref (z + 2), .ref (z + 3), .ref (z + 4), .ref (z + 5), .ref (z + 6), .int (nI m), .int lk]) ∧ w.1 (z + 1) = some (gx_ai 0 401 f1) ∧ w.1 (z + 2) = some (gx_ai 0 401 f2) ∧ w.1 (z + 3) = some (gx_ai 0 401 f3) ∧ w.1 (z + 4) = some (gx_ai 0 401 f4) ∧ w.1 (z + 5) = some (gx_ai 1 4812 f5) ∧ w.1 (z + 6) = some (gx_bx 0 12 op)
def hnF (q : List sp_E) (f1 f2 f3 f4 f5 : Nat → Int32) : Prop := ∀ i, i < q.length → f1 i = (q.getD i sp_e0).1 ∧ f2 i = nI (q.getD i sp_e0).2.1 ∧ f3 i = nI (q.getD i sp_e0).2.2.1 ∧ f4 i = nI (q.getD i sp_e0).2.2.2.length ∧ ∀ j, j < (q.getD i sp_e0).2.2.2.length → j < 12 → f5 (i * 12 + j) = nI ((q.getD i sp_e0).2.2.2.getD j 0)
/-- the hunt's object at z, its arrays from z + 1 on, its open text at z + 6 -/
def hnAt (w : gx_W) (z : Nat) (q : List sp_E) (lk : Int32) (op : List Nat) : Prop := q.length ≤ 401 ∧ ∃ f1 f2 f3 f4 f5, hnR w z q.length lk op f1 f2 f3 f4 f5 ∧ hnF q f1 f2 f3 f4 f5
section HNR
variable {w w' : gx_W} {z m : Nat} {lk : Int32} {op : List Nat} {f1 f2 f3 f4 f5 : Nat → Int32}
theorem hnR.kept {lo hi : Nat} (h : hnR w z m lk op f1 f2 f3 f4 f5) (hk : gx_kp w w' lo hi) (hd : z + 8 ≤ lo ∨ hi ≤ z) : hnR w' z m lk op f1 f2 f3 f4 f5 := by
  obtain ⟨h0, h1, h2, h3, h4, h5, h6⟩ := h
  exact ⟨by rw [hk.2 _ (by omega)]; exact h0, by rw [hk.2 _ (by omega)]; exact h1, by rw [hk.2 _ (by omega)]; exact h2, by rw [hk.2 _ (by omega)]; exact h3, by rw [hk.2 _ (by omega)]; exact h4, by rw [hk.2 _ (by omega)]; exact h5, by rw [hk.2 _ (by omega)]; exact h6⟩
theorem hnAt.kept {q : List sp_E} {lo hi : Nat} (h : hnAt w z q lk op) (hk : gx_kp w w' lo hi) (hd : z + 8 ≤ lo ∨ hi ≤ z) : hnAt w' z q lk op := by
  obtain ⟨h0, f1, f2, f3, f4, f5, h1, h2⟩ := h
  exact ⟨h0, f1, f2, f3, f4, f5, h1.kept hk hd, h2⟩
theorem hnR.s1 (g : Nat → Int32) (h : hnR w z m lk op f1 f2 f3 f4 f5) : hnR (gx_st w (z + 1) (gx_ai 0 401 g)) z m lk op g f2 f3 f4 f5 := by
  obtain ⟨h0, h1, h2, h3, h4, h5, h6⟩ := h
  exact ⟨by rw [gx_st_ne (by omega)]; exact h0, gx_st_eq, by rw [gx_st_ne (by omega)]; exact h2, by rw [gx_st_ne (by omega)]; exact h3, by rw [gx_st_ne (by omega)]; exact h4, by rw [gx_st_ne (by omega)]; exact h5, by rw [gx_st_ne (by omega)]; exact h6⟩
theorem hnR.s2 (g : Nat → Int32) (h : hnR w z m lk op f1 f2 f3 f4 f5) : hnR (gx_st w (z + 2) (gx_ai 0 401 g)) z m lk op f1 g f3 f4 f5 := by
  obtain ⟨h0, h1, h2, h3, h4, h5, h6⟩ := h
  exact ⟨by rw [gx_st_ne (by omega)]; exact h0, by rw [gx_st_ne (by omega)]; exact h1, gx_st_eq, by rw [gx_st_ne (by omega)]; exact h3, by rw [gx_st_ne (by omega)]; exact h4, by rw [gx_st_ne (by omega)]; exact h5, by rw [gx_st_ne (by omega)]; exact h6⟩
theorem hnR.s3 (g : Nat → Int32) (h : hnR w z m lk op f1 f2 f3 f4 f5) : hnR (gx_st w (z + 3) (gx_ai 0 401 g)) z m lk op f1 f2 g f4 f5 := by
  obtain ⟨h0, h1, h2, h3, h4, h5, h6⟩ := h
  exact ⟨by rw [gx_st_ne (by omega)]; exact h0, by rw [gx_st_ne (by omega)]; exact h1, by rw [gx_st_ne (by omega)]; exact h2, gx_st_eq, by rw [gx_st_ne (by omega)]; exact h4, by rw [gx_st_ne (by omega)]; exact h5, by rw [gx_st_ne (by omega)]; exact h6⟩
theorem hnR.s4 (g : Nat → Int32) (h : hnR w z m lk op f1 f2 f3 f4 f5) : hnR (gx_st w (z + 4) (gx_ai 0 401 g)) z m lk op f1 f2 f3 g f5 := by
  obtain ⟨h0, h1, h2, h3, h4, h5, h6⟩ := h
  exact ⟨by rw [gx_st_ne (by omega)]; exact h0, by rw [gx_st_ne (by omega)]; exact h1, by rw [gx_st_ne (by omega)]; exact h2, by rw [gx_st_ne (by omega)]; exact h3, gx_st_eq, by rw [gx_st_ne (by omega)]; exact h5, by rw [gx_st_ne (by omega)]; exact h6⟩
theorem hnR.s5 (g : Nat → Int32) (h : hnR w z m lk op f1 f2 f3 f4 f5) : hnR (gx_st w (z + 5) (gx_ai 1 4812 g)) z m lk op f1 f2 f3 f4 g := by
  obtain ⟨h0, h1, h2, h3, h4, h5, h6⟩ := h
  exact ⟨by rw [gx_st_ne (by omega)]; exact h0, by rw [gx_st_ne (by omega)]; exact h1, by rw [gx_st_ne (by omega)]; exact h2, by rw [gx_st_ne (by omega)]; exact h3, by rw [gx_st_ne (by omega)]; exact h4, gx_st_eq, by rw [gx_st_ne (by omega)]; exact h6⟩
theorem hnR.so (op' : List Nat) (h : hnR w z m lk op f1 f2 f3 f4 f5) : hnR (gx_st w (z + 6) (gx_bx 0 12 op')) z m lk op' f1 f2 f3 f4 f5 := by
  obtain ⟨h0, h1, h2, h3, h4, h5, h6⟩ := h
  exact ⟨by rw [gx_st_ne (by omega)]; exact h0, by rw [gx_st_ne (by omega)]; exact h1, by rw [gx_st_ne (by omega)]; exact h2, by rw [gx_st_ne (by omega)]; exact h3, by rw [gx_st_ne (by omega)]; exact h4, by rw [gx_st_ne (by omega)]; exact h5, gx_st_eq⟩
theorem hnR.s0 (m' : Nat) (lk' : Int32) (h : hnR w z m lk op f1 f2 f3 f4 f5) : hnR (gx_st w z (gx_ob 7 [.ref (z + 1), .ref (z + 2), .ref (z + 3), .ref (z + 4), .ref (z + 5), .ref (z + 6), .int (nI m'), .int lk'])) z m' lk' op f1 f2 f3 f4 f5 := by
  obtain ⟨h0, h1, h2, h3, h4, h5, h6⟩ := h
  exact ⟨gx_st_eq, by rw [gx_st_ne (by omega)]; exact h1, by rw [gx_st_ne (by omega)]; exact h2, by rw [gx_st_ne (by omega)]; exact h3, by rw [gx_st_ne (by omega)]; exact h4, by rw [gx_st_ne (by omega)]; exact h5, by rw [gx_st_ne (by omega)]; exact h6⟩
end HNR
theorem d_Hunt_lookedAt_0 : decode prog_4_method_2_code 0 = .ok (.aload_n 0, 1) := by decide +kernel
theorem d_Hunt_lookedAt_1 : decode prog_4_method_2_code 1 = .ok (.getfield 37, 3) := by decide +kernel
theorem d_Hunt_lookedAt_4 : decode prog_4_method_2_code 4 = .ok (.ireturn, 1) := by decide +kernel
theorem ct_lookedAt {w : gx_W} {z m : Nat} {lk : Int32} {op : List Nat} {f1 f2 f3 f4 f5 : Nat → Int32} (hz : hnR w z m lk op f1 f2 f3 f4 f5)  : gx_Ct M_Hunt_lookedAt 1 0 0 [.ref z] w (gx_eq (some (.int lk)) w) := by
  refine gx_ct (L := [some (.ref z)]) (by decide) (Nat.le_of_ble_eq_true rfl) rfl ?_
  refine gx_aload_n d_Hunt_lookedAt_0 rfl ?_
  refine gx_get fl_Hunt_37 d_Hunt_lookedAt_1 hz.1 rfl ?_
  refine gx_ireturn rfl d_Hunt_lookedAt_4 ?_
  exact ⟨rfl, rfl⟩
theorem d_Hunt_forget_0 : decode prog_4_method_3_code 0 = .ok (.aload_n 0, 1) := by decide +kernel
theorem d_Hunt_forget_1 : decode prog_4_method_3_code 1 = .ok (.iconst (-1), 1) := by decide +kernel
theorem d_Hunt_forget_2 : decode prog_4_method_3_code 2 = .ok (.putfield 37, 3) := by decide +kernel
theorem d_Hunt_forget_5 : decode prog_4_method_3_code 5 = .ok (.return_, 1) := by decide +kernel
theorem ct_forget {w : gx_W} {z m : Nat} {lk : Int32} {op : List Nat} {f1 f2 f3 f4 f5 : Nat → Int32} (hz : hnR w z m lk op f1 f2 f3 f4 f5)  : gx_Ct M_Hunt_forget 1 0 0 [.ref z] w (gx_eq none (gx_st w z (gx_ob 7 [.ref (z + 1), .ref (z + 2), .ref (z + 3), .ref (z + 4), .ref (z + 5), .ref (z + 6), .int (nI m), .int (-1)]))) := by
  refine gx_ct (L := [some (.ref z)]) (by decide) (Nat.le_of_ble_eq_true rfl) rfl ?_
  refine gx_aload_n d_Hunt_forget_0 rfl ?_
  refine gx_iconst d_Hunt_forget_1 (-1) (by decide) ?_
  refine gx_put fp_Hunt_37 (fun h => by cases h) d_Hunt_forget_2 hz.1 rfl rfl (Nat.le_of_ble_eq_true rfl) ?_
  refine gx_return rfl d_Hunt_forget_5 ?_
  exact ⟨rfl, rfl⟩
theorem d_Hunt_openOr_0 : decode prog_4_method_10_code 0 = .ok (.iload_n 2, 1) := by decide +kernel
theorem d_Hunt_openOr_1 : decode prog_4_method_10_code 1 = .ok (.aload_n 0, 1) := by decide +kernel
theorem d_Hunt_openOr_2 : decode prog_4_method_10_code 2 = .ok (.getfield 33, 3) := by decide +kernel
theorem d_Hunt_openOr_5 : decode prog_4_method_10_code 5 = .ok (.invokevirtual 88, 3) := by decide +kernel
theorem d_Hunt_openOr_8 : decode prog_4_method_10_code 8 = .ok (.if_icmp .ge 14, 3) := by decide +kernel
theorem d_Hunt_openOr_11 : decode prog_4_method_10_code 11 = .ok (.aload_n 0, 1) := by decide +kernel
theorem d_Hunt_openOr_12 : decode prog_4_method_10_code 12 = .ok (.getfield 33, 3) := by decide +kernel
theorem d_Hunt_openOr_15 : decode prog_4_method_10_code 15 = .ok (.iload_n 2, 1) := by decide +kernel
theorem d_Hunt_openOr_16 : decode prog_4_method_10_code 16 = .ok (.invokevirtual 98, 3) := by decide +kernel
theorem d_Hunt_openOr_19 : decode prog_4_method_10_code 19 = .ok (.goto 16, 3) := by decide +kernel
theorem d_Hunt_openOr_22 : decode prog_4_method_10_code 22 = .ok (.aload_n 1, 1) := by decide +kernel
theorem d_Hunt_openOr_23 : decode prog_4_method_10_code 23 = .ok (.iload_n 2, 1) := by decide +kernel
theorem d_Hunt_openOr_24 : decode prog_4_method_10_code 24 = .ok (.aload_n 0, 1) := by decide +kernel
theorem d_Hunt_openOr_25 : decode prog_4_method_10_code 25 = .ok (.getfield 33, 3) := by decide +kernel
theorem d_Hunt_openOr_28 : decode prog_4_method_10_code 28 = .ok (.invokevirtual 88, 3) := by decide +kernel
theorem d_Hunt_openOr_31 : decode prog_4_method_10_code 31 = .ok (.isub, 1) := by decide +kernel
theorem d_Hunt_openOr_32 : decode prog_4_method_10_code 32 = .ok (.invokevirtual 98, 3) := by decide +kernel
theorem d_Hunt_openOr_35 : decode prog_4_method_10_code 35 = .ok (.ireturn, 1) := by decide +kernel
theorem ct_openOr {w : gx_W} {z m : Nat} {lk : Int32} {op : List Nat} {f1 f2 f3 f4 f5 : Nat → Int32} (hz : hnR w z m lk op f1 f2 f3 f4 f5) {dl i cap : Nat} {l : List Nat} (hl : w.1 dl = some (gx_bx 0 cap l)) (hi : i < 2 ^ 31) : gx_Ct M_Hunt_openOr 2 0 0 [.ref z, .ref dl, .int (nI i)] w (gx_eq (some (.int (nI ((op ++ l).getD i 0)))) w) := by
  refine gx_ct (L := [some (.ref z), some (.ref dl), some (.int (nI i))]) (by decide) (Nat.le_of_ble_eq_true rfl) rfl ?_
  obtain ⟨h0, -, -, -, -, -, h6⟩ := hz
  refine gx_bsz hl (fun hlen hcap hsm => ?_)
  refine gx_bsz h6 (fun hlen6 hcap6 hsm6 => ?_)
  refine gx_iload_n d_Hunt_openOr_0 rfl ?_
  refine gx_aload_n d_Hunt_openOr_1 rfl ?_
  refine gx_get fl_Hunt_33 d_Hunt_openOr_2 h0 rfl ?_
  refine gx_cV1 lk_Hunt_88 d_Hunt_openOr_5 (ct_Word_size h6) (Or.inr ⟨_, _, h6⟩) (by omega) rfl rfl (Nat.le_of_ble_eq_true rfl) ?_
  refine gx_icmp_geN (by omega) (by omega) (tgt := 22) d_Hunt_openOr_8 (by decide) (fun h8 => ?_) (fun h8 => ?_)
  · have e : (op ++ l).getD i 0 = l.getD (i - op.length) 0 := by
      have := gx_gd_app2 (l := op) (k := l) (i := i - op.length)
      rwa [show op.length + (i - op.length) = i by omega] at this
    refine gx_aload_n d_Hunt_openOr_22 rfl ?_
    refine gx_iload_n d_Hunt_openOr_23 rfl ?_
    refine gx_aload_n d_Hunt_openOr_24 rfl ?_
    refine gx_get fl_Hunt_33 d_Hunt_openOr_25 h0 rfl ?_
    refine gx_cV1 lk_Hunt_88 d_Hunt_openOr_28 (ct_Word_size h6) (Or.inr ⟨_, _, h6⟩) (by omega) rfl rfl (Nat.le_of_ble_eq_true rfl) ?_
    refine gx_isubN (by omega) d_Hunt_openOr_31 ?_
    refine gx_cV1 lk_Hunt_98 d_Hunt_openOr_32 (ct_Word_at (j := i - op.length) hl (by omega)) (Or.inr ⟨_, _, hl⟩) (by omega) rfl rfl (Nat.le_of_ble_eq_true rfl) ?_
    rw [← e]
    refine gx_zreturn rfl (gx_nc (gx_sm_at (gx_sm_app hsm6 hsm) i)) d_Hunt_openOr_35 ?_
    exact ⟨rfl, rfl⟩
  · have e : (op ++ l).getD i 0 = op.getD i 0 := gx_gd_app (by omega)
    refine gx_aload_n d_Hunt_openOr_11 rfl ?_
    refine gx_get fl_Hunt_33 d_Hunt_openOr_12 h0 rfl ?_
    refine gx_iload_n d_Hunt_openOr_15 rfl ?_
    refine gx_cV1 lk_Hunt_98 d_Hunt_openOr_16 (ct_Word_at h6 hi) (Or.inr ⟨_, _, h6⟩) (by omega) rfl rfl (Nat.le_of_ble_eq_true rfl) ?_
    refine gx_goto (tgt := 35) d_Hunt_openOr_19 (by decide) ?_
    rw [← e]
    refine gx_zreturn rfl (gx_nc (gx_sm_at (gx_sm_app hsm6 hsm) i)) d_Hunt_openOr_35 ?_
    exact ⟨rfl, rfl⟩
theorem d_Hunt_fits_0 : decode prog_4_method_8_code 0 = .ok (.aload_n 1, 1) := by decide +kernel
theorem d_Hunt_fits_1 : decode prog_4_method_8_code 1 = .ok (.getfield 83, 3) := by decide +kernel
theorem d_Hunt_fits_4 : decode prog_4_method_8_code 4 = .ok (.invokevirtual 88, 3) := by decide +kernel
theorem d_Hunt_fits_7 : decode prog_4_method_8_code 7 = .ok (.aload_n 0, 1) := by decide +kernel
theorem d_Hunt_fits_8 : decode prog_4_method_8_code 8 = .ok (.getfield 33, 3) := by decide +kernel
theorem d_Hunt_fits_11 : decode prog_4_method_8_code 11 = .ok (.invokevirtual 88, 3) := by decide +kernel
theorem d_Hunt_fits_14 : decode prog_4_method_8_code 14 = .ok (.aload_n 1, 1) := by decide +kernel
theorem d_Hunt_fits_15 : decode prog_4_method_8_code 15 = .ok (.getfield 89, 3) := by decide +kernel
theorem d_Hunt_fits_18 : decode prog_4_method_8_code 18 = .ok (.invokevirtual 88, 3) := by decide +kernel
theorem d_Hunt_fits_21 : decode prog_4_method_8_code 21 = .ok (.iadd, 1) := by decide +kernel
theorem d_Hunt_fits_22 : decode prog_4_method_8_code 22 = .ok (.invokestatic 92, 3) := by decide +kernel
theorem d_Hunt_fits_25 : decode prog_4_method_8_code 25 = .ok (.istore_n 2, 1) := by decide +kernel
theorem d_Hunt_fits_26 : decode prog_4_method_8_code 26 = .ok (.iconst 0, 1) := by decide +kernel
theorem d_Hunt_fits_27 : decode prog_4_method_8_code 27 = .ok (.istore_n 3, 1) := by decide +kernel
theorem d_Hunt_fits_28 : decode prog_4_method_8_code 28 = .ok (.iload_n 3, 1) := by decide +kernel
theorem d_Hunt_fits_29 : decode prog_4_method_8_code 29 = .ok (.iload_n 2, 1) := by decide +kernel
theorem d_Hunt_fits_30 : decode prog_4_method_8_code 30 = .ok (.if_icmp .ge 31, 3) := by decide +kernel
theorem d_Hunt_fits_33 : decode prog_4_method_8_code 33 = .ok (.aload_n 1, 1) := by decide +kernel
theorem d_Hunt_fits_34 : decode prog_4_method_8_code 34 = .ok (.getfield 83, 3) := by decide +kernel
theorem d_Hunt_fits_37 : decode prog_4_method_8_code 37 = .ok (.iload_n 3, 1) := by decide +kernel
theorem d_Hunt_fits_38 : decode prog_4_method_8_code 38 = .ok (.invokevirtual 98, 3) := by decide +kernel
theorem d_Hunt_fits_41 : decode prog_4_method_8_code 41 = .ok (.aload_n 0, 1) := by decide +kernel
theorem d_Hunt_fits_42 : decode prog_4_method_8_code 42 = .ok (.aload_n 1, 1) := by decide +kernel
theorem d_Hunt_fits_43 : decode prog_4_method_8_code 43 = .ok (.getfield 89, 3) := by decide +kernel
theorem d_Hunt_fits_46 : decode prog_4_method_8_code 46 = .ok (.iload_n 3, 1) := by decide +kernel
theorem d_Hunt_fits_47 : decode prog_4_method_8_code 47 = .ok (.invokevirtual 102, 3) := by decide +kernel
theorem d_Hunt_fits_50 : decode prog_4_method_8_code 50 = .ok (.if_icmp .eq 5, 3) := by decide +kernel
theorem d_Hunt_fits_53 : decode prog_4_method_8_code 53 = .ok (.iconst 0, 1) := by decide +kernel
theorem d_Hunt_fits_54 : decode prog_4_method_8_code 54 = .ok (.ireturn, 1) := by decide +kernel
theorem d_Hunt_fits_55 : decode prog_4_method_8_code 55 = .ok (.iinc 3 1, 3) := by decide +kernel
theorem d_Hunt_fits_58 : decode prog_4_method_8_code 58 = .ok (.goto (-30), 3) := by decide +kernel
theorem d_Hunt_fits_61 : decode prog_4_method_8_code 61 = .ok (.iconst 1, 1) := by decide +kernel
theorem d_Hunt_fits_62 : decode prog_4_method_8_code 62 = .ok (.ireturn, 1) := by decide +kernel
theorem lp_fits {Q : gx_P} {w : gx_W} {z m : Nat} {lk : Int32} {op : List Nat} {f1 f2 f3 f4 f5 : Nat → Int32} (hz : hnR w z m lk op f1 f2 f3 f4 f5) {D du dl : Nat} {u l : List Nat} (hD : w.1 D = some (gx_ob 4 [.ref du, .ref dl])) (hu : w.1 du = some (gx_bx 0 3 u)) (hl : w.1 dl = some (gx_bx 0 7 l))  : ∀ (fu : Nat) (i : Nat), u.length - i < fu → (i ≤ min u.length (op.length + l.length)) → (Q.1 (some (.int (nI (sp_agb (u.drop i) ((op ++ l).drop i)).toNat))) w) → gx_X (fun _ _ => True) M_Hunt_fits 3 Q 28 [some (.ref z), some (.ref D), some (.int (nI (min u.length (op.length + l.length)))), some (.int (nI i))] [] w (0, 0) := by
  intro fu
  induction fu with
  | zero => intro i hfu; exact absurd hfu (Nat.not_lt_zero _)
  | succ fu ih =>
    intro i hfu hi hQ
    refine gx_bsz hu (fun hlen hcap hsm => ?_)
    refine gx_bsz hl (fun hlen2 hcap2 hsm2 => ?_)
    refine gx_bsz hz.2.2.2.2.2.2 (fun hlen3 hcap3 hsm3 => ?_)
    have hs := gx_sm_at hsm i
    have hs2 := gx_sm_at (gx_sm_app hsm3 hsm2) i
    have hol : (op ++ l).length = op.length + l.length := List.length_append
    refine gx_iload_n d_Hunt_fits_28 rfl ?_
    refine gx_iload_n d_Hunt_fits_29 rfl ?_
    refine gx_icmp_geN (by omega) (by omega) (tgt := 61) d_Hunt_fits_30 (by decide) (fun h30 => ?_) (fun h30 => ?_)
    · refine gx_iconst d_Hunt_fits_61 (nI 1) (by decide) ?_
      refine gx_zreturn rfl gx_nz1 d_Hunt_fits_62 ?_
      have e : sp_agb (u.drop i) ((op ++ l).drop i) = true := by
        rcases (show u.length ≤ i ∨ (op ++ l).length ≤ i by omega) with g | g
        · rw [List.drop_eq_nil_of_le g]; exact sp_agb_nil
        · rw [List.drop_eq_nil_of_le g]; exact sp_agb_nil2
      rw [e] at hQ
      exact hQ
    · refine gx_aload_n d_Hunt_fits_33 rfl ?_
      refine gx_get fl_Hunt_83 d_Hunt_fits_34 hD rfl ?_
      refine gx_iload_n d_Hunt_fits_37 rfl ?_
      refine gx_cV1 lk_Hunt_98 d_Hunt_fits_38 (ct_Word_at hu (by omega)) (Or.inr ⟨_, _, hu⟩) (by omega) rfl rfl (Nat.le_of_ble_eq_true rfl) ?_
      refine gx_aload_n d_Hunt_fits_41 rfl ?_
      refine gx_aload_n d_Hunt_fits_42 rfl ?_
      refine gx_get fl_Hunt_89 d_Hunt_fits_43 hD rfl ?_
      refine gx_iload_n d_Hunt_fits_46 rfl ?_
      refine gx_cV1 lk_Hunt_102 d_Hunt_fits_47 (ct_openOr hz hl (by omega)) (Or.inl ⟨_, hz.1⟩) (by omega) rfl rfl (Nat.le_of_ble_eq_true rfl) ?_
      refine gx_icmp_eqN (by omega) (by omega) (tgt := 55) d_Hunt_fits_50 (by decide) (fun h50 => ?_) (fun h50 => ?_)
      · refine gx_iincN (n := 1) d_Hunt_fits_55 rfl (by decide) (Nat.le_of_ble_eq_true rfl) rfl ?_
        refine gx_goto (tgt := 28) d_Hunt_fits_58 (by decide) ?_
        refine ih (i + 1) (by omega) (by omega) ?_
        rw [gx_drop_cons (show i < u.length by omega), gx_drop_cons (show i < (op ++ l).length by omega)] at hQ
        simp only [sp_agb, beq_iff_eq.mpr h50, Bool.true_and] at hQ
        exact hQ
      · refine gx_iconst d_Hunt_fits_53 (nI 0) (by decide) ?_
        refine gx_zreturn rfl gx_nz0 d_Hunt_fits_54 ?_
        rw [gx_drop_cons (show i < u.length by omega), gx_drop_cons (show i < (op ++ l).length by omega)] at hQ
        simp only [sp_agb, beq_eq_false_iff_ne.mpr h50, Bool.false_and] at hQ
        exact hQ
theorem ct_fits {w : gx_W} {z m : Nat} {lk : Int32} {op : List Nat} {f1 f2 f3 f4 f5 : Nat → Int32} (hz : hnR w z m lk op f1 f2 f3 f4 f5) {D du dl : Nat} {u l : List Nat} (hD : w.1 D = some (gx_ob 4 [.ref du, .ref dl])) (hu : w.1 du = some (gx_bx 0 3 u)) (hl : w.1 dl = some (gx_bx 0 7 l))  : gx_Ct M_Hunt_fits 3 0 0 [.ref z, .ref D] w (gx_eq (some (.int (nI (sp_agb u (op ++ l)).toNat))) w) := by
  refine gx_ct (L := [some (.ref z), some (.ref D), none, none]) (by decide) (Nat.le_of_ble_eq_true rfl) rfl ?_
  refine gx_bsz hu (fun hlen hcap hsm => ?_)
  refine gx_bsz hl (fun hlen2 hcap2 hsm2 => ?_)
  refine gx_bsz hz.2.2.2.2.2.2 (fun hlen3 hcap3 hsm3 => ?_)
  refine gx_aload_n d_Hunt_fits_0 rfl ?_
  refine gx_get fl_Hunt_83 d_Hunt_fits_1 hD rfl ?_
  refine gx_cV1 lk_Hunt_88 d_Hunt_fits_4 (ct_Word_size hu) (Or.inr ⟨_, _, hu⟩) (by omega) rfl rfl (Nat.le_of_ble_eq_true rfl) ?_
  refine gx_aload_n d_Hunt_fits_7 rfl ?_
  refine gx_get fl_Hunt_33 d_Hunt_fits_8 hz.1 rfl ?_
  refine gx_cV1 lk_Hunt_88 d_Hunt_fits_11 (ct_Word_size hz.2.2.2.2.2.2) (Or.inr ⟨_, _, hz.2.2.2.2.2.2⟩) (by omega) rfl rfl (Nat.le_of_ble_eq_true rfl) ?_
  refine gx_aload_n d_Hunt_fits_14 rfl ?_
  refine gx_get fl_Hunt_89 d_Hunt_fits_15 hD rfl ?_
  refine gx_cV1 lk_Hunt_88 d_Hunt_fits_18 (ct_Word_size hl) (Or.inr ⟨_, _, hl⟩) (by omega) rfl rfl (Nat.le_of_ble_eq_true rfl) ?_
  refine gx_iaddN d_Hunt_fits_21 ?_
  refine gx_min lk_Hunt_92 (by omega) (Nat.le_of_ble_eq_true rfl) d_Hunt_fits_22 ?_
  refine gx_top (gx_mnI (by omega) (by omega)) ?_
  refine gx_istore_n d_Hunt_fits_25 (Nat.le_of_ble_eq_true rfl) rfl ?_
  refine gx_iconst d_Hunt_fits_26 (nI 0) (by decide) ?_
  refine gx_istore_n d_Hunt_fits_27 (Nat.le_of_ble_eq_true rfl) rfl ?_
  exact lp_fits hz hD hu hl (u.length + 1) 0 (by omega) (Nat.zero_le _) (by exact ⟨rfl, rfl⟩)
theorem hnF.snoc {q : List sp_E} {f1 f2 f3 f4 f5 g1 g2 g3 g4 g5 : Nat → Int32} {e : sp_E} (h : hnF q f1 f2 f3 f4 f5) (h1 : ∀ i, i < q.length → g1 i = f1 i ∧ g2 i = f2 i ∧ g3 i = f3 i ∧ g4 i = f4 i ∧ ∀ j, j < 12 → g5 (i * 12 + j) = f5 (i * 12 + j)) (h2 : g1 q.length = e.1 ∧ g2 q.length = nI e.2.1 ∧ g3 q.length = nI e.2.2.1 ∧ g4 q.length = nI e.2.2.2.length ∧ ∀ j, j < e.2.2.2.length → j < 12 → g5 (q.length * 12 + j) = nI (e.2.2.2.getD j 0)) : hnF (q ++ [e]) g1 g2 g3 g4 g5 := by
  intro i hi
  rw [List.length_append, List.length_singleton] at hi
  by_cases hq : i < q.length
  · have e1 : (q ++ [e]).getD i sp_e0 = q.getD i sp_e0 := by simp [List.getD_eq_getElem?_getD, List.getElem?_append_left hq]
    rw [e1]
    obtain ⟨a1, a2, a3, a4, a5⟩ := h i hq
    obtain ⟨b1, b2, b3, b4, b5⟩ := h1 i hq
    exact ⟨b1.trans a1, b2.trans a2, b3.trans a3, b4.trans a4, fun j hj hj2 => (b5 j hj2).trans (a5 j hj hj2)⟩
  · have e2 : i = q.length := by omega
    subst e2
    have e1 : (q ++ [e]).getD q.length sp_e0 = e := by simp [List.getD_eq_getElem?_getD]
    rw [e1]
    exact h2
theorem d_Hunt_keep_0 : decode prog_4_method_9_code 0 = .ok (.aload_n 3, 1) := by decide +kernel
theorem d_Hunt_keep_1 : decode prog_4_method_9_code 1 = .ok (.getfield 83, 3) := by decide +kernel
theorem d_Hunt_keep_4 : decode prog_4_method_9_code 4 = .ok (.invokevirtual 88, 3) := by decide +kernel
theorem d_Hunt_keep_7 : decode prog_4_method_9_code 7 = .ok (.istore 4, 2) := by decide +kernel
theorem d_Hunt_keep_9 : decode prog_4_method_9_code 9 = .ok (.aload_n 0, 1) := by decide +kernel
theorem d_Hunt_keep_10 : decode prog_4_method_9_code 10 = .ok (.getfield 11, 3) := by decide +kernel
theorem d_Hunt_keep_13 : decode prog_4_method_9_code 13 = .ok (.aload_n 0, 1) := by decide +kernel
theorem d_Hunt_keep_14 : decode prog_4_method_9_code 14 = .ok (.getfield 41, 3) := by decide +kernel
theorem d_Hunt_keep_17 : decode prog_4_method_9_code 17 = .ok (.iload_n 1, 1) := by decide +kernel
theorem d_Hunt_keep_18 : decode prog_4_method_9_code 18 = .ok (.iastore, 1) := by decide +kernel
theorem d_Hunt_keep_19 : decode prog_4_method_9_code 19 = .ok (.aload_n 0, 1) := by decide +kernel
theorem d_Hunt_keep_20 : decode prog_4_method_9_code 20 = .ok (.getfield 15, 3) := by decide +kernel
theorem d_Hunt_keep_23 : decode prog_4_method_9_code 23 = .ok (.aload_n 0, 1) := by decide +kernel
theorem d_Hunt_keep_24 : decode prog_4_method_9_code 24 = .ok (.getfield 41, 3) := by decide +kernel
theorem d_Hunt_keep_27 : decode prog_4_method_9_code 27 = .ok (.iload_n 2, 1) := by decide +kernel
theorem d_Hunt_keep_28 : decode prog_4_method_9_code 28 = .ok (.iastore, 1) := by decide +kernel
theorem d_Hunt_keep_29 : decode prog_4_method_9_code 29 = .ok (.aload_n 0, 1) := by decide +kernel
theorem d_Hunt_keep_30 : decode prog_4_method_9_code 30 = .ok (.getfield 18, 3) := by decide +kernel
theorem d_Hunt_keep_33 : decode prog_4_method_9_code 33 = .ok (.aload_n 0, 1) := by decide +kernel
theorem d_Hunt_keep_34 : decode prog_4_method_9_code 34 = .ok (.getfield 41, 3) := by decide +kernel
theorem d_Hunt_keep_37 : decode prog_4_method_9_code 37 = .ok (.iload_n 1, 1) := by decide +kernel
theorem d_Hunt_keep_38 : decode prog_4_method_9_code 38 = .ok (.iconst (-1), 1) := by decide +kernel
theorem d_Hunt_keep_39 : decode prog_4_method_9_code 39 = .ok (.if_icmp .ne 7, 3) := by decide +kernel
theorem d_Hunt_keep_42 : decode prog_4_method_9_code 42 = .ok (.iconst 1, 1) := by decide +kernel
theorem d_Hunt_keep_43 : decode prog_4_method_9_code 43 = .ok (.goto 11, 3) := by decide +kernel
theorem d_Hunt_keep_46 : decode prog_4_method_9_code 46 = .ok (.aload_n 0, 1) := by decide +kernel
theorem d_Hunt_keep_47 : decode prog_4_method_9_code 47 = .ok (.getfield 18, 3) := by decide +kernel
theorem d_Hunt_keep_50 : decode prog_4_method_9_code 50 = .ok (.iload_n 1, 1) := by decide +kernel
theorem d_Hunt_keep_51 : decode prog_4_method_9_code 51 = .ok (.iaload, 1) := by decide +kernel
theorem d_Hunt_keep_52 : decode prog_4_method_9_code 52 = .ok (.iconst 1, 1) := by decide +kernel
theorem d_Hunt_keep_53 : decode prog_4_method_9_code 53 = .ok (.iadd, 1) := by decide +kernel
theorem d_Hunt_keep_54 : decode prog_4_method_9_code 54 = .ok (.iastore, 1) := by decide +kernel
theorem d_Hunt_keep_55 : decode prog_4_method_9_code 55 = .ok (.aload_n 0, 1) := by decide +kernel
theorem d_Hunt_keep_56 : decode prog_4_method_9_code 56 = .ok (.getfield 21, 3) := by decide +kernel
theorem d_Hunt_keep_59 : decode prog_4_method_9_code 59 = .ok (.aload_n 0, 1) := by decide +kernel
theorem d_Hunt_keep_60 : decode prog_4_method_9_code 60 = .ok (.getfield 41, 3) := by decide +kernel
theorem d_Hunt_keep_63 : decode prog_4_method_9_code 63 = .ok (.aload_n 0, 1) := by decide +kernel
theorem d_Hunt_keep_64 : decode prog_4_method_9_code 64 = .ok (.getfield 33, 3) := by decide +kernel
theorem d_Hunt_keep_67 : decode prog_4_method_9_code 67 = .ok (.invokevirtual 88, 3) := by decide +kernel
theorem d_Hunt_keep_70 : decode prog_4_method_9_code 70 = .ok (.aload_n 3, 1) := by decide +kernel
theorem d_Hunt_keep_71 : decode prog_4_method_9_code 71 = .ok (.getfield 89, 3) := by decide +kernel
theorem d_Hunt_keep_74 : decode prog_4_method_9_code 74 = .ok (.invokevirtual 88, 3) := by decide +kernel
theorem d_Hunt_keep_77 : decode prog_4_method_9_code 77 = .ok (.iadd, 1) := by decide +kernel
theorem d_Hunt_keep_78 : decode prog_4_method_9_code 78 = .ok (.iload 4, 2) := by decide +kernel
theorem d_Hunt_keep_80 : decode prog_4_method_9_code 80 = .ok (.isub, 1) := by decide +kernel
theorem d_Hunt_keep_81 : decode prog_4_method_9_code 81 = .ok (.iastore, 1) := by decide +kernel
theorem d_Hunt_keep_82 : decode prog_4_method_9_code 82 = .ok (.aload_n 0, 1) := by decide +kernel
theorem d_Hunt_keep_83 : decode prog_4_method_9_code 83 = .ok (.getfield 21, 3) := by decide +kernel
theorem d_Hunt_keep_86 : decode prog_4_method_9_code 86 = .ok (.aload_n 0, 1) := by decide +kernel
theorem d_Hunt_keep_87 : decode prog_4_method_9_code 87 = .ok (.getfield 41, 3) := by decide +kernel
theorem d_Hunt_keep_90 : decode prog_4_method_9_code 90 = .ok (.iaload, 1) := by decide +kernel
theorem d_Hunt_keep_91 : decode prog_4_method_9_code 91 = .ok (.bipush 12, 2) := by decide +kernel
theorem d_Hunt_keep_93 : decode prog_4_method_9_code 93 = .ok (.invokestatic 92, 3) := by decide +kernel
theorem d_Hunt_keep_96 : decode prog_4_method_9_code 96 = .ok (.istore 5, 2) := by decide +kernel
theorem d_Hunt_keep_98 : decode prog_4_method_9_code 98 = .ok (.iconst 0, 1) := by decide +kernel
theorem d_Hunt_keep_99 : decode prog_4_method_9_code 99 = .ok (.istore 6, 2) := by decide +kernel
theorem d_Hunt_keep_101 : decode prog_4_method_9_code 101 = .ok (.iload 6, 2) := by decide +kernel
theorem d_Hunt_keep_103 : decode prog_4_method_9_code 103 = .ok (.iload 5, 2) := by decide +kernel
theorem d_Hunt_keep_105 : decode prog_4_method_9_code 105 = .ok (.if_icmp .ge 37, 3) := by decide +kernel
theorem d_Hunt_keep_108 : decode prog_4_method_9_code 108 = .ok (.aload_n 0, 1) := by decide +kernel
theorem d_Hunt_keep_109 : decode prog_4_method_9_code 109 = .ok (.getfield 24, 3) := by decide +kernel
theorem d_Hunt_keep_112 : decode prog_4_method_9_code 112 = .ok (.aload_n 0, 1) := by decide +kernel
theorem d_Hunt_keep_113 : decode prog_4_method_9_code 113 = .ok (.getfield 41, 3) := by decide +kernel
theorem d_Hunt_keep_116 : decode prog_4_method_9_code 116 = .ok (.bipush 12, 2) := by decide +kernel
theorem d_Hunt_keep_118 : decode prog_4_method_9_code 118 = .ok (.imul, 1) := by decide +kernel
theorem d_Hunt_keep_119 : decode prog_4_method_9_code 119 = .ok (.iload 6, 2) := by decide +kernel
theorem d_Hunt_keep_121 : decode prog_4_method_9_code 121 = .ok (.iadd, 1) := by decide +kernel
theorem d_Hunt_keep_122 : decode prog_4_method_9_code 122 = .ok (.aload_n 0, 1) := by decide +kernel
theorem d_Hunt_keep_123 : decode prog_4_method_9_code 123 = .ok (.aload_n 3, 1) := by decide +kernel
theorem d_Hunt_keep_124 : decode prog_4_method_9_code 124 = .ok (.getfield 89, 3) := by decide +kernel
theorem d_Hunt_keep_127 : decode prog_4_method_9_code 127 = .ok (.iload 4, 2) := by decide +kernel
theorem d_Hunt_keep_129 : decode prog_4_method_9_code 129 = .ok (.iload 6, 2) := by decide +kernel
theorem d_Hunt_keep_131 : decode prog_4_method_9_code 131 = .ok (.iadd, 1) := by decide +kernel
theorem d_Hunt_keep_132 : decode prog_4_method_9_code 132 = .ok (.invokevirtual 102, 3) := by decide +kernel
theorem d_Hunt_keep_135 : decode prog_4_method_9_code 135 = .ok (.castore, 1) := by decide +kernel
theorem d_Hunt_keep_136 : decode prog_4_method_9_code 136 = .ok (.iinc 6 1, 3) := by decide +kernel
theorem d_Hunt_keep_139 : decode prog_4_method_9_code 139 = .ok (.goto (-38), 3) := by decide +kernel
theorem d_Hunt_keep_142 : decode prog_4_method_9_code 142 = .ok (.aload_n 0, 1) := by decide +kernel
theorem d_Hunt_keep_143 : decode prog_4_method_9_code 143 = .ok (.dup, 1) := by decide +kernel
theorem d_Hunt_keep_144 : decode prog_4_method_9_code 144 = .ok (.getfield 41, 3) := by decide +kernel
theorem d_Hunt_keep_147 : decode prog_4_method_9_code 147 = .ok (.iconst 1, 1) := by decide +kernel
theorem d_Hunt_keep_148 : decode prog_4_method_9_code 148 = .ok (.iadd, 1) := by decide +kernel
theorem d_Hunt_keep_149 : decode prog_4_method_9_code 149 = .ok (.putfield 41, 3) := by decide +kernel
theorem d_Hunt_keep_152 : decode prog_4_method_9_code 152 = .ok (.return_, 1) := by decide +kernel
theorem lp_keep {Q : gx_P} {z m s k num D du dl : Nat} {bf lk : Int32} {op l : List Nat} {f1 f2 f3 f4 : Nat → Int32} (hm : m < 401) (hk : k ≤ 12) (hsk : s + k ≤ op.length + l.length) (hdz : dl < z ∧ D < z) : ∀ (fu : Nat) (i : Nat) (f5 : Nat → Int32) (w : gx_W), k - i < fu → (hnR w z m lk op f1 f2 f3 f4 f5) → (w.1 D = some (gx_ob 4 [.ref du, .ref dl])) → (w.1 dl = some (gx_bx 0 7 l)) → (i ≤ k) → (∀ w' g5, hnR w' z m lk op f1 f2 f3 f4 g5 → gx_kp w w' z (z + 8) → (∀ j, ¬ (m * 12 + i ≤ j ∧ j < m * 12 + k) → g5 j = f5 j) → (∀ j, i ≤ j → j < k → g5 (m * 12 + j) = nI ((op ++ l).getD (s + j) 0)) → gx_X (fun _ _ => True) M_Hunt_keep 3 Q 142 [some (.ref z), some (.int bf), some (.int (nI num)), some (.ref D), some (.int (nI s)), some (.int (nI k)), some (.int (nI k))] [] w' (0, 0)) → gx_X (fun _ _ => True) M_Hunt_keep 3 Q 101 [some (.ref z), some (.int bf), some (.int (nI num)), some (.ref D), some (.int (nI s)), some (.int (nI k)), some (.int (nI i))] [] w (0, 0) := by
  intro fu
  induction fu with
  | zero => intro i f5 w hfu; exact absurd hfu (Nat.not_lt_zero _)
  | succ fu ih =>
    intro i f5 w hfu hz hD hl hi hX
    refine gx_bsz hl (fun hlen2 hcap2 hsm2 => ?_)
    refine gx_bsz hz.2.2.2.2.2.2 (fun hlen3 hcap3 hsm3 => ?_)
    have hs2 := gx_sm_at (gx_sm_app hsm3 hsm2) (s + i)
    refine gx_iload d_Hunt_keep_101 rfl ?_
    refine gx_iload d_Hunt_keep_103 rfl ?_
    refine gx_icmp_geN (by omega) (by omega) (tgt := 142) d_Hunt_keep_105 (by decide) (fun h105 => ?_) (fun h105 => ?_)
    · have e : i = k := by omega
      subst e
      exact hX w f5 hz gx_kp.rf (fun j _ => rfl) (fun j h1 h2 => absurd h2 (by omega))
    · refine gx_aload_n d_Hunt_keep_108 rfl ?_
      refine gx_get fl_Hunt_24 d_Hunt_keep_109 hz.1 rfl ?_
      refine gx_aload_n d_Hunt_keep_112 rfl ?_
      refine gx_get fl_Hunt_41 d_Hunt_keep_113 hz.1 rfl ?_
      refine gx_bipush d_Hunt_keep_116 (nI 12) (by decide) ?_
      refine gx_imulN d_Hunt_keep_118 ?_
      refine gx_iload d_Hunt_keep_119 rfl ?_
      refine gx_iaddN d_Hunt_keep_121 ?_
      refine gx_aload_n d_Hunt_keep_122 rfl ?_
      refine gx_aload_n d_Hunt_keep_123 rfl ?_
      refine gx_get fl_Hunt_89 d_Hunt_keep_124 hD rfl ?_
      refine gx_iload d_Hunt_keep_127 rfl ?_
      refine gx_iload d_Hunt_keep_129 rfl ?_
      refine gx_iaddN d_Hunt_keep_131 ?_
      refine gx_cV1 lk_Hunt_102 d_Hunt_keep_132 (ct_openOr hz hl (by omega)) (Or.inl ⟨_, hz.1⟩) (by omega) rfl rfl (Nat.le_of_ble_eq_true rfl) ?_
      refine gx_cast d_Hunt_keep_135 hz.2.2.2.2.2.1 (by omega) (by omega) (gx_nc hs2) ?_
      refine gx_iincN (n := 1) d_Hunt_keep_136 rfl (by decide) (Nat.le_of_ble_eq_true rfl) rfl ?_
      refine gx_goto (tgt := 101) d_Hunt_keep_139 (by decide) ?_
      have kk : gx_kp w (gx_st w (z + 5) (gx_ai 1 4812 (upd f5 (m * 12 + i) (nI ((op ++ l).getD (s + i) 0))))) z (z + 8) := gx_kp.st (by omega) (by omega)
      refine ih (i + 1) _ _ (by omega) (hz.s5 _) (by rw [gx_st_ne (by omega)]; exact hD) (by rw [gx_st_ne (by omega)]; exact hl) (by omega) (fun w' g5 h1 h2 h3 h4 => hX w' g5 h1 (kk.trans h2) (fun j hj => ?_) (fun j hj1 hj2 => ?_))
      · rw [h3 j (by omega), pk_un (by omega)]
      · by_cases e : j = i
        · subst e
          rw [h3 _ (by omega), pk_us]
        · exact h4 j (by omega) hj2
theorem ct_keep_root {w : gx_W} {z num D du dl sz : Nat} {bf lk : Int32} {op u l : List Nat} {q : List sp_E} (hz0 : hnAt w z q lk op) (hD : w.1 D = some (gx_ob 4 [.ref du, .ref dl])) (hu : w.1 du = some (gx_bx 0 3 u)) (hl : w.1 dl = some (gx_bx 0 7 l)) (hDz : D < z ∧ du < z ∧ dl < z) (hq : q.length < 401) (hul : u.length ≤ op.length + l.length) (hbf : bf = -1) (hsz : sz = 1) : gx_Ct M_Hunt_keep 3 0 0 [.ref z, .int bf, .int (nI num), .ref D] w (fun v w' => v = none ∧ hnAt w' z (q ++ [(bf, num, sz, (op ++ l).drop u.length)]) lk op ∧ gx_kp w w' z (z + 8)) := by
  refine gx_ct (L := [some (.ref z), some (.int bf), some (.int (nI num)), some (.ref D), none, none, none]) (by decide) (Nat.le_of_ble_eq_true rfl) rfl ?_
  obtain ⟨hq0, f1, f2, f3, f4, f5, hz, hF⟩ := hz0
  refine gx_bsz hu (fun hlen hcap hsm => ?_)
  refine gx_bsz hl (fun hlen2 hcap2 hsm2 => ?_)
  refine gx_bsz hz.2.2.2.2.2.2 (fun hlen3 hcap3 hsm3 => ?_)
  refine gx_aload_n d_Hunt_keep_0 rfl ?_
  refine gx_get fl_Hunt_83 d_Hunt_keep_1 hD rfl ?_
  refine gx_cV1 lk_Hunt_88 d_Hunt_keep_4 (ct_Word_size hu) (Or.inr ⟨_, _, hu⟩) (by omega) rfl rfl (Nat.le_of_ble_eq_true rfl) ?_
  refine gx_istore d_Hunt_keep_7 (Nat.le_of_ble_eq_true rfl) rfl ?_
  refine gx_aload_n d_Hunt_keep_9 rfl ?_
  refine gx_get fl_Hunt_11 d_Hunt_keep_10 hz.1 rfl ?_
  refine gx_aload_n d_Hunt_keep_13 rfl ?_
  refine gx_get fl_Hunt_41 d_Hunt_keep_14 hz.1 rfl ?_
  refine gx_iload_n d_Hunt_keep_17 rfl ?_
  refine gx_iast d_Hunt_keep_18 hz.2.1 (by omega) (by omega) ?_
  have z1 := hz.s1 (upd f1 q.length bf)
  have k1 : gx_kp w _ z (z + 8) := gx_kp.st (a := z + 1) (x := gx_ai 0 401 (upd f1 q.length bf)) (by omega) (by omega)
  generalize hw1 : gx_st w (z + 1) (gx_ai 0 401 (upd f1 q.length bf)) = w1 at z1 k1 ⊢
  refine gx_aload_n d_Hunt_keep_19 rfl ?_
  refine gx_get fl_Hunt_15 d_Hunt_keep_20 z1.1 rfl ?_
  refine gx_aload_n d_Hunt_keep_23 rfl ?_
  refine gx_get fl_Hunt_41 d_Hunt_keep_24 z1.1 rfl ?_
  refine gx_iload_n d_Hunt_keep_27 rfl ?_
  refine gx_iast d_Hunt_keep_28 z1.2.2.1 (by omega) (by omega) ?_
  have z2 := z1.s2 (upd f2 q.length (nI num))
  have k2 : gx_kp w _ z (z + 8) := k1.trans (gx_kp.st (a := z + 2) (x := gx_ai 0 401 (upd f2 q.length (nI num))) (by omega) (by omega))
  generalize hw2 : gx_st w1 (z + 2) (gx_ai 0 401 (upd f2 q.length (nI num))) = w2 at z2 k2 ⊢
  refine gx_aload_n d_Hunt_keep_29 rfl ?_
  refine gx_get fl_Hunt_18 d_Hunt_keep_30 z2.1 rfl ?_
  refine gx_aload_n d_Hunt_keep_33 rfl ?_
  refine gx_get fl_Hunt_41 d_Hunt_keep_34 z2.1 rfl ?_
  refine gx_iload_n d_Hunt_keep_37 rfl ?_
  refine gx_iconst d_Hunt_keep_38 (-1) (by decide) ?_
  refine gx_icmp_ne (tgt := 46) d_Hunt_keep_39 (by decide) (fun h39 => ?_) (fun h39 => ?_)
  · exact absurd hbf h39
  · refine gx_iconst d_Hunt_keep_42 (nI sz) (by rw [hsz]; decide) ?_
    refine gx_goto (tgt := 54) d_Hunt_keep_43 (by decide) ?_
    refine gx_iast d_Hunt_keep_54 z2.2.2.2.1 (by omega) (by omega) ?_
    have z3 := z2.s3 (upd f3 q.length (nI sz))
    have k3 : gx_kp w _ z (z + 8) := k2.trans (gx_kp.st (a := z + 3) (x := gx_ai 0 401 (upd f3 q.length (nI sz))) (by omega) (by omega))
    generalize hw3 : gx_st w2 (z + 3) (gx_ai 0 401 (upd f3 q.length (nI sz))) = w3 at z3 k3 ⊢
    have hD3 : w3.1 D = some (gx_ob 4 [.ref du, .ref dl]) := by rw [k3.2 _ (by omega)]; exact hD
    have hl3 : w3.1 dl = some (gx_bx 0 7 l) := by rw [k3.2 _ (by omega)]; exact hl
    refine gx_aload_n d_Hunt_keep_55 rfl ?_
    refine gx_get fl_Hunt_21 d_Hunt_keep_56 z3.1 rfl ?_
    refine gx_aload_n d_Hunt_keep_59 rfl ?_
    refine gx_get fl_Hunt_41 d_Hunt_keep_60 z3.1 rfl ?_
    refine gx_aload_n d_Hunt_keep_63 rfl ?_
    refine gx_get fl_Hunt_33 d_Hunt_keep_64 z3.1 rfl ?_
    refine gx_cV1 lk_Hunt_88 d_Hunt_keep_67 (ct_Word_size z3.2.2.2.2.2.2) (Or.inr ⟨_, _, z3.2.2.2.2.2.2⟩) (by omega) rfl rfl (Nat.le_of_ble_eq_true rfl) ?_
    refine gx_aload_n d_Hunt_keep_70 rfl ?_
    refine gx_get fl_Hunt_89 d_Hunt_keep_71 hD3 rfl ?_
    refine gx_cV1 lk_Hunt_88 d_Hunt_keep_74 (ct_Word_size hl3) (Or.inr ⟨_, _, hl3⟩) (by omega) rfl rfl (Nat.le_of_ble_eq_true rfl) ?_
    refine gx_iaddN d_Hunt_keep_77 ?_
    refine gx_iload d_Hunt_keep_78 rfl ?_
    refine gx_isubN (by omega) d_Hunt_keep_80 ?_
    refine gx_iast d_Hunt_keep_81 z3.2.2.2.2.1 (by omega) (by omega) ?_
    have z4 := z3.s4 (upd f4 q.length (nI (op.length + l.length - u.length)))
    have k4 : gx_kp w _ z (z + 8) := k3.trans (gx_kp.st (a := z + 4) (x := gx_ai 0 401 (upd f4 q.length (nI (op.length + l.length - u.length)))) (by omega) (by omega))
    generalize hw4 : gx_st w3 (z + 4) (gx_ai 0 401 (upd f4 q.length (nI (op.length + l.length - u.length)))) = w4 at z4 k4 ⊢
    refine gx_aload_n d_Hunt_keep_82 rfl ?_
    refine gx_get fl_Hunt_21 d_Hunt_keep_83 z4.1 rfl ?_
    refine gx_aload_n d_Hunt_keep_86 rfl ?_
    refine gx_get fl_Hunt_41 d_Hunt_keep_87 z4.1 rfl ?_
    refine gx_iald d_Hunt_keep_90 z4.2.2.2.2.1 (by omega) (by omega) ?_
    refine gx_top pk_us ?_
    refine gx_bipush d_Hunt_keep_91 (nI 12) (by decide) ?_
    refine gx_min lk_Hunt_92 (by omega) (Nat.le_of_ble_eq_true rfl) d_Hunt_keep_93 ?_
    refine gx_top (gx_mnI (by omega) (by omega)) ?_
    refine gx_istore d_Hunt_keep_96 (Nat.le_of_ble_eq_true rfl) rfl ?_
    refine gx_iconst d_Hunt_keep_98 (nI 0) (by decide) ?_
    refine gx_istore d_Hunt_keep_99 (Nat.le_of_ble_eq_true rfl) rfl ?_
    have hD4 : w4.1 D = some (gx_ob 4 [.ref du, .ref dl]) := by rw [k4.2 _ (by omega)]; exact hD
    have hl4 : w4.1 dl = some (gx_bx 0 7 l) := by rw [k4.2 _ (by omega)]; exact hl
    refine lp_keep hq (Nat.min_le_right _ _) (by omega) ⟨by omega, by omega⟩ 13 0 f5 w4 (by omega) z4 hD4 hl4 (Nat.zero_le _) (fun w5 g5 z5 k5 hg1 hg2 => ?_)
    refine gx_aload_n d_Hunt_keep_142 rfl ?_
    refine gx_dup d_Hunt_keep_143 rfl ?_
    refine gx_get fl_Hunt_41 d_Hunt_keep_144 z5.1 rfl ?_
    refine gx_iconst d_Hunt_keep_147 (nI 1) (by decide) ?_
    refine gx_iaddN d_Hunt_keep_148 ?_
    refine gx_put fp_Hunt_41 (fun h => by cases h) d_Hunt_keep_149 z5.1 rfl rfl (Nat.le_of_ble_eq_true rfl) ?_
    refine gx_return rfl d_Hunt_keep_152 ?_
    have hdl : ((op ++ l).drop u.length).length = op.length + l.length - u.length := by rw [List.length_drop, List.length_append]
    refine ⟨rfl, ⟨by simp; omega, upd f1 q.length bf, upd f2 q.length (nI num), upd f3 q.length (nI sz), upd f4 q.length (nI (op.length + l.length - u.length)), g5, by simpa using z5.s0 (q.length + 1) lk, ?_⟩, (k4.trans k5).trans (gx_kp.st (by omega) (by omega))⟩
    refine hF.snoc (fun i hi => ⟨pk_un (by omega), pk_un (by omega), pk_un (by omega), pk_un (by omega), fun j hj => hg1 _ (by omega)⟩) ⟨pk_us, pk_us, pk_us, by rw [pk_us, hdl], fun j hj hj2 => ?_⟩
    simp only [hdl] at hj
    rw [hg2 j (Nat.zero_le _) (by omega)]
    congr 1
    simp [List.getD_eq_getElem?_getD, List.getElem?_drop]
theorem ct_keep {w : gx_W} {z num D du dl sz : Nat} {bf lk : Int32} {op u l : List Nat} {q : List sp_E} (hz0 : hnAt w z q lk op) (hD : w.1 D = some (gx_ob 4 [.ref du, .ref dl])) (hu : w.1 du = some (gx_bx 0 3 u)) (hl : w.1 dl = some (gx_bx 0 7 l)) (hDz : D < z ∧ du < z ∧ dl < z) (hq : q.length < 401) (hul : u.length ≤ op.length + l.length) {at0 : Nat} (hat : at0 < q.length) (hbf : bf = nI at0) (hsz0 : sz = (q.getD at0 sp_e0).2.2.1 + 1) : gx_Ct M_Hunt_keep 3 0 0 [.ref z, .int bf, .int (nI num), .ref D] w (fun v w' => v = none ∧ hnAt w' z (q ++ [(bf, num, sz, (op ++ l).drop u.length)]) lk op ∧ gx_kp w w' z (z + 8)) := by
  refine gx_ct (L := [some (.ref z), some (.int bf), some (.int (nI num)), some (.ref D), none, none, none]) (by decide) (Nat.le_of_ble_eq_true rfl) rfl ?_
  obtain ⟨hq0, f1, f2, f3, f4, f5, hz, hF⟩ := hz0
  refine gx_bsz hu (fun hlen hcap hsm => ?_)
  refine gx_bsz hl (fun hlen2 hcap2 hsm2 => ?_)
  refine gx_bsz hz.2.2.2.2.2.2 (fun hlen3 hcap3 hsm3 => ?_)
  have hsz : f3 at0 = nI (q.getD at0 sp_e0).2.2.1 := (hF at0 hat).2.2.1
  subst hbf
  subst hsz0
  refine gx_aload_n d_Hunt_keep_0 rfl ?_
  refine gx_get fl_Hunt_83 d_Hunt_keep_1 hD rfl ?_
  refine gx_cV1 lk_Hunt_88 d_Hunt_keep_4 (ct_Word_size hu) (Or.inr ⟨_, _, hu⟩) (by omega) rfl rfl (Nat.le_of_ble_eq_true rfl) ?_
  refine gx_istore d_Hunt_keep_7 (Nat.le_of_ble_eq_true rfl) rfl ?_
  refine gx_aload_n d_Hunt_keep_9 rfl ?_
  refine gx_get fl_Hunt_11 d_Hunt_keep_10 hz.1 rfl ?_
  refine gx_aload_n d_Hunt_keep_13 rfl ?_
  refine gx_get fl_Hunt_41 d_Hunt_keep_14 hz.1 rfl ?_
  refine gx_iload_n d_Hunt_keep_17 rfl ?_
  refine gx_iast d_Hunt_keep_18 hz.2.1 (by omega) (by omega) ?_
  have z1 := hz.s1 (upd f1 q.length (nI at0))
  have k1 : gx_kp w _ z (z + 8) := gx_kp.st (a := z + 1) (x := gx_ai 0 401 (upd f1 q.length (nI at0))) (by omega) (by omega)
  generalize hw1 : gx_st w (z + 1) (gx_ai 0 401 (upd f1 q.length (nI at0))) = w1 at z1 k1 ⊢
  refine gx_aload_n d_Hunt_keep_19 rfl ?_
  refine gx_get fl_Hunt_15 d_Hunt_keep_20 z1.1 rfl ?_
  refine gx_aload_n d_Hunt_keep_23 rfl ?_
  refine gx_get fl_Hunt_41 d_Hunt_keep_24 z1.1 rfl ?_
  refine gx_iload_n d_Hunt_keep_27 rfl ?_
  refine gx_iast d_Hunt_keep_28 z1.2.2.1 (by omega) (by omega) ?_
  have z2 := z1.s2 (upd f2 q.length (nI num))
  have k2 : gx_kp w _ z (z + 8) := k1.trans (gx_kp.st (a := z + 2) (x := gx_ai 0 401 (upd f2 q.length (nI num))) (by omega) (by omega))
  generalize hw2 : gx_st w1 (z + 2) (gx_ai 0 401 (upd f2 q.length (nI num))) = w2 at z2 k2 ⊢
  refine gx_aload_n d_Hunt_keep_29 rfl ?_
  refine gx_get fl_Hunt_18 d_Hunt_keep_30 z2.1 rfl ?_
  refine gx_aload_n d_Hunt_keep_33 rfl ?_
  refine gx_get fl_Hunt_41 d_Hunt_keep_34 z2.1 rfl ?_
  refine gx_iload_n d_Hunt_keep_37 rfl ?_
  refine gx_iconst d_Hunt_keep_38 (-1) (by decide) ?_
  refine gx_icmp_ne (tgt := 46) d_Hunt_keep_39 (by decide) (fun h39 => ?_) (fun h39 => ?_)
  · refine gx_aload_n d_Hunt_keep_46 rfl ?_
    refine gx_get fl_Hunt_18 d_Hunt_keep_47 z2.1 rfl ?_
    refine gx_iload_n d_Hunt_keep_50 rfl ?_
    refine gx_iald d_Hunt_keep_51 z2.2.2.2.1 (by omega) (by omega) ?_
    rw [hsz]
    refine gx_iconst d_Hunt_keep_52 (nI 1) (by decide) ?_
    refine gx_iaddN d_Hunt_keep_53 ?_
    refine gx_iast d_Hunt_keep_54 z2.2.2.2.1 (by omega) (by omega) ?_
    have z3 := z2.s3 (upd f3 q.length (nI ((q.getD at0 sp_e0).2.2.1 + 1)))
    have k3 : gx_kp w _ z (z + 8) := k2.trans (gx_kp.st (a := z + 3) (x := gx_ai 0 401 (upd f3 q.length (nI ((q.getD at0 sp_e0).2.2.1 + 1)))) (by omega) (by omega))
    generalize hw3 : gx_st w2 (z + 3) (gx_ai 0 401 (upd f3 q.length (nI ((q.getD at0 sp_e0).2.2.1 + 1)))) = w3 at z3 k3 ⊢
    have hD3 : w3.1 D = some (gx_ob 4 [.ref du, .ref dl]) := by rw [k3.2 _ (by omega)]; exact hD
    have hl3 : w3.1 dl = some (gx_bx 0 7 l) := by rw [k3.2 _ (by omega)]; exact hl
    refine gx_aload_n d_Hunt_keep_55 rfl ?_
    refine gx_get fl_Hunt_21 d_Hunt_keep_56 z3.1 rfl ?_
    refine gx_aload_n d_Hunt_keep_59 rfl ?_
    refine gx_get fl_Hunt_41 d_Hunt_keep_60 z3.1 rfl ?_
    refine gx_aload_n d_Hunt_keep_63 rfl ?_
    refine gx_get fl_Hunt_33 d_Hunt_keep_64 z3.1 rfl ?_
    refine gx_cV1 lk_Hunt_88 d_Hunt_keep_67 (ct_Word_size z3.2.2.2.2.2.2) (Or.inr ⟨_, _, z3.2.2.2.2.2.2⟩) (by omega) rfl rfl (Nat.le_of_ble_eq_true rfl) ?_
    refine gx_aload_n d_Hunt_keep_70 rfl ?_
    refine gx_get fl_Hunt_89 d_Hunt_keep_71 hD3 rfl ?_
    refine gx_cV1 lk_Hunt_88 d_Hunt_keep_74 (ct_Word_size hl3) (Or.inr ⟨_, _, hl3⟩) (by omega) rfl rfl (Nat.le_of_ble_eq_true rfl) ?_
    refine gx_iaddN d_Hunt_keep_77 ?_
    refine gx_iload d_Hunt_keep_78 rfl ?_
    refine gx_isubN (by omega) d_Hunt_keep_80 ?_
    refine gx_iast d_Hunt_keep_81 z3.2.2.2.2.1 (by omega) (by omega) ?_
    have z4 := z3.s4 (upd f4 q.length (nI (op.length + l.length - u.length)))
    have k4 : gx_kp w _ z (z + 8) := k3.trans (gx_kp.st (a := z + 4) (x := gx_ai 0 401 (upd f4 q.length (nI (op.length + l.length - u.length)))) (by omega) (by omega))
    generalize hw4 : gx_st w3 (z + 4) (gx_ai 0 401 (upd f4 q.length (nI (op.length + l.length - u.length)))) = w4 at z4 k4 ⊢
    refine gx_aload_n d_Hunt_keep_82 rfl ?_
    refine gx_get fl_Hunt_21 d_Hunt_keep_83 z4.1 rfl ?_
    refine gx_aload_n d_Hunt_keep_86 rfl ?_
    refine gx_get fl_Hunt_41 d_Hunt_keep_87 z4.1 rfl ?_
    refine gx_iald d_Hunt_keep_90 z4.2.2.2.2.1 (by omega) (by omega) ?_
    refine gx_top pk_us ?_
    refine gx_bipush d_Hunt_keep_91 (nI 12) (by decide) ?_
    refine gx_min lk_Hunt_92 (by omega) (Nat.le_of_ble_eq_true rfl) d_Hunt_keep_93 ?_
    refine gx_top (gx_mnI (by omega) (by omega)) ?_
    refine gx_istore d_Hunt_keep_96 (Nat.le_of_ble_eq_true rfl) rfl ?_
    refine gx_iconst d_Hunt_keep_98 (nI 0) (by decide) ?_
    refine gx_istore d_Hunt_keep_99 (Nat.le_of_ble_eq_true rfl) rfl ?_
    have hD4 : w4.1 D = some (gx_ob 4 [.ref du, .ref dl]) := by rw [k4.2 _ (by omega)]; exact hD
    have hl4 : w4.1 dl = some (gx_bx 0 7 l) := by rw [k4.2 _ (by omega)]; exact hl
    refine lp_keep hq (Nat.min_le_right _ _) (by omega) ⟨by omega, by omega⟩ 13 0 f5 w4 (by omega) z4 hD4 hl4 (Nat.zero_le _) (fun w5 g5 z5 k5 hg1 hg2 => ?_)
    refine gx_aload_n d_Hunt_keep_142 rfl ?_
    refine gx_dup d_Hunt_keep_143 rfl ?_
    refine gx_get fl_Hunt_41 d_Hunt_keep_144 z5.1 rfl ?_
    refine gx_iconst d_Hunt_keep_147 (nI 1) (by decide) ?_
    refine gx_iaddN d_Hunt_keep_148 ?_
    refine gx_put fp_Hunt_41 (fun h => by cases h) d_Hunt_keep_149 z5.1 rfl rfl (Nat.le_of_ble_eq_true rfl) ?_
    refine gx_return rfl d_Hunt_keep_152 ?_
    have hdl : ((op ++ l).drop u.length).length = op.length + l.length - u.length := by rw [List.length_drop, List.length_append]
    refine ⟨rfl, ⟨by simp; omega, upd f1 q.length (nI at0), upd f2 q.length (nI num), upd f3 q.length (nI ((q.getD at0 sp_e0).2.2.1 + 1)), upd f4 q.length (nI (op.length + l.length - u.length)), g5, by simpa using z5.s0 (q.length + 1) lk, ?_⟩, (k4.trans k5).trans (gx_kp.st (by omega) (by omega))⟩
    refine hF.snoc (fun i hi => ⟨pk_un (by omega), pk_un (by omega), pk_un (by omega), pk_un (by omega), fun j hj => hg1 _ (by omega)⟩) ⟨pk_us, pk_us, pk_us, by rw [pk_us, hdl], fun j hj hj2 => ?_⟩
    simp only [hdl] at hj
    rw [hg2 j (Nat.zero_le _) (by omega)]
    congr 1
    simp [List.getD_eq_getElem?_getD, List.getElem?_drop]
  · exact absurd h39 (gx_nm1 (by omega))
end
section
/-! Hunt: going on, looking, laying -/
/-- the rows that go on from row number at, of size sz, with the dominoes from number d on -/
def sp_ch (a0 sz : Nat) (Rr : List Nat) : Nat → List (List Nat × List Nat) → List sp_E
  | _, [] => []
  | d, (u, l) :: t => if sp_agb u (Rr ++ l) = true then (nI a0, d, sz + 1, (Rr ++ l).drop u.length) :: sp_ch a0 sz Rr (d + 1) t else sp_ch a0 sz Rr (d + 1) t
def dmP (p : List Nat × List Nat) : Prop := p.1.count 35 ≤ p.2.count 35 ∨ (p.1 = [104, 35, 35] ∧ p.2 = [35])
theorem agb_le : ∀ {u v : List Nat}, sp_agb u v = true → u.length ≤ v.length → v.take u.length = u
  | [], v, _, _ => by simp
  | a :: u, [], _, h => by simp at h
  | a :: u, b :: v, h, hl => by
    simp only [sp_agb, Bool.and_eq_true, beq_iff_eq] at h
    have := agb_le h.2 (by simpa using hl)
    simp [h.1, this]
theorem agb_ge : ∀ {u v : List Nat}, sp_agb u v = true → v.length ≤ u.length → u.take v.length = v
  | u, [], _, _ => by simp
  | [], b :: v, _, h => by simp at h
  | a :: u, b :: v, h, hl => by
    simp only [sp_agb, Bool.and_eq_true, beq_iff_eq] at h
    have := agb_ge h.2 (by simpa using hl)
    simp [h.1, this]
theorem dm_fit {Rr u l : List Nat} (hR : 0 < Rr.count 35) (hd : dmP (u, l)) (ha : sp_agb u (Rr ++ l) = true) : u.length ≤ Rr.length + l.length ∧ ((Rr ++ l).drop u.length = [] ∨ 0 < ((Rr ++ l).drop u.length).count 35) := by
  have hle : u.length ≤ Rr.length + l.length := by
    refine Nat.le_of_not_lt fun hlt => ?_
    have h1 := agb_ge ha (by rw [List.length_append]; omega)
    have h2 : u = (Rr ++ l) ++ u.drop (Rr ++ l).length := by
      conv => lhs; rw [← List.take_append_drop (Rr ++ l).length u, h1]
    have h3 : u.count 35 = Rr.count 35 + l.count 35 + (u.drop (Rr ++ l).length).count 35 := by
      conv => lhs; rw [h2]
      rw [List.count_append, List.count_append]
    rcases hd with hd | ⟨e1, e2⟩
    · simp only at hd
      omega
    · simp only at e1 e2
      subst e1; subst e2
      have h4 : Rr.length ≤ 1 := by simp at hlt; omega
      have h5 : Rr.length ≠ 0 := fun e => by rw [List.length_eq_zero_iff.mp e] at hR; simp at hR
      have h6 : Rr.length = 1 := by omega
      rw [List.length_append, h6] at h1
      simp at h1
      obtain ⟨a, rfl⟩ := List.length_eq_one_iff.mp h6
      simp at h1
      rw [← h1] at hR
      exact absurd hR (by decide)
  refine ⟨hle, ?_⟩
  have h1 := agb_le ha (by rw [List.length_append]; exact hle)
  have h2 : Rr ++ l = u ++ (Rr ++ l).drop u.length := by
    conv => lhs; rw [← List.take_append_drop u.length (Rr ++ l), h1]
  have h3 : Rr.count 35 + l.count 35 = u.count 35 + ((Rr ++ l).drop u.length).count 35 := by
    rw [← List.count_append, ← List.count_append, ← h2]
  rcases hd with hd | ⟨e1, e2⟩
  · simp only at hd
    exact Or.inr (by omega)
  · simp only at e1 e2
    subst e1; subst e2
    by_cases hX : (Rr ++ [35]).drop [104, 35, 35].length = []
    · exact Or.inl hX
    · refine Or.inr (List.count_pos_iff.mpr ?_)
      have h4 : (Rr ++ [35]).getLast? = some 35 := by simp
      have h5 := List.getLast?_eq_some_getLast hX
      rw [h2, List.getLast?_append, h5] at h4
      have h6 := List.getLast_mem hX
      rw [Option.some_or] at h4
      rw [Option.some.inj h4] at h6
      exact h6
def sp_ge (e : sp_E) : Prop := (e.2.2.2 = [] ∨ 0 < e.2.2.2.count 35)
theorem sp_ch_ge {a0 sz : Nat} {Rr : List Nat} (hR : 0 < Rr.count 35) : ∀ (ds : List (List Nat × List Nat)) (d : Nat), (∀ p ∈ ds, dmP p) → ∀ e ∈ sp_ch a0 sz Rr d ds, sp_ge e
  | [], d, _, e, he => by simp [sp_ch] at he
  | (u, l) :: t, d, hd, e, he => by
    unfold sp_ch at he
    have ih := sp_ch_ge (a0 := a0) (sz := sz) hR t (d + 1) (fun p hp => hd p (List.mem_cons_of_mem _ hp))
    by_cases ha : sp_agb u (Rr ++ l) = true
    · rw [if_pos ha] at he
      rcases List.mem_cons.mp he with h1 | h1
      · rw [h1]
        exact (dm_fit hR (hd _ List.mem_cons_self) ha).2
      · exact ih e h1
    · rw [if_neg ha] at he
      exact ih e he
theorem gx_dd {ds : List (List Nat × List Nat)} {i : Nat} (h : i < ds.length) : ds.drop i = ((ds.getD i ([], [])).1, (ds.getD i ([], [])).2) :: ds.drop (i + 1) := by
  rw [List.drop_eq_getElem_cons h, List.getD_eq_getElem?_getD, List.getElem?_eq_getElem h]
  rfl
theorem gx_ddm {ds : List (List Nat × List Nat)} {i : Nat} (h : i < ds.length) : ds.getD i ([], []) ∈ ds := by
  rw [List.getD_eq_getElem?_getD, List.getElem?_eq_getElem h]
  exact List.getElem_mem h
theorem gx_qe {q : List sp_E} {k : List sp_E} {i : Nat} (h : i < q.length) : (q ++ k).getD i sp_e0 = q.getD i sp_e0 := by
  simp [List.getD_eq_getElem?_getD, List.getElem?_append_left h]
theorem gx_qm {q : List sp_E} {i : Nat} (h : i < q.length) : q.getD i sp_e0 ∈ q := by
  rw [List.getD_eq_getElem?_getD, List.getElem?_eq_getElem h]
  exact List.getElem_mem h
theorem d_Hunt_goOn_0 : decode prog_4_method_7_code 0 = .ok (.aload_n 0, 1) := by decide +kernel
theorem d_Hunt_goOn_1 : decode prog_4_method_7_code 1 = .ok (.getfield 21, 3) := by decide +kernel
theorem d_Hunt_goOn_4 : decode prog_4_method_7_code 4 = .ok (.iload_n 1, 1) := by decide +kernel
theorem d_Hunt_goOn_5 : decode prog_4_method_7_code 5 = .ok (.iaload, 1) := by decide +kernel
theorem d_Hunt_goOn_6 : decode prog_4_method_7_code 6 = .ok (.bipush 12, 2) := by decide +kernel
theorem d_Hunt_goOn_8 : decode prog_4_method_7_code 8 = .ok (.if_icmp .le 4, 3) := by decide +kernel
theorem d_Hunt_goOn_11 : decode prog_4_method_7_code 11 = .ok (.return_, 1) := by decide +kernel
theorem d_Hunt_goOn_12 : decode prog_4_method_7_code 12 = .ok (.aload_n 0, 1) := by decide +kernel
theorem d_Hunt_goOn_13 : decode prog_4_method_7_code 13 = .ok (.getfield 33, 3) := by decide +kernel
theorem d_Hunt_goOn_16 : decode prog_4_method_7_code 16 = .ok (.invokevirtual 44, 3) := by decide +kernel
theorem d_Hunt_goOn_19 : decode prog_4_method_7_code 19 = .ok (.iconst 0, 1) := by decide +kernel
theorem d_Hunt_goOn_20 : decode prog_4_method_7_code 20 = .ok (.istore_n 3, 1) := by decide +kernel
theorem d_Hunt_goOn_21 : decode prog_4_method_7_code 21 = .ok (.iload_n 3, 1) := by decide +kernel
theorem d_Hunt_goOn_22 : decode prog_4_method_7_code 22 = .ok (.aload_n 0, 1) := by decide +kernel
theorem d_Hunt_goOn_23 : decode prog_4_method_7_code 23 = .ok (.getfield 21, 3) := by decide +kernel
theorem d_Hunt_goOn_26 : decode prog_4_method_7_code 26 = .ok (.iload_n 1, 1) := by decide +kernel
theorem d_Hunt_goOn_27 : decode prog_4_method_7_code 27 = .ok (.iaload, 1) := by decide +kernel
theorem d_Hunt_goOn_28 : decode prog_4_method_7_code 28 = .ok (.if_icmp .ge 28, 3) := by decide +kernel
theorem d_Hunt_goOn_31 : decode prog_4_method_7_code 31 = .ok (.aload_n 0, 1) := by decide +kernel
theorem d_Hunt_goOn_32 : decode prog_4_method_7_code 32 = .ok (.getfield 33, 3) := by decide +kernel
theorem d_Hunt_goOn_35 : decode prog_4_method_7_code 35 = .ok (.aload_n 0, 1) := by decide +kernel
theorem d_Hunt_goOn_36 : decode prog_4_method_7_code 36 = .ok (.getfield 24, 3) := by decide +kernel
theorem d_Hunt_goOn_39 : decode prog_4_method_7_code 39 = .ok (.iload_n 1, 1) := by decide +kernel
theorem d_Hunt_goOn_40 : decode prog_4_method_7_code 40 = .ok (.bipush 12, 2) := by decide +kernel
theorem d_Hunt_goOn_42 : decode prog_4_method_7_code 42 = .ok (.imul, 1) := by decide +kernel
theorem d_Hunt_goOn_43 : decode prog_4_method_7_code 43 = .ok (.iload_n 3, 1) := by decide +kernel
theorem d_Hunt_goOn_44 : decode prog_4_method_7_code 44 = .ok (.iadd, 1) := by decide +kernel
theorem d_Hunt_goOn_45 : decode prog_4_method_7_code 45 = .ok (.caload, 1) := by decide +kernel
theorem d_Hunt_goOn_46 : decode prog_4_method_7_code 46 = .ok (.invokevirtual 74, 3) := by decide +kernel
theorem d_Hunt_goOn_49 : decode prog_4_method_7_code 49 = .ok (.pop, 1) := by decide +kernel
theorem d_Hunt_goOn_50 : decode prog_4_method_7_code 50 = .ok (.iinc 3 1, 3) := by decide +kernel
theorem d_Hunt_goOn_53 : decode prog_4_method_7_code 53 = .ok (.goto (-32), 3) := by decide +kernel
theorem d_Hunt_goOn_56 : decode prog_4_method_7_code 56 = .ok (.iconst 0, 1) := by decide +kernel
theorem d_Hunt_goOn_57 : decode prog_4_method_7_code 57 = .ok (.istore_n 3, 1) := by decide +kernel
theorem d_Hunt_goOn_58 : decode prog_4_method_7_code 58 = .ok (.iload_n 3, 1) := by decide +kernel
theorem d_Hunt_goOn_59 : decode prog_4_method_7_code 59 = .ok (.aload_n 2, 1) := by decide +kernel
theorem d_Hunt_goOn_60 : decode prog_4_method_7_code 60 = .ok (.invokevirtual 77, 3) := by decide +kernel
theorem d_Hunt_goOn_63 : decode prog_4_method_7_code 63 = .ok (.if_icmp .ge 42, 3) := by decide +kernel
theorem d_Hunt_goOn_66 : decode prog_4_method_7_code 66 = .ok (.aload_n 0, 1) := by decide +kernel
theorem d_Hunt_goOn_67 : decode prog_4_method_7_code 67 = .ok (.getfield 41, 3) := by decide +kernel
theorem d_Hunt_goOn_70 : decode prog_4_method_7_code 70 = .ok (.sipush 401, 3) := by decide +kernel
theorem d_Hunt_goOn_73 : decode prog_4_method_7_code 73 = .ok (.if_icmp .ge 32, 3) := by decide +kernel
theorem d_Hunt_goOn_76 : decode prog_4_method_7_code 76 = .ok (.aload_n 0, 1) := by decide +kernel
theorem d_Hunt_goOn_77 : decode prog_4_method_7_code 77 = .ok (.aload_n 2, 1) := by decide +kernel
theorem d_Hunt_goOn_78 : decode prog_4_method_7_code 78 = .ok (.iload_n 3, 1) := by decide +kernel
theorem d_Hunt_goOn_79 : decode prog_4_method_7_code 79 = .ok (.invokevirtual 47, 3) := by decide +kernel
theorem d_Hunt_goOn_82 : decode prog_4_method_7_code 82 = .ok (.invokevirtual 79, 3) := by decide +kernel
theorem d_Hunt_goOn_85 : decode prog_4_method_7_code 85 = .ok (.ifCond .eq 14, 3) := by decide +kernel
theorem d_Hunt_goOn_88 : decode prog_4_method_7_code 88 = .ok (.aload_n 0, 1) := by decide +kernel
theorem d_Hunt_goOn_89 : decode prog_4_method_7_code 89 = .ok (.iload_n 1, 1) := by decide +kernel
theorem d_Hunt_goOn_90 : decode prog_4_method_7_code 90 = .ok (.iload_n 3, 1) := by decide +kernel
theorem d_Hunt_goOn_91 : decode prog_4_method_7_code 91 = .ok (.aload_n 2, 1) := by decide +kernel
theorem d_Hunt_goOn_92 : decode prog_4_method_7_code 92 = .ok (.iload_n 3, 1) := by decide +kernel
theorem d_Hunt_goOn_93 : decode prog_4_method_7_code 93 = .ok (.invokevirtual 47, 3) := by decide +kernel
theorem d_Hunt_goOn_96 : decode prog_4_method_7_code 96 = .ok (.invokevirtual 53, 3) := by decide +kernel
theorem d_Hunt_goOn_99 : decode prog_4_method_7_code 99 = .ok (.iinc 3 1, 3) := by decide +kernel
theorem d_Hunt_goOn_102 : decode prog_4_method_7_code 102 = .ok (.goto (-44), 3) := by decide +kernel
theorem d_Hunt_goOn_105 : decode prog_4_method_7_code 105 = .ok (.return_, 1) := by decide +kernel
theorem lp_goOn1 {Q : gx_P} {z a0 x m : Nat} {lk : Int32} {Rr : List Nat} {f1 f2 f3 f4 f5 : Nat → Int32} (ha0 : a0 < m) (hm : m ≤ 401) (hR : Rr.length ≤ 12) (hRs : gx_sm Rr) (h4 : f4 a0 = nI Rr.length) (h5 : ∀ j, j < Rr.length → j < 12 → f5 (a0 * 12 + j) = nI (Rr.getD j 0)) : ∀ (fu : Nat) (i : Nat) (w : gx_W), Rr.length - i < fu → (hnR w z m lk (Rr.take i) f1 f2 f3 f4 f5) → (i ≤ Rr.length) → (∀ w', hnR w' z m lk Rr f1 f2 f3 f4 f5 → gx_kp w w' z (z + 8) → gx_X (fun _ _ => True) M_Hunt_goOn 4 Q 56 [some (.ref z), some (.int (nI a0)), some (.ref x), some (.int (nI Rr.length))] [] w' (0, 0)) → gx_X (fun _ _ => True) M_Hunt_goOn 4 Q 21 [some (.ref z), some (.int (nI a0)), some (.ref x), some (.int (nI i))] [] w (0, 0) := by
  intro fu
  induction fu with
  | zero => intro i w hfu; exact absurd hfu (Nat.not_lt_zero _)
  | succ fu ih =>
    intro i w hfu hz hi hX
    have htk : (Rr.take i).length = i := by rw [List.length_take]; omega
    refine gx_iload_n d_Hunt_goOn_21 rfl ?_
    refine gx_aload_n d_Hunt_goOn_22 rfl ?_
    refine gx_get fl_Hunt_21 d_Hunt_goOn_23 hz.1 rfl ?_
    refine gx_iload_n d_Hunt_goOn_26 rfl ?_
    refine gx_iald d_Hunt_goOn_27 hz.2.2.2.2.1 (by omega) (by omega) ?_
    refine gx_top h4 ?_
    refine gx_icmp_geN (by omega) (by omega) (tgt := 56) d_Hunt_goOn_28 (by decide) (fun h28 => ?_) (fun h28 => ?_)
    · have e : i = Rr.length := by omega
      subst e
      rw [List.take_of_length_le (Nat.le_refl _)] at hz
      exact hX w hz gx_kp.rf
    · refine gx_aload_n d_Hunt_goOn_31 rfl ?_
      refine gx_get fl_Hunt_33 d_Hunt_goOn_32 hz.1 rfl ?_
      refine gx_aload_n d_Hunt_goOn_35 rfl ?_
      refine gx_get fl_Hunt_24 d_Hunt_goOn_36 hz.1 rfl ?_
      refine gx_iload_n d_Hunt_goOn_39 rfl ?_
      refine gx_bipush d_Hunt_goOn_40 (nI 12) (by decide) ?_
      refine gx_imulN d_Hunt_goOn_42 ?_
      refine gx_iload_n d_Hunt_goOn_43 rfl ?_
      refine gx_iaddN d_Hunt_goOn_44 ?_
      refine gx_cald d_Hunt_goOn_45 hz.2.2.2.2.2.1 (by omega) (by omega) ?_
      refine gx_top (h5 i (by omega) (by omega)) ?_
      refine gx_cV1 lk_Hunt_74 d_Hunt_goOn_46 (ct_Word_add hz.2.2.2.2.2.2 (gx_sm_at hRs i) (by omega)) (Or.inr ⟨_, _, hz.2.2.2.2.2.2⟩) (by omega) rfl rfl (Nat.le_of_ble_eq_true rfl) ?_
      refine gx_pop d_Hunt_goOn_49 rfl ?_
      refine gx_iincN (n := 1) d_Hunt_goOn_50 rfl (by decide) (Nat.le_of_ble_eq_true rfl) rfl ?_
      refine gx_goto (tgt := 21) d_Hunt_goOn_53 (by decide) ?_
      have kk : gx_kp w (gx_st w (z + 6) (gx_bx 0 12 (Rr.take i ++ [Rr.getD i 0]))) z (z + 8) := gx_kp.st (by omega) (by omega)
      refine ih (i + 1) _ (by omega) ?_ (by omega) (fun w' h1 h2 => hX w' h1 (kk.trans h2))
      rw [gx_take_succ (by omega)]
      exact hz.so _
theorem lp_goOn2 {Q : gx_P} {w0 : gx_W} {z a0 x : Nat} {lk : Int32} {Rr : List Nat} {ds : List (List Nat × List Nat)} {fo : Nat → Nat} (hb0 : bxOk w0 x ds fo) (hxz : x + 303 ≤ z) (hfit : ∀ i, i < ds.length → sp_agb (ds.getD i ([], [])).1 (Rr ++ (ds.getD i ([], [])).2) = true → (ds.getD i ([], [])).1.length ≤ Rr.length + (ds.getD i ([], [])).2.length) : ∀ (fu : Nat) (i : Nat) (q : List sp_E) (w : gx_W), ds.length - i < fu → (gx_kp w0 w z (z + 8)) → (hnAt w z q lk Rr) → (a0 < q.length) → (i ≤ ds.length) → (∀ w', hnAt w' z ((q ++ sp_ch a0 (q.getD a0 sp_e0).2.2.1 Rr i (ds.drop i)).take 401) lk Rr → gx_kp w0 w' z (z + 8) → Q.1 none w') → gx_X (fun _ _ => True) M_Hunt_goOn 4 Q 58 [some (.ref z), some (.int (nI a0)), some (.ref x), some (.int (nI i))] [] w (0, 0) := by
  intro fu
  induction fu with
  | zero => intro i q w hfu; exact absurd hfu (Nat.not_lt_zero _)
  | succ fu ih =>
    intro i q w hfu hk hz ha0 hi hQ
    have hz0 := hz
    obtain ⟨hd60, U, V, hb1, hd⟩ := hb0.kept hk (by omega)
    obtain ⟨hq401, f1, f2, f3, f4, f5, hzr, hF⟩ := hz
    refine gx_iload_n d_Hunt_goOn_58 rfl ?_
    refine gx_aload_n d_Hunt_goOn_59 rfl ?_
    refine gx_cV1 lk_Hunt_77 d_Hunt_goOn_60 (ct_Box_size hb1) (Or.inl ⟨_, hb1.1⟩) (by omega) rfl rfl (Nat.le_of_ble_eq_true rfl) ?_
    refine gx_icmp_geN (by omega) (by omega) (tgt := 105) d_Hunt_goOn_63 (by decide) (fun h63 => ?_) (fun h63 => ?_)
    · refine gx_return rfl d_Hunt_goOn_105 ?_
      refine hQ w ?_ hk
      rw [List.drop_eq_nil_of_le h63, show sp_ch a0 (q.getD a0 sp_e0).2.2.1 Rr i [] = [] by unfold sp_ch; rfl, List.append_nil, List.take_of_length_le hq401]
      exact hz0
    · refine gx_aload_n d_Hunt_goOn_66 rfl ?_
      refine gx_get fl_Hunt_41 d_Hunt_goOn_67 hzr.1 rfl ?_
      refine gx_sipush d_Hunt_goOn_70 (nI 401) (by decide) ?_
      refine gx_icmp_geN (by omega) (by omega) (tgt := 105) d_Hunt_goOn_73 (by decide) (fun h73 => ?_) (fun h73 => ?_)
      · refine gx_return rfl d_Hunt_goOn_105 ?_
        refine hQ w ?_ hk
        rw [List.take_append_of_le_length (by omega), List.take_of_length_le hq401]
        exact hz0
      · refine gx_aload_n d_Hunt_goOn_76 rfl ?_
        refine gx_aload_n d_Hunt_goOn_77 rfl ?_
        refine gx_iload_n d_Hunt_goOn_78 rfl ?_
        obtain ⟨hD, hu, hl⟩ := hb1.2.2.2 i (by omega)
        rw [(hd i (by omega)).1] at hu
        rw [(hd i (by omega)).2] at hl
        refine gx_cV1 lk_Hunt_47 d_Hunt_goOn_79 (ct_Box_get hb1 (show i < ds.length by omega) hd60) (Or.inl ⟨_, hb1.1⟩) (by omega) rfl rfl (Nat.le_of_ble_eq_true rfl) ?_
        refine gx_cV1 lk_Hunt_79 d_Hunt_goOn_82 (ct_fits hzr hD hu hl) (Or.inl ⟨_, hzr.1⟩) (by omega) rfl rfl (Nat.le_of_ble_eq_true rfl) ?_
        have hbt := Bool.toNat_le (sp_agb (ds.getD i ([], [])).1 (Rr ++ (ds.getD i ([], [])).2))
        refine gx_if_eqN (by omega) (tgt := 99) d_Hunt_goOn_85 (by decide) (fun h85 => ?_) (fun h85 => ?_)
        · have hag : ¬ sp_agb (ds.getD i ([], [])).1 (Rr ++ (ds.getD i ([], [])).2) = true := fun g => by rw [g] at h85; exact absurd h85 (by decide)
          refine gx_iincN (n := 1) d_Hunt_goOn_99 rfl (by decide) (Nat.le_of_ble_eq_true rfl) rfl ?_
          refine gx_goto (tgt := 58) d_Hunt_goOn_102 (by decide) ?_
          refine ih (i + 1) q w (by omega) hk hz0 ha0 (by omega) (fun w' h1 h2 => hQ w' ?_ h2)
          rw [gx_dd (show i < ds.length by omega)]
          unfold sp_ch
          rw [if_neg hag]
          exact h1
        · have hag : sp_agb (ds.getD i ([], [])).1 (Rr ++ (ds.getD i ([], [])).2) = true := by cases hg : sp_agb (ds.getD i ([], [])).1 (Rr ++ (ds.getD i ([], [])).2) <;> simp_all
          refine gx_aload_n d_Hunt_goOn_88 rfl ?_
          refine gx_iload_n d_Hunt_goOn_89 rfl ?_
          refine gx_iload_n d_Hunt_goOn_90 rfl ?_
          refine gx_aload_n d_Hunt_goOn_91 rfl ?_
          refine gx_iload_n d_Hunt_goOn_92 rfl ?_
          refine gx_cV1 lk_Hunt_47 d_Hunt_goOn_93 (ct_Box_get hb1 (show i < ds.length by omega) hd60) (Or.inl ⟨_, hb1.1⟩) (by omega) rfl rfl (Nat.le_of_ble_eq_true rfl) ?_
          refine gx_cVr lk_Hunt_53 d_Hunt_goOn_96 (ct_keep hz0 hD hu hl ⟨by omega, by omega, by omega⟩ (by omega) (hfit i (by omega) hag) ha0 rfl rfl) (Or.inl ⟨_, hzr.1⟩) (by omega) rfl rfl (Nat.le_of_ble_eq_true rfl) (fun r2 w2 hq => ?_)
          obtain ⟨rfl, hz2, k2⟩ := hq
          refine gx_iincN (n := 1) d_Hunt_goOn_99 rfl (by decide) (Nat.le_of_ble_eq_true rfl) rfl ?_
          refine gx_goto (tgt := 58) d_Hunt_goOn_102 (by decide) ?_
          refine ih (i + 1) _ w2 (by omega) (hk.trans k2) hz2 (by simp; omega) (by omega) (fun w' h1 h2 => hQ w' ?_ h2)
          rw [gx_dd (show i < ds.length by omega)]
          unfold sp_ch
          rw [if_pos hag]
          rw [gx_qe ha0, List.append_assoc, List.singleton_append] at h1
          exact h1
def sp_nq (cap : Nat) (ds : List (List Nat × List Nat)) (a0 : Nat) (q : List sp_E) : List sp_E := if (q.getD a0 sp_e0).2.2.2.length ≤ 12 then (q ++ sp_ch a0 (q.getD a0 sp_e0).2.2.1 (q.getD a0 sp_e0).2.2.2 0 ds).take cap else q
theorem ct_goOn {w : gx_W} {z a0 x : Nat} {lk : Int32} {op : List Nat} {q : List sp_E} {ds : List (List Nat × List Nat)} {fo : Nat → Nat} (hz0 : hnAt w z q lk op) (hb0 : bxOk w x ds fo) (hxz : x + 303 ≤ z) (ha0 : a0 < q.length) (hRs : gx_sm (q.getD a0 sp_e0).2.2.2) (hRc : 0 < (q.getD a0 sp_e0).2.2.2.count 35) (hRl : (q.getD a0 sp_e0).2.2.2.length < 65536) (hds : ∀ p ∈ ds, dmP p) : gx_Ct M_Hunt_goOn 4 0 0 [.ref z, .int (nI a0), .ref x] w (fun v w' => v = none ∧ (∃ op', hnAt w' z (sp_nq 401 ds a0 q) lk op') ∧ gx_kp w w' z (z + 8)) := by
  refine gx_ct (L := [some (.ref z), some (.int (nI a0)), some (.ref x), none]) (by decide) (Nat.le_of_ble_eq_true rfl) rfl ?_
  have hz1 := hz0
  obtain ⟨hq401, f1, f2, f3, f4, f5, hz, hF⟩ := hz0
  obtain ⟨-, -, -, h4, h5⟩ := hF a0 ha0
  refine gx_aload_n d_Hunt_goOn_0 rfl ?_
  refine gx_get fl_Hunt_21 d_Hunt_goOn_1 hz.1 rfl ?_
  refine gx_iload_n d_Hunt_goOn_4 rfl ?_
  refine gx_iald d_Hunt_goOn_5 hz.2.2.2.2.1 (by omega) (by omega) ?_
  refine gx_top h4 ?_
  refine gx_bipush d_Hunt_goOn_6 (nI 12) (by decide) ?_
  refine gx_icmp_leN (by omega) (by omega) (tgt := 12) d_Hunt_goOn_8 (by decide) (fun h8 => ?_) (fun h8 => ?_)
  · rw [show sp_nq 401 ds a0 q = (q ++ sp_ch a0 (q.getD a0 sp_e0).2.2.1 (q.getD a0 sp_e0).2.2.2 0 ds).take 401 from if_pos h8]
    refine gx_aload_n d_Hunt_goOn_12 rfl ?_
    refine gx_get fl_Hunt_33 d_Hunt_goOn_13 hz.1 rfl ?_
    refine gx_cV0 lk_Hunt_44 d_Hunt_goOn_16 (ct_Word_empty hz.2.2.2.2.2.2) (Or.inr ⟨_, _, hz.2.2.2.2.2.2⟩) (by omega) rfl rfl (Nat.le_of_ble_eq_true rfl) ?_
    refine gx_iconst d_Hunt_goOn_19 (nI 0) (by decide) ?_
    refine gx_istore_n d_Hunt_goOn_20 (Nat.le_of_ble_eq_true rfl) rfl ?_
    have k1 : gx_kp w (gx_st w (z + 6) (gx_bx 0 12 [])) z (z + 8) := gx_kp.st (by omega) (by omega)
    refine lp_goOn1 ha0 hq401 h8 hRs h4 h5 ((q.getD a0 sp_e0).2.2.2.length + 1) 0 _ (by omega) (by rw [List.take_zero]; exact hz.so []) (Nat.zero_le _) (fun w2 hz2 k2 => ?_)
    refine gx_iconst d_Hunt_goOn_56 (nI 0) (by decide) ?_
    refine gx_istore_n d_Hunt_goOn_57 (Nat.le_of_ble_eq_true rfl) rfl ?_
    refine lp_goOn2 hb0 hxz (fun i hi hag => (dm_fit hRc (hds _ (gx_ddm hi)) hag).1) (ds.length + 1) 0 q w2 (by omega) (k1.trans k2) ⟨hq401, f1, f2, f3, f4, f5, hz2, hF⟩ ha0 (Nat.zero_le _) (fun w3 hz3 k3 => ?_)
    exact ⟨rfl, ⟨_, by simpa using hz3⟩, k3⟩
  · rw [show sp_nq 401 ds a0 q = q from if_neg (by omega)]
    refine gx_return rfl d_Hunt_goOn_11 ?_
    exact ⟨rfl, ⟨op, hz1⟩, gx_kp.rf⟩
def sp_lk (cap : Nat) (ds : List (List Nat × List Nat)) : Nat → Nat → List sp_E → Nat × Nat × List sp_E
  | 0, a0, q => (if a0 < q.length then 2 else 0, a0, q)
  | n + 1, a0, q => if a0 < q.length then (if (q.getD a0 sp_e0).2.2.2.length = 0 then (1, a0 + 1, q) else sp_lk cap ds n (a0 + 1) (sp_nq cap ds a0 q)) else (0, a0, q)
def sp_qok (q : List sp_E) : Prop := ∀ e ∈ q, sp_ge e ∧ gx_sm e.2.2.2 ∧ e.2.2.2.length < 65536
theorem sp_ch_sm {a0 sz : Nat} {Rr : List Nat} (hR : gx_sm Rr) (hRl : Rr.length ≤ 12) : ∀ (ds : List (List Nat × List Nat)) (d : Nat), (∀ p ∈ ds, gx_sm p.2 ∧ p.2.length ≤ 7) → ∀ e ∈ sp_ch a0 sz Rr d ds, gx_sm e.2.2.2 ∧ e.2.2.2.length < 65536
  | [], d, _, e, he => by simp [sp_ch] at he
  | (u, l) :: t, d, hd, e, he => by
    unfold sp_ch at he
    have ih := sp_ch_sm (a0 := a0) (sz := sz) hR hRl t (d + 1) (fun p hp => hd p (List.mem_cons_of_mem _ hp))
    have h7 := hd _ List.mem_cons_self
    by_cases ha : sp_agb u (Rr ++ l) = true
    · rw [if_pos ha] at he
      rcases List.mem_cons.mp he with h1 | h1
      · rw [h1]
        refine ⟨fun c hc => gx_sm_app hR h7.1 c (List.mem_of_mem_drop hc), ?_⟩
        simp only [List.length_drop, List.length_append]
        have := h7.2
        simp only at this
        omega
      · exact ih e h1
    · rw [if_neg ha] at he
      exact ih e he
theorem sp_nq_ok {cap : Nat} {ds : List (List Nat × List Nat)} {a0 : Nat} {q : List sp_E} (hq : sp_qok q) (ha : a0 < q.length) (hne : (q.getD a0 sp_e0).2.2.2.length ≠ 0) (hds : ∀ p ∈ ds, dmP p) (hdl : ∀ p ∈ ds, gx_sm p.2 ∧ p.2.length ≤ 7) : sp_qok (sp_nq cap ds a0 q) := by
  have he := hq _ (gx_qm ha)
  unfold sp_nq
  split
  · rename_i h12
    intro e hm
    rcases List.mem_append.mp (List.mem_of_mem_take hm) with h1 | h1
    · exact hq e h1
    · have hc : 0 < (q.getD a0 sp_e0).2.2.2.count 35 := by
        rcases he.1 with g | g
        · rw [g] at hne; exact absurd rfl hne
        · exact g
      have h2 := sp_ch_sm he.2.1 h12 ds 0 hdl e h1
      exact ⟨sp_ch_ge hc ds 0 hds e h1, h2.1, h2.2⟩
  · exact hq
theorem d_Hunt_look_0 : decode prog_4_method_4_code 0 = .ok (.aload_n 0, 1) := by decide +kernel
theorem d_Hunt_look_1 : decode prog_4_method_4_code 1 = .ok (.iconst 0, 1) := by decide +kernel
theorem d_Hunt_look_2 : decode prog_4_method_4_code 2 = .ok (.putfield 37, 3) := by decide +kernel
theorem d_Hunt_look_5 : decode prog_4_method_4_code 5 = .ok (.aload_n 0, 1) := by decide +kernel
theorem d_Hunt_look_6 : decode prog_4_method_4_code 6 = .ok (.iconst 0, 1) := by decide +kernel
theorem d_Hunt_look_7 : decode prog_4_method_4_code 7 = .ok (.putfield 41, 3) := by decide +kernel
theorem d_Hunt_look_10 : decode prog_4_method_4_code 10 = .ok (.aload_n 0, 1) := by decide +kernel
theorem d_Hunt_look_11 : decode prog_4_method_4_code 11 = .ok (.getfield 33, 3) := by decide +kernel
theorem d_Hunt_look_14 : decode prog_4_method_4_code 14 = .ok (.invokevirtual 44, 3) := by decide +kernel
theorem d_Hunt_look_17 : decode prog_4_method_4_code 17 = .ok (.aload_n 0, 1) := by decide +kernel
theorem d_Hunt_look_18 : decode prog_4_method_4_code 18 = .ok (.iconst (-1), 1) := by decide +kernel
theorem d_Hunt_look_19 : decode prog_4_method_4_code 19 = .ok (.iconst 0, 1) := by decide +kernel
theorem d_Hunt_look_20 : decode prog_4_method_4_code 20 = .ok (.aload_n 1, 1) := by decide +kernel
theorem d_Hunt_look_21 : decode prog_4_method_4_code 21 = .ok (.iconst 0, 1) := by decide +kernel
theorem d_Hunt_look_22 : decode prog_4_method_4_code 22 = .ok (.invokevirtual 47, 3) := by decide +kernel
theorem d_Hunt_look_25 : decode prog_4_method_4_code 25 = .ok (.invokevirtual 53, 3) := by decide +kernel
theorem d_Hunt_look_28 : decode prog_4_method_4_code 28 = .ok (.iconst 0, 1) := by decide +kernel
theorem d_Hunt_look_29 : decode prog_4_method_4_code 29 = .ok (.istore_n 3, 1) := by decide +kernel
theorem d_Hunt_look_30 : decode prog_4_method_4_code 30 = .ok (.iload_n 3, 1) := by decide +kernel
theorem d_Hunt_look_31 : decode prog_4_method_4_code 31 = .ok (.aload_n 0, 1) := by decide +kernel
theorem d_Hunt_look_32 : decode prog_4_method_4_code 32 = .ok (.getfield 41, 3) := by decide +kernel
theorem d_Hunt_look_35 : decode prog_4_method_4_code 35 = .ok (.if_icmp .ge 38, 3) := by decide +kernel
theorem d_Hunt_look_38 : decode prog_4_method_4_code 38 = .ok (.iload_n 3, 1) := by decide +kernel
theorem d_Hunt_look_39 : decode prog_4_method_4_code 39 = .ok (.iload_n 2, 1) := by decide +kernel
theorem d_Hunt_look_40 : decode prog_4_method_4_code 40 = .ok (.if_icmp .ge 33, 3) := by decide +kernel
theorem d_Hunt_look_43 : decode prog_4_method_4_code 43 = .ok (.aload_n 0, 1) := by decide +kernel
theorem d_Hunt_look_44 : decode prog_4_method_4_code 44 = .ok (.iload_n 3, 1) := by decide +kernel
theorem d_Hunt_look_45 : decode prog_4_method_4_code 45 = .ok (.iconst 1, 1) := by decide +kernel
theorem d_Hunt_look_46 : decode prog_4_method_4_code 46 = .ok (.iadd, 1) := by decide +kernel
theorem d_Hunt_look_47 : decode prog_4_method_4_code 47 = .ok (.putfield 37, 3) := by decide +kernel
theorem d_Hunt_look_50 : decode prog_4_method_4_code 50 = .ok (.aload_n 0, 1) := by decide +kernel
theorem d_Hunt_look_51 : decode prog_4_method_4_code 51 = .ok (.getfield 21, 3) := by decide +kernel
theorem d_Hunt_look_54 : decode prog_4_method_4_code 54 = .ok (.iload_n 3, 1) := by decide +kernel
theorem d_Hunt_look_55 : decode prog_4_method_4_code 55 = .ok (.iaload, 1) := by decide +kernel
theorem d_Hunt_look_56 : decode prog_4_method_4_code 56 = .ok (.ifCond .ne 5, 3) := by decide +kernel
theorem d_Hunt_look_59 : decode prog_4_method_4_code 59 = .ok (.iconst 1, 1) := by decide +kernel
theorem d_Hunt_look_60 : decode prog_4_method_4_code 60 = .ok (.ireturn, 1) := by decide +kernel
theorem d_Hunt_look_61 : decode prog_4_method_4_code 61 = .ok (.aload_n 0, 1) := by decide +kernel
theorem d_Hunt_look_62 : decode prog_4_method_4_code 62 = .ok (.iload_n 3, 1) := by decide +kernel
theorem d_Hunt_look_63 : decode prog_4_method_4_code 63 = .ok (.aload_n 1, 1) := by decide +kernel
theorem d_Hunt_look_64 : decode prog_4_method_4_code 64 = .ok (.invokevirtual 57, 3) := by decide +kernel
theorem d_Hunt_look_67 : decode prog_4_method_4_code 67 = .ok (.iinc 3 1, 3) := by decide +kernel
theorem d_Hunt_look_70 : decode prog_4_method_4_code 70 = .ok (.goto (-40), 3) := by decide +kernel
theorem d_Hunt_look_73 : decode prog_4_method_4_code 73 = .ok (.aload_n 0, 1) := by decide +kernel
theorem d_Hunt_look_74 : decode prog_4_method_4_code 74 = .ok (.getfield 37, 3) := by decide +kernel
theorem d_Hunt_look_77 : decode prog_4_method_4_code 77 = .ok (.aload_n 0, 1) := by decide +kernel
theorem d_Hunt_look_78 : decode prog_4_method_4_code 78 = .ok (.getfield 41, 3) := by decide +kernel
theorem d_Hunt_look_81 : decode prog_4_method_4_code 81 = .ok (.if_icmp .ge 7, 3) := by decide +kernel
theorem d_Hunt_look_84 : decode prog_4_method_4_code 84 = .ok (.iconst 2, 1) := by decide +kernel
theorem d_Hunt_look_85 : decode prog_4_method_4_code 85 = .ok (.goto 4, 3) := by decide +kernel
theorem d_Hunt_look_88 : decode prog_4_method_4_code 88 = .ok (.iconst 0, 1) := by decide +kernel
theorem d_Hunt_look_89 : decode prog_4_method_4_code 89 = .ok (.ireturn, 1) := by decide +kernel
theorem lp_look {Q : gx_P} {w0 : gx_W} {z x fuel : Nat} {ds : List (List Nat × List Nat)} {fo : Nat → Nat} (hb0 : bxOk w0 x ds fo) (hxz : x + 303 ≤ z) (hfu0 : fuel ≤ 400) (hds : ∀ p ∈ ds, dmP p) (hdl : ∀ p ∈ ds, gx_sm p.2 ∧ p.2.length ≤ 7) : ∀ (fu : Nat) (i : Nat) (q : List sp_E) (op : List Nat) (w : gx_W), fuel - i < fu → (gx_kp w0 w z (z + 8)) → (hnAt w z q (nI i) op) → (sp_qok q) → (i ≤ fuel) → (∀ w', (∃ op', hnAt w' z (sp_lk 401 ds (fuel - i) i q).2.2 (nI (sp_lk 401 ds (fuel - i) i q).2.1) op') → gx_kp w0 w' z (z + 8) → Q.1 (some (.int (nI (sp_lk 401 ds (fuel - i) i q).1))) w') → gx_X (fun _ _ => True) M_Hunt_look 5 Q 30 [some (.ref z), some (.ref x), some (.int (nI fuel)), some (.int (nI i))] [] w (0, 0) := by
  intro fu
  induction fu with
  | zero => intro i q op w hfu; exact absurd hfu (Nat.not_lt_zero _)
  | succ fu ih =>
    intro i q op w hfu hk hz hq hi hQ
    have hz0 := hz
    obtain ⟨hq401, f1, f2, f3, f4, f5, hzr, hF⟩ := hz
    refine gx_iload_n d_Hunt_look_30 rfl ?_
    refine gx_aload_n d_Hunt_look_31 rfl ?_
    refine gx_get fl_Hunt_41 d_Hunt_look_32 hzr.1 rfl ?_
    refine gx_icmp_geN (by omega) (by omega) (tgt := 73) d_Hunt_look_35 (by decide) (fun h35 => ?_) (fun h35 => ?_)
    · have e0 : sp_lk 401 ds (fuel - i) i q = (0, i, q) := by
        cases fuel - i with
        | zero => simp only [sp_lk, if_neg (show ¬ i < q.length by omega)]
        | succ m => simp only [sp_lk, if_neg (show ¬ i < q.length by omega)]
      rw [e0] at hQ
      refine gx_aload_n d_Hunt_look_73 rfl ?_
      refine gx_get fl_Hunt_37 d_Hunt_look_74 hzr.1 rfl ?_
      refine gx_aload_n d_Hunt_look_77 rfl ?_
      refine gx_get fl_Hunt_41 d_Hunt_look_78 hzr.1 rfl ?_
      refine gx_icmp_geN (by omega) (by omega) (tgt := 88) d_Hunt_look_81 (by decide) (fun h81 => ?_) (fun h81 => ?_)
      · refine gx_iconst d_Hunt_look_88 (nI 0) (by decide) ?_
        refine gx_ireturn rfl d_Hunt_look_89 ?_
        exact hQ w ⟨op, hz0⟩ hk
      · exact absurd h35 h81
    · have h35b : i < q.length := by omega
      refine gx_iload_n d_Hunt_look_38 rfl ?_
      refine gx_iload_n d_Hunt_look_39 rfl ?_
      refine gx_icmp_geN (by omega) (by omega) (tgt := 73) d_Hunt_look_40 (by decide) (fun h40 => ?_) (fun h40 => ?_)
      · have e0 : sp_lk 401 ds (fuel - i) i q = (2, i, q) := by
          rw [show fuel - i = 0 by omega]
          simp only [sp_lk, if_pos h35b]
        rw [e0] at hQ
        refine gx_aload_n d_Hunt_look_73 rfl ?_
        refine gx_get fl_Hunt_37 d_Hunt_look_74 hzr.1 rfl ?_
        refine gx_aload_n d_Hunt_look_77 rfl ?_
        refine gx_get fl_Hunt_41 d_Hunt_look_78 hzr.1 rfl ?_
        refine gx_icmp_geN (by omega) (by omega) (tgt := 88) d_Hunt_look_81 (by decide) (fun h81 => ?_) (fun h81 => ?_)
        · exact absurd h81 (by omega)
        · refine gx_iconst d_Hunt_look_84 (nI 2) (by decide) ?_
          refine gx_goto (tgt := 89) d_Hunt_look_85 (by decide) ?_
          refine gx_ireturn rfl d_Hunt_look_89 ?_
          exact hQ w ⟨op, hz0⟩ hk
      · refine gx_aload_n d_Hunt_look_43 rfl ?_
        refine gx_iload_n d_Hunt_look_44 rfl ?_
        refine gx_iconst d_Hunt_look_45 (nI 1) (by decide) ?_
        refine gx_iaddN d_Hunt_look_46 ?_
        refine gx_put fp_Hunt_37 (fun h => by cases h) d_Hunt_look_47 hzr.1 rfl rfl (Nat.le_of_ble_eq_true rfl) ?_
        have z1 := hzr.s0 q.length (nI (i + 1))
        have k1 : gx_kp w _ z (z + 8) := gx_kp.st (a := z) (x := gx_ob 7 [.ref (z + 1), .ref (z + 2), .ref (z + 3), .ref (z + 4), .ref (z + 5), .ref (z + 6), .int (nI q.length), .int (nI (i + 1))]) (by omega) (by omega)
        refine gx_w (w' := gx_st w z (gx_ob 7 [.ref (z + 1), .ref (z + 2), .ref (z + 3), .ref (z + 4), .ref (z + 5), .ref (z + 6), .int (nI q.length), .int (nI (i + 1))])) rfl ?_
        refine gx_aload_n d_Hunt_look_50 rfl ?_
        refine gx_get fl_Hunt_21 d_Hunt_look_51 z1.1 rfl ?_
        refine gx_iload_n d_Hunt_look_54 rfl ?_
        have hqi := hq _ (gx_qm h35b)
        refine gx_iald d_Hunt_look_55 z1.2.2.2.2.1 (by omega) (by omega) ?_
        refine gx_top (hF i h35b).2.2.2.1 ?_
        have hrl := hqi.2.2
        have ef : fuel - i = (fuel - (i + 1)) + 1 := by omega
        rw [ef] at hQ
        simp only [sp_lk, if_pos h35b] at hQ
        refine gx_if_neN (by omega) (tgt := 61) d_Hunt_look_56 (by decide) (fun h56 => ?_) (fun h56 => ?_)
        · rw [if_neg h56] at hQ
          refine gx_aload_n d_Hunt_look_61 rfl ?_
          refine gx_iload_n d_Hunt_look_62 rfl ?_
          refine gx_aload_n d_Hunt_look_63 rfl ?_
          refine gx_cVr lk_Hunt_57 d_Hunt_look_64 (ct_goOn (z := z) ⟨hq401, f1, f2, f3, f4, f5, z1, hF⟩ (hb0.kept (hk.trans k1) (by omega)) hxz h35b hqi.2.1 (by rcases hqi.1 with g | g; (rw [g] at h56; exact absurd rfl h56); exact g) hrl hds) (Or.inl ⟨_, z1.1⟩) (by omega) rfl rfl (Nat.le_of_ble_eq_true rfl) (fun r2 w2 hq => ?_)
          obtain ⟨rfl, ⟨op2, hz2⟩, k2⟩ := hq
          refine gx_iincN (n := 1) d_Hunt_look_67 rfl (by decide) (Nat.le_of_ble_eq_true rfl) rfl ?_
          refine gx_goto (tgt := 30) d_Hunt_look_70 (by decide) ?_
          exact ih (i + 1) _ op2 w2 (by omega) ((hk.trans k1).trans k2) hz2 (sp_nq_ok hq h35b h56 hds hdl) (by omega) hQ
        · rw [if_pos h56] at hQ
          refine gx_iconst d_Hunt_look_59 (nI 1) (by decide) ?_
          refine gx_ireturn rfl d_Hunt_look_60 ?_
          exact hQ _ ⟨op, hq401, f1, f2, f3, f4, f5, z1, hF⟩ (hk.trans k1)
theorem ct_look {w : gx_W} {z x fuel : Nat} {lk : Int32} {op : List Nat} {q : List sp_E} {ds : List (List Nat × List Nat)} {fo : Nat → Nat} {u0 l0 : List Nat} (hz0 : hnAt w z q lk op) (hb0 : bxOk w x ds fo) (hxz : x + 303 ≤ z) (hfu : fuel ≤ 400) (hds : ∀ p ∈ ds, dmP p) (hdl : ∀ p ∈ ds, gx_sm p.2 ∧ p.2.length ≤ 7) (hd0 : 0 < ds.length) (he0 : ds.getD 0 ([], []) = (u0, l0)) (hul : u0.length ≤ l0.length) (hge : 0 < (l0.drop u0.length).count 35) : gx_Ct M_Hunt_look 5 0 0 [.ref z, .ref x, .int (nI fuel)] w (fun v w' => v = some (.int (nI (sp_lk 401 ds fuel 0 [(-1, 0, 1, l0.drop u0.length)]).1)) ∧ (∃ op', hnAt w' z (sp_lk 401 ds fuel 0 [(-1, 0, 1, l0.drop u0.length)]).2.2 (nI (sp_lk 401 ds fuel 0 [(-1, 0, 1, l0.drop u0.length)]).2.1) op') ∧ gx_kp w w' z (z + 8)) := by
  refine gx_ct (L := [some (.ref z), some (.ref x), some (.int (nI fuel)), none]) (by decide) (Nat.le_of_ble_eq_true rfl) rfl ?_
  obtain ⟨hq401, f1, f2, f3, f4, f5, hz, hF⟩ := hz0
  have hl7 := hdl _ (gx_ddm hd0)
  rw [he0] at hl7
  refine gx_aload_n d_Hunt_look_0 rfl ?_
  refine gx_iconst d_Hunt_look_1 (nI 0) (by decide) ?_
  refine gx_put fp_Hunt_37 (fun h => by cases h) d_Hunt_look_2 hz.1 rfl rfl (Nat.le_of_ble_eq_true rfl) ?_
  have z1 := hz.s0 q.length (nI 0)
  have k1 : gx_kp w _ z (z + 8) := gx_kp.st (a := z) (x := gx_ob 7 [.ref (z + 1), .ref (z + 2), .ref (z + 3), .ref (z + 4), .ref (z + 5), .ref (z + 6), .int (nI q.length), .int (nI 0)]) (by omega) (by omega)
  refine gx_w (w' := gx_st w z (gx_ob 7 [.ref (z + 1), .ref (z + 2), .ref (z + 3), .ref (z + 4), .ref (z + 5), .ref (z + 6), .int (nI q.length), .int (nI 0)])) rfl ?_
  refine gx_aload_n d_Hunt_look_5 rfl ?_
  refine gx_iconst d_Hunt_look_6 (nI 0) (by decide) ?_
  refine gx_put fp_Hunt_41 (fun h => by cases h) d_Hunt_look_7 z1.1 rfl rfl (Nat.le_of_ble_eq_true rfl) ?_
  have z2 := z1.s0 0 (nI 0)
  have k2 := k1.trans (gx_kp.st (w := gx_st w z (gx_ob 7 [.ref (z + 1), .ref (z + 2), .ref (z + 3), .ref (z + 4), .ref (z + 5), .ref (z + 6), .int (nI q.length), .int (nI 0)])) (a := z) (x := gx_ob 7 [.ref (z + 1), .ref (z + 2), .ref (z + 3), .ref (z + 4), .ref (z + 5), .ref (z + 6), .int (nI 0), .int (nI 0)]) (Nat.le_refl z) (show z < z + 8 by omega))
  refine gx_w (w' := gx_st (gx_st w z (gx_ob 7 [.ref (z + 1), .ref (z + 2), .ref (z + 3), .ref (z + 4), .ref (z + 5), .ref (z + 6), .int (nI q.length), .int (nI 0)])) z (gx_ob 7 [.ref (z + 1), .ref (z + 2), .ref (z + 3), .ref (z + 4), .ref (z + 5), .ref (z + 6), .int (nI 0), .int (nI 0)])) rfl ?_
  refine gx_aload_n d_Hunt_look_10 rfl ?_
  refine gx_get fl_Hunt_33 d_Hunt_look_11 z2.1 rfl ?_
  refine gx_cV0 lk_Hunt_44 d_Hunt_look_14 (ct_Word_empty z2.2.2.2.2.2.2) (Or.inr ⟨_, _, z2.2.2.2.2.2.2⟩) (by omega) rfl rfl (Nat.le_of_ble_eq_true rfl) ?_
  have z3 := z2.so []
  have k3 := k2.trans (gx_kp.st (w := gx_st (gx_st w z (gx_ob 7 [.ref (z + 1), .ref (z + 2), .ref (z + 3), .ref (z + 4), .ref (z + 5), .ref (z + 6), .int (nI q.length), .int (nI 0)])) z (gx_ob 7 [.ref (z + 1), .ref (z + 2), .ref (z + 3), .ref (z + 4), .ref (z + 5), .ref (z + 6), .int (nI 0), .int (nI 0)])) (a := z + 6) (x := gx_bx 0 12 []) (show z ≤ z + 6 by omega) (show z + 6 < z + 8 by omega))
  generalize hwg : gx_st _ (z + 6) (gx_bx 0 12 []) = w3 at z3 k3 ⊢
  obtain ⟨hd60, U, V, hb1, hd⟩ := hb0.kept k3 (by omega)
  obtain ⟨hD, hu, hl⟩ := hb1.2.2.2 0 (by omega)
  rw [(hd 0 hd0).1, he0] at hu
  rw [(hd 0 hd0).2, he0] at hl
  refine gx_aload_n d_Hunt_look_17 rfl ?_
  refine gx_iconst d_Hunt_look_18 (-1) (by decide) ?_
  refine gx_iconst d_Hunt_look_19 (nI 0) (by decide) ?_
  refine gx_aload_n d_Hunt_look_20 rfl ?_
  refine gx_iconst d_Hunt_look_21 (nI 0) (by decide) ?_
  refine gx_cV1 lk_Hunt_47 d_Hunt_look_22 (ct_Box_get hb1 hd0 hd60) (Or.inl ⟨_, hb1.1⟩) (by omega) rfl rfl (Nat.le_of_ble_eq_true rfl) ?_
  refine gx_cVr lk_Hunt_53 d_Hunt_look_25 (ct_keep_root (q := []) (sz := 1) (op := []) ⟨by simp, f1, f2, f3, f4, f5, z3, fun i hi => absurd hi (Nat.not_lt_zero i)⟩ hD hu hl ⟨by omega, by omega, by omega⟩ (by simp) (by simpa using hul) rfl rfl) (Or.inl ⟨_, z3.1⟩) (by omega) rfl rfl (Nat.le_of_ble_eq_true rfl) (fun r2 w4 hq => ?_)
  obtain ⟨rfl, hz4, k4⟩ := hq
  refine gx_iconst d_Hunt_look_28 (nI 0) (by decide) ?_
  refine gx_istore_n d_Hunt_look_29 (Nat.le_of_ble_eq_true rfl) rfl ?_
  refine lp_look hb0 hxz hfu hds hdl (fuel + 1) 0 _ [] w4 (by omega) (k3.trans k4) hz4 (fun e he => ?_) (Nat.zero_le _) (fun w5 h5 k5 => ?_)
  · rw [List.nil_append] at he
    rw [List.mem_singleton.mp he]
    refine ⟨Or.inr (by simpa using hge), fun c hc => hl7.1 c (List.mem_of_mem_drop (by simpa using hc)), ?_⟩
    simp only [List.nil_append, List.length_drop]
    have := hl7.2
    simp only at this
    omega
  · simp only [List.nil_append, Nat.sub_zero] at h5 ⊢
    first
      | exact ⟨rfl, h5, k5⟩
      | exact ⟨trivial, h5, k5⟩
end
section
/-! Hunt: laying; the whole object -/
theorem d_Hunt_foundSize_0 : decode prog_4_method_5_code 0 = .ok (.aload_n 0, 1) := by decide +kernel
theorem d_Hunt_foundSize_1 : decode prog_4_method_5_code 1 = .ok (.getfield 37, 3) := by decide +kernel
theorem d_Hunt_foundSize_4 : decode prog_4_method_5_code 4 = .ok (.ifCond .le 17, 3) := by decide +kernel
theorem d_Hunt_foundSize_7 : decode prog_4_method_5_code 7 = .ok (.aload_n 0, 1) := by decide +kernel
theorem d_Hunt_foundSize_8 : decode prog_4_method_5_code 8 = .ok (.getfield 18, 3) := by decide +kernel
theorem d_Hunt_foundSize_11 : decode prog_4_method_5_code 11 = .ok (.aload_n 0, 1) := by decide +kernel
theorem d_Hunt_foundSize_12 : decode prog_4_method_5_code 12 = .ok (.getfield 37, 3) := by decide +kernel
theorem d_Hunt_foundSize_15 : decode prog_4_method_5_code 15 = .ok (.iconst 1, 1) := by decide +kernel
theorem d_Hunt_foundSize_16 : decode prog_4_method_5_code 16 = .ok (.isub, 1) := by decide +kernel
theorem d_Hunt_foundSize_17 : decode prog_4_method_5_code 17 = .ok (.iaload, 1) := by decide +kernel
theorem d_Hunt_foundSize_18 : decode prog_4_method_5_code 18 = .ok (.goto 4, 3) := by decide +kernel
theorem d_Hunt_foundSize_21 : decode prog_4_method_5_code 21 = .ok (.iconst 0, 1) := by decide +kernel
theorem d_Hunt_foundSize_22 : decode prog_4_method_5_code 22 = .ok (.ireturn, 1) := by decide +kernel
theorem ct_foundSize {w : gx_W} {z k : Nat} {op : List Nat} {q : List sp_E} (hz0 : hnAt w z q (nI (k + 1)) op) (hk : k < q.length) : gx_Ct M_Hunt_foundSize 1 0 0 [.ref z] w (gx_eq (some (.int (nI (q.getD k sp_e0).2.2.1))) w) := by
  refine gx_ct (L := [some (.ref z)]) (by decide) (Nat.le_of_ble_eq_true rfl) rfl ?_
  obtain ⟨hq401, f1, f2, f3, f4, f5, hz, hF⟩ := hz0
  refine gx_aload_n d_Hunt_foundSize_0 rfl ?_
  refine gx_get fl_Hunt_37 d_Hunt_foundSize_1 hz.1 rfl ?_
  refine gx_if_leN (by omega) (tgt := 21) d_Hunt_foundSize_4 (by decide) (fun h4 => ?_) (fun h4 => ?_)
  · exact absurd h4 (by omega)
  · refine gx_aload_n d_Hunt_foundSize_7 rfl ?_
    refine gx_get fl_Hunt_18 d_Hunt_foundSize_8 hz.1 rfl ?_
    refine gx_aload_n d_Hunt_foundSize_11 rfl ?_
    refine gx_get fl_Hunt_37 d_Hunt_foundSize_12 hz.1 rfl ?_
    refine gx_iconst d_Hunt_foundSize_15 (nI 1) (by decide) ?_
    refine gx_isubN (by omega) d_Hunt_foundSize_16 ?_
    rw [Nat.add_sub_cancel]
    refine gx_iald d_Hunt_foundSize_17 hz.2.2.2.1 (by omega) (by omega) ?_
    rw [(hF k hk).2.2.1]
    refine gx_goto (tgt := 22) d_Hunt_foundSize_18 (by decide) ?_
    refine gx_ireturn rfl d_Hunt_foundSize_22 ?_
    exact ⟨rfl, rfl⟩
def sp_ph (q : List sp_E) : Nat → Int32 → List Nat
  | 0, _ => []
  | n + 1, a => if a < 0 then [] else (q.getD a.toNatClampNeg sp_e0).2.1 :: sp_ph q n (q.getD a.toNatClampNeg sp_e0).1
def sp_qf (q : List sp_E) : Prop := ∀ i, i < q.length → ((q.getD i sp_e0).1 = -1 ∨ ∃ j, j < i ∧ (q.getD i sp_e0).1 = nI j) ∧ (q.getD i sp_e0).2.1 < 65536
theorem d_Hunt_layFound_0 : decode prog_4_method_6_code 0 = .ok (.aload_n 1, 1) := by decide +kernel
theorem d_Hunt_layFound_1 : decode prog_4_method_6_code 1 = .ok (.invokevirtual 61, 3) := by decide +kernel
theorem d_Hunt_layFound_4 : decode prog_4_method_6_code 4 = .ok (.aload_n 0, 1) := by decide +kernel
theorem d_Hunt_layFound_5 : decode prog_4_method_6_code 5 = .ok (.getfield 37, 3) := by decide +kernel
theorem d_Hunt_layFound_8 : decode prog_4_method_6_code 8 = .ok (.iconst 1, 1) := by decide +kernel
theorem d_Hunt_layFound_9 : decode prog_4_method_6_code 9 = .ok (.isub, 1) := by decide +kernel
theorem d_Hunt_layFound_10 : decode prog_4_method_6_code 10 = .ok (.istore_n 2, 1) := by decide +kernel
theorem d_Hunt_layFound_11 : decode prog_4_method_6_code 11 = .ok (.aload_n 0, 1) := by decide +kernel
theorem d_Hunt_layFound_12 : decode prog_4_method_6_code 12 = .ok (.invokevirtual 64, 3) := by decide +kernel
theorem d_Hunt_layFound_15 : decode prog_4_method_6_code 15 = .ok (.istore_n 3, 1) := by decide +kernel
theorem d_Hunt_layFound_16 : decode prog_4_method_6_code 16 = .ok (.iload_n 3, 1) := by decide +kernel
theorem d_Hunt_layFound_17 : decode prog_4_method_6_code 17 = .ok (.ifCond .le 30, 3) := by decide +kernel
theorem d_Hunt_layFound_20 : decode prog_4_method_6_code 20 = .ok (.iload_n 2, 1) := by decide +kernel
theorem d_Hunt_layFound_21 : decode prog_4_method_6_code 21 = .ok (.ifCond .lt 26, 3) := by decide +kernel
theorem d_Hunt_layFound_24 : decode prog_4_method_6_code 24 = .ok (.aload_n 1, 1) := by decide +kernel
theorem d_Hunt_layFound_25 : decode prog_4_method_6_code 25 = .ok (.aload_n 0, 1) := by decide +kernel
theorem d_Hunt_layFound_26 : decode prog_4_method_6_code 26 = .ok (.getfield 15, 3) := by decide +kernel
theorem d_Hunt_layFound_29 : decode prog_4_method_6_code 29 = .ok (.iload_n 2, 1) := by decide +kernel
theorem d_Hunt_layFound_30 : decode prog_4_method_6_code 30 = .ok (.iaload, 1) := by decide +kernel
theorem d_Hunt_layFound_31 : decode prog_4_method_6_code 31 = .ok (.invokevirtual 68, 3) := by decide +kernel
theorem d_Hunt_layFound_34 : decode prog_4_method_6_code 34 = .ok (.aload_n 0, 1) := by decide +kernel
theorem d_Hunt_layFound_35 : decode prog_4_method_6_code 35 = .ok (.getfield 11, 3) := by decide +kernel
theorem d_Hunt_layFound_38 : decode prog_4_method_6_code 38 = .ok (.iload_n 2, 1) := by decide +kernel
theorem d_Hunt_layFound_39 : decode prog_4_method_6_code 39 = .ok (.iaload, 1) := by decide +kernel
theorem d_Hunt_layFound_40 : decode prog_4_method_6_code 40 = .ok (.istore_n 2, 1) := by decide +kernel
theorem d_Hunt_layFound_41 : decode prog_4_method_6_code 41 = .ok (.iinc 3 (-1), 3) := by decide +kernel
theorem d_Hunt_layFound_44 : decode prog_4_method_6_code 44 = .ok (.goto (-28), 3) := by decide +kernel
theorem d_Hunt_layFound_47 : decode prog_4_method_6_code 47 = .ok (.aload_n 1, 1) := by decide +kernel
theorem d_Hunt_layFound_48 : decode prog_4_method_6_code 48 = .ok (.invokevirtual 71, 3) := by decide +kernel
theorem d_Hunt_layFound_51 : decode prog_4_method_6_code 51 = .ok (.return_, 1) := by decide +kernel
theorem lp_layFound {Q : gx_P} {z h cap : Nat} {lk : Int32} {op : List Nat} {q : List sp_E} (hqf : sp_qf q) (hzh : z + 8 ≤ h) : ∀ (fu : Nat) (m : Nat) (a : Int32) (p : List Nat) (w : gx_W), m < fu → (hnAt w z q lk op) → (w.1 h = some (gx_bx 1 cap p)) → (a = -1 ∨ ∃ j, j < q.length ∧ a = nI j) → (m < 2 ^ 31) → (p.length + m ≤ cap) → (∀ w' a' m', hnAt w' z q lk op → w' = gx_st w h (gx_bx 1 cap (p ++ sp_ph q m a)) → gx_X (fun _ _ => True) M_Hunt_layFound 2 Q 47 [some (.ref z), some (.ref h), some (.int a'), some (.int m')] [] w' (0, 0)) → gx_X (fun _ _ => True) M_Hunt_layFound 2 Q 16 [some (.ref z), some (.ref h), some (.int a), some (.int (nI m))] [] w (0, 0) := by
  intro fu
  induction fu with
  | zero => intro m a p w hfu; exact absurd hfu (Nat.not_lt_zero _)
  | succ fu ih =>
    intro m a p w hfu hz0 hw ha hm hp hX
    have hz1 := hz0
    obtain ⟨hq401, f1, f2, f3, f4, f5, hz, hF⟩ := hz0
    refine gx_iload_n d_Hunt_layFound_16 rfl ?_
    refine gx_if_leN (by omega) (tgt := 47) d_Hunt_layFound_17 (by decide) (fun h17 => ?_) (fun h17 => ?_)
    · have e : m = 0 := by omega
      subst e
      exact hX w _ _ hz1 (by rw [show sp_ph q 0 a = [] from rfl, List.append_nil, gx_st_id hw])
    · obtain ⟨m2, rfl⟩ : ∃ m2, m = m2 + 1 := ⟨m - 1, by omega⟩
      refine gx_iload_n d_Hunt_layFound_20 rfl ?_
      refine gx_if_lt (tgt := 47) d_Hunt_layFound_21 (by decide) (fun h21 => ?_) (fun h21 => ?_)
      · exact hX w _ _ hz1 (by rw [show sp_ph q (m2 + 1) a = [] from if_pos h21, List.append_nil, gx_st_id hw])
      · obtain ⟨j, hj, rfl⟩ : ∃ j, j < q.length ∧ a = nI j := by
          rcases ha with g | g
          · rw [g] at h21; exact absurd (by decide) h21
          · exact g
        have hqj := hqf j hj
        refine gx_aload_n d_Hunt_layFound_24 rfl ?_
        refine gx_aload_n d_Hunt_layFound_25 rfl ?_
        refine gx_get fl_Hunt_15 d_Hunt_layFound_26 hz.1 rfl ?_
        refine gx_iload_n d_Hunt_layFound_29 rfl ?_
        refine gx_iald d_Hunt_layFound_30 hz.2.2.1 (by omega) (by omega) ?_
        rw [(hF j hj).2.1]
        refine gx_cV0 lk_Hunt_68 d_Hunt_layFound_31 (ct_Row_add hw hqj.2 (by omega)) (Or.inr ⟨_, _, hw⟩) (by omega) rfl rfl (Nat.le_of_ble_eq_true rfl) ?_
        have kk : gx_kp w (gx_st w h (gx_bx 1 cap (p ++ [(q.getD j sp_e0).2.1]))) h (h + 2) := gx_kp.st (by omega) (by omega)
        have hz2 := hz.kept kk (by omega)
        refine gx_aload_n d_Hunt_layFound_34 rfl ?_
        refine gx_get fl_Hunt_11 d_Hunt_layFound_35 hz2.1 rfl ?_
        refine gx_iload_n d_Hunt_layFound_38 rfl ?_
        refine gx_iald d_Hunt_layFound_39 hz2.2.1 (by omega) (by omega) ?_
        rw [(hF j hj).1]
        refine gx_istore_n d_Hunt_layFound_40 (Nat.le_of_ble_eq_true rfl) rfl ?_
        refine gx_iincM d_Hunt_layFound_41 rfl (by decide) (Nat.le_of_ble_eq_true rfl) rfl ?_
        refine gx_goto (tgt := 16) d_Hunt_layFound_44 (by decide) ?_
        refine ih m2 _ (p ++ [(q.getD j sp_e0).2.1]) _ (by omega) (hz1.kept kk (by omega)) gx_st_eq ?_ (by omega) (by simp; omega) (fun w' a' m' h1 h2 => hX w' a' m' h1 ?_)
        · rcases hqj.1 with g | ⟨i, hi, g⟩
          · exact Or.inl g
          · exact Or.inr ⟨i, by omega, g⟩
        · rw [h2, gx_st_st, List.append_assoc, List.singleton_append, show sp_ph q (m2 + 1) (nI j) = (q.getD (nI j).toNatClampNeg sp_e0).2.1 :: sp_ph q m2 (q.getD (nI j).toNatClampNeg sp_e0).1 from if_neg h21, nI_clamp (by omega)]
theorem ct_layFound {w : gx_W} {z h cap k : Nat} {op p : List Nat} {q : List sp_E} (hz0 : hnAt w z q (nI (k + 1)) op) (hk : k < q.length) (hqf : sp_qf q) (hzh : z + 8 ≤ h) (hw : w.1 h = some (gx_bx 1 cap p)) (hs : (q.getD k sp_e0).2.2.1 ≤ cap) (hs2 : cap < 65536) : gx_Ct M_Hunt_layFound 2 0 0 [.ref z, .ref h] w (gx_eq none (gx_st w h (gx_bx 1 cap (sp_ph q (q.getD k sp_e0).2.2.1 (nI k)).reverse))) := by
  refine gx_ct (L := [some (.ref z), some (.ref h), none, none]) (by decide) (Nat.le_of_ble_eq_true rfl) rfl ?_
  have hz1 := hz0
  obtain ⟨hq401, f1, f2, f3, f4, f5, hz, hF⟩ := hz0
  refine gx_aload_n d_Hunt_layFound_0 rfl ?_
  refine gx_cV0 lk_Hunt_61 d_Hunt_layFound_1 (ct_Row_empty hw) (Or.inr ⟨_, _, hw⟩) (by omega) rfl rfl (Nat.le_of_ble_eq_true rfl) ?_
  have kk : gx_kp w (gx_st w h (gx_bx 1 cap [])) h (h + 2) := gx_kp.st (by omega) (by omega)
  have hz2 := hz1.kept kk (by omega)
  have hz3 := hz.kept kk (by omega)
  refine gx_aload_n d_Hunt_layFound_4 rfl ?_
  refine gx_get fl_Hunt_37 d_Hunt_layFound_5 hz3.1 rfl ?_
  refine gx_iconst d_Hunt_layFound_8 (nI 1) (by decide) ?_
  refine gx_isubN (by omega) d_Hunt_layFound_9 ?_
  rw [Nat.add_sub_cancel]
  refine gx_istore_n d_Hunt_layFound_10 (Nat.le_of_ble_eq_true rfl) rfl ?_
  refine gx_aload_n d_Hunt_layFound_11 rfl ?_
  refine gx_cV1 lk_Hunt_64 d_Hunt_layFound_12 (ct_foundSize hz2 hk) (Or.inl ⟨_, hz3.1⟩) (by omega) rfl rfl (Nat.le_of_ble_eq_true rfl) ?_
  refine gx_istore_n d_Hunt_layFound_15 (Nat.le_of_ble_eq_true rfl) rfl ?_
  refine lp_layFound hqf hzh ((q.getD k sp_e0).2.2.1 + 1) _ (nI k) [] _ (by omega) hz2 gx_st_eq (Or.inr ⟨k, hk, rfl⟩) (by omega) (by simpa using hs) (fun w' a' m' hz4 hw' => ?_)
  rw [gx_st_st, List.nil_append] at hw'
  subst hw'
  refine gx_aload_n d_Hunt_layFound_47 rfl ?_
  refine gx_cV0 lk_Hunt_71 d_Hunt_layFound_48 (ct_Row_turn gx_st_eq) (Or.inr ⟨_, _, gx_st_eq⟩) (by omega) rfl rfl (Nat.le_of_ble_eq_true rfl) ?_
  refine gx_return rfl d_Hunt_layFound_51 ?_
  exact ⟨rfl, by rw [gx_st_st]⟩
def sp_c0 (inp : List Nat) : sp_C := ([], 0, inp)
def sp_rsx (M : sp_M) (inp : List Nat) : List sp_C := sp_run M 12 (sp_c0 inp)
def sp_dsx (M : sp_M) (inp : List Nat) : List (List Nat × List Nat) := sp_dom M (sp_txt (sp_c0 inp))
def sp_lc (M : sp_M) (inp : List Nat) : sp_C := (sp_rsx M inp).getD ((sp_rsx M inp).length - 1) ([], 0, [])
def sp_wyx (M : sp_M) (inp : List Nat) : List Nat := if (sp_lc M inp).2.1 = 4 then sp_wy M (sp_rsx M inp) (sp_dsx M inp).length else []
def sp_iok (inp : List Nat) : Prop := inp.length ≤ 4 ∧ ∀ s ∈ inp, s < 3
def pcO (B : Nat) : gx_E := gx_ob 8 [.ref (B + 1), .ref (B + 8), .ref (B + 36), .ref (B + 339), .ref (B + 344), .ref (B + 352), .ref (B + 354), .ref (B + 356), .ref (B + 358)]
/-- the object before its parts are made anew -/
def pc0 (w : gx_W) (B : Nat) (M : sp_M) (inp : List Nat) : Prop := w.1 B = some (pcO B) ∧ mcAt w (B + 1) M (sp_txt (sp_c0 inp)) ∧ (∃ m T, rnAt w (B + 8) m T) ∧ (∃ m U V fo, bxAt w (B + 36) m U V fo) ∧ (∃ p t, wyAt w (B + 339) p t) ∧ (∃ q lk op, hnAt w (B + 344) q lk op) ∧ (∃ l, w.1 (B + 352) = some (gx_bx 1 60 l)) ∧ (∃ l, w.1 (B + 354) = some (gx_bx 0 60 l)) ∧ (∃ l, w.1 (B + 356) = some (gx_bx 0 180 l)) ∧ ∃ l, w.1 (B + 358) = some (gx_bx 0 420 l)
/-- the object as every call leaves it -/
def pcC (w : gx_W) (B : Nat) (M : sp_M) (inp : List Nat) (laid typed : List Nat) (lk : Int32) : Prop := w.1 B = some (pcO B) ∧ mcAt w (B + 1) M (sp_txt (sp_c0 inp)) ∧ rnOk w (B + 8) (sp_rsx M inp) ∧ (∃ fo, bxOk w (B + 36) (sp_dsx M inp) fo ∧ ∀ i, i < 12 → fo i = sp_fo M i) ∧ (∃ t, wyAt w (B + 339) (sp_wyx M inp) t) ∧ (∃ q op, hnAt w (B + 344) q lk op) ∧ w.1 (B + 352) = some (gx_bx 1 60 laid) ∧ w.1 (B + 354) = some (gx_bx 0 60 typed)
def pcAt (w : gx_W) (B : Nat) (M : sp_M) (inp : List Nat) (laid typed : List Nat) (lk : Int32) : Prop := pcC w B M inp laid typed lk ∧ (∃ l, w.1 (B + 356) = some (gx_bx 0 180 l)) ∧ ∃ l, w.1 (B + 358) = some (gx_bx 0 420 l)
theorem pcAt.to0 {w : gx_W} {B : Nat} {M : sp_M} {inp laid typed : List Nat} {lk : Int32} (h : pcAt w B M inp laid typed lk) : pc0 w B M inp := by
  obtain ⟨⟨h0, h1, ⟨-, -, T, h2, -⟩, ⟨fo, ⟨-, U, V, h3, -⟩, -⟩, ⟨t, h4⟩, ⟨q, op, h5⟩, h6, h7⟩, h8, h9⟩ := h
  exact ⟨h0, h1, ⟨_, T, h2⟩, ⟨_, U, V, fo, h3⟩, ⟨_, t, h4⟩, ⟨q, _, op, h5⟩, ⟨_, h6⟩, ⟨_, h7⟩, h8, h9⟩
theorem pcC.kept {w w' : gx_W} {B lo hi : Nat} {M : sp_M} {inp laid typed : List Nat} {lk : Int32} (h : pcC w B M inp laid typed lk) (hk : gx_kp w w' lo hi) (hd : B + 356 ≤ lo ∨ hi ≤ B) : pcC w' B M inp laid typed lk := by
  obtain ⟨h0, h1, h2, ⟨fo, h3, hfo⟩, ⟨t, h4⟩, ⟨q, op, h5⟩, h6, h7⟩ := h
  exact ⟨by rw [hk.2 _ (by omega)]; exact h0, h1.kept hk (by omega), h2.kept hk (by omega), ⟨fo, h3.kept hk (by omega), hfo⟩, ⟨t, h4.kept hk (by omega)⟩, ⟨q, op, h5.kept hk (by omega)⟩, by rw [hk.2 _ (by omega)]; exact h6, by rw [hk.2 _ (by omega)]; exact h7⟩
theorem pcAt.kept {w w' : gx_W} {B lo hi : Nat} {M : sp_M} {inp laid typed : List Nat} {lk : Int32} (h : pcAt w B M inp laid typed lk) (hk : gx_kp w w' lo hi) (hd : B + 360 ≤ lo ∨ hi ≤ B) : pcAt w' B M inp laid typed lk := by
  obtain ⟨h0, ⟨l1, h1⟩, ⟨l2, h2⟩⟩ := h
  exact ⟨h0.kept hk (by omega), ⟨l1, by rw [hk.2 _ (by omega)]; exact h1⟩, ⟨l2, by rw [hk.2 _ (by omega)]; exact h2⟩⟩
theorem pcAt.laid {w : gx_W} {B : Nat} {M : sp_M} {inp laid typed : List Nat} {lk : Int32} (l : List Nat) (h : pcAt w B M inp laid typed lk) : pcAt (gx_st w (B + 352) (gx_bx 1 60 l)) B M inp l typed lk := by
  have hk : gx_kp w (gx_st w (B + 352) (gx_bx 1 60 l)) (B + 352) (B + 353) := gx_kp.st (by omega) (by omega)
  obtain ⟨⟨h0, h1, h2, ⟨fo, h3, hfo⟩, ⟨t, h4⟩, ⟨q, op, h5⟩, h6, h7⟩, ⟨l1, h8⟩, ⟨l2, h9⟩⟩ := h
  exact ⟨⟨by rw [hk.2 _ (by omega)]; exact h0, h1.kept hk (by omega), h2.kept hk (by omega), ⟨fo, h3.kept hk (by omega), hfo⟩, ⟨t, h4.kept hk (by omega)⟩, ⟨q, op, h5.kept hk (by omega)⟩, gx_st_eq, by rw [hk.2 _ (by omega)]; exact h7⟩, ⟨l1, by rw [hk.2 _ (by omega)]; exact h8⟩, ⟨l2, by rw [hk.2 _ (by omega)]; exact h9⟩⟩
theorem pcAt.typed {w : gx_W} {B : Nat} {M : sp_M} {inp laid typed : List Nat} {lk : Int32} (l : List Nat) (h : pcAt w B M inp laid typed lk) : pcAt (gx_st w (B + 354) (gx_bx 0 60 l)) B M inp laid l lk := by
  have hk : gx_kp w (gx_st w (B + 354) (gx_bx 0 60 l)) (B + 354) (B + 355) := gx_kp.st (by omega) (by omega)
  obtain ⟨⟨h0, h1, h2, ⟨fo, h3, hfo⟩, ⟨t, h4⟩, ⟨q, op, h5⟩, h6, h7⟩, ⟨l1, h8⟩, ⟨l2, h9⟩⟩ := h
  exact ⟨⟨by rw [hk.2 _ (by omega)]; exact h0, h1.kept hk (by omega), h2.kept hk (by omega), ⟨fo, h3.kept hk (by omega), hfo⟩, ⟨t, h4.kept hk (by omega)⟩, ⟨q, op, h5.kept hk (by omega)⟩, by rw [hk.2 _ (by omega)]; exact h6, gx_st_eq⟩, ⟨l1, by rw [hk.2 _ (by omega)]; exact h8⟩, ⟨l2, by rw [hk.2 _ (by omega)]; exact h9⟩⟩
theorem pcAt.hunt {w w' : gx_W} {B : Nat} {M : sp_M} {inp laid typed op : List Nat} {lk lk' : Int32} {q : List sp_E} (h : pcAt w B M inp laid typed lk) (hk : gx_kp w w' (B + 344) (B + 344 + 8)) (hz : hnAt w' (B + 344) q lk' op) : pcAt w' B M inp laid typed lk' := by
  obtain ⟨⟨h0, h1, h2, ⟨fo, h3, hfo⟩, ⟨t, h4⟩, -, h6, h7⟩, ⟨l1, h8⟩, ⟨l2, h9⟩⟩ := h
  exact ⟨⟨by rw [hk.2 _ (by omega)]; exact h0, h1.kept hk (by omega), h2.kept hk (by omega), ⟨fo, h3.kept hk (by omega), hfo⟩, ⟨t, h4.kept hk (by omega)⟩, ⟨q, op, hz⟩, by rw [hk.2 _ (by omega)]; exact h6, by rw [hk.2 _ (by omega)]; exact h7⟩, ⟨l1, by rw [hk.2 _ (by omega)]; exact h8⟩, ⟨l2, by rw [hk.2 _ (by omega)]; exact h9⟩⟩
theorem sp_c0_ok {inp : List Nat} (h : sp_iok inp) : sp_ok (sp_c0 inp) ∧ sp_len (sp_c0 inp) ≤ 5 := by
  refine ⟨⟨(fun s hs => by cases hs), Nat.zero_le _, h.2⟩, ?_⟩
  have := h.1
  show 0 + 1 + inp.length ≤ 5
  omega
theorem sp_dsx_len (M : sp_M) (inp : List Nat) : 12 ≤ (sp_dsx M inp).length ∧ (sp_dsx M inp).length ≤ 60 := by
  have h1 := sp_rs_len M 12
  unfold sp_dsx sp_dom
  rw [List.length_append, List.length_append]
  have h2 : (sp_hd (sp_txt (sp_c0 inp))).length = 5 := rfl
  have h3 : sp_en.length = 7 := rfl
  omega
theorem sp_lc_ok {M : sp_M} {inp : List Nat} (hM : sp_Mok M) (hi : sp_iok inp) : sp_ok (sp_lc M inp) := by
  obtain ⟨h1, h2⟩ := sp_c0_ok hi
  have hpos : 0 < (sp_rsx M inp).length := List.length_pos_iff.mpr (sp_run_ne _ _ _)
  exact (sp_run_ok hM 12 (sp_c0 inp) h1 (by omega) _ (gx_gdc_mem (by unfold sp_rsx at hpos ⊢; omega))).1
theorem d_PC_startOver_0 : decode prog_1_method_20_code 0 = .ok (.aload_n 0, 1) := by decide +kernel
theorem d_PC_startOver_1 : decode prog_1_method_20_code 1 = .ok (.getfield 19, 3) := by decide +kernel
theorem d_PC_startOver_4 : decode prog_1_method_20_code 4 = .ok (.aload_n 0, 1) := by decide +kernel
theorem d_PC_startOver_5 : decode prog_1_method_20_code 5 = .ok (.getfield 12, 3) := by decide +kernel
theorem d_PC_startOver_8 : decode prog_1_method_20_code 8 = .ok (.invokevirtual 203, 3) := by decide +kernel
theorem d_PC_startOver_11 : decode prog_1_method_20_code 11 = .ok (.aload_n 0, 1) := by decide +kernel
theorem d_PC_startOver_12 : decode prog_1_method_20_code 12 = .ok (.getfield 26, 3) := by decide +kernel
theorem d_PC_startOver_15 : decode prog_1_method_20_code 15 = .ok (.aload_n 0, 1) := by decide +kernel
theorem d_PC_startOver_16 : decode prog_1_method_20_code 16 = .ok (.getfield 12, 3) := by decide +kernel
theorem d_PC_startOver_19 : decode prog_1_method_20_code 19 = .ok (.invokevirtual 207, 3) := by decide +kernel
theorem d_PC_startOver_22 : decode prog_1_method_20_code 22 = .ok (.aload_n 0, 1) := by decide +kernel
theorem d_PC_startOver_23 : decode prog_1_method_20_code 23 = .ok (.getfield 33, 3) := by decide +kernel
theorem d_PC_startOver_26 : decode prog_1_method_20_code 26 = .ok (.aload_n 0, 1) := by decide +kernel
theorem d_PC_startOver_27 : decode prog_1_method_20_code 27 = .ok (.getfield 12, 3) := by decide +kernel
theorem d_PC_startOver_30 : decode prog_1_method_20_code 30 = .ok (.aload_n 0, 1) := by decide +kernel
theorem d_PC_startOver_31 : decode prog_1_method_20_code 31 = .ok (.getfield 19, 3) := by decide +kernel
theorem d_PC_startOver_34 : decode prog_1_method_20_code 34 = .ok (.aload_n 0, 1) := by decide +kernel
theorem d_PC_startOver_35 : decode prog_1_method_20_code 35 = .ok (.getfield 26, 3) := by decide +kernel
theorem d_PC_startOver_38 : decode prog_1_method_20_code 38 = .ok (.invokevirtual 210, 3) := by decide +kernel
theorem d_PC_startOver_41 : decode prog_1_method_20_code 41 = .ok (.aload_n 0, 1) := by decide +kernel
theorem d_PC_startOver_42 : decode prog_1_method_20_code 42 = .ok (.getfield 40, 3) := by decide +kernel
theorem d_PC_startOver_45 : decode prog_1_method_20_code 45 = .ok (.invokevirtual 214, 3) := by decide +kernel
theorem d_PC_startOver_48 : decode prog_1_method_20_code 48 = .ok (.aload_n 0, 1) := by decide +kernel
theorem d_PC_startOver_49 : decode prog_1_method_20_code 49 = .ok (.getfield 49, 3) := by decide +kernel
theorem d_PC_startOver_52 : decode prog_1_method_20_code 52 = .ok (.invokevirtual 154, 3) := by decide +kernel
theorem d_PC_startOver_55 : decode prog_1_method_20_code 55 = .ok (.aload_n 0, 1) := by decide +kernel
theorem d_PC_startOver_56 : decode prog_1_method_20_code 56 = .ok (.getfield 56, 3) := by decide +kernel
theorem d_PC_startOver_59 : decode prog_1_method_20_code 59 = .ok (.invokevirtual 157, 3) := by decide +kernel
theorem d_PC_startOver_62 : decode prog_1_method_20_code 62 = .ok (.return_, 1) := by decide +kernel
theorem ct_startOver {w : gx_W} {B : Nat} {M : sp_M} {inp : List Nat} (h : pc0 w B M inp) (hM : sp_Mok M) (hi : sp_iok inp) : gx_Ct M_PC_startOver 6 0 0 [.ref B] w (fun v w' => v = none ∧ pcAt w' B M inp [] [] (-1) ∧ gx_kp w w' B (B + 360)) := by
  refine gx_ct (L := [some (.ref B)]) (by decide) (Nat.le_of_ble_eq_true rfl) rfl ?_
  obtain ⟨h0, h1, ⟨m2, T, h2⟩, ⟨m3, U, V, fo, h3⟩, ⟨p, t, h4⟩, ⟨q, lk, op, h5⟩, ⟨l6, h6⟩, ⟨l7, h7⟩, ⟨l8, h8⟩, ⟨l9, h9⟩⟩ := h
  obtain ⟨hc0, hl0⟩ := sp_c0_ok hi
  refine gx_aload_n d_PC_startOver_0 rfl ?_
  refine gx_get fl_PC_19 d_PC_startOver_1 h0 rfl ?_
  refine gx_aload_n d_PC_startOver_4 rfl ?_
  refine gx_get fl_PC_12 d_PC_startOver_5 h0 rfl ?_
  refine gx_cVr lk_PC_203 d_PC_startOver_8 (ct_follow h1 hM (by omega) h2 hc0 hl0) (Or.inl ⟨_, h2.1⟩) (by omega) rfl rfl (Nat.le_of_ble_eq_true rfl) (fun r2 w1 hq => ?_)
  obtain ⟨rfl, r1, k1⟩ := hq
  have o1 : w1.1 B = some (pcO B) := by rw [k1.2 _ (by omega)]; exact h0
  refine gx_aload_n d_PC_startOver_11 rfl ?_
  refine gx_get fl_PC_26 d_PC_startOver_12 o1 rfl ?_
  refine gx_aload_n d_PC_startOver_15 rfl ?_
  refine gx_get fl_PC_12 d_PC_startOver_16 o1 rfl ?_
  refine gx_cVr lk_PC_207 d_PC_startOver_19 (ct_fill (h1.kept k1 (by omega)) hM (by omega) (h3.kept k1 (by omega)) (by rw [sp_txt_len]; exact hl0)) (Or.inl ⟨_, (h3.kept k1 (by omega)).1⟩) (by omega) rfl rfl (Nat.le_of_ble_eq_true rfl) (fun r2 w2 hq => ?_)
  obtain ⟨rfl, fo2, b2, hfo2, k2⟩ := hq
  have o2 : w2.1 B = some (pcO B) := by rw [k2.2 _ (by omega)]; exact o1
  have y2 := (h4.kept k1 (by omega)).kept k2 (by omega)
  refine gx_aload_n d_PC_startOver_22 rfl ?_
  refine gx_get fl_PC_33 d_PC_startOver_23 o2 rfl ?_
  refine gx_aload_n d_PC_startOver_26 rfl ?_
  refine gx_get fl_PC_12 d_PC_startOver_27 o2 rfl ?_
  refine gx_aload_n d_PC_startOver_30 rfl ?_
  refine gx_get fl_PC_19 d_PC_startOver_31 o2 rfl ?_
  refine gx_aload_n d_PC_startOver_34 rfl ?_
  refine gx_get fl_PC_26 d_PC_startOver_35 o2 rfl ?_
  have hdl := sp_dsx_len M inp
  refine gx_cVr lk_PC_210 d_PC_startOver_38 (ct_trace (c0 := sp_c0 inp) (rs := sp_rsx M inp) (ds := sp_dsx M inp) ((h1.kept k1 (by omega)).kept k2 (by omega)) hM (r1.kept k2 (by omega)) rfl hc0 (by omega) y2 rfl b2 hfo2 (by omega) (by omega) (by omega) (by omega)) (Or.inl ⟨_, y2.1⟩) (by omega) rfl rfl (Nat.le_of_ble_eq_true rfl) (fun r2 w3 hq => ?_)
  obtain ⟨rfl, k3, t3, y3⟩ := hq
  have o3 : w3.1 B = some (pcO B) := by rw [k3.2 _ (by omega)]; exact o2
  have z3 := ((h5.kept k1 (by omega)).kept k2 (by omega)).kept k3 (by omega)
  obtain ⟨hq401, f1, f2, f3, f4, f5, hz, hF⟩ := z3
  refine gx_aload_n d_PC_startOver_41 rfl ?_
  refine gx_get fl_PC_40 d_PC_startOver_42 o3 rfl ?_
  refine gx_cV0 lk_PC_214 d_PC_startOver_45 (ct_forget hz) (Or.inl ⟨_, hz.1⟩) (by omega) rfl rfl (Nat.le_of_ble_eq_true rfl) ?_
  have z4 := hz.s0 q.length (-1)
  have k4 : gx_kp w3 _ (B + 344) (B + 344 + 8) := gx_kp.st (a := B + 344) (x := gx_ob 7 [.ref (B + 344 + 1), .ref (B + 344 + 2), .ref (B + 344 + 3), .ref (B + 344 + 4), .ref (B + 344 + 5), .ref (B + 344 + 6), .int (nI q.length), .int (-1)]) (by omega) (by omega)
  generalize hw4 : gx_st w3 (B + 344) (gx_ob 7 [.ref (B + 344 + 1), .ref (B + 344 + 2), .ref (B + 344 + 3), .ref (B + 344 + 4), .ref (B + 344 + 5), .ref (B + 344 + 6), .int (nI q.length), .int (-1)]) = w4 at z4 k4 ⊢
  have o4 : w4.1 B = some (pcO B) := by rw [k4.2 _ (by omega)]; exact o3
  have far : ∀ a, B + 352 ≤ a → w4.1 a = w.1 a := fun a ha => by rw [k4.2 _ (by omega), k3.2 _ (by omega), k2.2 _ (by omega), k1.2 _ (by omega)]
  have C4 : pcAt w4 B M inp l6 l7 (-1) := ⟨⟨o4, (((h1.kept k1 (by omega)).kept k2 (by omega)).kept k3 (by omega)).kept k4 (by omega), ((r1.kept k2 (by omega)).kept k3 (by omega)).kept k4 (by omega), ⟨fo2, (b2.kept k3 (by omega)).kept k4 (by omega), hfo2⟩, ⟨t3, y3.kept k4 (by omega)⟩, ⟨q, op, hq401, f1, f2, f3, f4, f5, z4, hF⟩, by rw [far _ (by omega)]; exact h6, by rw [far _ (by omega)]; exact h7⟩, ⟨l8, by rw [far _ (by omega)]; exact h8⟩, ⟨l9, by rw [far _ (by omega)]; exact h9⟩⟩
  have K4 : gx_kp w w4 B (B + 360) := (((k1.mono (by omega) (by omega)).trans (k2.mono (by omega) (by omega))).trans (k3.mono (by omega) (by omega))).trans (k4.mono (by omega) (by omega))
  refine gx_aload_n d_PC_startOver_48 rfl ?_
  refine gx_get fl_PC_49 d_PC_startOver_49 o4 rfl ?_
  refine gx_cV0 lk_PC_154 d_PC_startOver_52 (ct_Row_empty C4.1.2.2.2.2.2.2.1) (Or.inr ⟨_, _, C4.1.2.2.2.2.2.2.1⟩) (by omega) rfl rfl (Nat.le_of_ble_eq_true rfl) ?_
  have C5 := C4.laid []
  have K5 := K4.trans (gx_kp.st (w := w4) (a := B + 352) (x := gx_bx 1 60 []) (show B ≤ B + 352 by omega) (show B + 352 < B + 360 by omega))
  refine gx_aload_n d_PC_startOver_55 rfl ?_
  refine gx_get fl_PC_56 d_PC_startOver_56 C5.1.1 rfl ?_
  refine gx_cV0 lk_PC_157 d_PC_startOver_59 (ct_Word_empty C5.1.2.2.2.2.2.2.2) (Or.inr ⟨_, _, C5.1.2.2.2.2.2.2.2⟩) (by omega) rfl rfl (Nat.le_of_ble_eq_true rfl) ?_
  have C6 := C5.typed []
  have K6 := K5.trans (gx_kp.st (w := gx_st w4 (B + 352) (gx_bx 1 60 [])) (a := B + 354) (x := gx_bx 0 60 []) (show B ≤ B + 354 by omega) (show B + 354 < B + 360 by omega))
  refine gx_return rfl d_PC_startOver_62 ?_
  exact ⟨rfl, C6, K6⟩
end
section
/-! PostChain: the calls that ask -/
theorem d_PC_steps_0 : decode prog_1_method_5_code 0 = .ok (.aload_n 0, 1) := by decide +kernel
theorem d_PC_steps_1 : decode prog_1_method_5_code 1 = .ok (.getfield 19, 3) := by decide +kernel
theorem d_PC_steps_4 : decode prog_1_method_5_code 4 = .ok (.invokevirtual 102, 3) := by decide +kernel
theorem d_PC_steps_7 : decode prog_1_method_5_code 7 = .ok (.ireturn, 1) := by decide +kernel
theorem ct_steps {w : gx_W} {B : Nat} {M : sp_M} {inp laid typed : List Nat} {lk : Int32} (h : pcAt w B M inp laid typed lk)  : gx_Ct M_PC_steps 2 0 0 [.ref B] w (gx_eq (some (.int (nI ((sp_rsx M inp).length - 1)))) w) := by
  refine gx_ct (L := [some (.ref B)]) (by decide) (Nat.le_of_ble_eq_true rfl) rfl ?_
  obtain ⟨⟨h0, h1, h2, ⟨fo, h3, hfo⟩, ⟨t4, h4⟩, ⟨q5, op5, h5⟩, h6, h7⟩, ⟨l8, h8⟩, ⟨l9, h9⟩⟩ := h
  have h2a := h2
  obtain ⟨hne2, h13, T2, r2, hT2⟩ := h2
  have hpos : 0 < (sp_rsx M inp).length := List.length_pos_iff.mpr hne2
  refine gx_aload_n d_PC_steps_0 rfl ?_
  refine gx_get fl_PC_19 d_PC_steps_1 h0 rfl ?_
  refine gx_cV1 lk_PC_102 d_PC_steps_4 (ct_stepCount r2) (Or.inl ⟨_, r2.1⟩) (by omega) rfl rfl (Nat.le_of_ble_eq_true rfl) ?_
  refine gx_ireturn rfl d_PC_steps_7 ?_
  exact ⟨rfl, rfl⟩
theorem d_PC_halts_0 : decode prog_1_method_6_code 0 = .ok (.aload_n 0, 1) := by decide +kernel
theorem d_PC_halts_1 : decode prog_1_method_6_code 1 = .ok (.getfield 19, 3) := by decide +kernel
theorem d_PC_halts_4 : decode prog_1_method_6_code 4 = .ok (.invokevirtual 106, 3) := by decide +kernel
theorem d_PC_halts_7 : decode prog_1_method_6_code 7 = .ok (.ireturn, 1) := by decide +kernel
theorem ct_halts {w : gx_W} {B : Nat} {M : sp_M} {inp laid typed : List Nat} {lk : Int32} (h : pcAt w B M inp laid typed lk) (hM : sp_Mok M) (hi : sp_iok inp) : gx_Ct M_PC_halts 3 0 0 [.ref B] w (gx_eq (some (.int (nI (decide ((sp_lc M inp).2.1 = 4)).toNat))) w) := by
  refine gx_ct (L := [some (.ref B)]) (by decide) (Nat.le_of_ble_eq_true rfl) rfl ?_
  obtain ⟨⟨h0, h1, h2, ⟨fo, h3, hfo⟩, ⟨t4, h4⟩, ⟨q5, op5, h5⟩, h6, h7⟩, ⟨l8, h8⟩, ⟨l9, h9⟩⟩ := h
  have h2a := h2
  obtain ⟨hne2, h13, T2, r2, hT2⟩ := h2
  have hpos : 0 < (sp_rsx M inp).length := List.length_pos_iff.mpr hne2
  refine gx_aload_n d_PC_halts_0 rfl ?_
  refine gx_get fl_PC_19 d_PC_halts_1 h0 rfl ?_
  refine gx_cV1 lk_PC_106 d_PC_halts_4 (ct_isHalted h2a (sp_lc_ok hM hi) rfl) (Or.inl ⟨_, r2.1⟩) (by omega) rfl rfl (Nat.le_of_ble_eq_true rfl) ?_
  refine gx_zreturn rfl (by cases hq : decide ((sp_lc M inp).2.1 = 4) <;> decide) d_PC_halts_7 ?_
  exact ⟨rfl, rfl⟩
def sp_runv (rs : List sp_C) (k i : Int32) : Int32 := if sp_in k rs.length = true then sp_ask (sp_txt (rs.getD k.toNatClampNeg ([], 0, []))) i else -1
theorem d_PC_run_0 : decode prog_1_method_7_code 0 = .ok (.iload_n 1, 1) := by decide +kernel
theorem d_PC_run_1 : decode prog_1_method_7_code 1 = .ok (.ifCond .lt 14, 3) := by decide +kernel
theorem d_PC_run_4 : decode prog_1_method_7_code 4 = .ok (.iload_n 1, 1) := by decide +kernel
theorem d_PC_run_5 : decode prog_1_method_7_code 5 = .ok (.aload_n 0, 1) := by decide +kernel
theorem d_PC_run_6 : decode prog_1_method_7_code 6 = .ok (.getfield 19, 3) := by decide +kernel
theorem d_PC_run_9 : decode prog_1_method_7_code 9 = .ok (.invokevirtual 102, 3) := by decide +kernel
theorem d_PC_run_12 : decode prog_1_method_7_code 12 = .ok (.if_icmp .le 7, 3) := by decide +kernel
theorem d_PC_run_15 : decode prog_1_method_7_code 15 = .ok (.iconst (-1), 1) := by decide +kernel
theorem d_PC_run_16 : decode prog_1_method_7_code 16 = .ok (.goto 15, 3) := by decide +kernel
theorem d_PC_run_19 : decode prog_1_method_7_code 19 = .ok (.aload_n 0, 1) := by decide +kernel
theorem d_PC_run_20 : decode prog_1_method_7_code 20 = .ok (.getfield 19, 3) := by decide +kernel
theorem d_PC_run_23 : decode prog_1_method_7_code 23 = .ok (.iload_n 1, 1) := by decide +kernel
theorem d_PC_run_24 : decode prog_1_method_7_code 24 = .ok (.invokevirtual 110, 3) := by decide +kernel
theorem d_PC_run_27 : decode prog_1_method_7_code 27 = .ok (.iload_n 2, 1) := by decide +kernel
theorem d_PC_run_28 : decode prog_1_method_7_code 28 = .ok (.invokevirtual 114, 3) := by decide +kernel
theorem d_PC_run_31 : decode prog_1_method_7_code 31 = .ok (.ireturn, 1) := by decide +kernel
theorem ct_run {w : gx_W} {B : Nat} {M : sp_M} {inp laid typed : List Nat} {lk : Int32} (h : pcAt w B M inp laid typed lk) {k i : Int32} : gx_Ct M_PC_run 2 0 0 [.ref B, .int k, .int i] w (gx_eq (some (.int (sp_runv (sp_rsx M inp) k i))) w) := by
  refine gx_ct (L := [some (.ref B), some (.int k), some (.int i)]) (by decide) (Nat.le_of_ble_eq_true rfl) rfl ?_
  obtain ⟨⟨h0, h1, h2, ⟨fo, h3, hfo⟩, ⟨t4, h4⟩, ⟨q5, op5, h5⟩, h6, h7⟩, ⟨l8, h8⟩, ⟨l9, h9⟩⟩ := h
  have h2a := h2
  obtain ⟨hne2, h13, T2, r2, hT2⟩ := h2
  have hpos : 0 < (sp_rsx M inp).length := List.length_pos_iff.mpr hne2
  unfold sp_runv
  refine gx_iload_n d_PC_run_0 rfl ?_
  refine gx_if_lt (tgt := 15) d_PC_run_1 (by decide) (fun h1 => ?_) (fun h1 => ?_)
  · rw [sp_in_lt h1, if_neg (by decide)]
    refine gx_iconst d_PC_run_15 (-1) (by decide) ?_
    refine gx_goto (tgt := 31) d_PC_run_16 (by decide) ?_
    refine gx_ireturn rfl d_PC_run_31 ?_
    exact ⟨rfl, rfl⟩
  · refine gx_iload_n d_PC_run_4 rfl ?_
    refine gx_aload_n d_PC_run_5 rfl ?_
    refine gx_get fl_PC_19 d_PC_run_6 h0 rfl ?_
    refine gx_cV1 lk_PC_102 d_PC_run_9 (ct_stepCount r2) (Or.inl ⟨_, r2.1⟩) (by omega) rfl rfl (Nat.le_of_ble_eq_true rfl) ?_
    refine gx_icmp_le (tgt := 19) d_PC_run_12 (by decide) (fun h12 => ?_) (fun h12 => ?_)
    · obtain ⟨j, hj, rfl⟩ := nI_of h1
      have hjl : j < (sp_rsx M inp).length := by have := (nI_leI hj (show (sp_rsx M inp).length - 1 < 2 ^ 31 by omega)).mp h12; omega
      rw [sp_in_nI hj (by omega), decide_eq_true hjl, if_pos rfl, nI_clamp hj]
      have hwt : w.1 (B + 8 + 2 + 2 * j) = some (gx_bx 0 11 (sp_txt ((sp_rsx M inp).getD j ([], 0, [])))) := by rw [r2.2.2 j (by omega), hT2 j hjl]
      refine gx_aload_n d_PC_run_19 rfl ?_
      refine gx_get fl_PC_19 d_PC_run_20 h0 rfl ?_
      refine gx_iload_n d_PC_run_23 rfl ?_
      refine gx_cV1 lk_PC_110 d_PC_run_24 (ct_text r2 (by omega) (by omega)) (Or.inl ⟨_, r2.1⟩) (by omega) rfl rfl (Nat.le_of_ble_eq_true rfl) ?_
      refine gx_iload_n d_PC_run_27 rfl ?_
      refine gx_cV1 lk_PC_114 d_PC_run_28 (ct_Word_ask hwt) (Or.inr ⟨_, _, hwt⟩) (by omega) rfl rfl (Nat.le_of_ble_eq_true rfl) ?_
      refine gx_ireturn rfl d_PC_run_31 ?_
      exact ⟨rfl, rfl⟩
    · rw [sp_in_ge (show nI (sp_rsx M inp).length ≤ k by
        obtain ⟨j, hj, rfl⟩ := nI_of h1
        exact nI_le (Nat.le_of_not_lt fun g => h12 (nI_le (by omega) (by omega))) hj), if_neg (by decide)]
      refine gx_iconst d_PC_run_15 (-1) (by decide) ?_
      refine gx_goto (tgt := 31) d_PC_run_16 (by decide) ?_
      refine gx_ireturn rfl d_PC_run_31 ?_
      exact ⟨rfl, rfl⟩
theorem d_PC_dominoes_0 : decode prog_1_method_8_code 0 = .ok (.aload_n 0, 1) := by decide +kernel
theorem d_PC_dominoes_1 : decode prog_1_method_8_code 1 = .ok (.getfield 26, 3) := by decide +kernel
theorem d_PC_dominoes_4 : decode prog_1_method_8_code 4 = .ok (.invokevirtual 118, 3) := by decide +kernel
theorem d_PC_dominoes_7 : decode prog_1_method_8_code 7 = .ok (.ireturn, 1) := by decide +kernel
theorem ct_dominoes {w : gx_W} {B : Nat} {M : sp_M} {inp laid typed : List Nat} {lk : Int32} (h : pcAt w B M inp laid typed lk)  : gx_Ct M_PC_dominoes 2 0 0 [.ref B] w (gx_eq (some (.int (nI (sp_dsx M inp).length))) w) := by
  refine gx_ct (L := [some (.ref B)]) (by decide) (Nat.le_of_ble_eq_true rfl) rfl ?_
  obtain ⟨⟨h0, h1, h2, ⟨fo, h3, hfo⟩, ⟨t4, h4⟩, ⟨q5, op5, h5⟩, h6, h7⟩, ⟨l8, h8⟩, ⟨l9, h9⟩⟩ := h
  obtain ⟨hd60, U3, V3, b3, hd3⟩ := h3
  refine gx_aload_n d_PC_dominoes_0 rfl ?_
  refine gx_get fl_PC_26 d_PC_dominoes_1 h0 rfl ?_
  refine gx_cV1 lk_PC_118 d_PC_dominoes_4 (ct_Box_size b3) (Or.inl ⟨_, b3.1⟩) (by omega) rfl rfl (Nat.le_of_ble_eq_true rfl) ?_
  refine gx_ireturn rfl d_PC_dominoes_7 ?_
  exact ⟨rfl, rfl⟩
def sp_domv (ds : List (List Nat × List Nat)) (d : Int32) (up : Bool) (i : Int32) : Int32 := if sp_in d ds.length = true then sp_ask (if up then (ds.getD d.toNatClampNeg ([], [])).1 else (ds.getD d.toNatClampNeg ([], [])).2) i else -1
theorem d_PC_domino_0 : decode prog_1_method_9_code 0 = .ok (.aload_n 0, 1) := by decide +kernel
theorem d_PC_domino_1 : decode prog_1_method_9_code 1 = .ok (.getfield 26, 3) := by decide +kernel
theorem d_PC_domino_4 : decode prog_1_method_9_code 4 = .ok (.iload_n 1, 1) := by decide +kernel
theorem d_PC_domino_5 : decode prog_1_method_9_code 5 = .ok (.invokevirtual 121, 3) := by decide +kernel
theorem d_PC_domino_8 : decode prog_1_method_9_code 8 = .ok (.ifCond .ne 5, 3) := by decide +kernel
theorem d_PC_domino_11 : decode prog_1_method_9_code 11 = .ok (.iconst (-1), 1) := by decide +kernel
theorem d_PC_domino_12 : decode prog_1_method_9_code 12 = .ok (.ireturn, 1) := by decide +kernel
theorem d_PC_domino_13 : decode prog_1_method_9_code 13 = .ok (.iload_n 2, 1) := by decide +kernel
theorem d_PC_domino_14 : decode prog_1_method_9_code 14 = .ok (.ifCond .eq 21, 3) := by decide +kernel
theorem d_PC_domino_17 : decode prog_1_method_9_code 17 = .ok (.aload_n 0, 1) := by decide +kernel
theorem d_PC_domino_18 : decode prog_1_method_9_code 18 = .ok (.getfield 26, 3) := by decide +kernel
theorem d_PC_domino_21 : decode prog_1_method_9_code 21 = .ok (.iload_n 1, 1) := by decide +kernel
theorem d_PC_domino_22 : decode prog_1_method_9_code 22 = .ok (.invokevirtual 124, 3) := by decide +kernel
theorem d_PC_domino_25 : decode prog_1_method_9_code 25 = .ok (.getfield 128, 3) := by decide +kernel
theorem d_PC_domino_28 : decode prog_1_method_9_code 28 = .ok (.iload_n 3, 1) := by decide +kernel
theorem d_PC_domino_29 : decode prog_1_method_9_code 29 = .ok (.invokevirtual 114, 3) := by decide +kernel
theorem d_PC_domino_32 : decode prog_1_method_9_code 32 = .ok (.goto 18, 3) := by decide +kernel
theorem d_PC_domino_35 : decode prog_1_method_9_code 35 = .ok (.aload_n 0, 1) := by decide +kernel
theorem d_PC_domino_36 : decode prog_1_method_9_code 36 = .ok (.getfield 26, 3) := by decide +kernel
theorem d_PC_domino_39 : decode prog_1_method_9_code 39 = .ok (.iload_n 1, 1) := by decide +kernel
theorem d_PC_domino_40 : decode prog_1_method_9_code 40 = .ok (.invokevirtual 124, 3) := by decide +kernel
theorem d_PC_domino_43 : decode prog_1_method_9_code 43 = .ok (.getfield 133, 3) := by decide +kernel
theorem d_PC_domino_46 : decode prog_1_method_9_code 46 = .ok (.iload_n 3, 1) := by decide +kernel
theorem d_PC_domino_47 : decode prog_1_method_9_code 47 = .ok (.invokevirtual 114, 3) := by decide +kernel
theorem d_PC_domino_50 : decode prog_1_method_9_code 50 = .ok (.ireturn, 1) := by decide +kernel
theorem ct_domino {w : gx_W} {B : Nat} {M : sp_M} {inp laid typed : List Nat} {lk : Int32} (h : pcAt w B M inp laid typed lk) {dd i : Int32} {up : Bool} : gx_Ct M_PC_domino 3 0 0 [.ref B, .int dd, .int (nI up.toNat), .int i] w (gx_eq (some (.int (sp_domv (sp_dsx M inp) dd up i))) w) := by
  refine gx_ct (L := [some (.ref B), some (.int dd), some (.int (nI up.toNat)), some (.int i)]) (by decide) (Nat.le_of_ble_eq_true rfl) rfl ?_
  obtain ⟨⟨h0, h1, h2, ⟨fo, h3, hfo⟩, ⟨t4, h4⟩, ⟨q5, op5, h5⟩, h6, h7⟩, ⟨l8, h8⟩, ⟨l9, h9⟩⟩ := h
  obtain ⟨hd60, U3, V3, b3, hd3⟩ := h3
  have hbt := Bool.toNat_le (sp_in dd (sp_dsx M inp).length)
  have hut := Bool.toNat_le up
  unfold sp_domv
  refine gx_aload_n d_PC_domino_0 rfl ?_
  refine gx_get fl_PC_26 d_PC_domino_1 h0 rfl ?_
  refine gx_iload_n d_PC_domino_4 rfl ?_
  refine gx_cV1 lk_PC_121 d_PC_domino_5 (ct_Box_has (i := dd) b3) (Or.inl ⟨_, b3.1⟩) (by omega) rfl rfl (Nat.le_of_ble_eq_true rfl) ?_
  refine gx_if_neN (by omega) (tgt := 13) d_PC_domino_8 (by decide) (fun h8 => ?_) (fun h8 => ?_)
  · obtain ⟨j, hj, rfl⟩ : ∃ j, j < (sp_dsx M inp).length ∧ dd = nI j := by
      have hin : sp_in dd (sp_dsx M inp).length = true := by cases hq : sp_in dd (sp_dsx M inp).length <;> simp_all
      unfold sp_in at hin
      simp only [Bool.and_eq_true, decide_eq_true_eq] at hin
      obtain ⟨j, hj, rfl⟩ := nI_of (x := dd) (by have := hin.1; rw [Int32.lt_iff_toInt_lt]; rw [Int32.le_iff_toInt_le] at this; omega)
      exact ⟨j, (nI_ltI hj (by omega)).mp hin.2, rfl⟩
    obtain ⟨hD, hu, hl⟩ := b3.2.2.2 j (by omega)
    rw [(hd3 j hj).1] at hu
    rw [(hd3 j hj).2] at hl
    rw [sp_in_nI (by omega) (by omega), decide_eq_true hj, if_pos rfl, nI_clamp (by omega)]
    refine gx_iload_n d_PC_domino_13 rfl ?_
    refine gx_if_eqN (by omega) (tgt := 35) d_PC_domino_14 (by decide) (fun h14 => ?_) (fun h14 => ?_)
    · rw [if_neg (show ¬ up = true from fun g => by rw [g] at h14; exact absurd h14 (by decide))]
      refine gx_aload_n d_PC_domino_35 rfl ?_
      refine gx_get fl_PC_26 d_PC_domino_36 h0 rfl ?_
      refine gx_iload_n d_PC_domino_39 rfl ?_
      refine gx_cV1 lk_PC_124 d_PC_domino_40 (ct_Box_get b3 hj hd60) (Or.inl ⟨_, b3.1⟩) (by omega) rfl rfl (Nat.le_of_ble_eq_true rfl) ?_
      refine gx_get fl_PC_133 d_PC_domino_43 hD rfl ?_
      refine gx_iload_n d_PC_domino_46 rfl ?_
      refine gx_cV1 lk_PC_114 d_PC_domino_47 (ct_Word_ask hl) (Or.inr ⟨_, _, hl⟩) (by omega) rfl rfl (Nat.le_of_ble_eq_true rfl) ?_
      refine gx_ireturn rfl d_PC_domino_50 ?_
      exact ⟨rfl, rfl⟩
    · rw [if_pos (show up = true by cases up <;> simp_all)]
      refine gx_aload_n d_PC_domino_17 rfl ?_
      refine gx_get fl_PC_26 d_PC_domino_18 h0 rfl ?_
      refine gx_iload_n d_PC_domino_21 rfl ?_
      refine gx_cV1 lk_PC_124 d_PC_domino_22 (ct_Box_get b3 hj hd60) (Or.inl ⟨_, b3.1⟩) (by omega) rfl rfl (Nat.le_of_ble_eq_true rfl) ?_
      refine gx_get fl_PC_128 d_PC_domino_25 hD rfl ?_
      refine gx_iload_n d_PC_domino_28 rfl ?_
      refine gx_cV1 lk_PC_114 d_PC_domino_29 (ct_Word_ask hu) (Or.inr ⟨_, _, hu⟩) (by omega) rfl rfl (Nat.le_of_ble_eq_true rfl) ?_
      refine gx_goto (tgt := 50) d_PC_domino_32 (by decide) ?_
      refine gx_ireturn rfl d_PC_domino_50 ?_
      exact ⟨rfl, rfl⟩
  · rw [if_neg (show ¬ sp_in dd (sp_dsx M inp).length = true from fun g => by rw [g] at h8; exact absurd h8 (by decide))]
    refine gx_iconst d_PC_domino_11 (-1) (by decide) ?_
    refine gx_ireturn rfl d_PC_domino_12 ?_
    exact ⟨rfl, rfl⟩
theorem d_PC_looked_0 : decode prog_1_method_19_code 0 = .ok (.aload_n 0, 1) := by decide +kernel
theorem d_PC_looked_1 : decode prog_1_method_19_code 1 = .ok (.getfield 40, 3) := by decide +kernel
theorem d_PC_looked_4 : decode prog_1_method_19_code 4 = .ok (.invokevirtual 200, 3) := by decide +kernel
theorem d_PC_looked_7 : decode prog_1_method_19_code 7 = .ok (.ireturn, 1) := by decide +kernel
theorem ct_looked {w : gx_W} {B : Nat} {M : sp_M} {inp laid typed : List Nat} {lk : Int32} (h : pcAt w B M inp laid typed lk)  : gx_Ct M_PC_looked 2 0 0 [.ref B] w (gx_eq (some (.int lk)) w) := by
  refine gx_ct (L := [some (.ref B)]) (by decide) (Nat.le_of_ble_eq_true rfl) rfl ?_
  obtain ⟨⟨h0, h1, h2, ⟨fo, h3, hfo⟩, ⟨t4, h4⟩, ⟨q5, op5, h5⟩, h6, h7⟩, ⟨l8, h8⟩, ⟨l9, h9⟩⟩ := h
  obtain ⟨-, g1, g2, g3, g4, g5, hz, -⟩ := h5
  refine gx_aload_n d_PC_looked_0 rfl ?_
  refine gx_get fl_PC_40 d_PC_looked_1 h0 rfl ?_
  refine gx_cV1 lk_PC_200 d_PC_looked_4 (ct_lookedAt hz) (Or.inl ⟨_, hz.1⟩) (by omega) rfl rfl (Nat.le_of_ble_eq_true rfl) ?_
  refine gx_ireturn rfl d_PC_looked_7 ?_
  exact ⟨rfl, rfl⟩
def sp_lay (nd : Nat) (laid : List Nat) (d : Int32) : Int32 × List Nat := if sp_in d nd = true ∧ laid.length < 60 then (nI (laid.length + 1), laid ++ [d.toNatClampNeg]) else (-1, laid)
theorem d_PC_lay_0 : decode prog_1_method_11_code 0 = .ok (.aload_n 0, 1) := by decide +kernel
theorem d_PC_lay_1 : decode prog_1_method_11_code 1 = .ok (.getfield 26, 3) := by decide +kernel
theorem d_PC_lay_4 : decode prog_1_method_11_code 4 = .ok (.iload_n 1, 1) := by decide +kernel
theorem d_PC_lay_5 : decode prog_1_method_11_code 5 = .ok (.invokevirtual 121, 3) := by decide +kernel
theorem d_PC_lay_8 : decode prog_1_method_11_code 8 = .ok (.ifCond .eq 15, 3) := by decide +kernel
theorem d_PC_lay_11 : decode prog_1_method_11_code 11 = .ok (.aload_n 0, 1) := by decide +kernel
theorem d_PC_lay_12 : decode prog_1_method_11_code 12 = .ok (.getfield 49, 3) := by decide +kernel
theorem d_PC_lay_15 : decode prog_1_method_11_code 15 = .ok (.invokevirtual 146, 3) := by decide +kernel
theorem d_PC_lay_18 : decode prog_1_method_11_code 18 = .ok (.bipush 60, 2) := by decide +kernel
theorem d_PC_lay_20 : decode prog_1_method_11_code 20 = .ok (.if_icmp .lt 5, 3) := by decide +kernel
theorem d_PC_lay_23 : decode prog_1_method_11_code 23 = .ok (.iconst (-1), 1) := by decide +kernel
theorem d_PC_lay_24 : decode prog_1_method_11_code 24 = .ok (.ireturn, 1) := by decide +kernel
theorem d_PC_lay_25 : decode prog_1_method_11_code 25 = .ok (.aload_n 0, 1) := by decide +kernel
theorem d_PC_lay_26 : decode prog_1_method_11_code 26 = .ok (.getfield 49, 3) := by decide +kernel
theorem d_PC_lay_29 : decode prog_1_method_11_code 29 = .ok (.iload_n 1, 1) := by decide +kernel
theorem d_PC_lay_30 : decode prog_1_method_11_code 30 = .ok (.invokevirtual 147, 3) := by decide +kernel
theorem d_PC_lay_33 : decode prog_1_method_11_code 33 = .ok (.aload_n 0, 1) := by decide +kernel
theorem d_PC_lay_34 : decode prog_1_method_11_code 34 = .ok (.getfield 49, 3) := by decide +kernel
theorem d_PC_lay_37 : decode prog_1_method_11_code 37 = .ok (.invokevirtual 146, 3) := by decide +kernel
theorem d_PC_lay_40 : decode prog_1_method_11_code 40 = .ok (.ireturn, 1) := by decide +kernel
theorem ct_lay {w : gx_W} {B : Nat} {M : sp_M} {inp laid typed : List Nat} {lk : Int32} (h : pcAt w B M inp laid typed lk) {dd : Int32} : gx_Ct M_PC_lay 2 0 0 [.ref B, .int dd] w (fun v w' => v = some (.int (sp_lay (sp_dsx M inp).length laid dd).1) ∧ pcAt w' B M inp (sp_lay (sp_dsx M inp).length laid dd).2 typed lk ∧ gx_kp w w' B (B + 360)) := by
  refine gx_ct (L := [some (.ref B), some (.int dd)]) (by decide) (Nat.le_of_ble_eq_true rfl) rfl ?_
  have hP := h
  obtain ⟨⟨h0, h1, h2, ⟨fo, h3, hfo⟩, ⟨t4, h4⟩, ⟨q5, op5, h5⟩, h6, h7⟩, ⟨l8, h8⟩, ⟨l9, h9⟩⟩ := h
  obtain ⟨hd60, U3, V3, b3, hd3⟩ := h3
  have hbt := Bool.toNat_le (sp_in dd (sp_dsx M inp).length)
  unfold sp_lay
  refine gx_bsz h6 (fun hlen hcap hsm => ?_)
  refine gx_aload_n d_PC_lay_0 rfl ?_
  refine gx_get fl_PC_26 d_PC_lay_1 h0 rfl ?_
  refine gx_iload_n d_PC_lay_4 rfl ?_
  refine gx_cV1 lk_PC_121 d_PC_lay_5 (ct_Box_has (i := dd) b3) (Or.inl ⟨_, b3.1⟩) (by omega) rfl rfl (Nat.le_of_ble_eq_true rfl) ?_
  refine gx_if_eqN (by omega) (tgt := 23) d_PC_lay_8 (by decide) (fun h8 => ?_) (fun h8 => ?_)
  · rw [if_neg (show ¬ (sp_in dd (sp_dsx M inp).length = true ∧ laid.length < 60) from fun g => by rw [g.1] at h8; exact absurd h8 (by decide))]
    refine gx_iconst d_PC_lay_23 (-1) (by decide) ?_
    refine gx_ireturn rfl d_PC_lay_24 ?_
    exact ⟨rfl, hP, gx_kp.rf⟩
  · obtain ⟨j, hj, rfl⟩ : ∃ j, j < (sp_dsx M inp).length ∧ dd = nI j := by
      have hin : sp_in dd (sp_dsx M inp).length = true := by cases hq : sp_in dd (sp_dsx M inp).length <;> simp_all
      unfold sp_in at hin
      simp only [Bool.and_eq_true, decide_eq_true_eq] at hin
      obtain ⟨j, hj, rfl⟩ := nI_of (x := dd) (by have := hin.1; rw [Int32.lt_iff_toInt_lt]; rw [Int32.le_iff_toInt_le] at this; omega)
      exact ⟨j, (nI_ltI hj (by omega)).mp hin.2, rfl⟩
    obtain ⟨hD, hu, hl⟩ := b3.2.2.2 j (by omega)
    rw [(hd3 j hj).1] at hu
    rw [(hd3 j hj).2] at hl
    refine gx_aload_n d_PC_lay_11 rfl ?_
    refine gx_get fl_PC_49 d_PC_lay_12 h0 rfl ?_
    refine gx_cV1 lk_PC_146 d_PC_lay_15 (ct_Row_size h6) (Or.inr ⟨_, _, h6⟩) (by omega) rfl rfl (Nat.le_of_ble_eq_true rfl) ?_
    refine gx_bipush d_PC_lay_18 (nI 60) (by decide) ?_
    refine gx_icmp_ltN (by omega) (by omega) (tgt := 25) d_PC_lay_20 (by decide) (fun h20 => ?_) (fun h20 => ?_)
    · rw [sp_in_nI (by omega) (by omega), decide_eq_true hj, if_pos ⟨rfl, h20⟩, nI_clamp (by omega)]
      refine gx_aload_n d_PC_lay_25 rfl ?_
      refine gx_get fl_PC_49 d_PC_lay_26 h0 rfl ?_
      refine gx_iload_n d_PC_lay_29 rfl ?_
      refine gx_cV0 lk_PC_147 d_PC_lay_30 (ct_Row_add h6 (show j < 65536 by omega) h20) (Or.inr ⟨_, _, h6⟩) (by omega) rfl rfl (Nat.le_of_ble_eq_true rfl) ?_
      have hP2 := hP.laid (laid ++ [j])
      refine gx_aload_n d_PC_lay_33 rfl ?_
      refine gx_get fl_PC_49 d_PC_lay_34 hP2.1.1 rfl ?_
      refine gx_cV1 lk_PC_146 d_PC_lay_37 (ct_Row_size gx_st_eq) (Or.inr ⟨_, _, gx_st_eq⟩) (by omega) rfl rfl (Nat.le_of_ble_eq_true rfl) ?_
      refine gx_ireturn rfl d_PC_lay_40 ?_
      exact ⟨by simp, hP2, gx_kp.st (by omega) (by omega)⟩
    · rw [if_neg (show ¬ (_ ∧ laid.length < 60) from fun g => h20 g.2)]
      refine gx_iconst d_PC_lay_23 (-1) (by decide) ?_
      refine gx_ireturn rfl d_PC_lay_24 ?_
      exact ⟨rfl, hP, gx_kp.rf⟩
theorem d_PC_clear_0 : decode prog_1_method_13_code 0 = .ok (.aload_n 0, 1) := by decide +kernel
theorem d_PC_clear_1 : decode prog_1_method_13_code 1 = .ok (.getfield 49, 3) := by decide +kernel
theorem d_PC_clear_4 : decode prog_1_method_13_code 4 = .ok (.invokevirtual 154, 3) := by decide +kernel
theorem d_PC_clear_7 : decode prog_1_method_13_code 7 = .ok (.aload_n 0, 1) := by decide +kernel
theorem d_PC_clear_8 : decode prog_1_method_13_code 8 = .ok (.getfield 56, 3) := by decide +kernel
theorem d_PC_clear_11 : decode prog_1_method_13_code 11 = .ok (.invokevirtual 157, 3) := by decide +kernel
theorem d_PC_clear_14 : decode prog_1_method_13_code 14 = .ok (.return_, 1) := by decide +kernel
theorem ct_clear {w : gx_W} {B : Nat} {M : sp_M} {inp laid typed : List Nat} {lk : Int32} (h : pcAt w B M inp laid typed lk)  : gx_Ct M_PC_clear 2 0 0 [.ref B] w (fun v w' => v = none ∧ pcAt w' B M inp [] [] lk ∧ gx_kp w w' B (B + 360)) := by
  refine gx_ct (L := [some (.ref B)]) (by decide) (Nat.le_of_ble_eq_true rfl) rfl ?_
  refine gx_aload_n d_PC_clear_0 rfl ?_
  refine gx_get fl_PC_49 d_PC_clear_1 h.1.1 rfl ?_
  refine gx_cV0 lk_PC_154 d_PC_clear_4 (ct_Row_empty h.1.2.2.2.2.2.2.1) (Or.inr ⟨_, _, h.1.2.2.2.2.2.2.1⟩) (by omega) rfl rfl (Nat.le_of_ble_eq_true rfl) ?_
  have h2 := h.laid []
  have k2 : gx_kp w (gx_st w (B + 352) (gx_bx 1 60 [])) B (B + 360) := gx_kp.st (by omega) (by omega)
  refine gx_aload_n d_PC_clear_7 rfl ?_
  refine gx_get fl_PC_56 d_PC_clear_8 h2.1.1 rfl ?_
  refine gx_cV0 lk_PC_157 d_PC_clear_11 (ct_Word_empty h2.1.2.2.2.2.2.2.2) (Or.inr ⟨_, _, h2.1.2.2.2.2.2.2.2⟩) (by omega) rfl rfl (Nat.le_of_ble_eq_true rfl) ?_
  refine gx_return rfl d_PC_clear_14 ?_
  exact ⟨rfl, h2.typed [], k2.trans (gx_kp.st (by omega) (by omega))⟩
def sp_up (ds : List (List Nat × List Nat)) (laid : List Nat) : List Nat := laid.flatMap (fun d => (ds.getD d ([], [])).1)
def sp_lw (ds : List (List Nat × List Nat)) (laid : List Nat) : List Nat := laid.flatMap (fun d => (ds.getD d ([], [])).2)
theorem gx_td {l : List Nat} : (l.take l.length).drop 0 = l := by simp
theorem d_PC_spellLaid_0 : decode prog_1_method_21_code 0 = .ok (.aload_n 0, 1) := by decide +kernel
theorem d_PC_spellLaid_1 : decode prog_1_method_21_code 1 = .ok (.getfield 60, 3) := by decide +kernel
theorem d_PC_spellLaid_4 : decode prog_1_method_21_code 4 = .ok (.invokevirtual 157, 3) := by decide +kernel
theorem d_PC_spellLaid_7 : decode prog_1_method_21_code 7 = .ok (.aload_n 0, 1) := by decide +kernel
theorem d_PC_spellLaid_8 : decode prog_1_method_21_code 8 = .ok (.getfield 63, 3) := by decide +kernel
theorem d_PC_spellLaid_11 : decode prog_1_method_21_code 11 = .ok (.invokevirtual 157, 3) := by decide +kernel
theorem d_PC_spellLaid_14 : decode prog_1_method_21_code 14 = .ok (.iconst 0, 1) := by decide +kernel
theorem d_PC_spellLaid_15 : decode prog_1_method_21_code 15 = .ok (.istore_n 1, 1) := by decide +kernel
theorem d_PC_spellLaid_16 : decode prog_1_method_21_code 16 = .ok (.iload_n 1, 1) := by decide +kernel
theorem d_PC_spellLaid_17 : decode prog_1_method_21_code 17 = .ok (.aload_n 0, 1) := by decide +kernel
theorem d_PC_spellLaid_18 : decode prog_1_method_21_code 18 = .ok (.getfield 49, 3) := by decide +kernel
theorem d_PC_spellLaid_21 : decode prog_1_method_21_code 21 = .ok (.invokevirtual 146, 3) := by decide +kernel
theorem d_PC_spellLaid_24 : decode prog_1_method_21_code 24 = .ok (.if_icmp .ge 63, 3) := by decide +kernel
theorem d_PC_spellLaid_27 : decode prog_1_method_21_code 27 = .ok (.aload_n 0, 1) := by decide +kernel
theorem d_PC_spellLaid_28 : decode prog_1_method_21_code 28 = .ok (.getfield 26, 3) := by decide +kernel
theorem d_PC_spellLaid_31 : decode prog_1_method_21_code 31 = .ok (.aload_n 0, 1) := by decide +kernel
theorem d_PC_spellLaid_32 : decode prog_1_method_21_code 32 = .ok (.getfield 49, 3) := by decide +kernel
theorem d_PC_spellLaid_35 : decode prog_1_method_21_code 35 = .ok (.iload_n 1, 1) := by decide +kernel
theorem d_PC_spellLaid_36 : decode prog_1_method_21_code 36 = .ok (.invokevirtual 145, 3) := by decide +kernel
theorem d_PC_spellLaid_39 : decode prog_1_method_21_code 39 = .ok (.invokevirtual 124, 3) := by decide +kernel
theorem d_PC_spellLaid_42 : decode prog_1_method_21_code 42 = .ok (.astore_n 2, 1) := by decide +kernel
theorem d_PC_spellLaid_43 : decode prog_1_method_21_code 43 = .ok (.aload_n 0, 1) := by decide +kernel
theorem d_PC_spellLaid_44 : decode prog_1_method_21_code 44 = .ok (.getfield 60, 3) := by decide +kernel
theorem d_PC_spellLaid_47 : decode prog_1_method_21_code 47 = .ok (.aload_n 2, 1) := by decide +kernel
theorem d_PC_spellLaid_48 : decode prog_1_method_21_code 48 = .ok (.getfield 128, 3) := by decide +kernel
theorem d_PC_spellLaid_51 : decode prog_1_method_21_code 51 = .ok (.iconst 0, 1) := by decide +kernel
theorem d_PC_spellLaid_52 : decode prog_1_method_21_code 52 = .ok (.aload_n 2, 1) := by decide +kernel
theorem d_PC_spellLaid_53 : decode prog_1_method_21_code 53 = .ok (.getfield 128, 3) := by decide +kernel
theorem d_PC_spellLaid_56 : decode prog_1_method_21_code 56 = .ok (.invokevirtual 186, 3) := by decide +kernel
theorem d_PC_spellLaid_59 : decode prog_1_method_21_code 59 = .ok (.invokevirtual 216, 3) := by decide +kernel
theorem d_PC_spellLaid_62 : decode prog_1_method_21_code 62 = .ok (.aload_n 0, 1) := by decide +kernel
theorem d_PC_spellLaid_63 : decode prog_1_method_21_code 63 = .ok (.getfield 63, 3) := by decide +kernel
theorem d_PC_spellLaid_66 : decode prog_1_method_21_code 66 = .ok (.aload_n 2, 1) := by decide +kernel
theorem d_PC_spellLaid_67 : decode prog_1_method_21_code 67 = .ok (.getfield 133, 3) := by decide +kernel
theorem d_PC_spellLaid_70 : decode prog_1_method_21_code 70 = .ok (.iconst 0, 1) := by decide +kernel
theorem d_PC_spellLaid_71 : decode prog_1_method_21_code 71 = .ok (.aload_n 2, 1) := by decide +kernel
theorem d_PC_spellLaid_72 : decode prog_1_method_21_code 72 = .ok (.getfield 133, 3) := by decide +kernel
theorem d_PC_spellLaid_75 : decode prog_1_method_21_code 75 = .ok (.invokevirtual 186, 3) := by decide +kernel
theorem d_PC_spellLaid_78 : decode prog_1_method_21_code 78 = .ok (.invokevirtual 216, 3) := by decide +kernel
theorem d_PC_spellLaid_81 : decode prog_1_method_21_code 81 = .ok (.iinc 1 1, 3) := by decide +kernel
theorem d_PC_spellLaid_84 : decode prog_1_method_21_code 84 = .ok (.goto (-68), 3) := by decide +kernel
theorem d_PC_spellLaid_87 : decode prog_1_method_21_code 87 = .ok (.return_, 1) := by decide +kernel
theorem lp_spell {Q : gx_P} {w0 : gx_W} {B : Nat} {M : sp_M} {inp laid typed : List Nat} {lk : Int32} (h0 : pcC w0 B M inp laid typed lk) (hlaid : ∀ d ∈ laid, d < (sp_dsx M inp).length) : ∀ (fu : Nat) (i : Nat) (w : gx_W) (u : List Nat) (v : List Nat) (L2 : Option Value), laid.length - i < fu → (gx_kp w0 w (B + 356) (B + 360)) → (w.1 (B + 356) = some (gx_bx 0 180 u)) → (w.1 (B + 358) = some (gx_bx 0 420 v)) → (u = sp_up (sp_dsx M inp) (laid.take i)) → (v = sp_lw (sp_dsx M inp) (laid.take i)) → (u.length ≤ 3 * i) → (v.length ≤ 7 * i) → (i ≤ laid.length) → (∀ w', gx_kp w0 w' (B + 356) (B + 360) → w'.1 (B + 356) = some (gx_bx 0 180 (sp_up (sp_dsx M inp) laid)) → w'.1 (B + 358) = some (gx_bx 0 420 (sp_lw (sp_dsx M inp) laid)) → Q.1 none w') → gx_X (fun _ _ => True) M_PC_spellLaid 3 Q 16 [some (.ref B), some (.int (nI i)), L2] [] w (0, 0) := by
  intro fu
  induction fu with
  | zero => intro i w u v L2 hfu; exact absurd hfu (Nat.not_lt_zero _)
  | succ fu ih =>
    intro i w u v L2 hfu hk hu hv hue hve hul hvl hi hQ
    have hC := h0.kept hk (by omega)
    obtain ⟨c0, c1, c2, ⟨fo, c3, hfo⟩, c4, c5, c6, c7⟩ := hC
    obtain ⟨hd60, U3, V3, b3, hd3⟩ := c3
    refine gx_bsz c6 (fun hlen hcap hsm => ?_)
    refine gx_iload_n d_PC_spellLaid_16 rfl ?_
    refine gx_aload_n d_PC_spellLaid_17 rfl ?_
    refine gx_get fl_PC_49 d_PC_spellLaid_18 c0 rfl ?_
    refine gx_cV1 lk_PC_146 d_PC_spellLaid_21 (ct_Row_size c6) (Or.inr ⟨_, _, c6⟩) (by omega) rfl rfl (Nat.le_of_ble_eq_true rfl) ?_
    refine gx_icmp_geN (by omega) (by omega) (tgt := 87) d_PC_spellLaid_24 (by decide) (fun h24 => ?_) (fun h24 => ?_)
    · refine gx_return rfl d_PC_spellLaid_87 ?_
      have e : i = laid.length := by omega
      subst e
      rw [List.take_of_length_le (Nat.le_refl _)] at hue hve
      rw [hue] at hu
      rw [hve] at hv
      exact hQ w hk hu hv
    · refine gx_aload_n d_PC_spellLaid_27 rfl ?_
      have hj := hlaid _ (gx_gd_mem (show i < laid.length by omega))
      obtain ⟨hD, hwu, hwl⟩ := b3.2.2.2 (laid.getD i 0) (by omega)
      rw [(hd3 _ hj).1] at hwu
      rw [(hd3 _ hj).2] at hwl
      refine gx_get fl_PC_26 d_PC_spellLaid_28 c0 rfl ?_
      refine gx_aload_n d_PC_spellLaid_31 rfl ?_
      refine gx_get fl_PC_49 d_PC_spellLaid_32 c0 rfl ?_
      refine gx_iload_n d_PC_spellLaid_35 rfl ?_
      refine gx_cV1 lk_PC_145 d_PC_spellLaid_36 (ct_Row_ask (i := nI i) c6) (Or.inr ⟨_, _, c6⟩) (by omega) rfl rfl (Nat.le_of_ble_eq_true rfl) ?_
      refine gx_top (sp_ask_in (show i < laid.length by omega) (by omega)) ?_
      refine gx_cV1 lk_PC_124 d_PC_spellLaid_39 (ct_Box_get b3 hj hd60) (Or.inl ⟨_, b3.1⟩) (by omega) rfl rfl (Nat.le_of_ble_eq_true rfl) ?_
      refine gx_astore_n d_PC_spellLaid_42 (Nat.le_of_ble_eq_true rfl) rfl ?_
      refine gx_aload_n d_PC_spellLaid_43 rfl ?_
      refine gx_bsz hwu (fun hlu hcu hsu => ?_)
      refine gx_bsz hwl (fun hll hcl hsl => ?_)
      refine gx_get fl_PC_60 d_PC_spellLaid_44 c0 rfl ?_
      refine gx_aload_n d_PC_spellLaid_47 rfl ?_
      refine gx_get fl_PC_128 d_PC_spellLaid_48 hD rfl ?_
      refine gx_iconst d_PC_spellLaid_51 (nI 0) (by decide) ?_
      refine gx_aload_n d_PC_spellLaid_52 rfl ?_
      refine gx_get fl_PC_128 d_PC_spellLaid_53 hD rfl ?_
      refine gx_cV1 lk_PC_186 d_PC_spellLaid_56 (ct_Word_size hwu) (Or.inr ⟨_, _, hwu⟩) (by omega) rfl rfl (Nat.le_of_ble_eq_true rfl) ?_
      refine gx_cV0 lk_PC_216 d_PC_spellLaid_59 (ct_Word_addPart (a := 0) (b := ((sp_dsx M inp).getD (laid.getD i 0) ([], [])).1.length) hu hwu (by omega) (by omega) (Nat.le_refl _) (by omega)) (Or.inr ⟨_, _, hu⟩) (by omega) rfl rfl (Nat.le_of_ble_eq_true rfl) ?_
      rw [gx_td]
      refine gx_aload_n d_PC_spellLaid_62 rfl ?_
      refine gx_get fl_PC_63 d_PC_spellLaid_63 (by rw [gx_st_ne (by omega)]; exact c0) rfl ?_
      refine gx_aload_n d_PC_spellLaid_66 rfl ?_
      refine gx_get fl_PC_133 d_PC_spellLaid_67 (by rw [gx_st_ne (by omega)]; exact hD) rfl ?_
      refine gx_iconst d_PC_spellLaid_70 (nI 0) (by decide) ?_
      refine gx_aload_n d_PC_spellLaid_71 rfl ?_
      refine gx_get fl_PC_133 d_PC_spellLaid_72 (by rw [gx_st_ne (by omega)]; exact hD) rfl ?_
      have hwl2 : (gx_st w (B + 356) (gx_bx 0 180 (u ++ ((sp_dsx M inp).getD (laid.getD i 0) ([], [])).1))).1 (B + 36 + 6 + 5 * laid.getD i 0) = some (gx_bx 0 7 ((sp_dsx M inp).getD (laid.getD i 0) ([], [])).2) := by rw [gx_st_ne (by omega)]; exact hwl
      have hv2 : (gx_st w (B + 356) (gx_bx 0 180 (u ++ ((sp_dsx M inp).getD (laid.getD i 0) ([], [])).1))).1 (B + 358) = some (gx_bx 0 420 v) := by rw [gx_st_ne (by omega)]; exact hv
      refine gx_cV1 lk_PC_186 d_PC_spellLaid_75 (ct_Word_size hwl2) (Or.inr ⟨_, _, hwl2⟩) (by omega) rfl rfl (Nat.le_of_ble_eq_true rfl) ?_
      refine gx_cV0 lk_PC_216 d_PC_spellLaid_78 (ct_Word_addPart (a := 0) (b := ((sp_dsx M inp).getD (laid.getD i 0) ([], [])).2.length) hv2 hwl2 (by omega) (by omega) (Nat.le_refl _) (by omega)) (Or.inr ⟨_, _, hv2⟩) (by omega) rfl rfl (Nat.le_of_ble_eq_true rfl) ?_
      rw [gx_td]
      refine gx_iincN (n := 1) d_PC_spellLaid_81 rfl (by decide) (Nat.le_of_ble_eq_true rfl) rfl ?_
      refine gx_goto (tgt := 16) d_PC_spellLaid_84 (by decide) ?_
      refine ih (i + 1) _ (u ++ ((sp_dsx M inp).getD (laid.getD i 0) ([], [])).1) (v ++ ((sp_dsx M inp).getD (laid.getD i 0) ([], [])).2) _ (by omega) ((hk.trans (gx_kp.st (by omega) (by omega))).trans (gx_kp.st (by omega) (by omega))) (by rw [gx_st_ne (by omega)]; exact gx_st_eq) gx_st_eq ?_ ?_ (by rw [List.length_append]; omega) (by rw [List.length_append]; omega) (by omega) hQ
      · rw [hue, gx_take_succ (by omega)]
        unfold sp_up
        rw [List.flatMap_append]; simp
      · rw [hve, gx_take_succ (by omega)]
        unfold sp_lw
        rw [List.flatMap_append]; simp
theorem ct_spellLaid {w : gx_W} {B : Nat} {M : sp_M} {inp laid typed : List Nat} {lk : Int32} (h : pcAt w B M inp laid typed lk) (hlaid : ∀ d ∈ laid, d < (sp_dsx M inp).length)  : gx_Ct M_PC_spellLaid 3 0 0 [.ref B] w (fun r w' => r = none ∧ pcC w' B M inp laid typed lk ∧ w'.1 (B + 356) = some (gx_bx 0 180 (sp_up (sp_dsx M inp) laid)) ∧ w'.1 (B + 358) = some (gx_bx 0 420 (sp_lw (sp_dsx M inp) laid)) ∧ gx_kp w w' (B + 356) (B + 360)) := by
  refine gx_ct (L := [some (.ref B), none, none]) (by decide) (Nat.le_of_ble_eq_true rfl) rfl ?_
  obtain ⟨hC, ⟨l8, h8⟩, ⟨l9, h9⟩⟩ := h
  refine gx_aload_n d_PC_spellLaid_0 rfl ?_
  refine gx_get fl_PC_60 d_PC_spellLaid_1 hC.1 rfl ?_
  refine gx_cV0 lk_PC_157 d_PC_spellLaid_4 (ct_Word_empty h8) (Or.inr ⟨_, _, h8⟩) (by omega) rfl rfl (Nat.le_of_ble_eq_true rfl) ?_
  have k1 : gx_kp w (gx_st w (B + 356) (gx_bx 0 180 [])) (B + 356) (B + 360) := gx_kp.st (by omega) (by omega)
  have h9a : (gx_st w (B + 356) (gx_bx 0 180 [])).1 (B + 358) = some (gx_bx 0 420 l9) := by rw [gx_st_ne (by omega)]; exact h9
  refine gx_aload_n d_PC_spellLaid_7 rfl ?_
  refine gx_get fl_PC_63 d_PC_spellLaid_8 (by rw [gx_st_ne (by omega)]; exact hC.1) rfl ?_
  refine gx_cV0 lk_PC_157 d_PC_spellLaid_11 (ct_Word_empty h9a) (Or.inr ⟨_, _, h9a⟩) (by omega) rfl rfl (Nat.le_of_ble_eq_true rfl) ?_
  refine gx_iconst d_PC_spellLaid_14 (nI 0) (by decide) ?_
  refine gx_istore_n d_PC_spellLaid_15 (Nat.le_of_ble_eq_true rfl) rfl ?_
  exact lp_spell hC hlaid (laid.length + 1) 0 _ [] [] none (by omega) (k1.trans (gx_kp.st (by omega) (by omega))) (by rw [gx_st_ne (by omega)]; exact gx_st_eq) gx_st_eq (by simp [sp_up]) (by simp [sp_lw]) (by simp) (by simp) (Nat.zero_le _) (fun w' k2 h3 h4 => ⟨rfl, hC.kept k2 (by omega), h3, h4, k2⟩)
def sp_tray (ds : List (List Nat × List Nat)) (laid : List Nat) : Nat := if sp_agb (sp_up ds laid) (sp_lw ds laid) = true then (if laid.getD 0 1 = 0 ∧ sp_up ds laid = sp_lw ds laid then 2 else 1) else 0
theorem sp_ask0 {laid : List Nat} (h : laid.length < 2 ^ 31) (hs : gx_sm laid) : sp_ask laid (nI 0) = 0 ↔ laid.getD 0 1 = 0 := by
  cases laid with
  | nil => simp [sp_ask]; decide
  | cons a t =>
    rw [sp_ask_in (by simp) h]
    show nI a = 0 ↔ a = 0
    exact gx_z0 (by have := hs a List.mem_cons_self; omega)
theorem d_PC_tray_0 : decode prog_1_method_14_code 0 = .ok (.aload_n 0, 1) := by decide +kernel
theorem d_PC_tray_1 : decode prog_1_method_14_code 1 = .ok (.invokevirtual 158, 3) := by decide +kernel
theorem d_PC_tray_4 : decode prog_1_method_14_code 4 = .ok (.aload_n 0, 1) := by decide +kernel
theorem d_PC_tray_5 : decode prog_1_method_14_code 5 = .ok (.getfield 60, 3) := by decide +kernel
theorem d_PC_tray_8 : decode prog_1_method_14_code 8 = .ok (.aload_n 0, 1) := by decide +kernel
theorem d_PC_tray_9 : decode prog_1_method_14_code 9 = .ok (.getfield 63, 3) := by decide +kernel
theorem d_PC_tray_12 : decode prog_1_method_14_code 12 = .ok (.invokevirtual 161, 3) := by decide +kernel
theorem d_PC_tray_15 : decode prog_1_method_14_code 15 = .ok (.ifCond .ne 5, 3) := by decide +kernel
theorem d_PC_tray_18 : decode prog_1_method_14_code 18 = .ok (.iconst 0, 1) := by decide +kernel
theorem d_PC_tray_19 : decode prog_1_method_14_code 19 = .ok (.ireturn, 1) := by decide +kernel
theorem d_PC_tray_20 : decode prog_1_method_14_code 20 = .ok (.aload_n 0, 1) := by decide +kernel
theorem d_PC_tray_21 : decode prog_1_method_14_code 21 = .ok (.getfield 49, 3) := by decide +kernel
theorem d_PC_tray_24 : decode prog_1_method_14_code 24 = .ok (.iconst 0, 1) := by decide +kernel
theorem d_PC_tray_25 : decode prog_1_method_14_code 25 = .ok (.invokevirtual 145, 3) := by decide +kernel
theorem d_PC_tray_28 : decode prog_1_method_14_code 28 = .ok (.ifCond .ne 21, 3) := by decide +kernel
theorem d_PC_tray_31 : decode prog_1_method_14_code 31 = .ok (.aload_n 0, 1) := by decide +kernel
theorem d_PC_tray_32 : decode prog_1_method_14_code 32 = .ok (.getfield 60, 3) := by decide +kernel
theorem d_PC_tray_35 : decode prog_1_method_14_code 35 = .ok (.aload_n 0, 1) := by decide +kernel
theorem d_PC_tray_36 : decode prog_1_method_14_code 36 = .ok (.getfield 63, 3) := by decide +kernel
theorem d_PC_tray_39 : decode prog_1_method_14_code 39 = .ok (.invokevirtual 165, 3) := by decide +kernel
theorem d_PC_tray_42 : decode prog_1_method_14_code 42 = .ok (.ifCond .eq 7, 3) := by decide +kernel
theorem d_PC_tray_45 : decode prog_1_method_14_code 45 = .ok (.iconst 2, 1) := by decide +kernel
theorem d_PC_tray_46 : decode prog_1_method_14_code 46 = .ok (.goto 4, 3) := by decide +kernel
theorem d_PC_tray_49 : decode prog_1_method_14_code 49 = .ok (.iconst 1, 1) := by decide +kernel
theorem d_PC_tray_50 : decode prog_1_method_14_code 50 = .ok (.ireturn, 1) := by decide +kernel
theorem ct_tray {w : gx_W} {B : Nat} {M : sp_M} {inp laid typed : List Nat} {lk : Int32} (h : pcAt w B M inp laid typed lk) (hlaid : ∀ d ∈ laid, d < (sp_dsx M inp).length)  : gx_Ct M_PC_tray 4 0 0 [.ref B] w (fun v w' => v = some (.int (nI (sp_tray (sp_dsx M inp) laid))) ∧ pcAt w' B M inp laid typed lk ∧ w'.1 (B + 356) = some (gx_bx 0 180 (sp_up (sp_dsx M inp) laid)) ∧ gx_kp w w' (B + 356) (B + 360)) := by
  refine gx_ct (L := [some (.ref B)]) (by decide) (Nat.le_of_ble_eq_true rfl) rfl ?_
  refine gx_aload_n d_PC_tray_0 rfl ?_
  refine gx_cVr lk_PC_158 d_PC_tray_1 (ct_spellLaid h hlaid) (Or.inl ⟨_, h.1.1⟩) (by omega) rfl rfl (Nat.le_of_ble_eq_true rfl) (fun r2 w2 hq => ?_)
  obtain ⟨rfl, hC, hu, hl, kk⟩ := hq
  have hA : pcAt w2 B M inp laid typed lk := ⟨hC, ⟨_, hu⟩, ⟨_, hl⟩⟩
  have hbt := Bool.toNat_le (sp_agb (sp_up (sp_dsx M inp) laid) (sp_lw (sp_dsx M inp) laid))
  have hbt2 := Bool.toNat_le (decide (sp_up (sp_dsx M inp) laid = sp_lw (sp_dsx M inp) laid))
  refine gx_bsz hC.2.2.2.2.2.2.1 (fun hlen hcap hsm => ?_)
  have ha0 := sp_ask0 (laid := laid) (by omega) hsm
  unfold sp_tray
  refine gx_aload_n d_PC_tray_4 rfl ?_
  refine gx_get fl_PC_60 d_PC_tray_5 hC.1 rfl ?_
  refine gx_aload_n d_PC_tray_8 rfl ?_
  refine gx_get fl_PC_63 d_PC_tray_9 hC.1 rfl ?_
  refine gx_cV1 lk_PC_161 d_PC_tray_12 (ct_Word_agrees hu hl) (Or.inr ⟨_, _, hu⟩) (by omega) rfl rfl (Nat.le_of_ble_eq_true rfl) ?_
  refine gx_if_neN (by omega) (tgt := 20) d_PC_tray_15 (by decide) (fun h15 => ?_) (fun h15 => ?_)
  · rw [if_pos (show sp_agb (sp_up (sp_dsx M inp) laid) (sp_lw (sp_dsx M inp) laid) = true by cases hq : sp_agb (sp_up (sp_dsx M inp) laid) (sp_lw (sp_dsx M inp) laid) <;> simp_all)]
    refine gx_aload_n d_PC_tray_20 rfl ?_
    refine gx_get fl_PC_49 d_PC_tray_21 hC.1 rfl ?_
    refine gx_iconst d_PC_tray_24 (nI 0) (by decide) ?_
    refine gx_cV1 lk_PC_145 d_PC_tray_25 (ct_Row_ask (i := nI 0) hC.2.2.2.2.2.2.1) (Or.inr ⟨_, _, hC.2.2.2.2.2.2.1⟩) (by omega) rfl rfl (Nat.le_of_ble_eq_true rfl) ?_
    refine gx_if_ne (tgt := 49) d_PC_tray_28 (by decide) (fun h28 => ?_) (fun h28 => ?_)
    · rw [if_neg (fun g => h28 (ha0.mpr g.1))]
      refine gx_iconst d_PC_tray_49 (nI 1) (by decide) ?_
      refine gx_ireturn rfl d_PC_tray_50 ?_
      exact ⟨rfl, hA, hu, kk⟩
    · refine gx_aload_n d_PC_tray_31 rfl ?_
      refine gx_get fl_PC_60 d_PC_tray_32 hC.1 rfl ?_
      refine gx_aload_n d_PC_tray_35 rfl ?_
      refine gx_get fl_PC_63 d_PC_tray_36 hC.1 rfl ?_
      refine gx_cV1 lk_PC_165 d_PC_tray_39 (ct_Word_same hu hl) (Or.inr ⟨_, _, hu⟩) (by omega) rfl rfl (Nat.le_of_ble_eq_true rfl) ?_
      refine gx_if_eqN (by omega) (tgt := 49) d_PC_tray_42 (by decide) (fun h42 => ?_) (fun h42 => ?_)
      · rw [if_neg (fun g => by rw [decide_eq_true g.2] at h42; exact absurd h42 (by decide))]
        refine gx_iconst d_PC_tray_49 (nI 1) (by decide) ?_
        refine gx_ireturn rfl d_PC_tray_50 ?_
        exact ⟨rfl, hA, hu, kk⟩
      · rw [if_pos ⟨ha0.mp h28, by cases hq : decide (sp_up (sp_dsx M inp) laid = sp_lw (sp_dsx M inp) laid) <;> simp_all⟩]
        refine gx_iconst d_PC_tray_45 (nI 2) (by decide) ?_
        refine gx_goto (tgt := 50) d_PC_tray_46 (by decide) ?_
        refine gx_ireturn rfl d_PC_tray_50 ?_
        exact ⟨rfl, hA, hu, kk⟩
  · rw [if_neg (show ¬ sp_agb (sp_up (sp_dsx M inp) laid) (sp_lw (sp_dsx M inp) laid) = true from fun g => by rw [g] at h15; exact absurd h15 (by decide))]
    refine gx_iconst d_PC_tray_18 (nI 0) (by decide) ?_
    refine gx_ireturn rfl d_PC_tray_19 ?_
    exact ⟨rfl, hA, hu, kk⟩
def sp_hh : List Nat → Nat
  | [] => 0
  | c :: t => if c = 104 then 0 else (if c = 35 then 1 else 0) + sp_hh t
theorem d_PC_hashesAheadOfHalt_0 : decode prog_1_method_22_code 0 = .ok (.iconst 0, 1) := by decide +kernel
theorem d_PC_hashesAheadOfHalt_1 : decode prog_1_method_22_code 1 = .ok (.istore_n 1, 1) := by decide +kernel
theorem d_PC_hashesAheadOfHalt_2 : decode prog_1_method_22_code 2 = .ok (.iconst 0, 1) := by decide +kernel
theorem d_PC_hashesAheadOfHalt_3 : decode prog_1_method_22_code 3 = .ok (.istore_n 2, 1) := by decide +kernel
theorem d_PC_hashesAheadOfHalt_4 : decode prog_1_method_22_code 4 = .ok (.iload_n 2, 1) := by decide +kernel
theorem d_PC_hashesAheadOfHalt_5 : decode prog_1_method_22_code 5 = .ok (.aload_n 0, 1) := by decide +kernel
theorem d_PC_hashesAheadOfHalt_6 : decode prog_1_method_22_code 6 = .ok (.invokevirtual 186, 3) := by decide +kernel
theorem d_PC_hashesAheadOfHalt_9 : decode prog_1_method_22_code 9 = .ok (.if_icmp .ge 39, 3) := by decide +kernel
theorem d_PC_hashesAheadOfHalt_12 : decode prog_1_method_22_code 12 = .ok (.aload_n 0, 1) := by decide +kernel
theorem d_PC_hashesAheadOfHalt_13 : decode prog_1_method_22_code 13 = .ok (.iload_n 2, 1) := by decide +kernel
theorem d_PC_hashesAheadOfHalt_14 : decode prog_1_method_22_code 14 = .ok (.invokevirtual 220, 3) := by decide +kernel
theorem d_PC_hashesAheadOfHalt_17 : decode prog_1_method_22_code 17 = .ok (.iconst 4, 1) := by decide +kernel
theorem d_PC_hashesAheadOfHalt_18 : decode prog_1_method_22_code 18 = .ok (.invokestatic 224, 3) := by decide +kernel
theorem d_PC_hashesAheadOfHalt_21 : decode prog_1_method_22_code 21 = .ok (.if_icmp .eq 27, 3) := by decide +kernel
theorem d_PC_hashesAheadOfHalt_24 : decode prog_1_method_22_code 24 = .ok (.iload_n 1, 1) := by decide +kernel
theorem d_PC_hashesAheadOfHalt_25 : decode prog_1_method_22_code 25 = .ok (.aload_n 0, 1) := by decide +kernel
theorem d_PC_hashesAheadOfHalt_26 : decode prog_1_method_22_code 26 = .ok (.iload_n 2, 1) := by decide +kernel
theorem d_PC_hashesAheadOfHalt_27 : decode prog_1_method_22_code 27 = .ok (.invokevirtual 220, 3) := by decide +kernel
theorem d_PC_hashesAheadOfHalt_30 : decode prog_1_method_22_code 30 = .ok (.bipush 35, 2) := by decide +kernel
theorem d_PC_hashesAheadOfHalt_32 : decode prog_1_method_22_code 32 = .ok (.if_icmp .ne 7, 3) := by decide +kernel
theorem d_PC_hashesAheadOfHalt_35 : decode prog_1_method_22_code 35 = .ok (.iconst 1, 1) := by decide +kernel
theorem d_PC_hashesAheadOfHalt_36 : decode prog_1_method_22_code 36 = .ok (.goto 4, 3) := by decide +kernel
theorem d_PC_hashesAheadOfHalt_39 : decode prog_1_method_22_code 39 = .ok (.iconst 0, 1) := by decide +kernel
theorem d_PC_hashesAheadOfHalt_40 : decode prog_1_method_22_code 40 = .ok (.iadd, 1) := by decide +kernel
theorem d_PC_hashesAheadOfHalt_41 : decode prog_1_method_22_code 41 = .ok (.istore_n 1, 1) := by decide +kernel
theorem d_PC_hashesAheadOfHalt_42 : decode prog_1_method_22_code 42 = .ok (.iinc 2 1, 3) := by decide +kernel
theorem d_PC_hashesAheadOfHalt_45 : decode prog_1_method_22_code 45 = .ok (.goto (-41), 3) := by decide +kernel
theorem d_PC_hashesAheadOfHalt_48 : decode prog_1_method_22_code 48 = .ok (.iload_n 1, 1) := by decide +kernel
theorem d_PC_hashesAheadOfHalt_49 : decode prog_1_method_22_code 49 = .ok (.ireturn, 1) := by decide +kernel
theorem lp_hashes {Q : gx_P} {w : gx_W} {h cap : Nat} {l : List Nat} (hw : w.1 h = some (gx_bx 0 cap l)) : ∀ (fu : Nat) (i : Nat) (m : Nat), l.length - i < fu → (i ≤ l.length) → (m ≤ i) → (Q.1 (some (.int (nI (m + sp_hh (l.drop i))))) w) → gx_X (fun _ _ => True) M_PC_hashesAheadOfHalt 2 Q 4 [some (.ref h), some (.int (nI m)), some (.int (nI i))] [] w (0, 0) := by
  intro fu
  induction fu with
  | zero => intro i m hfu; exact absurd hfu (Nat.not_lt_zero _)
  | succ fu ih =>
    intro i m hfu hi hm hQ
    refine gx_bsz hw (fun hlen hcap hsm => ?_)
    have hs := gx_sm_at hsm i
    refine gx_iload_n d_PC_hashesAheadOfHalt_4 rfl ?_
    refine gx_aload_n d_PC_hashesAheadOfHalt_5 rfl ?_
    refine gx_cV1 lk_PC_186 d_PC_hashesAheadOfHalt_6 (ct_Word_size hw) (Or.inr ⟨_, _, hw⟩) (by omega) rfl rfl (Nat.le_of_ble_eq_true rfl) ?_
    refine gx_icmp_geN (by omega) (by omega) (tgt := 48) d_PC_hashesAheadOfHalt_9 (by decide) (fun h9 => ?_) (fun h9 => ?_)
    · refine gx_iload_n d_PC_hashesAheadOfHalt_48 rfl ?_
      refine gx_ireturn rfl d_PC_hashesAheadOfHalt_49 ?_
      rw [List.drop_eq_nil_of_le h9] at hQ
      exact hQ
    · rw [gx_drop_cons (show i < l.length by omega)] at hQ
      unfold sp_hh at hQ
      refine gx_aload_n d_PC_hashesAheadOfHalt_12 rfl ?_
      refine gx_iload_n d_PC_hashesAheadOfHalt_13 rfl ?_
      refine gx_cV1 lk_PC_220 d_PC_hashesAheadOfHalt_14 (ct_Word_at hw (by omega)) (Or.inr ⟨_, _, hw⟩) (by omega) rfl rfl (Nat.le_of_ble_eq_true rfl) ?_
      refine gx_iconst d_PC_hashesAheadOfHalt_17 (nI 4) (by decide) ?_
      refine gx_cS1 lk_PC_224 d_PC_hashesAheadOfHalt_18 (ct_letter (q := 4) (by omega)) (by omega) rfl rfl (Nat.le_of_ble_eq_true rfl) ?_
      refine gx_top (show _ = nI 104 from rfl) ?_
      refine gx_icmp_eqN (by omega) (by omega) (tgt := 48) d_PC_hashesAheadOfHalt_21 (by decide) (fun h21 => ?_) (fun h21 => ?_)
      · rw [if_pos h21] at hQ
        refine gx_iload_n d_PC_hashesAheadOfHalt_48 rfl ?_
        refine gx_ireturn rfl d_PC_hashesAheadOfHalt_49 ?_
        exact hQ
      · rw [if_neg h21] at hQ
        refine gx_iload_n d_PC_hashesAheadOfHalt_24 rfl ?_
        refine gx_aload_n d_PC_hashesAheadOfHalt_25 rfl ?_
        refine gx_iload_n d_PC_hashesAheadOfHalt_26 rfl ?_
        refine gx_cV1 lk_PC_220 d_PC_hashesAheadOfHalt_27 (ct_Word_at hw (by omega)) (Or.inr ⟨_, _, hw⟩) (by omega) rfl rfl (Nat.le_of_ble_eq_true rfl) ?_
        refine gx_bipush d_PC_hashesAheadOfHalt_30 (nI 35) (by decide) ?_
        refine gx_icmp_neN (by omega) (by omega) (tgt := 39) d_PC_hashesAheadOfHalt_32 (by decide) (fun h32 => ?_) (fun h32 => ?_)
        · rw [if_neg h32] at hQ
          refine gx_iconst d_PC_hashesAheadOfHalt_39 (nI 0) (by decide) ?_
          refine gx_iaddN d_PC_hashesAheadOfHalt_40 ?_
          refine gx_istore_n d_PC_hashesAheadOfHalt_41 (Nat.le_of_ble_eq_true rfl) rfl ?_
          refine gx_iincN (n := 1) d_PC_hashesAheadOfHalt_42 rfl (by decide) (Nat.le_of_ble_eq_true rfl) rfl ?_
          refine gx_goto (tgt := 4) d_PC_hashesAheadOfHalt_45 (by decide) ?_
          refine ih (i + 1) (m + 0) (by omega) (by omega) (by omega) ?_
          rw [Nat.add_assoc]
          exact hQ
        · rw [if_pos h32] at hQ
          refine gx_iconst d_PC_hashesAheadOfHalt_35 (nI 1) (by decide) ?_
          refine gx_goto (tgt := 40) d_PC_hashesAheadOfHalt_36 (by decide) ?_
          refine gx_iaddN d_PC_hashesAheadOfHalt_40 ?_
          refine gx_istore_n d_PC_hashesAheadOfHalt_41 (Nat.le_of_ble_eq_true rfl) rfl ?_
          refine gx_iincN (n := 1) d_PC_hashesAheadOfHalt_42 rfl (by decide) (Nat.le_of_ble_eq_true rfl) rfl ?_
          refine gx_goto (tgt := 4) d_PC_hashesAheadOfHalt_45 (by decide) ?_
          refine ih (i + 1) (m + 1) (by omega) (by omega) (by omega) ?_
          rw [Nat.add_assoc]
          exact hQ
theorem ct_hashes {w : gx_W} {h cap : Nat} {l : List Nat} (hw : w.1 h = some (gx_bx 0 cap l)) : gx_Ct M_PC_hashesAheadOfHalt 2 0 0 [.ref h] w (gx_eq (some (.int (nI (sp_hh l)))) w) := by
  refine gx_ct (L := [some (.ref h), none, none]) (by decide) (Nat.le_of_ble_eq_true rfl) rfl ?_
  refine gx_iconst d_PC_hashesAheadOfHalt_0 (nI 0) (by decide) ?_
  refine gx_istore_n d_PC_hashesAheadOfHalt_1 (Nat.le_of_ble_eq_true rfl) rfl ?_
  refine gx_iconst d_PC_hashesAheadOfHalt_2 (nI 0) (by decide) ?_
  refine gx_istore_n d_PC_hashesAheadOfHalt_3 (Nat.le_of_ble_eq_true rfl) rfl ?_
  exact lp_hashes hw (l.length + 1) 0 0 (by omega) (Nat.zero_le _) (Nat.le_refl _) ⟨by simp, rfl⟩
def sp_back (ds : List (List Nat × List Nat)) (laid : List Nat) : Int32 := if sp_tray ds laid = 2 then nI (sp_hh (sp_up ds laid)) - nI 1 else -1
theorem d_PC_back_0 : decode prog_1_method_15_code 0 = .ok (.aload_n 0, 1) := by decide +kernel
theorem d_PC_back_1 : decode prog_1_method_15_code 1 = .ok (.invokevirtual 168, 3) := by decide +kernel
theorem d_PC_back_4 : decode prog_1_method_15_code 4 = .ok (.iconst 2, 1) := by decide +kernel
theorem d_PC_back_5 : decode prog_1_method_15_code 5 = .ok (.if_icmp .ne 15, 3) := by decide +kernel
theorem d_PC_back_8 : decode prog_1_method_15_code 8 = .ok (.aload_n 0, 1) := by decide +kernel
theorem d_PC_back_9 : decode prog_1_method_15_code 9 = .ok (.getfield 60, 3) := by decide +kernel
theorem d_PC_back_12 : decode prog_1_method_15_code 12 = .ok (.invokestatic 171, 3) := by decide +kernel
theorem d_PC_back_15 : decode prog_1_method_15_code 15 = .ok (.iconst 1, 1) := by decide +kernel
theorem d_PC_back_16 : decode prog_1_method_15_code 16 = .ok (.isub, 1) := by decide +kernel
theorem d_PC_back_17 : decode prog_1_method_15_code 17 = .ok (.goto 4, 3) := by decide +kernel
theorem d_PC_back_20 : decode prog_1_method_15_code 20 = .ok (.iconst (-1), 1) := by decide +kernel
theorem d_PC_back_21 : decode prog_1_method_15_code 21 = .ok (.ireturn, 1) := by decide +kernel
theorem ct_back {w : gx_W} {B : Nat} {M : sp_M} {inp laid typed : List Nat} {lk : Int32} (h : pcAt w B M inp laid typed lk) (hlaid : ∀ d ∈ laid, d < (sp_dsx M inp).length)  : gx_Ct M_PC_back 5 0 0 [.ref B] w (fun v w' => v = some (.int (sp_back (sp_dsx M inp) laid)) ∧ pcAt w' B M inp laid typed lk ∧ gx_kp w w' (B + 356) (B + 360)) := by
  refine gx_ct (L := [some (.ref B)]) (by decide) (Nat.le_of_ble_eq_true rfl) rfl ?_
  have hb2 : sp_tray (sp_dsx M inp) laid ≤ 2 := by
    unfold sp_tray
    split
    · split <;> omega
    · omega
  unfold sp_back
  refine gx_aload_n d_PC_back_0 rfl ?_
  refine gx_cVr lk_PC_168 d_PC_back_1 (ct_tray h hlaid) (Or.inl ⟨_, h.1.1⟩) (by omega) rfl rfl (Nat.le_of_ble_eq_true rfl) (fun r2 w2 hq => ?_)
  obtain ⟨rfl, hA, hu, kk⟩ := hq
  refine gx_iconst d_PC_back_4 (nI 2) (by decide) ?_
  refine gx_icmp_neN (by omega) (by omega) (tgt := 20) d_PC_back_5 (by decide) (fun h5 => ?_) (fun h5 => ?_)
  · rw [if_neg h5]
    refine gx_iconst d_PC_back_20 (-1) (by decide) ?_
    refine gx_ireturn rfl d_PC_back_21 ?_
    exact ⟨rfl, hA, kk⟩
  · rw [if_pos h5]
    refine gx_aload_n d_PC_back_8 rfl ?_
    refine gx_get fl_PC_60 d_PC_back_9 hA.1.1 rfl ?_
    refine gx_cS1 lk_PC_171 d_PC_back_12 (ct_hashes hu) (by omega) rfl rfl (Nat.le_of_ble_eq_true rfl) ?_
    refine gx_iconst d_PC_back_15 (nI 1) (by decide) ?_
    refine gx_isub d_PC_back_16 ?_
    refine gx_goto (tgt := 21) d_PC_back_17 (by decide) ?_
    refine gx_ireturn rfl d_PC_back_21 ?_
    exact ⟨rfl, hA, kk⟩
def sp_trees (ds : List (List Nat × List Nat)) (laid typed : List Nat) : Nat := if laid.length = 0 then 0 else (decide (typed = sp_up ds laid)).toNat + (decide (typed = sp_lw ds laid)).toNat
theorem d_PC_trees_0 : decode prog_1_method_17_code 0 = .ok (.aload_n 0, 1) := by decide +kernel
theorem d_PC_trees_1 : decode prog_1_method_17_code 1 = .ok (.getfield 49, 3) := by decide +kernel
theorem d_PC_trees_4 : decode prog_1_method_17_code 4 = .ok (.invokevirtual 146, 3) := by decide +kernel
theorem d_PC_trees_7 : decode prog_1_method_17_code 7 = .ok (.ifCond .ne 5, 3) := by decide +kernel
theorem d_PC_trees_10 : decode prog_1_method_17_code 10 = .ok (.iconst 0, 1) := by decide +kernel
theorem d_PC_trees_11 : decode prog_1_method_17_code 11 = .ok (.ireturn, 1) := by decide +kernel
theorem d_PC_trees_12 : decode prog_1_method_17_code 12 = .ok (.aload_n 0, 1) := by decide +kernel
theorem d_PC_trees_13 : decode prog_1_method_17_code 13 = .ok (.invokevirtual 158, 3) := by decide +kernel
theorem d_PC_trees_16 : decode prog_1_method_17_code 16 = .ok (.aload_n 0, 1) := by decide +kernel
theorem d_PC_trees_17 : decode prog_1_method_17_code 17 = .ok (.getfield 56, 3) := by decide +kernel
theorem d_PC_trees_20 : decode prog_1_method_17_code 20 = .ok (.aload_n 0, 1) := by decide +kernel
theorem d_PC_trees_21 : decode prog_1_method_17_code 21 = .ok (.getfield 60, 3) := by decide +kernel
theorem d_PC_trees_24 : decode prog_1_method_17_code 24 = .ok (.invokevirtual 165, 3) := by decide +kernel
theorem d_PC_trees_27 : decode prog_1_method_17_code 27 = .ok (.ifCond .eq 7, 3) := by decide +kernel
theorem d_PC_trees_30 : decode prog_1_method_17_code 30 = .ok (.iconst 1, 1) := by decide +kernel
theorem d_PC_trees_31 : decode prog_1_method_17_code 31 = .ok (.goto 4, 3) := by decide +kernel
theorem d_PC_trees_34 : decode prog_1_method_17_code 34 = .ok (.iconst 0, 1) := by decide +kernel
theorem d_PC_trees_35 : decode prog_1_method_17_code 35 = .ok (.aload_n 0, 1) := by decide +kernel
theorem d_PC_trees_36 : decode prog_1_method_17_code 36 = .ok (.getfield 56, 3) := by decide +kernel
theorem d_PC_trees_39 : decode prog_1_method_17_code 39 = .ok (.aload_n 0, 1) := by decide +kernel
theorem d_PC_trees_40 : decode prog_1_method_17_code 40 = .ok (.getfield 63, 3) := by decide +kernel
theorem d_PC_trees_43 : decode prog_1_method_17_code 43 = .ok (.invokevirtual 165, 3) := by decide +kernel
theorem d_PC_trees_46 : decode prog_1_method_17_code 46 = .ok (.ifCond .eq 7, 3) := by decide +kernel
theorem d_PC_trees_49 : decode prog_1_method_17_code 49 = .ok (.iconst 1, 1) := by decide +kernel
theorem d_PC_trees_50 : decode prog_1_method_17_code 50 = .ok (.goto 4, 3) := by decide +kernel
theorem d_PC_trees_53 : decode prog_1_method_17_code 53 = .ok (.iconst 0, 1) := by decide +kernel
theorem d_PC_trees_54 : decode prog_1_method_17_code 54 = .ok (.iadd, 1) := by decide +kernel
theorem d_PC_trees_55 : decode prog_1_method_17_code 55 = .ok (.ireturn, 1) := by decide +kernel
theorem ct_trees {w : gx_W} {B : Nat} {M : sp_M} {inp laid typed : List Nat} {lk : Int32} (h : pcAt w B M inp laid typed lk) (hlaid : ∀ d ∈ laid, d < (sp_dsx M inp).length)  : gx_Ct M_PC_trees 4 0 0 [.ref B] w (fun v w' => v = some (.int (nI (sp_trees (sp_dsx M inp) laid typed))) ∧ pcAt w' B M inp laid typed lk ∧ gx_kp w w' (B + 356) (B + 360)) := by
  refine gx_ct (L := [some (.ref B)]) (by decide) (Nat.le_of_ble_eq_true rfl) rfl ?_
  unfold sp_trees
  have hbt := Bool.toNat_le (decide (typed = sp_up (sp_dsx M inp) laid))
  have hbt2 := Bool.toNat_le (decide (typed = sp_lw (sp_dsx M inp) laid))
  refine gx_bsz h.1.2.2.2.2.2.2.1 (fun hlen hcap hsm => ?_)
  refine gx_aload_n d_PC_trees_0 rfl ?_
  refine gx_get fl_PC_49 d_PC_trees_1 h.1.1 rfl ?_
  refine gx_cV1 lk_PC_146 d_PC_trees_4 (ct_Row_size h.1.2.2.2.2.2.2.1) (Or.inr ⟨_, _, h.1.2.2.2.2.2.2.1⟩) (by omega) rfl rfl (Nat.le_of_ble_eq_true rfl) ?_
  refine gx_if_neN (by omega) (tgt := 12) d_PC_trees_7 (by decide) (fun h7 => ?_) (fun h7 => ?_)
  · rw [if_neg h7]
    refine gx_aload_n d_PC_trees_12 rfl ?_
    refine gx_cVr lk_PC_158 d_PC_trees_13 (ct_spellLaid h hlaid) (Or.inl ⟨_, h.1.1⟩) (by omega) rfl rfl (Nat.le_of_ble_eq_true rfl) (fun r2 w2 hq => ?_)
    obtain ⟨rfl, hC, hu, hl, kk⟩ := hq
    have hA : pcAt w2 B M inp laid typed lk := ⟨hC, ⟨_, hu⟩, ⟨_, hl⟩⟩
    refine gx_aload_n d_PC_trees_16 rfl ?_
    refine gx_get fl_PC_56 d_PC_trees_17 hC.1 rfl ?_
    refine gx_aload_n d_PC_trees_20 rfl ?_
    refine gx_get fl_PC_60 d_PC_trees_21 hC.1 rfl ?_
    refine gx_cV1 lk_PC_165 d_PC_trees_24 (ct_Word_same hC.2.2.2.2.2.2.2 hu) (Or.inr ⟨_, _, hC.2.2.2.2.2.2.2⟩) (by omega) rfl rfl (Nat.le_of_ble_eq_true rfl) ?_
    refine gx_if_eqN (by omega) (tgt := 34) d_PC_trees_27 (by decide) (fun h27 => ?_) (fun h27 => ?_)
    · rw [h27]
      refine gx_iconst d_PC_trees_34 (nI 0) (by decide) ?_
      refine gx_aload_n d_PC_trees_35 rfl ?_
      refine gx_get fl_PC_56 d_PC_trees_36 hC.1 rfl ?_
      refine gx_aload_n d_PC_trees_39 rfl ?_
      refine gx_get fl_PC_63 d_PC_trees_40 hC.1 rfl ?_
      refine gx_cV1 lk_PC_165 d_PC_trees_43 (ct_Word_same hC.2.2.2.2.2.2.2 hl) (Or.inr ⟨_, _, hC.2.2.2.2.2.2.2⟩) (by omega) rfl rfl (Nat.le_of_ble_eq_true rfl) ?_
      refine gx_if_eqN (by omega) (tgt := 53) d_PC_trees_46 (by decide) (fun h46 => ?_) (fun h46 => ?_)
      · rw [h46]
        refine gx_iconst d_PC_trees_53 (nI 0) (by decide) ?_
        refine gx_iaddN d_PC_trees_54 ?_
        refine gx_ireturn rfl d_PC_trees_55 ?_
        exact ⟨rfl, hA, kk⟩
      · rw [show (decide (typed = sp_lw (sp_dsx M inp) laid)).toNat = 1 by omega]
        refine gx_iconst d_PC_trees_49 (nI 1) (by decide) ?_
        refine gx_goto (tgt := 54) d_PC_trees_50 (by decide) ?_
        refine gx_iaddN d_PC_trees_54 ?_
        refine gx_ireturn rfl d_PC_trees_55 ?_
        exact ⟨rfl, hA, kk⟩
    · rw [show (decide (typed = sp_up (sp_dsx M inp) laid)).toNat = 1 by omega]
      refine gx_iconst d_PC_trees_30 (nI 1) (by decide) ?_
      refine gx_goto (tgt := 35) d_PC_trees_31 (by decide) ?_
      refine gx_aload_n d_PC_trees_35 rfl ?_
      refine gx_get fl_PC_56 d_PC_trees_36 hC.1 rfl ?_
      refine gx_aload_n d_PC_trees_39 rfl ?_
      refine gx_get fl_PC_63 d_PC_trees_40 hC.1 rfl ?_
      refine gx_cV1 lk_PC_165 d_PC_trees_43 (ct_Word_same hC.2.2.2.2.2.2.2 hl) (Or.inr ⟨_, _, hC.2.2.2.2.2.2.2⟩) (by omega) rfl rfl (Nat.le_of_ble_eq_true rfl) ?_
      refine gx_if_eqN (by omega) (tgt := 53) d_PC_trees_46 (by decide) (fun h46 => ?_) (fun h46 => ?_)
      · rw [h46]
        refine gx_iconst d_PC_trees_53 (nI 0) (by decide) ?_
        refine gx_iaddN d_PC_trees_54 ?_
        refine gx_ireturn rfl d_PC_trees_55 ?_
        exact ⟨rfl, hA, kk⟩
      · rw [show (decide (typed = sp_lw (sp_dsx M inp) laid)).toNat = 1 by omega]
        refine gx_iconst d_PC_trees_49 (nI 1) (by decide) ?_
        refine gx_goto (tgt := 54) d_PC_trees_50 (by decide) ?_
        refine gx_iaddN d_PC_trees_54 ?_
        refine gx_ireturn rfl d_PC_trees_55 ?_
        exact ⟨rfl, hA, kk⟩
  · rw [if_pos h7]
    refine gx_iconst d_PC_trees_10 (nI 0) (by decide) ?_
    refine gx_ireturn rfl d_PC_trees_11 ?_
    exact ⟨rfl, h, gx_kp.rf⟩
end
section
/-! PostChain: the search; what the calls that change the machine stand on -/
def sp_dk (p : List Nat × List Nat) : Prop := dmP p ∧ (gx_sm p.1 ∧ gx_sm p.2) ∧ p.1.length ≤ 3 ∧ p.2.length ≤ 7 ∧ 0 < p.1.length
theorem sp_let_35 (q : Nat) : ¬ sp_let q = 35 := by have := sp_let_ge q; omega
theorem sp_re_ok {M : sp_M} (hM : sp_Mok M) {r beh : Nat} {tail : List Nat} (hr : r < 12) (hb : (48 ≤ beh ∧ beh < 51 ∧ tail = []) ∨ (beh = 35 ∧ tail = [35])) : ∀ p ∈ sp_re M r beh tail, sp_dk p := by
  obtain ⟨-, -, hw, hn⟩ := hM r
  have hl1 := sp_let_lt (q := r / 3) (by omega)
  have hl2 := sp_let_lt hn
  have hl3 := sp_let_ge (r / 3)
  have hl4 := sp_let_ge (sp_nx M r)
  intro p hp
  unfold sp_re at hp
  split at hp
  · rw [List.mem_singleton] at hp
    subst hp
    rcases hb with ⟨h1, h2, rfl⟩ | ⟨rfl, rfl⟩
    · refine ⟨Or.inl ?_, ⟨?_, ?_⟩, Nat.le_of_ble_eq_true rfl, Nat.le_of_ble_eq_true rfl, Nat.lt_of_lt_of_le Nat.zero_lt_one (Nat.le_of_ble_eq_true rfl)⟩
      · rw [List.count_eq_zero_of_not_mem (by simp; omega)]; exact Nat.zero_le _
      · intro c hc; simp at hc; omega
      · intro c hc; simp at hc; omega
    · refine ⟨Or.inl ?_, ⟨?_, ?_⟩, Nat.le_of_ble_eq_true rfl, Nat.le_of_ble_eq_true rfl, Nat.lt_of_lt_of_le Nat.zero_lt_one (Nat.le_of_ble_eq_true rfl)⟩
      · simp [List.count_cons, sp_let_35]
      · intro c hc; simp at hc; omega
      · intro c hc; simp at hc; omega
  · rw [List.mem_map] at hp
    obtain ⟨s, hs, rfl⟩ := hp
    have hs3 : s < 3 := by simp at hs; omega
    rcases hb with ⟨h1, h2, rfl⟩ | ⟨rfl, rfl⟩
    · refine ⟨Or.inl ?_, ⟨?_, ?_⟩, Nat.le_of_ble_eq_true rfl, Nat.le_of_ble_eq_true rfl, Nat.lt_of_lt_of_le Nat.zero_lt_one (Nat.le_of_ble_eq_true rfl)⟩
      · rw [List.count_eq_zero_of_not_mem (by simp; omega)]; exact Nat.zero_le _
      · intro c hc; simp at hc; omega
      · intro c hc; simp at hc; omega
    · refine ⟨Or.inl ?_, ⟨?_, ?_⟩, Nat.le_of_ble_eq_true rfl, Nat.le_of_ble_eq_true rfl, Nat.lt_of_lt_of_le Nat.zero_lt_one (Nat.le_of_ble_eq_true rfl)⟩
      · have e1 : ¬ 48 + s = 35 := by omega
        simp [List.count_cons, sp_let_35, e1]
      · intro c hc; simp at hc; omega
      · intro c hc; simp at hc; omega
theorem sp_txt_sm {c : sp_C} (h : sp_ok c) : gx_sm (sp_txt c) := by
  intro x hx
  unfold sp_txt sp_ds at hx
  have h2 := sp_let_lt h.2.1
  rcases List.mem_append.mp hx with g | g
  · obtain ⟨s, hs, rfl⟩ := List.mem_map.mp g
    have := h.1 s hs
    omega
  · rcases List.mem_cons.mp g with g | g
    · omega
    · obtain ⟨s, hs, rfl⟩ := List.mem_map.mp g
      have := h.2.2 s hs
      omega
theorem sp_dsx_ok {M : sp_M} {inp : List Nat} (hM : sp_Mok M) (hi : sp_iok inp) : ∀ p ∈ sp_dsx M inp, sp_dk p := by
  obtain ⟨hc0, hl0⟩ := sp_c0_ok hi
  have htl : (sp_txt (sp_c0 inp)).length ≤ 5 := by rw [sp_txt_len]; exact hl0
  have hts := sp_txt_sm hc0
  intro p hp
  unfold sp_dsx sp_dom at hp
  rcases List.mem_append.mp hp with hp | hp
  · rcases List.mem_append.mp hp with hp | hp
    · unfold sp_hd at hp
      rcases List.mem_cons.mp hp with hp | hp
      · subst hp
        refine ⟨Or.inl (by simp [List.count_cons]), ⟨by intro c hc; simp at hc; omega, ?_⟩, Nat.le_of_ble_eq_true rfl, by simp; omega, Nat.lt_of_lt_of_le Nat.zero_lt_one (Nat.le_of_ble_eq_true rfl)⟩
        intro c hc
        simp at hc
        rcases hc with hc | hc | hc
        · omega
        · exact hts c hc
        · omega
      · refine (?_ : ∀ p ∈ [(([35] : List Nat), ([35] : List Nat)), ([48], [48]), ([49], [49]), ([50], [50])], sp_dk p) p hp
        unfold sp_dk dmP gx_sm
        decide
    · unfold sp_rs at hp
      rw [List.mem_flatMap] at hp
      obtain ⟨r, hr, hp⟩ := hp
      have hr12 := List.mem_range.mp hr
      unfold sp_rd at hp
      split at hp
      · rcases List.mem_append.mp hp with hp | hp
        · exact sp_re_ok hM hr12 (Or.inl ⟨by omega, by omega, rfl⟩) p hp
        · split at hp
          · exact sp_re_ok hM hr12 (Or.inr ⟨rfl, rfl⟩) p hp
          · cases hp
      · cases hp
  · refine (?_ : ∀ p ∈ sp_en, sp_dk p) p hp
    unfold sp_en sp_dk dmP gx_sm
    decide
theorem sp_dsx_0 (M : sp_M) (inp : List Nat) : (sp_dsx M inp).getD 0 ([], []) = ([35], 35 :: sp_txt (sp_c0 inp) ++ [35]) := rfl
/-- the rows that a queue holds come from earlier ones -/
def sp_qi (n : Nat) (q : List sp_E) : Prop := ∀ i, i < q.length → ((q.getD i sp_e0).1 = -1 ∨ ∃ j, j < i ∧ (q.getD i sp_e0).1 = nI j) ∧ (q.getD i sp_e0).2.1 < n ∧ (q.getD i sp_e0).2.2.1 ≤ i + 1
theorem sp_qi.qf {n : Nat} {q : List sp_E} (h : sp_qi n q) (hn : n < 65536) : sp_qf q := fun i hi => ⟨(h i hi).1, by have := (h i hi).2.1; omega⟩
theorem sp_ch_el {a0 sz : Nat} {Rr : List Nat} : ∀ (ds : List (List Nat × List Nat)) (d : Nat) (e : sp_E), e ∈ sp_ch a0 sz Rr d ds → e.1 = nI a0 ∧ e.2.1 < d + ds.length ∧ e.2.2.1 = sz + 1
  | [], d, e, he => by simp [sp_ch] at he
  | (u, l) :: t, d, e, he => by
    unfold sp_ch at he
    have ih := sp_ch_el (a0 := a0) (sz := sz) (Rr := Rr) t (d + 1) e
    rw [List.length_cons]
    by_cases ha : sp_agb u (Rr ++ l) = true
    · rw [if_pos ha] at he
      rcases List.mem_cons.mp he with h1 | h1
      · rw [h1]; exact ⟨rfl, by show d < _; omega, rfl⟩
      · obtain ⟨i1, i2, i3⟩ := ih h1
        exact ⟨i1, by omega, i3⟩
    · rw [if_neg ha] at he
      obtain ⟨i1, i2, i3⟩ := ih he
      exact ⟨i1, by omega, i3⟩
theorem gx_tk {q k : List sp_E} {cap i : Nat} (hi : i < ((q ++ k).take cap).length) : (i < q.length ∧ ((q ++ k).take cap).getD i sp_e0 = q.getD i sp_e0) ∨ (q.length ≤ i ∧ ((q ++ k).take cap).getD i sp_e0 ∈ k) := by
  rw [List.length_take, List.length_append] at hi
  have hc : i < cap := by omega
  by_cases h : i < q.length
  · refine Or.inl ⟨h, ?_⟩
    rw [List.getD_eq_getElem?_getD, List.getElem?_take_of_lt hc, List.getElem?_append_left h, List.getD_eq_getElem?_getD]
  · refine Or.inr ⟨by omega, ?_⟩
    rw [List.getD_eq_getElem?_getD, List.getElem?_take_of_lt hc, List.getElem?_append_right (by omega), List.getElem?_eq_getElem (by omega)]
    exact List.getElem_mem _
theorem sp_nq_qi {n cap a0 : Nat} {ds : List (List Nat × List Nat)} {q : List sp_E} (hq : sp_qi n q) (ha : a0 < q.length) (hn : ds.length ≤ n) : sp_qi n (sp_nq cap ds a0 q) := by
  unfold sp_nq
  split
  · intro i hi
    rcases gx_tk hi with ⟨h1, h2⟩ | ⟨h1, h2⟩
    · rw [h2]; exact hq i h1
    · obtain ⟨e1, e2, e3⟩ := sp_ch_el ds 0 _ h2
      have := (hq a0 ha).2.2
      exact ⟨Or.inr ⟨a0, by omega, e1⟩, by omega, by omega⟩
  · exact hq
theorem sp_nq_len {cap a0 : Nat} {ds : List (List Nat × List Nat)} {q : List sp_E} (ha : a0 < q.length) (hq : q.length ≤ cap) : q.length ≤ (sp_nq cap ds a0 q).length ∧ (sp_nq cap ds a0 q).length ≤ cap := by
  unfold sp_nq
  split
  · rw [List.length_take, List.length_append]; omega
  · omega
theorem sp_lk_ok {n cap : Nat} {ds : List (List Nat × List Nat)} (hn : ds.length ≤ n) : ∀ (m a0 : Nat) (q : List sp_E), sp_qi n q → sp_qi n (sp_lk cap ds m a0 q).2.2 ∧ (sp_lk cap ds m a0 q).1 ≤ 2 ∧ ((sp_lk cap ds m a0 q).1 = 1 → ∃ k, (sp_lk cap ds m a0 q).2.1 = k + 1 ∧ k < (sp_lk cap ds m a0 q).2.2.length)
  | 0, a0, q, h => by
    unfold sp_lk
    refine ⟨h, ?_, ?_⟩
    · split <;> omega
    · intro g; split at g <;> omega
  | m + 1, a0, q, h => by
    unfold sp_lk
    by_cases h1 : a0 < q.length
    · rw [if_pos h1]
      by_cases h2 : (q.getD a0 sp_e0).2.2.2.length = 0
      · rw [if_pos h2]
        exact ⟨h, by omega, fun _ => ⟨a0, rfl, h1⟩⟩
      · rw [if_neg h2]
        exact sp_lk_ok hn m (a0 + 1) _ (sp_nq_qi h h1 hn)
    · rw [if_neg h1]
      exact ⟨h, Nat.zero_le _, fun g => absurd (show (0 : Nat) = 1 from g) (by decide)⟩
theorem sp_ph_lt {n : Nat} {q : List sp_E} (hq : sp_qi n q) : ∀ (m : Nat) (a : Int32), (a = -1 ∨ ∃ j, j < q.length ∧ j < 2 ^ 31 ∧ a = nI j) → ∀ d ∈ sp_ph q m a, d < n
  | 0, a, _, d, hd => by simp [sp_ph] at hd
  | m + 1, a, ha, d, hd => by
    unfold sp_ph at hd
    by_cases hn : a < 0
    · rw [if_pos hn] at hd; cases hd
    · rw [if_neg hn] at hd
      obtain ⟨j, hj, hj2, rfl⟩ : ∃ j, j < q.length ∧ j < 2 ^ 31 ∧ a = nI j := by
        rcases ha with g | g
        · rw [g] at hn; exact absurd (by decide) hn
        · exact g
      rw [nI_clamp hj2] at hd
      rcases List.mem_cons.mp hd with g | g
      · rw [g]; exact (hq j hj).2.1
      · refine sp_ph_lt hq m _ ?_ d g
        rcases (hq j hj).1 with g1 | ⟨i, hi, g1⟩
        · exact Or.inl g1
        · exact Or.inr ⟨i, by omega, by omega, g1⟩
theorem sp_ph_len (q : List sp_E) : ∀ (m : Nat) (a : Int32), (sp_ph q m a).length ≤ m
  | 0, a => by simp [sp_ph]
  | m + 1, a => by
    unfold sp_ph
    split
    · simp
    · rw [List.length_cons]
      have := sp_ph_len q m (q.getD a.toNatClampNeg sp_e0).1
      omega
def sp_q0 (ds : List (List Nat × List Nat)) : List sp_E := [(-1, 0, 1, (ds.getD 0 ([], [])).2.drop 1)]
def sp_lkf (cap : Nat) (ds : List (List Nat × List Nat)) (fuel : Nat) : Nat × Nat × List sp_E := sp_lk cap ds fuel 0 (sp_q0 ds)
/-- what a found row lays -/
def sp_fl (x : Nat × Nat × List sp_E) (laid : List Nat) : List Nat := if x.1 = 1 ∧ (x.2.2.getD (x.2.1 - 1) sp_e0).2.2.1 ≤ 60 then (sp_ph x.2.2 (x.2.2.getD (x.2.1 - 1) sp_e0).2.2.1 (nI (x.2.1 - 1))).reverse else laid
def sp_sv (cap : Nat) (ds : List (List Nat × List Nat)) (laid : List Nat) (lk fuel : Int32) : Int32 × Int32 × List Nat :=
  if 1 ≤ fuel.toInt ∧ fuel.toInt ≤ 400 then (nI (sp_lkf cap ds fuel.toNatClampNeg).1, nI (sp_lkf cap ds fuel.toNatClampNeg).2.1, sp_fl (sp_lkf cap ds fuel.toNatClampNeg) laid) else (-1, lk, laid)
theorem sp_q0_qi {ds : List (List Nat × List Nat)} (h : 0 < ds.length) : sp_qi ds.length (sp_q0 ds) := by
  intro i hi
  have : i = 0 := by simp [sp_q0] at hi; omega
  subst this
  exact ⟨Or.inl rfl, h, Nat.le_refl _⟩
theorem sp_fl_lt {ds : List (List Nat × List Nat)} {laid : List Nat} {x : Nat × Nat × List sp_E} (hx : sp_qi ds.length x.2.2) (hx1 : x.1 = 1 → ∃ k, x.2.1 = k + 1 ∧ k < x.2.2.length) (hx2 : x.2.2.length < 2 ^ 31) (hl : ∀ d ∈ laid, d < ds.length) : ∀ d ∈ sp_fl x laid, d < ds.length := by
  unfold sp_fl
  split
  · rename_i g
    obtain ⟨k, hk1, hk2⟩ := hx1 g.1
    intro d hd
    rw [hk1, Nat.add_sub_cancel] at hd
    exact sp_ph_lt hx _ _ (Or.inr ⟨k, hk2, by omega, rfl⟩) d (List.mem_reverse.mp hd)
  · exact hl
theorem nI1i : (nI 1).toInt = 1 := by decide
theorem nI400i : (nI 400).toInt = 400 := by decide
theorem d_PC_search_0 : decode prog_1_method_18_code 0 = .ok (.iload_n 1, 1) := by decide +kernel
theorem d_PC_search_1 : decode prog_1_method_18_code 1 = .ok (.iconst 1, 1) := by decide +kernel
theorem d_PC_search_2 : decode prog_1_method_18_code 2 = .ok (.if_icmp .lt 10, 3) := by decide +kernel
theorem d_PC_search_5 : decode prog_1_method_18_code 5 = .ok (.iload_n 1, 1) := by decide +kernel
theorem d_PC_search_6 : decode prog_1_method_18_code 6 = .ok (.sipush 400, 3) := by decide +kernel
theorem d_PC_search_9 : decode prog_1_method_18_code 9 = .ok (.if_icmp .le 5, 3) := by decide +kernel
theorem d_PC_search_12 : decode prog_1_method_18_code 12 = .ok (.iconst (-1), 1) := by decide +kernel
theorem d_PC_search_13 : decode prog_1_method_18_code 13 = .ok (.ireturn, 1) := by decide +kernel
theorem d_PC_search_14 : decode prog_1_method_18_code 14 = .ok (.aload_n 0, 1) := by decide +kernel
theorem d_PC_search_15 : decode prog_1_method_18_code 15 = .ok (.getfield 40, 3) := by decide +kernel
theorem d_PC_search_18 : decode prog_1_method_18_code 18 = .ok (.aload_n 0, 1) := by decide +kernel
theorem d_PC_search_19 : decode prog_1_method_18_code 19 = .ok (.getfield 26, 3) := by decide +kernel
theorem d_PC_search_22 : decode prog_1_method_18_code 22 = .ok (.iload_n 1, 1) := by decide +kernel
theorem d_PC_search_23 : decode prog_1_method_18_code 23 = .ok (.invokevirtual 190, 3) := by decide +kernel
theorem d_PC_search_26 : decode prog_1_method_18_code 26 = .ok (.istore_n 2, 1) := by decide +kernel
theorem d_PC_search_27 : decode prog_1_method_18_code 27 = .ok (.iload_n 2, 1) := by decide +kernel
theorem d_PC_search_28 : decode prog_1_method_18_code 28 = .ok (.iconst 1, 1) := by decide +kernel
theorem d_PC_search_29 : decode prog_1_method_18_code 29 = .ok (.if_icmp .ne 26, 3) := by decide +kernel
theorem d_PC_search_32 : decode prog_1_method_18_code 32 = .ok (.aload_n 0, 1) := by decide +kernel
theorem d_PC_search_33 : decode prog_1_method_18_code 33 = .ok (.getfield 40, 3) := by decide +kernel
theorem d_PC_search_36 : decode prog_1_method_18_code 36 = .ok (.invokevirtual 194, 3) := by decide +kernel
theorem d_PC_search_39 : decode prog_1_method_18_code 39 = .ok (.bipush 60, 2) := by decide +kernel
theorem d_PC_search_41 : decode prog_1_method_18_code 41 = .ok (.if_icmp .gt 14, 3) := by decide +kernel
theorem d_PC_search_44 : decode prog_1_method_18_code 44 = .ok (.aload_n 0, 1) := by decide +kernel
theorem d_PC_search_45 : decode prog_1_method_18_code 45 = .ok (.getfield 40, 3) := by decide +kernel
theorem d_PC_search_48 : decode prog_1_method_18_code 48 = .ok (.aload_n 0, 1) := by decide +kernel
theorem d_PC_search_49 : decode prog_1_method_18_code 49 = .ok (.getfield 49, 3) := by decide +kernel
theorem d_PC_search_52 : decode prog_1_method_18_code 52 = .ok (.invokevirtual 197, 3) := by decide +kernel
theorem d_PC_search_55 : decode prog_1_method_18_code 55 = .ok (.iload_n 2, 1) := by decide +kernel
theorem d_PC_search_56 : decode prog_1_method_18_code 56 = .ok (.ireturn, 1) := by decide +kernel
theorem ct_search {w : gx_W} {B : Nat} {M : sp_M} {inp laid typed : List Nat} {lk : Int32} (h : pcAt w B M inp laid typed lk) {fuel : Int32} (hM : sp_Mok M) (hi : sp_iok inp) (hlaid : ∀ d ∈ laid, d < (sp_dsx M inp).length) : gx_Ct M_PC_search 6 0 0 [.ref B, .int fuel] w (fun v w' => v = some (.int (sp_sv 401 (sp_dsx M inp) laid lk fuel).1) ∧ pcAt w' B M inp (sp_sv 401 (sp_dsx M inp) laid lk fuel).2.2 typed (sp_sv 401 (sp_dsx M inp) laid lk fuel).2.1 ∧ (∀ d ∈ (sp_sv 401 (sp_dsx M inp) laid lk fuel).2.2, d < (sp_dsx M inp).length) ∧ gx_kp w w' B (B + 360)) := by
  refine gx_ct (L := [some (.ref B), some (.int fuel), none]) (by decide) (Nat.le_of_ble_eq_true rfl) rfl ?_
  have hP := h
  obtain ⟨⟨h0, h1, h2, ⟨fo, h3, hfo⟩, ⟨t4, h4⟩, ⟨q5, op5, h5⟩, h6, h7⟩, ⟨l8, h8⟩, ⟨l9, h9⟩⟩ := h
  have hdk := sp_dsx_ok hM hi
  have hdl := sp_dsx_len M inp
  unfold sp_sv
  refine gx_iload_n d_PC_search_0 rfl ?_
  refine gx_iconst d_PC_search_1 (nI 1) (by decide) ?_
  refine gx_icmp_lt (tgt := 12) d_PC_search_2 (by decide) (fun h2 => ?_) (fun h2 => ?_)
  · rw [Int32.lt_iff_toInt_lt, nI1i] at h2
    rw [if_neg (by omega)]
    refine gx_iconst d_PC_search_12 (-1) (by decide) ?_
    refine gx_ireturn rfl d_PC_search_13 ?_
    exact ⟨rfl, hP, hlaid, gx_kp.rf⟩
  · refine gx_iload_n d_PC_search_5 rfl ?_
    refine gx_sipush d_PC_search_6 (nI 400) (by decide) ?_
    refine gx_icmp_le (tgt := 14) d_PC_search_9 (by decide) (fun h9 => ?_) (fun h9 => ?_)
    · rw [Int32.lt_iff_toInt_lt, nI1i] at h2
      rw [Int32.le_iff_toInt_le, nI400i] at h9
      obtain ⟨fu, hfu, rfl⟩ := nI_of (x := fuel) (by rw [Int32.lt_iff_toInt_lt]; have : (0 : Int32).toInt = 0 := rfl; omega)
      rw [nI_toInt hfu] at h2 h9
      rw [nI_toInt hfu, if_pos (by omega), nI_clamp hfu]
      refine gx_aload_n d_PC_search_14 rfl ?_
      refine gx_get fl_PC_40 d_PC_search_15 h0 rfl ?_
      refine gx_aload_n d_PC_search_18 rfl ?_
      refine gx_get fl_PC_26 d_PC_search_19 h0 rfl ?_
      refine gx_iload_n d_PC_search_22 rfl ?_
      refine gx_cVr lk_PC_190 d_PC_search_23 (ct_look h5 h3 (by omega) (by omega) (fun p hp => (hdk p hp).1) (fun p hp => ⟨(hdk p hp).2.1.2, (hdk p hp).2.2.2.1⟩) (by omega) (sp_dsx_0 M inp) (by simp) (by simp)) (Or.inl ⟨_, h5.2.choose_spec.choose_spec.choose_spec.choose_spec.choose_spec.1.1⟩) (by omega) rfl rfl (Nat.le_of_ble_eq_true rfl) (fun r2 w2 hq => ?_)
      obtain ⟨rfl, ⟨op2, hz2⟩, k2⟩ := hq
      have hXe : sp_lkf 401 (sp_dsx M inp) fu = sp_lk 401 (sp_dsx M inp) fu 0 [(-1, 0, 1, (35 :: sp_txt (sp_c0 inp) ++ [35]).drop [35].length)] := rfl
      rw [← hXe] at hz2 ⊢
      obtain ⟨hX1, hX2, hX3⟩ := sp_lk_ok (cap := 401) (Nat.le_refl _) fu 0 _ (sp_q0_qi (ds := sp_dsx M inp) (by omega))
      have hX4 := hz2.1
      generalize hXg : sp_lkf 401 (sp_dsx M inp) fu = X at hz2 hX4 ⊢
      rw [show sp_lk 401 (sp_dsx M inp) fu 0 (sp_q0 (sp_dsx M inp)) = X from hXg] at hX1 hX2 hX3
      have hfl := sp_fl_lt (laid := laid) hX1 hX3 (by omega) hlaid
      have hP2 := hP.hunt k2 hz2
      have k3 : gx_kp w w2 B (B + 360) := k2.mono (by omega) (by omega)
      refine gx_istore_n d_PC_search_26 (Nat.le_of_ble_eq_true rfl) rfl ?_
      refine gx_iload_n d_PC_search_27 rfl ?_
      refine gx_iconst d_PC_search_28 (nI 1) (by decide) ?_
      refine gx_icmp_neN (by omega) (by omega) (tgt := 55) d_PC_search_29 (by decide) (fun h29 => ?_) (fun h29 => ?_)
      · rw [show sp_fl X laid = laid from if_neg (fun g => h29 g.1)]
        refine gx_iload_n d_PC_search_55 rfl ?_
        refine gx_ireturn rfl d_PC_search_56 ?_
        exact ⟨rfl, hP2, hlaid, k3⟩
      · obtain ⟨k, hk1, hk2⟩ := hX3 h29
        rw [hk1] at hz2
        have hX5 := (hX1 k hk2).2.2
        refine gx_aload_n d_PC_search_32 rfl ?_
        refine gx_get fl_PC_40 d_PC_search_33 hP2.1.1 rfl ?_
        refine gx_cV1 lk_PC_194 d_PC_search_36 (ct_foundSize hz2 hk2) (Or.inl ⟨_, hz2.2.choose_spec.choose_spec.choose_spec.choose_spec.choose_spec.1.1⟩) (by omega) rfl rfl (Nat.le_of_ble_eq_true rfl) ?_
        refine gx_bipush d_PC_search_39 (nI 60) (by decide) ?_
        refine gx_icmp_gtN (by omega) (by omega) (tgt := 55) d_PC_search_41 (by decide) (fun h41 => ?_) (fun h41 => ?_)
        · rw [show sp_fl X laid = laid from if_neg (fun g => by rw [hk1, Nat.add_sub_cancel] at g; omega)]
          refine gx_iload_n d_PC_search_55 rfl ?_
          refine gx_ireturn rfl d_PC_search_56 ?_
          exact ⟨rfl, hP2, hlaid, k3⟩
        · have efl : sp_fl X laid = (sp_ph X.2.2 (X.2.2.getD k sp_e0).2.2.1 (nI k)).reverse := by
            unfold sp_fl
            rw [hk1, Nat.add_sub_cancel, if_pos ⟨h29, by omega⟩]
          refine gx_aload_n d_PC_search_44 rfl ?_
          refine gx_get fl_PC_40 d_PC_search_45 hP2.1.1 rfl ?_
          refine gx_aload_n d_PC_search_48 rfl ?_
          refine gx_get fl_PC_49 d_PC_search_49 hP2.1.1 rfl ?_
          refine gx_cV0 lk_PC_197 d_PC_search_52 (ct_layFound hz2 hk2 (hX1.qf (by omega)) (by omega) hP2.1.2.2.2.2.2.2.1 (by omega) (by omega)) (Or.inl ⟨_, hz2.2.choose_spec.choose_spec.choose_spec.choose_spec.choose_spec.1.1⟩) (by omega) rfl rfl (Nat.le_of_ble_eq_true rfl) ?_
          refine gx_iload_n d_PC_search_55 rfl ?_
          refine gx_ireturn rfl d_PC_search_56 ?_
          refine ⟨rfl, ?_, hfl, k3.trans (gx_kp.st (by omega) (by omega))⟩
          rw [efl]
          exact hP2.laid _
    · rw [Int32.le_iff_toInt_le, nI400i] at h9
      rw [if_neg (by omega)]
      refine gx_iconst d_PC_search_12 (-1) (by decide) ?_
      refine gx_ireturn rfl d_PC_search_13 ?_
      exact ⟨rfl, hP, hlaid, gx_kp.rf⟩
end
section
/-! Machine: learning, forgetting, taking an input; a byte of a long -/
theorem wb_tb (n : Nat) : (lN n).toBitVec = BitVec.ofNat 64 n := rfl
theorem wb_inj {a b : Int64} (h : a.toBitVec = b.toBitVec) : a = b := Int64.toBitVec_inj.mp h
theorem wb_tn {n : Nat} (h : n < 2 ^ 64) : (lN n).toBitVec.toNat = n := by rw [wb_tb, BitVec.toNat_ofNat, Nat.mod_eq_of_lt h]
theorem wb_of (x : Int64) : ∃ n, n < 2 ^ 64 ∧ x = lN n := ⟨x.toBitVec.toNat, x.toBitVec.isLt, wb_inj (by rw [wb_tb]; simp)⟩
theorem wb_of32 (x : Int32) : ∃ n, n < 2 ^ 32 ∧ x = nI n := ⟨x.toBitVec.toNat, x.toBitVec.isLt, Int32.toBitVec_inj.mp (by show _ = BitVec.ofNat 32 _; simp)⟩
theorem wb_c : ∀ k, k < 64 → ((nI k).toInt64 &&& 63) = lN k := by decide +kernel
theorem wb_cu : ∀ k, k < 64 → ((nI k).toInt64.toUInt64 &&& Int64.toUInt64 63) = UInt64.ofNat k := by decide +kernel
theorem wb_sm : ∀ k, k < 64 → (BitVec.ofNat 64 k).smod 64 = BitVec.ofNat 64 k := by decide +kernel
theorem wb_pw {a b : Nat} (h : a ≤ b) : 2 ^ b = 2 ^ a * 2 ^ (b - a) := by rw [← Nat.pow_add]; congr 1; omega
theorem wb_lt2 {a b : Nat} (h : a < b) : 2 ^ a < 2 ^ b := Nat.pow_lt_pow_right (by decide) h
theorem wb_mod (n : Nat) : lN n = lN (n % 2 ^ 64) := wb_inj (by rw [wb_tb, wb_tb]; apply BitVec.eq_of_toNat_eq; rw [BitVec.toNat_ofNat, BitVec.toNat_ofNat, Nat.mod_mod])
theorem wb_shr {n k : Nat} (hn : n < 2 ^ 64) (hk : k < 64) : ((lN n).toUInt64 >>> ((nI k).toInt64.toUInt64 &&& Int64.toUInt64 63)).toInt64 = lN (n / 2 ^ k) := by
  rw [wb_cu k hk]
  apply wb_inj
  apply BitVec.eq_of_toNat_eq
  show ((lN n).toUInt64 >>> UInt64.ofNat k).toNat = (BitVec.ofNat 64 _).toNat
  have h1 : (UInt64.ofNat k).toNat = k := by
    show (BitVec.ofNat 64 k).toNat = k
    rw [BitVec.toNat_ofNat, Nat.mod_eq_of_lt (by omega)]
  have h2 : (lN n).toUInt64.toNat = n := wb_tn hn
  rw [UInt64.toNat_shiftRight, h1, h2, Nat.mod_eq_of_lt hk, Nat.shiftRight_eq_div_pow, BitVec.toNat_ofNat, Nat.mod_eq_of_lt (Nat.lt_of_le_of_lt (Nat.div_le_self _ _) hn)]
theorem wb_shl (n : Nat) {k : Nat} (hk : k < 64) : lN n <<< ((nI k).toInt64 &&& 63) = lN (n * 2 ^ k) := by
  rw [wb_c k hk]
  apply wb_inj
  rw [Int64.toBitVec_shiftLeft, wb_tb, wb_tb, wb_tb, wb_sm k hk]
  apply BitVec.eq_of_toNat_eq
  rw [BitVec.shiftLeft_eq', BitVec.toNat_shiftLeft, BitVec.toNat_ofNat, BitVec.toNat_ofNat, BitVec.toNat_ofNat, Nat.mod_eq_of_lt (show k < 2 ^ 64 by omega), Nat.shiftLeft_eq, Nat.mul_mod, Nat.mod_mod, ← Nat.mul_mod]
theorem wb_and {a b : Nat} (ha : a < 2 ^ 64) (hb : b < 2 ^ 64) : lN a &&& lN b = lN (a &&& b) := by
  apply wb_inj
  rw [Int64.toBitVec_and, wb_tb, wb_tb, wb_tb]
  apply BitVec.eq_of_toNat_eq
  rw [BitVec.toNat_and, BitVec.toNat_ofNat, BitVec.toNat_ofNat, BitVec.toNat_ofNat, Nat.mod_eq_of_lt ha, Nat.mod_eq_of_lt hb, Nat.mod_eq_of_lt (Nat.and_lt_two_pow _ hb)]
theorem wb_or {a b : Nat} (ha : a < 2 ^ 64) (hb : b < 2 ^ 64) : lN a ||| lN b = lN (a ||| b) := by
  apply wb_inj
  rw [Int64.toBitVec_or, wb_tb, wb_tb, wb_tb]
  apply BitVec.eq_of_toNat_eq
  rw [BitVec.toNat_or, BitVec.toNat_ofNat, BitVec.toNat_ofNat, BitVec.toNat_ofNat, Nat.mod_eq_of_lt ha, Nat.mod_eq_of_lt hb, Nat.mod_eq_of_lt (Nat.or_lt_two_pow ha hb)]
theorem wb_mask {n k : Nat} (hn : n < 2 ^ 64) (hk : k < 64) : lN n &&& lN (2 ^ k - 1) = lN (n % 2 ^ k) := by
  rw [wb_and hn (by have := wb_lt2 hk; omega), Nat.and_two_pow_sub_one_eq_mod]
theorem kl_PC_227 : Cond.constantLong "PostChain" 227 255 ∈ gx_T := gx_T_in (List.mem_append_right _ (show _ ∈ tables_1 from (List.mem_append_right _ (List.mem_append_right _ (List.mem_append_left _ (List.mem_of_getElem? (i := 19) (by decide +kernel))))))) (by decide +kernel)
theorem gx_upn {f : Nat → Nat} {r x : Nat} : upd (fun i => nI (f i)) r (nI x) = fun i => nI (if i = r then x else f i) := by
  funext i
  by_cases h : i = r
  · subst h; rw [pk_us, if_pos rfl]
  · rw [pk_un h, if_neg h]
section MCS
variable {w : gx_W} {a : Nat} {M : sp_M} {t : List Nat}
theorem mcAt.s1 (g : Nat → Nat) (h : mcAt w a M t) : mcAt (gx_st w (a + 1) (gx_ai 2 12 (fun r => nI (g r)))) a (g, M.2.1, M.2.2.1, M.2.2.2) t := by
  obtain ⟨h0, h1, h2, h3, h4, h5⟩ := h
  exact ⟨by rw [gx_st_ne (by omega)]; exact h0, gx_st_eq, by rw [gx_st_ne (by omega)]; exact h2, by rw [gx_st_ne (by omega)]; exact h3, by rw [gx_st_ne (by omega)]; exact h4, by rw [gx_st_ne (by omega)]; exact h5⟩
theorem mcAt.s2 (g : Nat → Nat) (h : mcAt w a M t) : mcAt (gx_st w (a + 2) (gx_ai 2 12 (fun r => nI (g r)))) a (M.1, g, M.2.2.1, M.2.2.2) t := by
  obtain ⟨h0, h1, h2, h3, h4, h5⟩ := h
  exact ⟨by rw [gx_st_ne (by omega)]; exact h0, by rw [gx_st_ne (by omega)]; exact h1, gx_st_eq, by rw [gx_st_ne (by omega)]; exact h3, by rw [gx_st_ne (by omega)]; exact h4, by rw [gx_st_ne (by omega)]; exact h5⟩
theorem mcAt.s3 (g : Nat → Nat) (h : mcAt w a M t) : mcAt (gx_st w (a + 3) (gx_ai 0 12 (fun r => nI (g r)))) a (M.1, M.2.1, g, M.2.2.2) t := by
  obtain ⟨h0, h1, h2, h3, h4, h5⟩ := h
  exact ⟨by rw [gx_st_ne (by omega)]; exact h0, by rw [gx_st_ne (by omega)]; exact h1, by rw [gx_st_ne (by omega)]; exact h2, gx_st_eq, by rw [gx_st_ne (by omega)]; exact h4, by rw [gx_st_ne (by omega)]; exact h5⟩
theorem mcAt.s4 (g : Nat → Nat) (h : mcAt w a M t) : mcAt (gx_st w (a + 4) (gx_ai 0 12 (fun r => nI (g r)))) a (M.1, M.2.1, M.2.2.1, g) t := by
  obtain ⟨h0, h1, h2, h3, h4, h5⟩ := h
  exact ⟨by rw [gx_st_ne (by omega)]; exact h0, by rw [gx_st_ne (by omega)]; exact h1, by rw [gx_st_ne (by omega)]; exact h2, by rw [gx_st_ne (by omega)]; exact h3, gx_st_eq, by rw [gx_st_ne (by omega)]; exact h5⟩
theorem mcAt.s5 (t' : List Nat) (h : mcAt w a M t) : mcAt (gx_st w (a + 5) (gx_bx 0 5 t')) a M t' := by
  obtain ⟨h0, h1, h2, h3, h4, h5⟩ := h
  exact ⟨by rw [gx_st_ne (by omega)]; exact h0, by rw [gx_st_ne (by omega)]; exact h1, by rw [gx_st_ne (by omega)]; exact h2, by rw [gx_st_ne (by omega)]; exact h3, by rw [gx_st_ne (by omega)]; exact h4, gx_st_eq⟩
end MCS
def sp_u (f : Nat → Nat) (r x : Nat) : Nat → Nat := fun i => if i = r then x else f i
def sp_lrn (M : sp_M) (r wr rt nx : Nat) : sp_M := (sp_u M.1 r 1, sp_u M.2.1 r rt, sp_u M.2.2.1 r wr, sp_u M.2.2.2 r nx)
def sp_fgt (M : sp_M) (r : Nat) : sp_M := (sp_u M.1 r 0, M.2.1, M.2.2.1, M.2.2.2)
def sp_same (M : sp_M) (r wr rt nx : Nat) : Prop := sp_kn M r = 1 ∧ sp_wr M r = wr ∧ sp_rt M r = rt ∧ sp_nx M r = nx
theorem sp_lrn_ok {M : sp_M} {r wr rt nx : Nat} (hM : sp_Mok M) (h1 : wr < 3) (h2 : rt ≤ 1) (h3 : nx ≤ 4) : sp_Mok (sp_lrn M r wr rt nx) := by
  intro i
  have := hM i
  show sp_u M.1 r 1 i ≤ 1 ∧ sp_u M.2.1 r rt i ≤ 1 ∧ sp_u M.2.2.1 r wr i < 3 ∧ sp_u M.2.2.2 r nx i ≤ 4
  unfold sp_u
  split
  · omega
  · exact this
theorem sp_fgt_ok {M : sp_M} {r : Nat} (hM : sp_Mok M) : sp_Mok (sp_fgt M r) := by
  intro i
  have := hM i
  show sp_u M.1 r 0 i ≤ 1 ∧ _
  unfold sp_u
  split
  · exact ⟨by omega, this.2⟩
  · exact this
theorem gx_nzb {x : Nat} (h : x ≤ 1) : narrow .boolean (.int (nI x)) = .int (nI x) := by
  rcases (show x = 0 ∨ x = 1 by omega) with rfl | rfl
  · exact gx_nz0
  · exact gx_nz1
theorem d_Machine_learn_0 : decode prog_5_method_2_code 0 = .ok (.aload_n 0, 1) := by decide +kernel
theorem d_Machine_learn_1 : decode prog_5_method_2_code 1 = .ok (.getfield 9, 3) := by decide +kernel
theorem d_Machine_learn_4 : decode prog_5_method_2_code 4 = .ok (.iload_n 1, 1) := by decide +kernel
theorem d_Machine_learn_5 : decode prog_5_method_2_code 5 = .ok (.baload, 1) := by decide +kernel
theorem d_Machine_learn_6 : decode prog_5_method_2_code 6 = .ok (.ifCond .eq 36, 3) := by decide +kernel
theorem d_Machine_learn_9 : decode prog_5_method_2_code 9 = .ok (.aload_n 0, 1) := by decide +kernel
theorem d_Machine_learn_10 : decode prog_5_method_2_code 10 = .ok (.getfield 18, 3) := by decide +kernel
theorem d_Machine_learn_13 : decode prog_5_method_2_code 13 = .ok (.iload_n 1, 1) := by decide +kernel
theorem d_Machine_learn_14 : decode prog_5_method_2_code 14 = .ok (.iaload, 1) := by decide +kernel
theorem d_Machine_learn_15 : decode prog_5_method_2_code 15 = .ok (.iload_n 2, 1) := by decide +kernel
theorem d_Machine_learn_16 : decode prog_5_method_2_code 16 = .ok (.if_icmp .ne 26, 3) := by decide +kernel
theorem d_Machine_learn_19 : decode prog_5_method_2_code 19 = .ok (.aload_n 0, 1) := by decide +kernel
theorem d_Machine_learn_20 : decode prog_5_method_2_code 20 = .ok (.getfield 15, 3) := by decide +kernel
theorem d_Machine_learn_23 : decode prog_5_method_2_code 23 = .ok (.iload_n 1, 1) := by decide +kernel
theorem d_Machine_learn_24 : decode prog_5_method_2_code 24 = .ok (.baload, 1) := by decide +kernel
theorem d_Machine_learn_25 : decode prog_5_method_2_code 25 = .ok (.iload_n 3, 1) := by decide +kernel
theorem d_Machine_learn_26 : decode prog_5_method_2_code 26 = .ok (.if_icmp .ne 16, 3) := by decide +kernel
theorem d_Machine_learn_29 : decode prog_5_method_2_code 29 = .ok (.aload_n 0, 1) := by decide +kernel
theorem d_Machine_learn_30 : decode prog_5_method_2_code 30 = .ok (.getfield 22, 3) := by decide +kernel
theorem d_Machine_learn_33 : decode prog_5_method_2_code 33 = .ok (.iload_n 1, 1) := by decide +kernel
theorem d_Machine_learn_34 : decode prog_5_method_2_code 34 = .ok (.iaload, 1) := by decide +kernel
theorem d_Machine_learn_35 : decode prog_5_method_2_code 35 = .ok (.iload 4, 2) := by decide +kernel
theorem d_Machine_learn_37 : decode prog_5_method_2_code 37 = .ok (.if_icmp .ne 5, 3) := by decide +kernel
theorem d_Machine_learn_40 : decode prog_5_method_2_code 40 = .ok (.iconst 0, 1) := by decide +kernel
theorem d_Machine_learn_41 : decode prog_5_method_2_code 41 = .ok (.ireturn, 1) := by decide +kernel
theorem d_Machine_learn_42 : decode prog_5_method_2_code 42 = .ok (.aload_n 0, 1) := by decide +kernel
theorem d_Machine_learn_43 : decode prog_5_method_2_code 43 = .ok (.getfield 9, 3) := by decide +kernel
theorem d_Machine_learn_46 : decode prog_5_method_2_code 46 = .ok (.iload_n 1, 1) := by decide +kernel
theorem d_Machine_learn_47 : decode prog_5_method_2_code 47 = .ok (.iconst 1, 1) := by decide +kernel
theorem d_Machine_learn_48 : decode prog_5_method_2_code 48 = .ok (.bastore, 1) := by decide +kernel
theorem d_Machine_learn_49 : decode prog_5_method_2_code 49 = .ok (.aload_n 0, 1) := by decide +kernel
theorem d_Machine_learn_50 : decode prog_5_method_2_code 50 = .ok (.getfield 18, 3) := by decide +kernel
theorem d_Machine_learn_53 : decode prog_5_method_2_code 53 = .ok (.iload_n 1, 1) := by decide +kernel
theorem d_Machine_learn_54 : decode prog_5_method_2_code 54 = .ok (.iload_n 2, 1) := by decide +kernel
theorem d_Machine_learn_55 : decode prog_5_method_2_code 55 = .ok (.iastore, 1) := by decide +kernel
theorem d_Machine_learn_56 : decode prog_5_method_2_code 56 = .ok (.aload_n 0, 1) := by decide +kernel
theorem d_Machine_learn_57 : decode prog_5_method_2_code 57 = .ok (.getfield 15, 3) := by decide +kernel
theorem d_Machine_learn_60 : decode prog_5_method_2_code 60 = .ok (.iload_n 1, 1) := by decide +kernel
theorem d_Machine_learn_61 : decode prog_5_method_2_code 61 = .ok (.iload_n 3, 1) := by decide +kernel
theorem d_Machine_learn_62 : decode prog_5_method_2_code 62 = .ok (.bastore, 1) := by decide +kernel
theorem d_Machine_learn_63 : decode prog_5_method_2_code 63 = .ok (.aload_n 0, 1) := by decide +kernel
theorem d_Machine_learn_64 : decode prog_5_method_2_code 64 = .ok (.getfield 22, 3) := by decide +kernel
theorem d_Machine_learn_67 : decode prog_5_method_2_code 67 = .ok (.iload_n 1, 1) := by decide +kernel
theorem d_Machine_learn_68 : decode prog_5_method_2_code 68 = .ok (.iload 4, 2) := by decide +kernel
theorem d_Machine_learn_70 : decode prog_5_method_2_code 70 = .ok (.iastore, 1) := by decide +kernel
theorem d_Machine_learn_71 : decode prog_5_method_2_code 71 = .ok (.iconst 1, 1) := by decide +kernel
theorem d_Machine_learn_72 : decode prog_5_method_2_code 72 = .ok (.ireturn, 1) := by decide +kernel
theorem ct_learn_same {w : gx_W} {a : Nat} {M : sp_M} {t : List Nat} (h : mcAt w a M t) (hM : sp_Mok M) {r wr rt nx : Nat} (hr : r < 12) (hwr : wr < 3) (hrt : rt ≤ 1) (hnx : nx ≤ 4) (hs : sp_same M r wr rt nx) : gx_Ct M_Machine_learn 1 0 0 [.ref a, .int (nI r), .int (nI wr), .int (nI rt), .int (nI nx)] w (gx_eq (some (.int (nI 0))) w) := by
  refine gx_ct (L := [some (.ref a), some (.int (nI r)), some (.int (nI wr)), some (.int (nI rt)), some (.int (nI nx))]) (by decide) (Nat.le_of_ble_eq_true rfl) rfl ?_
  have hMr := hM r
  obtain ⟨e1, e2, e3, e4⟩ := hs
  refine gx_aload_n d_Machine_learn_0 rfl ?_
  refine gx_get fl_Machine_9 d_Machine_learn_1 h.1 rfl ?_
  refine gx_iload_n d_Machine_learn_4 rfl ?_
  refine gx_zald d_Machine_learn_5 h.2.1 (by omega) (by omega) ?_
  refine gx_if_eqN (by omega) (tgt := 42) d_Machine_learn_6 (by decide) (fun h6 => ?_) (fun h6 => ?_)
  · exact absurd h6 (by omega)
  · refine gx_aload_n d_Machine_learn_9 rfl ?_
    refine gx_get fl_Machine_18 d_Machine_learn_10 h.1 rfl ?_
    refine gx_iload_n d_Machine_learn_13 rfl ?_
    refine gx_iald d_Machine_learn_14 h.2.2.2.1 (by omega) (by omega) ?_
    refine gx_iload_n d_Machine_learn_15 rfl ?_
    refine gx_icmp_neN (by omega) (by omega) (tgt := 42) d_Machine_learn_16 (by decide) (fun h16 => ?_) (fun h16 => ?_)
    · exact absurd h16 (by omega)
    · refine gx_aload_n d_Machine_learn_19 rfl ?_
      refine gx_get fl_Machine_15 d_Machine_learn_20 h.1 rfl ?_
      refine gx_iload_n d_Machine_learn_23 rfl ?_
      refine gx_zald d_Machine_learn_24 h.2.2.1 (by omega) (by omega) ?_
      refine gx_iload_n d_Machine_learn_25 rfl ?_
      refine gx_icmp_neN (by omega) (by omega) (tgt := 42) d_Machine_learn_26 (by decide) (fun h26 => ?_) (fun h26 => ?_)
      · exact absurd h26 (by omega)
      · refine gx_aload_n d_Machine_learn_29 rfl ?_
        refine gx_get fl_Machine_22 d_Machine_learn_30 h.1 rfl ?_
        refine gx_iload_n d_Machine_learn_33 rfl ?_
        refine gx_iald d_Machine_learn_34 h.2.2.2.2.1 (by omega) (by omega) ?_
        refine gx_iload d_Machine_learn_35 rfl ?_
        refine gx_icmp_neN (by omega) (by omega) (tgt := 42) d_Machine_learn_37 (by decide) (fun h37 => ?_) (fun h37 => ?_)
        · exact absurd h37 (by omega)
        · refine gx_iconst d_Machine_learn_40 (nI 0) (by decide) ?_
          refine gx_zreturn rfl gx_nz0 d_Machine_learn_41 ?_
          exact ⟨rfl, rfl⟩
theorem sg_learn {w : gx_W} {a : Nat} {M : sp_M} {t : List Nat} (h : mcAt w a M t) (hM : sp_Mok M) {r wr rt nx : Nat} (hr : r < 12) (hwr : wr < 3) (hrt : rt ≤ 1) (hnx : nx ≤ 4) : gx_X (fun _ _ => True) M_Machine_learn 1 (gx_nt (fun v w' => v = some (.int (nI 1)) ∧ mcAt w' a (sp_lrn M r wr rt nx) t ∧ gx_kp w w' a (a + 7))) 42 [some (.ref a), some (.int (nI r)), some (.int (nI wr)), some (.int (nI rt)), some (.int (nI nx))] [] w (0, 0) := by
  refine gx_aload_n d_Machine_learn_42 rfl ?_
  refine gx_get fl_Machine_9 d_Machine_learn_43 h.1 rfl ?_
  refine gx_iload_n d_Machine_learn_46 rfl ?_
  refine gx_iconst d_Machine_learn_47 (nI 1) (by decide) ?_
  refine gx_zast d_Machine_learn_48 h.2.1 (by omega) (by omega) gx_nz1 ?_
  rw [gx_upn]
  have m1 := h.s1 (sp_u M.1 r 1)
  refine gx_w (w' := gx_st w (a + 1) (gx_ai 2 12 (fun i => nI (sp_u M.1 r 1 i)))) rfl ?_
  generalize hw1 : gx_st w (a + 1) (gx_ai 2 12 (fun i => nI (sp_u M.1 r 1 i))) = w1 at m1 ⊢
  have k1 : gx_kp w w1 a (a + 7) := by rw [← hw1]; exact gx_kp.st (by omega) (by omega)
  refine gx_aload_n d_Machine_learn_49 rfl ?_
  refine gx_get fl_Machine_18 d_Machine_learn_50 m1.1 rfl ?_
  refine gx_iload_n d_Machine_learn_53 rfl ?_
  refine gx_iload_n d_Machine_learn_54 rfl ?_
  refine gx_iast d_Machine_learn_55 m1.2.2.2.1 (by omega) (by omega) ?_
  rw [gx_upn]
  have m2 := m1.s3 (sp_u M.2.2.1 r wr)
  refine gx_w (w' := gx_st w1 (a + 3) (gx_ai 0 12 (fun i => nI (sp_u M.2.2.1 r wr i)))) rfl ?_
  generalize hw2 : gx_st w1 (a + 3) (gx_ai 0 12 (fun i => nI (sp_u M.2.2.1 r wr i))) = w2 at m2 ⊢
  have k2 : gx_kp w1 w2 a (a + 7) := by rw [← hw2]; exact gx_kp.st (by omega) (by omega)
  refine gx_aload_n d_Machine_learn_56 rfl ?_
  refine gx_get fl_Machine_15 d_Machine_learn_57 m2.1 rfl ?_
  refine gx_iload_n d_Machine_learn_60 rfl ?_
  refine gx_iload_n d_Machine_learn_61 rfl ?_
  refine gx_zast d_Machine_learn_62 m2.2.2.1 (by omega) (by omega) (gx_nzb hrt) ?_
  rw [gx_upn]
  have m3 := m2.s2 (sp_u M.2.1 r rt)
  refine gx_w (w' := gx_st w2 (a + 2) (gx_ai 2 12 (fun i => nI (sp_u M.2.1 r rt i)))) rfl ?_
  generalize hw3 : gx_st w2 (a + 2) (gx_ai 2 12 (fun i => nI (sp_u M.2.1 r rt i))) = w3 at m3 ⊢
  have k3 : gx_kp w2 w3 a (a + 7) := by rw [← hw3]; exact gx_kp.st (by omega) (by omega)
  refine gx_aload_n d_Machine_learn_63 rfl ?_
  refine gx_get fl_Machine_22 d_Machine_learn_64 m3.1 rfl ?_
  refine gx_iload_n d_Machine_learn_67 rfl ?_
  refine gx_iload d_Machine_learn_68 rfl ?_
  refine gx_iast d_Machine_learn_70 m3.2.2.2.2.1 (by omega) (by omega) ?_
  rw [gx_upn]
  have m4 := m3.s4 (sp_u M.2.2.2 r nx)
  refine gx_iconst d_Machine_learn_71 (nI 1) (by decide) ?_
  refine gx_zreturn rfl gx_nz1 d_Machine_learn_72 ?_
  exact ⟨rfl, m4, ((k1.trans k2).trans k3).trans (gx_kp.st (by omega) (by omega))⟩
theorem ct_learn {w : gx_W} {a : Nat} {M : sp_M} {t : List Nat} (h : mcAt w a M t) (hM : sp_Mok M) {r wr rt nx : Nat} (hr : r < 12) (hwr : wr < 3) (hrt : rt ≤ 1) (hnx : nx ≤ 4) (hs : ¬ sp_same M r wr rt nx) : gx_Ct M_Machine_learn 1 0 0 [.ref a, .int (nI r), .int (nI wr), .int (nI rt), .int (nI nx)] w (fun v w' => v = some (.int (nI 1)) ∧ mcAt w' a (sp_lrn M r wr rt nx) t ∧ gx_kp w w' a (a + 7)) := by
  refine gx_ct (L := [some (.ref a), some (.int (nI r)), some (.int (nI wr)), some (.int (nI rt)), some (.int (nI nx))]) (by decide) (Nat.le_of_ble_eq_true rfl) rfl ?_
  have hMr := hM r
  refine gx_aload_n d_Machine_learn_0 rfl ?_
  refine gx_get fl_Machine_9 d_Machine_learn_1 h.1 rfl ?_
  refine gx_iload_n d_Machine_learn_4 rfl ?_
  refine gx_zald d_Machine_learn_5 h.2.1 (by omega) (by omega) ?_
  refine gx_if_eqN (by omega) (tgt := 42) d_Machine_learn_6 (by decide) (fun h6 => ?_) (fun h6 => ?_)
  · exact sg_learn h hM hr hwr hrt hnx
  · refine gx_aload_n d_Machine_learn_9 rfl ?_
    refine gx_get fl_Machine_18 d_Machine_learn_10 h.1 rfl ?_
    refine gx_iload_n d_Machine_learn_13 rfl ?_
    refine gx_iald d_Machine_learn_14 h.2.2.2.1 (by omega) (by omega) ?_
    refine gx_iload_n d_Machine_learn_15 rfl ?_
    refine gx_icmp_neN (by omega) (by omega) (tgt := 42) d_Machine_learn_16 (by decide) (fun h16 => ?_) (fun h16 => ?_)
    · exact sg_learn h hM hr hwr hrt hnx
    · refine gx_aload_n d_Machine_learn_19 rfl ?_
      refine gx_get fl_Machine_15 d_Machine_learn_20 h.1 rfl ?_
      refine gx_iload_n d_Machine_learn_23 rfl ?_
      refine gx_zald d_Machine_learn_24 h.2.2.1 (by omega) (by omega) ?_
      refine gx_iload_n d_Machine_learn_25 rfl ?_
      refine gx_icmp_neN (by omega) (by omega) (tgt := 42) d_Machine_learn_26 (by decide) (fun h26 => ?_) (fun h26 => ?_)
      · exact sg_learn h hM hr hwr hrt hnx
      · refine gx_aload_n d_Machine_learn_29 rfl ?_
        refine gx_get fl_Machine_22 d_Machine_learn_30 h.1 rfl ?_
        refine gx_iload_n d_Machine_learn_33 rfl ?_
        refine gx_iald d_Machine_learn_34 h.2.2.2.2.1 (by omega) (by omega) ?_
        refine gx_iload d_Machine_learn_35 rfl ?_
        refine gx_icmp_neN (by omega) (by omega) (tgt := 42) d_Machine_learn_37 (by decide) (fun h37 => ?_) (fun h37 => ?_)
        · exact sg_learn h hM hr hwr hrt hnx
        · exact absurd ⟨by omega, h16, h26, h37⟩ hs
theorem d_Machine_forget_0 : decode prog_5_method_3_code 0 = .ok (.aload_n 0, 1) := by decide +kernel
theorem d_Machine_forget_1 : decode prog_5_method_3_code 1 = .ok (.getfield 9, 3) := by decide +kernel
theorem d_Machine_forget_4 : decode prog_5_method_3_code 4 = .ok (.iload_n 1, 1) := by decide +kernel
theorem d_Machine_forget_5 : decode prog_5_method_3_code 5 = .ok (.baload, 1) := by decide +kernel
theorem d_Machine_forget_6 : decode prog_5_method_3_code 6 = .ok (.istore_n 2, 1) := by decide +kernel
theorem d_Machine_forget_7 : decode prog_5_method_3_code 7 = .ok (.aload_n 0, 1) := by decide +kernel
theorem d_Machine_forget_8 : decode prog_5_method_3_code 8 = .ok (.getfield 9, 3) := by decide +kernel
theorem d_Machine_forget_11 : decode prog_5_method_3_code 11 = .ok (.iload_n 1, 1) := by decide +kernel
theorem d_Machine_forget_12 : decode prog_5_method_3_code 12 = .ok (.iconst 0, 1) := by decide +kernel
theorem d_Machine_forget_13 : decode prog_5_method_3_code 13 = .ok (.bastore, 1) := by decide +kernel
theorem d_Machine_forget_14 : decode prog_5_method_3_code 14 = .ok (.iload_n 2, 1) := by decide +kernel
theorem d_Machine_forget_15 : decode prog_5_method_3_code 15 = .ok (.ireturn, 1) := by decide +kernel
theorem ct_forget_rule {w : gx_W} {a : Nat} {M : sp_M} {t : List Nat} (h : mcAt w a M t) (hM : sp_Mok M) {r : Nat} (hr : r < 12) : gx_Ct M_Machine_forget 1 0 0 [.ref a, .int (nI r)] w (fun v w' => v = some (.int (nI (sp_kn M r))) ∧ mcAt w' a (sp_fgt M r) t ∧ gx_kp w w' a (a + 7)) := by
  refine gx_ct (L := [some (.ref a), some (.int (nI r)), none]) (by decide) (Nat.le_of_ble_eq_true rfl) rfl ?_
  have hMr := hM r
  refine gx_aload_n d_Machine_forget_0 rfl ?_
  refine gx_get fl_Machine_9 d_Machine_forget_1 h.1 rfl ?_
  refine gx_iload_n d_Machine_forget_4 rfl ?_
  refine gx_zald d_Machine_forget_5 h.2.1 (by omega) (by omega) ?_
  refine gx_istore_n d_Machine_forget_6 (Nat.le_of_ble_eq_true rfl) rfl ?_
  refine gx_aload_n d_Machine_forget_7 rfl ?_
  refine gx_get fl_Machine_9 d_Machine_forget_8 h.1 rfl ?_
  refine gx_iload_n d_Machine_forget_11 rfl ?_
  refine gx_iconst d_Machine_forget_12 (nI 0) (by decide) ?_
  refine gx_zast d_Machine_forget_13 h.2.1 (by omega) (by omega) gx_nz0 ?_
  rw [gx_upn]
  have m1 := h.s1 (sp_u M.1 r 0)
  refine gx_iload_n d_Machine_forget_14 rfl ?_
  refine gx_zreturn rfl (gx_nzb hMr.1) d_Machine_forget_15 ?_
  exact ⟨rfl, m1, gx_kp.st (by omega) (by omega)⟩
def sp_dg (n word : Nat) : List Nat := (List.range n).map (fun i => word / 3 ^ (n - 1 - i) % 3)
theorem sp_dg_len (n word : Nat) : (sp_dg n word).length = n := by simp [sp_dg]
theorem sp_dg_at {n word i : Nat} (h : i < n) : (sp_dg n word).getD i 0 = word / 3 ^ (n - 1 - i) % 3 := by
  unfold sp_dg
  rw [List.getD_eq_getElem?_getD, List.getElem?_map, List.getElem?_range h]
  rfl
theorem sp_dg_ok {n word : Nat} (h : n ≤ 4) : sp_iok (sp_dg n word) := by
  refine ⟨by rw [sp_dg_len]; exact h, fun s hs => ?_⟩
  obtain ⟨i, -, rfl⟩ := List.mem_map.mp hs
  exact Nat.mod_lt _ (by decide)
theorem sp_ds_take {l : List Nat} {i : Nat} : sp_ds (l.take i) = (sp_ds l).take i := by unfold sp_ds; rw [List.map_take]
theorem tk_p {m : Nat} (h : m ≤ 3) : 0 < 3 ^ m ∧ 3 ^ m < 2 ^ 31 := by
  rcases (show m = 0 ∨ m = 1 ∨ m = 2 ∨ m = 3 by omega) with rfl | rfl | rfl | rfl <;> decide
theorem tk_w {n i : Nat} (h : n ≤ 4) : max 1 (3 ^ (n - 1 - i) / 3) = 3 ^ (n - 1 - (i + 1)) := by
  rw [← Nat.sub_sub]
  generalize hm : n - 1 - i = m
  rcases (show m = 0 ∨ m = 1 ∨ m = 2 ∨ m = 3 by omega) with rfl | rfl | rfl | rfl <;> decide
theorem d_Machine_take_0 : decode prog_5_method_4_code 0 = .ok (.iconst 1, 1) := by decide +kernel
theorem d_Machine_take_1 : decode prog_5_method_4_code 1 = .ok (.istore_n 3, 1) := by decide +kernel
theorem d_Machine_take_2 : decode prog_5_method_4_code 2 = .ok (.iconst 1, 1) := by decide +kernel
theorem d_Machine_take_3 : decode prog_5_method_4_code 3 = .ok (.istore 4, 2) := by decide +kernel
theorem d_Machine_take_5 : decode prog_5_method_4_code 5 = .ok (.iload 4, 2) := by decide +kernel
theorem d_Machine_take_7 : decode prog_5_method_4_code 7 = .ok (.iload_n 1, 1) := by decide +kernel
theorem d_Machine_take_8 : decode prog_5_method_4_code 8 = .ok (.if_icmp .ge 13, 3) := by decide +kernel
theorem d_Machine_take_11 : decode prog_5_method_4_code 11 = .ok (.iload_n 3, 1) := by decide +kernel
theorem d_Machine_take_12 : decode prog_5_method_4_code 12 = .ok (.iconst 3, 1) := by decide +kernel
theorem d_Machine_take_13 : decode prog_5_method_4_code 13 = .ok (.imul, 1) := by decide +kernel
theorem d_Machine_take_14 : decode prog_5_method_4_code 14 = .ok (.istore_n 3, 1) := by decide +kernel
theorem d_Machine_take_15 : decode prog_5_method_4_code 15 = .ok (.iinc 4 1, 3) := by decide +kernel
theorem d_Machine_take_18 : decode prog_5_method_4_code 18 = .ok (.goto (-13), 3) := by decide +kernel
theorem d_Machine_take_21 : decode prog_5_method_4_code 21 = .ok (.aload_n 0, 1) := by decide +kernel
theorem d_Machine_take_22 : decode prog_5_method_4_code 22 = .ok (.getfield 30, 3) := by decide +kernel
theorem d_Machine_take_25 : decode prog_5_method_4_code 25 = .ok (.invokevirtual 42, 3) := by decide +kernel
theorem d_Machine_take_28 : decode prog_5_method_4_code 28 = .ok (.aload_n 0, 1) := by decide +kernel
theorem d_Machine_take_29 : decode prog_5_method_4_code 29 = .ok (.getfield 30, 3) := by decide +kernel
theorem d_Machine_take_32 : decode prog_5_method_4_code 32 = .ok (.iconst 0, 1) := by decide +kernel
theorem d_Machine_take_33 : decode prog_5_method_4_code 33 = .ok (.invokestatic 34, 3) := by decide +kernel
theorem d_Machine_take_36 : decode prog_5_method_4_code 36 = .ok (.invokevirtual 38, 3) := by decide +kernel
theorem d_Machine_take_39 : decode prog_5_method_4_code 39 = .ok (.pop, 1) := by decide +kernel
theorem d_Machine_take_40 : decode prog_5_method_4_code 40 = .ok (.iconst 0, 1) := by decide +kernel
theorem d_Machine_take_41 : decode prog_5_method_4_code 41 = .ok (.istore 4, 2) := by decide +kernel
theorem d_Machine_take_43 : decode prog_5_method_4_code 43 = .ok (.iload 4, 2) := by decide +kernel
theorem d_Machine_take_45 : decode prog_5_method_4_code 45 = .ok (.iload_n 1, 1) := by decide +kernel
theorem d_Machine_take_46 : decode prog_5_method_4_code 46 = .ok (.if_icmp .ge 33, 3) := by decide +kernel
theorem d_Machine_take_49 : decode prog_5_method_4_code 49 = .ok (.aload_n 0, 1) := by decide +kernel
theorem d_Machine_take_50 : decode prog_5_method_4_code 50 = .ok (.getfield 30, 3) := by decide +kernel
theorem d_Machine_take_53 : decode prog_5_method_4_code 53 = .ok (.iload_n 2, 1) := by decide +kernel
theorem d_Machine_take_54 : decode prog_5_method_4_code 54 = .ok (.iload_n 3, 1) := by decide +kernel
theorem d_Machine_take_55 : decode prog_5_method_4_code 55 = .ok (.idiv, 1) := by decide +kernel
theorem d_Machine_take_56 : decode prog_5_method_4_code 56 = .ok (.iconst 3, 1) := by decide +kernel
theorem d_Machine_take_57 : decode prog_5_method_4_code 57 = .ok (.irem, 1) := by decide +kernel
theorem d_Machine_take_58 : decode prog_5_method_4_code 58 = .ok (.invokestatic 45, 3) := by decide +kernel
theorem d_Machine_take_61 : decode prog_5_method_4_code 61 = .ok (.invokevirtual 38, 3) := by decide +kernel
theorem d_Machine_take_64 : decode prog_5_method_4_code 64 = .ok (.pop, 1) := by decide +kernel
theorem d_Machine_take_65 : decode prog_5_method_4_code 65 = .ok (.iconst 1, 1) := by decide +kernel
theorem d_Machine_take_66 : decode prog_5_method_4_code 66 = .ok (.iload_n 3, 1) := by decide +kernel
theorem d_Machine_take_67 : decode prog_5_method_4_code 67 = .ok (.iconst 3, 1) := by decide +kernel
theorem d_Machine_take_68 : decode prog_5_method_4_code 68 = .ok (.idiv, 1) := by decide +kernel
theorem d_Machine_take_69 : decode prog_5_method_4_code 69 = .ok (.invokestatic 48, 3) := by decide +kernel
theorem d_Machine_take_72 : decode prog_5_method_4_code 72 = .ok (.istore_n 3, 1) := by decide +kernel
theorem d_Machine_take_73 : decode prog_5_method_4_code 73 = .ok (.iinc 4 1, 3) := by decide +kernel
theorem d_Machine_take_76 : decode prog_5_method_4_code 76 = .ok (.goto (-33), 3) := by decide +kernel
theorem d_Machine_take_79 : decode prog_5_method_4_code 79 = .ok (.return_, 1) := by decide +kernel
theorem lp_take1 {Q : gx_P} {w : gx_W} {a n word : Nat} (hn : n ≤ 4) (hX : ∀ i, gx_X (fun _ _ => True) M_Machine_take 2 Q 21 [some (.ref a), some (.int (nI n)), some (.int (nI word)), some (.int (nI (3 ^ (n - 1)))), some (.int i)] [] w (0, 0)) : ∀ (fu : Nat) (i : Nat), n - i < fu → (i = 0 ∨ i + 1 ≤ n) → gx_X (fun _ _ => True) M_Machine_take 2 Q 5 [some (.ref a), some (.int (nI n)), some (.int (nI word)), some (.int (nI (3 ^ i))), some (.int (nI (i + 1)))] [] w (0, 0) := by
  intro fu
  induction fu with
  | zero => intro i hfu; exact absurd hfu (Nat.not_lt_zero _)
  | succ fu ih =>
    intro i hfu hi
    refine gx_iload d_Machine_take_5 rfl ?_
    refine gx_iload_n d_Machine_take_7 rfl ?_
    refine gx_icmp_geN (by omega) (by omega) (tgt := 21) d_Machine_take_8 (by decide) (fun h8 => ?_) (fun h8 => ?_)
    · rw [show i = n - 1 by omega]
      exact hX _
    · refine gx_iload_n d_Machine_take_11 rfl ?_
      refine gx_iconst d_Machine_take_12 (nI 3) (by decide) ?_
      refine gx_imulN d_Machine_take_13 ?_
      refine gx_istore_n d_Machine_take_14 (Nat.le_of_ble_eq_true rfl) rfl ?_
      refine gx_iincN (n := 1) d_Machine_take_15 rfl (by decide) (Nat.le_of_ble_eq_true rfl) rfl ?_
      refine gx_goto (tgt := 5) d_Machine_take_18 (by decide) ?_
      exact ih (i + 1) (by omega) (by omega)
theorem lp_take2 {Q : gx_P} {w0 : gx_W} {a n word : Nat} {M : sp_M} (hn : n ≤ 4) (hword : word < 2 ^ 31) : ∀ (fu : Nat) (i : Nat) (w : gx_W), n - i < fu → (i ≤ n) → (mcAt w a M (97 :: sp_ds ((sp_dg n word).take i))) → (gx_kp w0 w a (a + 7)) → (∀ w', mcAt w' a M (97 :: sp_ds (sp_dg n word)) → gx_kp w0 w' a (a + 7) → Q.1 none w') → gx_X (fun _ _ => True) M_Machine_take 2 Q 43 [some (.ref a), some (.int (nI n)), some (.int (nI word)), some (.int (nI (3 ^ (n - 1 - i)))), some (.int (nI i))] [] w (0, 0) := by
  intro fu
  induction fu with
  | zero => intro i w hfu; exact absurd hfu (Nat.not_lt_zero _)
  | succ fu ih =>
    intro i w hfu hi h hk hQ
    have hp := tk_p (m := n - 1 - i) (by omega)
    have hl := sp_dg_len n word
    have hdv : word / 3 ^ (n - 1 - i) < 2 ^ 31 := Nat.lt_of_le_of_lt (Nat.div_le_self _ _) hword
    refine gx_iload d_Machine_take_43 rfl ?_
    refine gx_iload_n d_Machine_take_45 rfl ?_
    refine gx_icmp_geN (by omega) (by omega) (tgt := 79) d_Machine_take_46 (by decide) (fun h46 => ?_) (fun h46 => ?_)
    · refine gx_return rfl d_Machine_take_79 ?_
      have e : i = n := by omega
      subst e
      rw [List.take_of_length_le (by omega)] at h
      exact hQ w h hk
    · refine gx_aload_n d_Machine_take_49 rfl ?_
      refine gx_get fl_Machine_30 d_Machine_take_50 h.1 rfl ?_
      refine gx_iload_n d_Machine_take_53 rfl ?_
      refine gx_iload_n d_Machine_take_54 rfl ?_
      refine gx_idivN (by omega) (by omega) (by omega) d_Machine_take_55 ?_
      refine gx_iconst d_Machine_take_56 (nI 3) (by decide) ?_
      refine gx_iremN (by omega) (by omega) (by omega) d_Machine_take_57 ?_
      refine gx_cS1 lk_Machine_45 d_Machine_take_58 (ct_digit (by omega)) (by omega) rfl rfl (Nat.le_of_ble_eq_true rfl) ?_
      have hln : (97 :: sp_ds ((sp_dg n word).take i)).length < 5 := by rw [List.length_cons, sp_ds_len, List.length_take]; omega
      refine gx_cV1 lk_Machine_38 d_Machine_take_61 (ct_Word_add h.2.2.2.2.2 (by omega) hln) (Or.inr ⟨_, _, h.2.2.2.2.2⟩) (by omega) rfl rfl (Nat.le_of_ble_eq_true rfl) ?_
      refine gx_pop d_Machine_take_64 rfl ?_
      refine gx_iconst d_Machine_take_65 (nI 1) (by decide) ?_
      refine gx_iload_n d_Machine_take_66 rfl ?_
      refine gx_iconst d_Machine_take_67 (nI 3) (by decide) ?_
      refine gx_idivN (by omega) (by omega) (by omega) d_Machine_take_68 ?_
      refine gx_max lk_Machine_48 (by omega) (Nat.le_of_ble_eq_true rfl) d_Machine_take_69 ?_
      refine gx_top ((gx_mxI (by omega) (by omega)).trans (congrArg nI (tk_w hn))) ?_
      refine gx_istore_n d_Machine_take_72 (Nat.le_of_ble_eq_true rfl) rfl ?_
      refine gx_iincN (n := 1) d_Machine_take_73 rfl (by decide) (Nat.le_of_ble_eq_true rfl) rfl ?_
      refine gx_goto (tgt := 43) d_Machine_take_76 (by decide) ?_
      refine ih (i + 1) _ (by omega) (by omega) ?_ (hk.trans (gx_kp.st (by omega) (by omega))) hQ
      have m1 := h.s5 (97 :: sp_ds ((sp_dg n word).take i) ++ [48 + word / 3 ^ (n - 1 - i) % 3])
      rw [gx_take_succ (by omega), sp_dg_at (by omega)]
      have e2 : sp_ds ((sp_dg n word).take i ++ [word / 3 ^ (n - 1 - i) % 3]) = sp_ds ((sp_dg n word).take i) ++ [48 + word / 3 ^ (n - 1 - i) % 3] := by unfold sp_ds; rw [List.map_append]; rfl
      rw [e2]
      exact m1
theorem ct_take {w : gx_W} {a n word : Nat} {M : sp_M} {t : List Nat} (h : mcAt w a M t) (hn : n ≤ 4) (hword : word < 2 ^ 31) : gx_Ct M_Machine_take 2 0 0 [.ref a, .int (nI n), .int (nI word)] w (fun v w' => v = none ∧ mcAt w' a M (sp_txt (sp_c0 (sp_dg n word))) ∧ gx_kp w w' a (a + 7)) := by
  refine gx_ct (L := [some (.ref a), some (.int (nI n)), some (.int (nI word)), none, none]) (by decide) (Nat.le_of_ble_eq_true rfl) rfl ?_
  refine gx_iconst d_Machine_take_0 (nI 1) (by decide) ?_
  refine gx_istore_n d_Machine_take_1 (Nat.le_of_ble_eq_true rfl) rfl ?_
  refine gx_iconst d_Machine_take_2 (nI 1) (by decide) ?_
  refine gx_istore d_Machine_take_3 (Nat.le_of_ble_eq_true rfl) rfl ?_
  refine lp_take1 (i := 0) hn (fun i0 => ?_) (n + 1) (by omega) (Or.inl rfl)
  refine gx_aload_n d_Machine_take_21 rfl ?_
  refine gx_get fl_Machine_30 d_Machine_take_22 h.1 rfl ?_
  refine gx_cV0 lk_Machine_42 d_Machine_take_25 (ct_Word_empty h.2.2.2.2.2) (Or.inr ⟨_, _, h.2.2.2.2.2⟩) (by omega) rfl rfl (Nat.le_of_ble_eq_true rfl) ?_
  have m1 := h.s5 []
  refine gx_aload_n d_Machine_take_28 rfl ?_
  refine gx_get fl_Machine_30 d_Machine_take_29 m1.1 rfl ?_
  refine gx_iconst d_Machine_take_32 (nI 0) (by decide) ?_
  refine gx_cS1 lk_Machine_34 d_Machine_take_33 (ct_letter (q := 0) (by omega)) (by omega) rfl rfl (Nat.le_of_ble_eq_true rfl) ?_
  refine gx_top (show _ = nI 97 from rfl) ?_
  refine gx_cV1 lk_Machine_38 d_Machine_take_36 (ct_Word_add m1.2.2.2.2.2 (by omega) (by decide)) (Or.inr ⟨_, _, m1.2.2.2.2.2⟩) (by omega) rfl rfl (Nat.le_of_ble_eq_true rfl) ?_
  have m2 := m1.s5 ([] ++ [97])
  refine gx_pop d_Machine_take_39 rfl ?_
  refine gx_iconst d_Machine_take_40 (nI 0) (by decide) ?_
  refine gx_istore d_Machine_take_41 (Nat.le_of_ble_eq_true rfl) rfl ?_
  exact lp_take2 hn hword (n + 1) 0 _ (by omega) (Nat.zero_le _) m2 ((gx_kp.st (by omega) (by omega)).trans (gx_kp.st (by omega) (by omega))) (fun w' h1 h2 => ⟨rfl, h1, h2⟩)
def sp_by (x : Int64) (k : Nat) : Nat := x.toBitVec.toNat / 2 ^ (8 * k) % 256
theorem sp_by_lt (x : Int64) (k : Nat) : sp_by x k < 256 := Nat.mod_lt _ (by decide)
theorem sp_by_cl {x : Int64} {k : Nat} (hk : k < 8) : ((x.toUInt64 >>> ((nI (8 * k)).toInt64.toUInt64 &&& Int64.toUInt64 63)).toInt64 &&& 255).toInt32 = nI (sp_by x k) := by
  obtain ⟨m, hm, rfl⟩ := wb_of x
  rw [wb_shr hm (by omega), show (255 : Int64) = lN (2 ^ 8 - 1) from rfl, wb_mask (Nat.lt_of_le_of_lt (Nat.div_le_self _ _) hm) (by omega), lN_i]
  unfold sp_by
  rw [wb_tn hm]
theorem d_PC_byteOf_0 : decode prog_1_method_23_code 0 = .ok (.lload_n 0, 1) := by decide +kernel
theorem d_PC_byteOf_1 : decode prog_1_method_23_code 1 = .ok (.bipush 8, 2) := by decide +kernel
theorem d_PC_byteOf_3 : decode prog_1_method_23_code 3 = .ok (.bipush 7, 2) := by decide +kernel
theorem d_PC_byteOf_5 : decode prog_1_method_23_code 5 = .ok (.iload_n 2, 1) := by decide +kernel
theorem d_PC_byteOf_6 : decode prog_1_method_23_code 6 = .ok (.isub, 1) := by decide +kernel
theorem d_PC_byteOf_7 : decode prog_1_method_23_code 7 = .ok (.imul, 1) := by decide +kernel
theorem d_PC_byteOf_8 : decode prog_1_method_23_code 8 = .ok (.lushr, 1) := by decide +kernel
theorem d_PC_byteOf_9 : decode prog_1_method_23_code 9 = .ok (.ldc2_w 227, 3) := by decide +kernel
theorem d_PC_byteOf_12 : decode prog_1_method_23_code 12 = .ok (.land, 1) := by decide +kernel
theorem d_PC_byteOf_13 : decode prog_1_method_23_code 13 = .ok (.l2i, 1) := by decide +kernel
theorem d_PC_byteOf_14 : decode prog_1_method_23_code 14 = .ok (.i2c, 1) := by decide +kernel
theorem d_PC_byteOf_15 : decode prog_1_method_23_code 15 = .ok (.ireturn, 1) := by decide +kernel
theorem ct_byteOf {w : gx_W} {x : Int64} {i : Nat} (hi : i < 8) : gx_Ct M_PC_byteOf 1 0 0 [.long x, .int (nI i)] w (gx_eq (some (.int (nI (sp_by x (7 - i))))) w) := by
  refine gx_ct (L := [some (.long x), none, some (.int (nI i))]) (by decide) (Nat.le_of_ble_eq_true rfl) rfl ?_
  have hb := sp_by_lt x (7 - i)
  refine gx_lload_n d_PC_byteOf_0 rfl ?_
  refine gx_bipush d_PC_byteOf_1 (nI 8) (by decide) ?_
  refine gx_bipush d_PC_byteOf_3 (nI 7) (by decide) ?_
  refine gx_iload_n d_PC_byteOf_5 rfl ?_
  refine gx_isubN (by omega) d_PC_byteOf_6 ?_
  refine gx_imulN d_PC_byteOf_7 ?_
  refine gx_lushr d_PC_byteOf_8 ?_
  refine gx_ldc2 kl_PC_227 d_PC_byteOf_9 ?_
  refine gx_land d_PC_byteOf_12 ?_
  refine gx_l2i d_PC_byteOf_13 ?_
  refine gx_top (sp_by_cl (by omega)) ?_
  refine gx_i2cN (by omega) d_PC_byteOf_14 ?_
  refine gx_zreturn rfl (gx_nc (by omega)) d_PC_byteOf_15 ?_
  exact ⟨rfl, rfl⟩
end
