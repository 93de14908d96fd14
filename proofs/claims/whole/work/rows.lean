section
-- ===== PART A: goes FIRST, ahead of the names: the tables' words, and 'selects' of the private methods out of them =====
/-- a private method of a class that the tables say can be made, by its rows of tables_1 -/
def lw_okq (q : MethodName × Nat) : Prop := (q.1.cls ≠ "java/lang/invoke/MethodHandle" ∧ q.1.cls ≠ "java/lang/invoke/VarHandle") ∧ Cond.instantiable q.1.cls q.2 ∈ tables_1 ∧ Cond.privateMethod q.1 ∈ tables_1 ∧ Cond.instanceMethod q.1 ∈ tables_1
theorem lw_p0 : lw_okq (⟨"PostChain", "startOver", "()V"⟩, 9) := ⟨⟨by decide +kernel, by decide +kernel⟩, List.mem_of_getElem? (i := 23) (by decide +kernel), List.mem_of_getElem? (i := 202) (by decide +kernel), List.mem_of_getElem? (i := 203) (by decide +kernel)⟩
theorem lw_p1 : lw_okq (⟨"PostChain$Box", "open", "()LPostChain$Domino;"⟩, 3) := ⟨⟨by decide +kernel, by decide +kernel⟩, List.mem_of_getElem? (i := 99) (by decide +kernel), List.mem_of_getElem? (i := 267) (by decide +kernel), List.mem_of_getElem? (i := 268) (by decide +kernel)⟩
theorem lw_p2 : lw_okq (⟨"PostChain$Box", "addCopy", "(C)V"⟩, 3) := ⟨⟨by decide +kernel, by decide +kernel⟩, List.mem_of_getElem? (i := 99) (by decide +kernel), List.mem_of_getElem? (i := 278) (by decide +kernel), List.mem_of_getElem? (i := 279) (by decide +kernel)⟩
theorem lw_p3 : lw_okq (⟨"PostChain$Box", "addRule", "(LPostChain$Machine;IC)V"⟩, 3) := ⟨⟨by decide +kernel, by decide +kernel⟩, List.mem_of_getElem? (i := 99) (by decide +kernel), List.mem_of_getElem? (i := 283) (by decide +kernel), List.mem_of_getElem? (i := 284) (by decide +kernel)⟩
theorem lw_p4 : lw_okq (⟨"PostChain$Box", "addRight", "(LPostChain$Machine;IC)V"⟩, 3) := ⟨⟨by decide +kernel, by decide +kernel⟩, List.mem_of_getElem? (i := 99) (by decide +kernel), List.mem_of_getElem? (i := 287) (by decide +kernel), List.mem_of_getElem? (i := 288) (by decide +kernel)⟩
theorem lw_p5 : lw_okq (⟨"PostChain$Box", "addLeft", "(LPostChain$Machine;ICC)V"⟩, 3) := ⟨⟨by decide +kernel, by decide +kernel⟩, List.mem_of_getElem? (i := 99) (by decide +kernel), List.mem_of_getElem? (i := 295) (by decide +kernel), List.mem_of_getElem? (i := 296) (by decide +kernel)⟩
theorem lw_p6 : lw_okq (⟨"PostChain$Box", "addEnding", "()V"⟩, 3) := ⟨⟨by decide +kernel, by decide +kernel⟩, List.mem_of_getElem? (i := 99) (by decide +kernel), List.mem_of_getElem? (i := 299) (by decide +kernel), List.mem_of_getElem? (i := 300) (by decide +kernel)⟩
theorem lw_p7 : lw_okq (⟨"PostChain$Way", "passStep", "(LPostChain$Machine;LPostChain$Word;LPostChain$Box;)V"⟩, 2) := ⟨⟨by decide +kernel, by decide +kernel⟩, List.mem_of_getElem? (i := 137) (by decide +kernel), List.mem_of_getElem? (i := 335) (by decide +kernel), List.mem_of_getElem? (i := 336) (by decide +kernel)⟩
theorem lw_p8 : lw_okq (⟨"PostChain$Way", "pass", "(LPostChain$Word;III)V"⟩, 2) := ⟨⟨by decide +kernel, by decide +kernel⟩, List.mem_of_getElem? (i := 137) (by decide +kernel), List.mem_of_getElem? (i := 348) (by decide +kernel), List.mem_of_getElem? (i := 349) (by decide +kernel)⟩
theorem lw_p9 : lw_okq (⟨"PostChain$Way", "copySymbols", "(LPostChain$Word;II)V"⟩, 2) := ⟨⟨by decide +kernel, by decide +kernel⟩, List.mem_of_getElem? (i := 137) (by decide +kernel), List.mem_of_getElem? (i := 352) (by decide +kernel), List.mem_of_getElem? (i := 353) (by decide +kernel)⟩
theorem lw_p10 : lw_okq (⟨"PostChain$Way", "passShorter", "(LPostChain$Box;)V"⟩, 2) := ⟨⟨by decide +kernel, by decide +kernel⟩, List.mem_of_getElem? (i := 137) (by decide +kernel), List.mem_of_getElem? (i := 357) (by decide +kernel), List.mem_of_getElem? (i := 358) (by decide +kernel)⟩
theorem lw_p11 : lw_okq (⟨"PostChain", "spellLaid", "()V"⟩, 9) := ⟨⟨by decide +kernel, by decide +kernel⟩, List.mem_of_getElem? (i := 23) (by decide +kernel), List.mem_of_getElem? (i := 463) (by decide +kernel), List.mem_of_getElem? (i := 464) (by decide +kernel)⟩
theorem lw_p12 : lw_okq (⟨"PostChain$Hunt", "keep", "(IILPostChain$Domino;)V"⟩, 8) := ⟨⟨by decide +kernel, by decide +kernel⟩, List.mem_of_getElem? (i := 165) (by decide +kernel), List.mem_of_getElem? (i := 600) (by decide +kernel), List.mem_of_getElem? (i := 601) (by decide +kernel)⟩
theorem lw_p13 : lw_okq (⟨"PostChain$Hunt", "openOr", "(LPostChain$Word;I)C"⟩, 8) := ⟨⟨by decide +kernel, by decide +kernel⟩, List.mem_of_getElem? (i := 165) (by decide +kernel), List.mem_of_getElem? (i := 606) (by decide +kernel), List.mem_of_getElem? (i := 607) (by decide +kernel)⟩
theorem lw_p14 : lw_okq (⟨"PostChain$Hunt", "goOn", "(ILPostChain$Box;)V"⟩, 8) := ⟨⟨by decide +kernel, by decide +kernel⟩, List.mem_of_getElem? (i := 165) (by decide +kernel), List.mem_of_getElem? (i := 611) (by decide +kernel), List.mem_of_getElem? (i := 612) (by decide +kernel)⟩
theorem lw_p15 : lw_okq (⟨"PostChain$Hunt", "fits", "(LPostChain$Domino;)Z"⟩, 8) := ⟨⟨by decide +kernel, by decide +kernel⟩, List.mem_of_getElem? (i := 165) (by decide +kernel), List.mem_of_getElem? (i := 617) (by decide +kernel), List.mem_of_getElem? (i := 618) (by decide +kernel)⟩
def lw_privs_1 : List (MethodName × Nat) := [(⟨"PostChain", "startOver", "()V"⟩, 9), (⟨"PostChain$Box", "open", "()LPostChain$Domino;"⟩, 3), (⟨"PostChain$Box", "addCopy", "(C)V"⟩, 3), (⟨"PostChain$Box", "addRule", "(LPostChain$Machine;IC)V"⟩, 3), (⟨"PostChain$Box", "addRight", "(LPostChain$Machine;IC)V"⟩, 3), (⟨"PostChain$Box", "addLeft", "(LPostChain$Machine;ICC)V"⟩, 3), (⟨"PostChain$Box", "addEnding", "()V"⟩, 3), (⟨"PostChain$Way", "passStep", "(LPostChain$Machine;LPostChain$Word;LPostChain$Box;)V"⟩, 2), (⟨"PostChain$Way", "pass", "(LPostChain$Word;III)V"⟩, 2), (⟨"PostChain$Way", "copySymbols", "(LPostChain$Word;II)V"⟩, 2), (⟨"PostChain$Way", "passShorter", "(LPostChain$Box;)V"⟩, 2), (⟨"PostChain", "spellLaid", "()V"⟩, 9), (⟨"PostChain$Hunt", "keep", "(IILPostChain$Domino;)V"⟩, 8), (⟨"PostChain$Hunt", "openOr", "(LPostChain$Word;I)C"⟩, 8), (⟨"PostChain$Hunt", "goOn", "(ILPostChain$Box;)V"⟩, 8), (⟨"PostChain$Hunt", "fits", "(LPostChain$Domino;)Z"⟩, 8)]
theorem lw_r1 : ∀ q ∈ lw_privs_1, lw_okq q := List.forall_mem_cons.mpr ⟨lw_p0, List.forall_mem_cons.mpr ⟨lw_p1, List.forall_mem_cons.mpr ⟨lw_p2, List.forall_mem_cons.mpr ⟨lw_p3, List.forall_mem_cons.mpr ⟨lw_p4, List.forall_mem_cons.mpr ⟨lw_p5, List.forall_mem_cons.mpr ⟨lw_p6, List.forall_mem_cons.mpr ⟨lw_p7, List.forall_mem_cons.mpr ⟨lw_p8, List.forall_mem_cons.mpr ⟨lw_p9, List.forall_mem_cons.mpr ⟨lw_p10, List.forall_mem_cons.mpr ⟨lw_p11, List.forall_mem_cons.mpr ⟨lw_p12, List.forall_mem_cons.mpr ⟨lw_p13, List.forall_mem_cons.mpr ⟨lw_p14, List.forall_mem_cons.mpr ⟨lw_p15, fun _ h => absurd h List.not_mem_nil⟩⟩⟩⟩⟩⟩⟩⟩⟩⟩⟩⟩⟩⟩⟩⟩
theorem lw_p16 : lw_okq (⟨"java/lang/Throwable", "fillInStackTrace", "(I)Ljava/lang/Throwable;"⟩, 6) := ⟨⟨by decide +kernel, by decide +kernel⟩, List.mem_of_getElem? (i := 691) (by decide +kernel), List.mem_of_getElem? (i := 689) (by decide +kernel), List.mem_of_getElem? (i := 690) (by decide +kernel)⟩
theorem lw_p17 : lw_okq (⟨"PostChainModel", "change", "()V"⟩, 33) := ⟨⟨by decide +kernel, by decide +kernel⟩, List.mem_of_getElem? (i := 793) (by decide +kernel), List.mem_of_getElem? (i := 799) (by decide +kernel), List.mem_of_getElem? (i := 800) (by decide +kernel)⟩
theorem lw_p18 : lw_okq (⟨"PostChainModel", "step", "(I)Z"⟩, 33) := ⟨⟨by decide +kernel, by decide +kernel⟩, List.mem_of_getElem? (i := 793) (by decide +kernel), List.mem_of_getElem? (i := 803) (by decide +kernel), List.mem_of_getElem? (i := 804) (by decide +kernel)⟩
theorem lw_p19 : lw_okq (⟨"PostChainModel", "ruleOf", "(I)I"⟩, 33) := ⟨⟨by decide +kernel, by decide +kernel⟩, List.mem_of_getElem? (i := 793) (by decide +kernel), List.mem_of_getElem? (i := 807) (by decide +kernel), List.mem_of_getElem? (i := 808) (by decide +kernel)⟩
theorem lw_p20 : lw_okq (⟨"PostChainModel", "head", "(I)I"⟩, 33) := ⟨⟨by decide +kernel, by decide +kernel⟩, List.mem_of_getElem? (i := 793) (by decide +kernel), List.mem_of_getElem? (i := 811) (by decide +kernel), List.mem_of_getElem? (i := 812) (by decide +kernel)⟩
theorem lw_p21 : lw_okq (⟨"PostChainModel", "makeDominoes", "()V"⟩, 33) := ⟨⟨by decide +kernel, by decide +kernel⟩, List.mem_of_getElem? (i := 793) (by decide +kernel), List.mem_of_getElem? (i := 821) (by decide +kernel), List.mem_of_getElem? (i := 822) (by decide +kernel)⟩
theorem lw_p22 : lw_okq (⟨"PostChainModel", "addUpper", "(I)V"⟩, 33) := ⟨⟨by decide +kernel, by decide +kernel⟩, List.mem_of_getElem? (i := 793) (by decide +kernel), List.mem_of_getElem? (i := 825) (by decide +kernel), List.mem_of_getElem? (i := 826) (by decide +kernel)⟩
theorem lw_p23 : lw_okq (⟨"PostChainModel", "addLower", "(I)V"⟩, 33) := ⟨⟨by decide +kernel, by decide +kernel⟩, List.mem_of_getElem? (i := 793) (by decide +kernel), List.mem_of_getElem? (i := 829) (by decide +kernel), List.mem_of_getElem? (i := 830) (by decide +kernel)⟩
theorem lw_p24 : lw_okq (⟨"PostChainModel", "make", "(IIIIIII)V"⟩, 33) := ⟨⟨by decide +kernel, by decide +kernel⟩, List.mem_of_getElem? (i := 793) (by decide +kernel), List.mem_of_getElem? (i := 833) (by decide +kernel), List.mem_of_getElem? (i := 834) (by decide +kernel)⟩
theorem lw_p25 : lw_okq (⟨"PostChainModel", "makeRule", "(II)V"⟩, 33) := ⟨⟨by decide +kernel, by decide +kernel⟩, List.mem_of_getElem? (i := 793) (by decide +kernel), List.mem_of_getElem? (i := 837) (by decide +kernel), List.mem_of_getElem? (i := 838) (by decide +kernel)⟩
theorem lw_p26 : lw_okq (⟨"PostChainModel", "halted", "()Z"⟩, 33) := ⟨⟨by decide +kernel, by decide +kernel⟩, List.mem_of_getElem? (i := 793) (by decide +kernel), List.mem_of_getElem? (i := 841) (by decide +kernel), List.mem_of_getElem? (i := 842) (by decide +kernel)⟩
theorem lw_p27 : lw_okq (⟨"PostChainModel", "makeWay", "()V"⟩, 33) := ⟨⟨by decide +kernel, by decide +kernel⟩, List.mem_of_getElem? (i := 793) (by decide +kernel), List.mem_of_getElem? (i := 845) (by decide +kernel), List.mem_of_getElem? (i := 846) (by decide +kernel)⟩
theorem lw_p28 : lw_okq (⟨"PostChainModel", "goOn", "(I)V"⟩, 33) := ⟨⟨by decide +kernel, by decide +kernel⟩, List.mem_of_getElem? (i := 793) (by decide +kernel), List.mem_of_getElem? (i := 849) (by decide +kernel), List.mem_of_getElem? (i := 850) (by decide +kernel)⟩
theorem lw_p29 : lw_okq (⟨"PostChainModel", "wayStep", "(I)V"⟩, 33) := ⟨⟨by decide +kernel, by decide +kernel⟩, List.mem_of_getElem? (i := 793) (by decide +kernel), List.mem_of_getElem? (i := 853) (by decide +kernel), List.mem_of_getElem? (i := 854) (by decide +kernel)⟩
theorem lw_p30 : lw_okq (⟨"PostChainModel", "find", "(III)I"⟩, 33) := ⟨⟨by decide +kernel, by decide +kernel⟩, List.mem_of_getElem? (i := 793) (by decide +kernel), List.mem_of_getElem? (i := 857) (by decide +kernel), List.mem_of_getElem? (i := 858) (by decide +kernel)⟩
theorem lw_p31 : lw_okq (⟨"PostChainModel", "kind", "()I"⟩, 33) := ⟨⟨by decide +kernel, by decide +kernel⟩, List.mem_of_getElem? (i := 793) (by decide +kernel), List.mem_of_getElem? (i := 1020) (by decide +kernel), List.mem_of_getElem? (i := 1021) (by decide +kernel)⟩
def lw_privs_2 : List (MethodName × Nat) := [(⟨"java/lang/Throwable", "fillInStackTrace", "(I)Ljava/lang/Throwable;"⟩, 6), (⟨"PostChainModel", "change", "()V"⟩, 33), (⟨"PostChainModel", "step", "(I)Z"⟩, 33), (⟨"PostChainModel", "ruleOf", "(I)I"⟩, 33), (⟨"PostChainModel", "head", "(I)I"⟩, 33), (⟨"PostChainModel", "makeDominoes", "()V"⟩, 33), (⟨"PostChainModel", "addUpper", "(I)V"⟩, 33), (⟨"PostChainModel", "addLower", "(I)V"⟩, 33), (⟨"PostChainModel", "make", "(IIIIIII)V"⟩, 33), (⟨"PostChainModel", "makeRule", "(II)V"⟩, 33), (⟨"PostChainModel", "halted", "()Z"⟩, 33), (⟨"PostChainModel", "makeWay", "()V"⟩, 33), (⟨"PostChainModel", "goOn", "(I)V"⟩, 33), (⟨"PostChainModel", "wayStep", "(I)V"⟩, 33), (⟨"PostChainModel", "find", "(III)I"⟩, 33), (⟨"PostChainModel", "kind", "()I"⟩, 33)]
theorem lw_r2 : ∀ q ∈ lw_privs_2, lw_okq q := List.forall_mem_cons.mpr ⟨lw_p16, List.forall_mem_cons.mpr ⟨lw_p17, List.forall_mem_cons.mpr ⟨lw_p18, List.forall_mem_cons.mpr ⟨lw_p19, List.forall_mem_cons.mpr ⟨lw_p20, List.forall_mem_cons.mpr ⟨lw_p21, List.forall_mem_cons.mpr ⟨lw_p22, List.forall_mem_cons.mpr ⟨lw_p23, List.forall_mem_cons.mpr ⟨lw_p24, List.forall_mem_cons.mpr ⟨lw_p25, List.forall_mem_cons.mpr ⟨lw_p26, List.forall_mem_cons.mpr ⟨lw_p27, List.forall_mem_cons.mpr ⟨lw_p28, List.forall_mem_cons.mpr ⟨lw_p29, List.forall_mem_cons.mpr ⟨lw_p30, List.forall_mem_cons.mpr ⟨lw_p31, fun _ h => absurd h List.not_mem_nil⟩⟩⟩⟩⟩⟩⟩⟩⟩⟩⟩⟩⟩⟩⟩⟩
theorem lw_p32 : lw_okq (⟨"PostChainModel", "word", "(Z)I"⟩, 33) := ⟨⟨by decide +kernel, by decide +kernel⟩, List.mem_of_getElem? (i := 793) (by decide +kernel), List.mem_of_getElem? (i := 1024) (by decide +kernel), List.mem_of_getElem? (i := 1025) (by decide +kernel)⟩
theorem lw_p33 : lw_okq (⟨"PostChainModel", "join", "(II)V"⟩, 33) := ⟨⟨by decide +kernel, by decide +kernel⟩, List.mem_of_getElem? (i := 793) (by decide +kernel), List.mem_of_getElem? (i := 1044) (by decide +kernel), List.mem_of_getElem? (i := 1045) (by decide +kernel)⟩
theorem lw_p34 : lw_okq (⟨"PostChainModel", "take", "(I)V"⟩, 33) := ⟨⟨by decide +kernel, by decide +kernel⟩, List.mem_of_getElem? (i := 793) (by decide +kernel), List.mem_of_getElem? (i := 1048) (by decide +kernel), List.mem_of_getElem? (i := 1049) (by decide +kernel)⟩
def lw_privs_3 : List (MethodName × Nat) := [(⟨"PostChainModel", "word", "(Z)I"⟩, 33), (⟨"PostChainModel", "join", "(II)V"⟩, 33), (⟨"PostChainModel", "take", "(I)V"⟩, 33)]
theorem lw_r3 : ∀ q ∈ lw_privs_3, lw_okq q := List.forall_mem_cons.mpr ⟨lw_p32, List.forall_mem_cons.mpr ⟨lw_p33, List.forall_mem_cons.mpr ⟨lw_p34, fun _ h => absurd h List.not_mem_nil⟩⟩⟩
def lw_privs : List (MethodName × Nat) := lw_privs_1 ++ (lw_privs_2 ++ (lw_privs_3))
def lw_tbl : List Cond := k2_sels lw_privs ++ tables_1
theorem lw_privs_ok : ∀ q ∈ lw_privs, lw_okq q := by
  show ∀ q ∈ lw_privs_1 ++ (lw_privs_2 ++ (lw_privs_3)), lw_okq q
  exact List.forall_mem_append.mpr ⟨lw_r1, List.forall_mem_append.mpr ⟨lw_r2, lw_r3⟩⟩
end
section
def R_Word : String := "PostChain$Word"
def T_Word : u_T := fun k => match k with
  | 0 => ("PostChain$Word", "characters", "[C", true)
  | _ => ("PostChain$Word", "length", "I", false)
def t_Word : Nat → FieldType := fun k => match k with
  | 0 => (.array .char)
  | _ => .int
theorem n_Word : ∀ a, a < 2 → ∀ b, b < 2 → a ≠ b → (T_Word a).2.1 ≠ (T_Word b).2.1 := by decide +kernel
theorem t_Word_ok : ∀ k, k < 2 → parseFieldDescriptor (T_Word k).2.2.1 = some (t_Word k) := by decide +kernel
def R_Row : String := "PostChain$Row"
def T_Row : u_T := fun k => match k with
  | 0 => ("PostChain$Row", "numbers", "[I", true)
  | _ => ("PostChain$Row", "length", "I", false)
def t_Row : Nat → FieldType := fun k => match k with
  | 0 => (.array .int)
  | _ => .int
theorem n_Row : ∀ a, a < 2 → ∀ b, b < 2 → a ≠ b → (T_Row a).2.1 ≠ (T_Row b).2.1 := by decide +kernel
theorem t_Row_ok : ∀ k, k < 2 → parseFieldDescriptor (T_Row k).2.2.1 = some (t_Row k) := by decide +kernel
def R_Machine : String := "PostChain$Machine"
def T_Machine : u_T := fun k => match k with
  | 0 => ("PostChain$Machine", "known", "[Z", true)
  | 1 => ("PostChain$Machine", "right", "[Z", true)
  | 2 => ("PostChain$Machine", "write", "[I", true)
  | 3 => ("PostChain$Machine", "next", "[I", true)
  | _ => ("PostChain$Machine", "first", "LPostChain$Word;", true)
def t_Machine : Nat → FieldType := fun k => match k with
  | 0 => (.array .boolean)
  | 1 => (.array .boolean)
  | 2 => (.array .int)
  | 3 => (.array .int)
  | _ => (.object "PostChain$Word")
theorem n_Machine : ∀ a, a < 5 → ∀ b, b < 5 → a ≠ b → (T_Machine a).2.1 ≠ (T_Machine b).2.1 := by decide +kernel
theorem t_Machine_ok : ∀ k, k < 5 → parseFieldDescriptor (T_Machine k).2.2.1 = some (t_Machine k) := by decide +kernel
def R_Run : String := "PostChain$Run"
def T_Run : u_T := fun k => match k with
  | 0 => ("PostChain$Run", "texts", "[LPostChain$Word;", true)
  | _ => ("PostChain$Run", "last", "I", false)
def t_Run : Nat → FieldType := fun k => match k with
  | 0 => (.array (.object "PostChain$Word"))
  | _ => .int
theorem n_Run : ∀ a, a < 2 → ∀ b, b < 2 → a ≠ b → (T_Run a).2.1 ≠ (T_Run b).2.1 := by decide +kernel
theorem t_Run_ok : ∀ k, k < 2 → parseFieldDescriptor (T_Run k).2.2.1 = some (t_Run k) := by decide +kernel
def R_Domino : String := "PostChain$Domino"
def T_Domino : u_T := fun k => match k with
  | 0 => ("PostChain$Domino", "upper", "LPostChain$Word;", true)
  | _ => ("PostChain$Domino", "lower", "LPostChain$Word;", true)
def t_Domino : Nat → FieldType := fun k => match k with
  | 0 => (.object "PostChain$Word")
  | _ => (.object "PostChain$Word")
theorem n_Domino : ∀ a, a < 2 → ∀ b, b < 2 → a ≠ b → (T_Domino a).2.1 ≠ (T_Domino b).2.1 := by decide +kernel
theorem t_Domino_ok : ∀ k, k < 2 → parseFieldDescriptor (T_Domino k).2.2.1 = some (t_Domino k) := by decide +kernel
def R_Box : String := "PostChain$Box"
def T_Box : u_T := fun k => match k with
  | 0 => ("PostChain$Box", "pieces", "[LPostChain$Domino;", true)
  | 1 => ("PostChain$Box", "firstOfRule", "[I", true)
  | _ => ("PostChain$Box", "count", "I", false)
def t_Box : Nat → FieldType := fun k => match k with
  | 0 => (.array (.object "PostChain$Domino"))
  | 1 => (.array .int)
  | _ => .int
theorem n_Box : ∀ a, a < 3 → ∀ b, b < 3 → a ≠ b → (T_Box a).2.1 ≠ (T_Box b).2.1 := by decide +kernel
theorem t_Box_ok : ∀ k, k < 3 → parseFieldDescriptor (T_Box k).2.2.1 = some (t_Box k) := by decide +kernel
def R_Way : String := "PostChain$Way"
def T_Way : u_T := fun k => match k with
  | 0 => ("PostChain$Way", "passes", "LPostChain$Row;", true)
  | _ => ("PostChain$Way", "rest", "LPostChain$Word;", true)
def t_Way : Nat → FieldType := fun k => match k with
  | 0 => (.object "PostChain$Row")
  | _ => (.object "PostChain$Word")
theorem n_Way : ∀ a, a < 2 → ∀ b, b < 2 → a ≠ b → (T_Way a).2.1 ≠ (T_Way b).2.1 := by decide +kernel
theorem t_Way_ok : ∀ k, k < 2 → parseFieldDescriptor (T_Way k).2.2.1 = some (t_Way k) := by decide +kernel
def R_Hunt : String := "PostChain$Hunt"
def T_Hunt : u_T := fun k => match k with
  | 0 => ("PostChain$Hunt", "from", "[I", true)
  | 1 => ("PostChain$Hunt", "last", "[I", true)
  | 2 => ("PostChain$Hunt", "size", "[I", true)
  | 3 => ("PostChain$Hunt", "ahead", "[I", true)
  | 4 => ("PostChain$Hunt", "more", "[C", true)
  | 5 => ("PostChain$Hunt", "open", "LPostChain$Word;", true)
  | 6 => ("PostChain$Hunt", "count", "I", false)
  | _ => ("PostChain$Hunt", "lookedAt", "I", false)
def t_Hunt : Nat → FieldType := fun k => match k with
  | 0 => (.array .int)
  | 1 => (.array .int)
  | 2 => (.array .int)
  | 3 => (.array .int)
  | 4 => (.array .char)
  | 5 => (.object "PostChain$Word")
  | 6 => .int
  | _ => .int
theorem n_Hunt : ∀ a, a < 8 → ∀ b, b < 8 → a ≠ b → (T_Hunt a).2.1 ≠ (T_Hunt b).2.1 := by decide +kernel
theorem t_Hunt_ok : ∀ k, k < 8 → parseFieldDescriptor (T_Hunt k).2.2.1 = some (t_Hunt k) := by decide +kernel
def R_PC : String := "PostChain"
def T_PC : u_T := fun k => match k with
  | 0 => ("PostChain", "machine", "LPostChain$Machine;", true)
  | 1 => ("PostChain", "configurations", "LPostChain$Run;", true)
  | 2 => ("PostChain", "box", "LPostChain$Box;", true)
  | 3 => ("PostChain", "wayOfRun", "LPostChain$Way;", true)
  | 4 => ("PostChain", "hunt", "LPostChain$Hunt;", true)
  | 5 => ("PostChain", "laid", "LPostChain$Row;", true)
  | 6 => ("PostChain", "typed", "LPostChain$Word;", true)
  | 7 => ("PostChain", "upperWord", "LPostChain$Word;", true)
  | _ => ("PostChain", "lowerWord", "LPostChain$Word;", true)
def t_PC : Nat → FieldType := fun k => match k with
  | 0 => (.object "PostChain$Machine")
  | 1 => (.object "PostChain$Run")
  | 2 => (.object "PostChain$Box")
  | 3 => (.object "PostChain$Way")
  | 4 => (.object "PostChain$Hunt")
  | 5 => (.object "PostChain$Row")
  | 6 => (.object "PostChain$Word")
  | 7 => (.object "PostChain$Word")
  | _ => (.object "PostChain$Word")
theorem n_PC : ∀ a, a < 9 → ∀ b, b < 9 → a ≠ b → (T_PC a).2.1 ≠ (T_PC b).2.1 := by decide +kernel
theorem t_PC_ok : ∀ k, k < 9 → parseFieldDescriptor (T_PC k).2.2.1 = some (t_PC k) := by decide +kernel
def R_Mo : String := "PostChainModel"
def T_Mo : u_T := fun k => match k with
  | 0 => ("PostChainModel", "thrown", "I", false)
  | 1 => ("PostChainModel", "has", "[Z", false)
  | 2 => ("PostChainModel", "writes", "[I", false)
  | 3 => ("PostChainModel", "right", "[Z", false)
  | 4 => ("PostChainModel", "next", "[I", false)
  | 5 => ("PostChainModel", "inputs", "I", false)
  | 6 => ("PostChainModel", "input", "[I", false)
  | 7 => ("PostChainModel", "steps", "I", false)
  | 8 => ("PostChainModel", "size", "[I", false)
  | 9 => ("PostChainModel", "text", "[I", false)
  | 10 => ("PostChainModel", "dominoes", "I", false)
  | 11 => ("PostChainModel", "upperSize", "[I", false)
  | 12 => ("PostChainModel", "upper", "[I", false)
  | 13 => ("PostChainModel", "lowerSize", "[I", false)
  | 14 => ("PostChainModel", "lower", "[I", false)
  | 15 => ("PostChainModel", "ways", "I", false)
  | 16 => ("PostChainModel", "way", "[I", false)
  | 17 => ("PostChainModel", "laid", "I", false)
  | 18 => ("PostChainModel", "tray", "[I", false)
  | 19 => ("PostChainModel", "typed", "I", false)
  | 20 => ("PostChainModel", "typing", "[I", false)
  | 21 => ("PostChainModel", "upperWord", "[I", false)
  | 22 => ("PostChainModel", "lowerWord", "[I", false)
  | 23 => ("PostChainModel", "looked", "I", false)
  | 24 => ("PostChainModel", "waiting", "I", false)
  | 25 => ("PostChainModel", "from", "[I", false)
  | 26 => ("PostChainModel", "last", "[I", false)
  | 27 => ("PostChainModel", "depth", "[I", false)
  | 28 => ("PostChainModel", "side", "[I", false)
  | 29 => ("PostChainModel", "over", "[I", false)
  | 30 => ("PostChainModel", "rest", "[I", false)
  | 31 => ("PostChainModel", "joinUpper", "[I", false)
  | _ => ("PostChainModel", "joinLower", "[I", false)
def t_Mo : Nat → FieldType := fun k => match k with
  | 0 => .int
  | 1 => (.array .boolean)
  | 2 => (.array .int)
  | 3 => (.array .boolean)
  | 4 => (.array .int)
  | 5 => .int
  | 6 => (.array .int)
  | 7 => .int
  | 8 => (.array .int)
  | 9 => (.array .int)
  | 10 => .int
  | 11 => (.array .int)
  | 12 => (.array .int)
  | 13 => (.array .int)
  | 14 => (.array .int)
  | 15 => .int
  | 16 => (.array .int)
  | 17 => .int
  | 18 => (.array .int)
  | 19 => .int
  | 20 => (.array .int)
  | 21 => (.array .int)
  | 22 => (.array .int)
  | 23 => .int
  | 24 => .int
  | 25 => (.array .int)
  | 26 => (.array .int)
  | 27 => (.array .int)
  | 28 => (.array .int)
  | 29 => (.array .int)
  | 30 => (.array .int)
  | 31 => (.array .int)
  | _ => (.array .int)
theorem n_Mo : ∀ a, a < 33 → ∀ b, b < 33 → a ≠ b → (T_Mo a).2.1 ≠ (T_Mo b).2.1 := by decide +kernel
theorem t_Mo_ok : ∀ k, k < 33 → parseFieldDescriptor (T_Mo k).2.2.1 = some (t_Mo k) := by decide +kernel
/-- the classes whose objects the worlds hold: an object names its class by its place here -/
def gx_cl : List vw_C := [(R_Word, T_Word, 2), (R_Row, T_Row, 2), (R_Machine, T_Machine, 5), (R_Run, T_Run, 2), (R_Domino, T_Domino, 2), (R_Box, T_Box, 3), (R_Way, T_Way, 2), (R_Hunt, T_Hunt, 8), (R_PC, T_PC, 9), (R_Mo, T_Mo, 33)]
def gx_nf : List (String × Nat × String × String × String × String) := [("PostChain$Box", 84, "PostChain$Machine", "known", "[Z", "PostChain"), ("PostChain$Way", 74, "PostChain$Machine", "right", "[Z", "PostChain"), ("PostChain$Box", 88, "PostChain$Machine", "right", "[Z", "PostChain"), ("PostChain$Box", 101, "PostChain$Machine", "write", "[I", "PostChain"), ("PostChain$Box", 104, "PostChain$Machine", "next", "[I", "PostChain"), ("PostChain$Run", 48, "PostChain$Machine", "first", "LPostChain$Word;", "PostChain"), ("PostChain$Box", 47, "PostChain$Machine", "first", "LPostChain$Word;", "PostChain"), ("PostChain$Box", 34, "PostChain$Domino", "upper", "LPostChain$Word;", "PostChain"), ("PostChain$Hunt", 83, "PostChain$Domino", "upper", "LPostChain$Word;", "PostChain"), ("PostChain", 128, "PostChain$Domino", "upper", "LPostChain$Word;", "PostChain"), ("PostChain$Box", 44, "PostChain$Domino", "lower", "LPostChain$Word;", "PostChain"), ("PostChain$Hunt", 89, "PostChain$Domino", "lower", "LPostChain$Word;", "PostChain"), ("PostChain", 133, "PostChain$Domino", "lower", "LPostChain$Word;", "PostChain")]
def gx_nm : List (String × Nat × MethodName × String) := [("PostChain$Machine", 34, ⟨"PostChain", "letter", "(I)C"⟩, "PostChain"), ("PostChain$Box", 21, ⟨"PostChain$Domino", "<init>", "()V"⟩, "PostChain"), ("PostChain", 32, ⟨"PostChain$Way", "<init>", "()V"⟩, "PostChain"), ("PostChain", 39, ⟨"PostChain$Hunt", "<init>", "()V"⟩, "PostChain"), ("PostChain$Machine", 64, ⟨"PostChain", "symbolOf", "(C)I"⟩, "PostChain"), ("PostChain$Machine", 68, ⟨"PostChain", "isState", "(I)Z"⟩, "PostChain"), ("PostChain$Machine", 72, ⟨"PostChain", "isSymbol", "(I)Z"⟩, "PostChain"), ("PostChain$Machine", 75, ⟨"PostChain", "ruleNumber", "(II)I"⟩, "PostChain"), ("PostChain$Machine", 45, ⟨"PostChain", "digit", "(I)C"⟩, "PostChain"), ("PostChain$Box", 64, ⟨"PostChain", "digit", "(I)C"⟩, "PostChain"), ("PostChain$Box", 98, ⟨"PostChain", "letter", "(I)C"⟩, "PostChain"), ("PostChain$Run", 45, ⟨"PostChain", "letter", "(I)C"⟩, "PostChain"), ("PostChain$Way", 82, ⟨"PostChain", "symbolOf", "(C)I"⟩, "PostChain")]
end
section
/-! what the tables say of links, in words of mine -/
/-- a method: its name, its bytes, its locals, what it returns -/
abbrev gx_M : Type := MethodName × ByteArray × Nat × Option FieldType
def gx_T : List Cond := lw_tbl.filter goodWord
theorem gx_T_in {w : Cond} (h : w ∈ lw_tbl) (hg : goodWord w = true) : w ∈ gx_T := List.mem_filter.mpr ⟨h, hg⟩
theorem gx_T_good {w : Cond} (h : w ∈ gx_T) : (w.onTables && w.keeps) = true ∨ ∃ ty, w = .arrayClass ty := good_of_word (List.mem_filter.mp h).2
def gx_fl (own : String) (idx ci k : Nat) : Prop := ∃ (C : String) (T : u_T) (n : Nat), gx_cl[ci]? = some (C, T, n) ∧ k < n ∧ (∀ w ∈ u_ws C T n, w ∈ gx_T) ∧ (Cond.fieldLink own idx (T k).1 (T k).2.1 (T k).2.2.1 ∈ gx_T ∨ ∃ host, (own, idx, (T k).1, (T k).2.1, (T k).2.2.1, host) ∈ gx_nf)
def gx_fp (own : String) (idx ci k : Nat) (fin : Bool) (ty : FieldType) : Prop := ∃ (C : String) (T : u_T) (n : Nat) (ty0 : Nat → FieldType), gx_cl[ci]? = some (C, T, n) ∧ k < n ∧ (∀ w ∈ u_ws C T n, w ∈ gx_T) ∧ Cond.fieldLink own idx (T k).1 (T k).2.1 (T k).2.2.1 ∈ gx_T ∧ (∀ k, k < n → parseFieldDescriptor (T k).2.2.1 = some (ty0 k)) ∧ (∀ a, a < n → ∀ b, b < n → a ≠ b → (T a).2.1 ≠ (T b).2.1) ∧ (T k).2.2.2 = fin ∧ (T k).1 = own ∧ parseFieldDescriptor (T k).2.2.1 = some ty
def gx_cs (Mc : gx_M) : Prop := Cond.code Mc.1 Mc.2.1 Mc.2.2.1 Mc.2.2.2 ∈ gx_T ∧ Cond.initialized Mc.1.cls ∈ gx_T ∧ (Mc.1.cls ≠ "java/lang/invoke/MethodHandle" ∧ Mc.1.cls ≠ "java/lang/invoke/VarHandle") ∧ Mc.2.2.1 ≤ 13
def gx_ln (own : String) (idx : Nat) (Mc : gx_M) : Prop := Cond.methodLink own idx Mc.1 ∈ gx_T ∨ ∃ host, (own, idx, Mc.1, host) ∈ gx_nm
def gx_np (Mc : gx_M) (n : Nat) : Prop := (parseMethodDescriptor Mc.1.desc).map (fun d => d.parameters.length) = some n
def gx_lV (own : String) (idx : Nat) (Mc : gx_M) (n ci : Nat) : Prop := gx_cs Mc ∧ gx_ln own idx Mc ∧ gx_np Mc n ∧ Cond.instanceMethod Mc.1 ∈ gx_T ∧ Cond.selects Mc.1.cls Mc.1 Mc.1 ∈ gx_T ∧ ∃ T k, gx_cl[ci]? = some (Mc.1.cls, T, k)
def gx_lS (own : String) (idx : Nat) (Mc : gx_M) (n : Nat) : Prop := gx_cs Mc ∧ gx_ln own idx Mc ∧ gx_np Mc n ∧ Cond.static Mc.1 ∈ gx_T
def gx_lI (own : String) (idx : Nat) (Mc : gx_M) (n : Nat) : Prop := gx_cs Mc ∧ gx_ln own idx Mc ∧ gx_np Mc n ∧ Cond.instanceMethod Mc.1 ∈ gx_T ∧ Mc.1.name = "<init>" ∧ Mc.2.2.2 = none
def gx_nw (own : String) (idx ci n : Nat) (fs : List Value) : Prop := ∃ (C : String) (T : u_T) (ty : Nat → FieldType), gx_cl[ci]? = some (C, T, n) ∧ (∀ w ∈ u_ws C T n, w ∈ gx_T) ∧ Cond.classLink own idx C ∈ gx_T ∧ Cond.instantiable C n ∈ gx_T ∧ Cond.initialized C ∈ gx_T ∧ (∀ k, k < n → parseFieldDescriptor (T k).2.2.1 = some (ty k)) ∧ ∀ j, j < n → defaultValue (ty j) = vp_V fs j
def gx_lO (own : String) (idx : Nat) : Prop := Cond.methodLink own idx Lib.objectInit ∈ gx_T ∧ Cond.instanceMethod Lib.objectInit ∈ gx_T ∧ Cond.code Lib.objectInit ⟨#[0xb1]⟩ 1 none ∈ gx_T
def gx_lM (own : String) (idx : Nat) (y : MethodName) (cd : ByteArray) : Prop := Cond.methodLink own idx y ∈ gx_T ∧ Cond.static y ∈ gx_T ∧ Cond.initialized "java/lang/Math" ∈ gx_T ∧ Cond.code y cd 2 (some .int) ∈ gx_T
end
section
theorem uc_Word : ∀ w ∈ u_ws R_Word T_Word 2, w ∈ gx_T := by
  intro w hw
  obtain ⟨k, hk, rfl⟩ := List.mem_map.mp hw
  have hk := List.mem_range.mp hk
  rcases (show k = 0 ∨ k = 1 by omega) with rfl | rfl
  · exact gx_T_in (List.mem_append_right _ (show _ ∈ tables_1 from (List.mem_append_left _ (List.mem_of_getElem? (i := 44) (by decide +kernel))))) (by decide +kernel)
  · exact gx_T_in (List.mem_append_right _ (show _ ∈ tables_1 from (List.mem_append_left _ (List.mem_of_getElem? (i := 46) (by decide +kernel))))) (by decide +kernel)
theorem uc_Row : ∀ w ∈ u_ws R_Row T_Row 2, w ∈ gx_T := by
  intro w hw
  obtain ⟨k, hk, rfl⟩ := List.mem_map.mp hw
  have hk := List.mem_range.mp hk
  rcases (show k = 0 ∨ k = 1 by omega) with rfl | rfl
  · exact gx_T_in (List.mem_append_right _ (show _ ∈ tables_1 from (List.mem_append_left _ (List.mem_of_getElem? (i := 150) (by decide +kernel))))) (by decide +kernel)
  · exact gx_T_in (List.mem_append_right _ (show _ ∈ tables_1 from (List.mem_append_left _ (List.mem_of_getElem? (i := 152) (by decide +kernel))))) (by decide +kernel)
theorem uc_Machine : ∀ w ∈ u_ws R_Machine T_Machine 5, w ∈ gx_T := by
  intro w hw
  obtain ⟨k, hk, rfl⟩ := List.mem_map.mp hw
  have hk := List.mem_range.mp hk
  rcases (show k = 0 ∨ k = 1 ∨ k = 2 ∨ k = 3 ∨ k = 4 by omega) with rfl | rfl | rfl | rfl | rfl
  · exact gx_T_in (List.mem_append_right _ (show _ ∈ tables_1 from (List.mem_append_left _ (List.mem_of_getElem? (i := 71) (by decide +kernel))))) (by decide +kernel)
  · exact gx_T_in (List.mem_append_right _ (show _ ∈ tables_1 from (List.mem_append_left _ (List.mem_of_getElem? (i := 73) (by decide +kernel))))) (by decide +kernel)
  · exact gx_T_in (List.mem_append_right _ (show _ ∈ tables_1 from (List.mem_append_left _ (List.mem_of_getElem? (i := 75) (by decide +kernel))))) (by decide +kernel)
  · exact gx_T_in (List.mem_append_right _ (show _ ∈ tables_1 from (List.mem_append_left _ (List.mem_of_getElem? (i := 77) (by decide +kernel))))) (by decide +kernel)
  · exact gx_T_in (List.mem_append_right _ (show _ ∈ tables_1 from (List.mem_append_left _ (List.mem_of_getElem? (i := 79) (by decide +kernel))))) (by decide +kernel)
theorem uc_Run : ∀ w ∈ u_ws R_Run T_Run 2, w ∈ gx_T := by
  intro w hw
  obtain ⟨k, hk, rfl⟩ := List.mem_map.mp hw
  have hk := List.mem_range.mp hk
  rcases (show k = 0 ∨ k = 1 by omega) with rfl | rfl
  · exact gx_T_in (List.mem_append_right _ (show _ ∈ tables_1 from (List.mem_append_left _ (List.mem_of_getElem? (i := 93) (by decide +kernel))))) (by decide +kernel)
  · exact gx_T_in (List.mem_append_right _ (show _ ∈ tables_1 from (List.mem_append_left _ (List.mem_of_getElem? (i := 95) (by decide +kernel))))) (by decide +kernel)
theorem uc_Domino : ∀ w ∈ u_ws R_Domino T_Domino 2, w ∈ gx_T := by
  intro w hw
  obtain ⟨k, hk, rfl⟩ := List.mem_map.mp hw
  have hk := List.mem_range.mp hk
  rcases (show k = 0 ∨ k = 1 by omega) with rfl | rfl
  · exact gx_T_in (List.mem_append_right _ (show _ ∈ tables_1 from (List.mem_append_left _ (List.mem_of_getElem? (i := 121) (by decide +kernel))))) (by decide +kernel)
  · exact gx_T_in (List.mem_append_right _ (show _ ∈ tables_1 from (List.mem_append_left _ (List.mem_of_getElem? (i := 123) (by decide +kernel))))) (by decide +kernel)
theorem uc_Box : ∀ w ∈ u_ws R_Box T_Box 3, w ∈ gx_T := by
  intro w hw
  obtain ⟨k, hk, rfl⟩ := List.mem_map.mp hw
  have hk := List.mem_range.mp hk
  rcases (show k = 0 ∨ k = 1 ∨ k = 2 by omega) with rfl | rfl | rfl
  · exact gx_T_in (List.mem_append_right _ (show _ ∈ tables_1 from (List.mem_append_left _ (List.mem_of_getElem? (i := 129) (by decide +kernel))))) (by decide +kernel)
  · exact gx_T_in (List.mem_append_right _ (show _ ∈ tables_1 from (List.mem_append_left _ (List.mem_of_getElem? (i := 131) (by decide +kernel))))) (by decide +kernel)
  · exact gx_T_in (List.mem_append_right _ (show _ ∈ tables_1 from (List.mem_append_left _ (List.mem_of_getElem? (i := 133) (by decide +kernel))))) (by decide +kernel)
theorem uc_Way : ∀ w ∈ u_ws R_Way T_Way 2, w ∈ gx_T := by
  intro w hw
  obtain ⟨k, hk, rfl⟩ := List.mem_map.mp hw
  have hk := List.mem_range.mp hk
  rcases (show k = 0 ∨ k = 1 by omega) with rfl | rfl
  · exact gx_T_in (List.mem_append_right _ (show _ ∈ tables_1 from (List.mem_append_left _ (List.mem_of_getElem? (i := 159) (by decide +kernel))))) (by decide +kernel)
  · exact gx_T_in (List.mem_append_right _ (show _ ∈ tables_1 from (List.mem_append_left _ (List.mem_of_getElem? (i := 161) (by decide +kernel))))) (by decide +kernel)
theorem uc_Hunt : ∀ w ∈ u_ws R_Hunt T_Hunt 8, w ∈ gx_T := by
  intro w hw
  obtain ⟨k, hk, rfl⟩ := List.mem_map.mp hw
  have hk := List.mem_range.mp hk
  rcases (show k = 0 ∨ k = 1 ∨ k = 2 ∨ k = 3 ∨ k = 4 ∨ k = 5 ∨ k = 6 ∨ k = 7 by omega) with rfl | rfl | rfl | rfl | rfl | rfl | rfl | rfl
  · exact gx_T_in (List.mem_append_right _ (show _ ∈ tables_1 from (List.mem_append_left _ (List.mem_of_getElem? (i := 180) (by decide +kernel))))) (by decide +kernel)
  · exact gx_T_in (List.mem_append_right _ (show _ ∈ tables_1 from (List.mem_append_left _ (List.mem_of_getElem? (i := 182) (by decide +kernel))))) (by decide +kernel)
  · exact gx_T_in (List.mem_append_right _ (show _ ∈ tables_1 from (List.mem_append_left _ (List.mem_of_getElem? (i := 184) (by decide +kernel))))) (by decide +kernel)
  · exact gx_T_in (List.mem_append_right _ (show _ ∈ tables_1 from (List.mem_append_left _ (List.mem_of_getElem? (i := 186) (by decide +kernel))))) (by decide +kernel)
  · exact gx_T_in (List.mem_append_right _ (show _ ∈ tables_1 from (List.mem_append_left _ (List.mem_of_getElem? (i := 188) (by decide +kernel))))) (by decide +kernel)
  · exact gx_T_in (List.mem_append_right _ (show _ ∈ tables_1 from (List.mem_append_left _ (List.mem_of_getElem? (i := 190) (by decide +kernel))))) (by decide +kernel)
  · exact gx_T_in (List.mem_append_right _ (show _ ∈ tables_1 from (List.mem_append_left _ (List.mem_of_getElem? (i := 192) (by decide +kernel))))) (by decide +kernel)
  · exact gx_T_in (List.mem_append_right _ (show _ ∈ tables_1 from (List.mem_append_left _ (List.mem_of_getElem? (i := 194) (by decide +kernel))))) (by decide +kernel)
theorem uc_PC : ∀ w ∈ u_ws R_PC T_PC 9, w ∈ gx_T := by
  intro w hw
  obtain ⟨k, hk, rfl⟩ := List.mem_map.mp hw
  have hk := List.mem_range.mp hk
  rcases (show k = 0 ∨ k = 1 ∨ k = 2 ∨ k = 3 ∨ k = 4 ∨ k = 5 ∨ k = 6 ∨ k = 7 ∨ k = 8 by omega) with rfl | rfl | rfl | rfl | rfl | rfl | rfl | rfl | rfl
  · exact gx_T_in (List.mem_append_right _ (show _ ∈ tables_1 from (List.mem_append_right _ (List.mem_append_left _ (List.mem_of_getElem? (i := 149) (by decide +kernel)))))) (by decide +kernel)
  · exact gx_T_in (List.mem_append_right _ (show _ ∈ tables_1 from (List.mem_append_right _ (List.mem_append_left _ (List.mem_of_getElem? (i := 151) (by decide +kernel)))))) (by decide +kernel)
  · exact gx_T_in (List.mem_append_right _ (show _ ∈ tables_1 from (List.mem_append_right _ (List.mem_append_left _ (List.mem_of_getElem? (i := 153) (by decide +kernel)))))) (by decide +kernel)
  · exact gx_T_in (List.mem_append_right _ (show _ ∈ tables_1 from (List.mem_append_right _ (List.mem_append_left _ (List.mem_of_getElem? (i := 155) (by decide +kernel)))))) (by decide +kernel)
  · exact gx_T_in (List.mem_append_right _ (show _ ∈ tables_1 from (List.mem_append_right _ (List.mem_append_left _ (List.mem_of_getElem? (i := 157) (by decide +kernel)))))) (by decide +kernel)
  · exact gx_T_in (List.mem_append_right _ (show _ ∈ tables_1 from (List.mem_append_right _ (List.mem_append_left _ (List.mem_of_getElem? (i := 159) (by decide +kernel)))))) (by decide +kernel)
  · exact gx_T_in (List.mem_append_right _ (show _ ∈ tables_1 from (List.mem_append_right _ (List.mem_append_left _ (List.mem_of_getElem? (i := 161) (by decide +kernel)))))) (by decide +kernel)
  · exact gx_T_in (List.mem_append_right _ (show _ ∈ tables_1 from (List.mem_append_right _ (List.mem_append_left _ (List.mem_of_getElem? (i := 163) (by decide +kernel)))))) (by decide +kernel)
  · exact gx_T_in (List.mem_append_right _ (show _ ∈ tables_1 from (List.mem_append_right _ (List.mem_append_left _ (List.mem_of_getElem? (i := 165) (by decide +kernel)))))) (by decide +kernel)
theorem uc_Mo : ∀ w ∈ u_ws R_Mo T_Mo 33, w ∈ gx_T := by
  intro w hw
  obtain ⟨k, hk, rfl⟩ := List.mem_map.mp hw
  have hk := List.mem_range.mp hk
  rcases (show k = 0 ∨ k = 1 ∨ k = 2 ∨ k = 3 ∨ k = 4 ∨ k = 5 ∨ k = 6 ∨ k = 7 ∨ k = 8 ∨ k = 9 ∨ k = 10 ∨ k = 11 ∨ k = 12 ∨ k = 13 ∨ k = 14 ∨ k = 15 ∨ k = 16 ∨ k = 17 ∨ k = 18 ∨ k = 19 ∨ k = 20 ∨ k = 21 ∨ k = 22 ∨ k = 23 ∨ k = 24 ∨ k = 25 ∨ k = 26 ∨ k = 27 ∨ k = 28 ∨ k = 29 ∨ k = 30 ∨ k = 31 ∨ k = 32 by omega) with rfl | rfl | rfl | rfl | rfl | rfl | rfl | rfl | rfl | rfl | rfl | rfl | rfl | rfl | rfl | rfl | rfl | rfl | rfl | rfl | rfl | rfl | rfl | rfl | rfl | rfl | rfl | rfl | rfl | rfl | rfl | rfl | rfl
  · exact gx_T_in (List.mem_append_right _ (show _ ∈ tables_1 from (List.mem_append_right _ (List.mem_append_right _ (List.mem_append_right _ (List.mem_append_left _ (List.mem_of_getElem? (i := 173) (by decide +kernel)))))))) (by decide +kernel)
  · exact gx_T_in (List.mem_append_right _ (show _ ∈ tables_1 from (List.mem_append_right _ (List.mem_append_right _ (List.mem_append_right _ (List.mem_append_left _ (List.mem_of_getElem? (i := 175) (by decide +kernel)))))))) (by decide +kernel)
  · exact gx_T_in (List.mem_append_right _ (show _ ∈ tables_1 from (List.mem_append_right _ (List.mem_append_right _ (List.mem_append_right _ (List.mem_append_left _ (List.mem_of_getElem? (i := 177) (by decide +kernel)))))))) (by decide +kernel)
  · exact gx_T_in (List.mem_append_right _ (show _ ∈ tables_1 from (List.mem_append_right _ (List.mem_append_right _ (List.mem_append_right _ (List.mem_append_left _ (List.mem_of_getElem? (i := 179) (by decide +kernel)))))))) (by decide +kernel)
  · exact gx_T_in (List.mem_append_right _ (show _ ∈ tables_1 from (List.mem_append_right _ (List.mem_append_right _ (List.mem_append_right _ (List.mem_append_left _ (List.mem_of_getElem? (i := 181) (by decide +kernel)))))))) (by decide +kernel)
  · exact gx_T_in (List.mem_append_right _ (show _ ∈ tables_1 from (List.mem_append_right _ (List.mem_append_right _ (List.mem_append_right _ (List.mem_append_left _ (List.mem_of_getElem? (i := 183) (by decide +kernel)))))))) (by decide +kernel)
  · exact gx_T_in (List.mem_append_right _ (show _ ∈ tables_1 from (List.mem_append_right _ (List.mem_append_right _ (List.mem_append_right _ (List.mem_append_left _ (List.mem_of_getElem? (i := 185) (by decide +kernel)))))))) (by decide +kernel)
  · exact gx_T_in (List.mem_append_right _ (show _ ∈ tables_1 from (List.mem_append_right _ (List.mem_append_right _ (List.mem_append_right _ (List.mem_append_left _ (List.mem_of_getElem? (i := 187) (by decide +kernel)))))))) (by decide +kernel)
  · exact gx_T_in (List.mem_append_right _ (show _ ∈ tables_1 from (List.mem_append_right _ (List.mem_append_right _ (List.mem_append_right _ (List.mem_append_left _ (List.mem_of_getElem? (i := 189) (by decide +kernel)))))))) (by decide +kernel)
  · exact gx_T_in (List.mem_append_right _ (show _ ∈ tables_1 from (List.mem_append_right _ (List.mem_append_right _ (List.mem_append_right _ (List.mem_append_left _ (List.mem_of_getElem? (i := 191) (by decide +kernel)))))))) (by decide +kernel)
  · exact gx_T_in (List.mem_append_right _ (show _ ∈ tables_1 from (List.mem_append_right _ (List.mem_append_right _ (List.mem_append_right _ (List.mem_append_left _ (List.mem_of_getElem? (i := 193) (by decide +kernel)))))))) (by decide +kernel)
  · exact gx_T_in (List.mem_append_right _ (show _ ∈ tables_1 from (List.mem_append_right _ (List.mem_append_right _ (List.mem_append_right _ (List.mem_append_left _ (List.mem_of_getElem? (i := 195) (by decide +kernel)))))))) (by decide +kernel)
  · exact gx_T_in (List.mem_append_right _ (show _ ∈ tables_1 from (List.mem_append_right _ (List.mem_append_right _ (List.mem_append_right _ (List.mem_append_left _ (List.mem_of_getElem? (i := 197) (by decide +kernel)))))))) (by decide +kernel)
  · exact gx_T_in (List.mem_append_right _ (show _ ∈ tables_1 from (List.mem_append_right _ (List.mem_append_right _ (List.mem_append_right _ (List.mem_append_left _ (List.mem_of_getElem? (i := 199) (by decide +kernel)))))))) (by decide +kernel)
  · exact gx_T_in (List.mem_append_right _ (show _ ∈ tables_1 from (List.mem_append_right _ (List.mem_append_right _ (List.mem_append_right _ (List.mem_append_left _ (List.mem_of_getElem? (i := 201) (by decide +kernel)))))))) (by decide +kernel)
  · exact gx_T_in (List.mem_append_right _ (show _ ∈ tables_1 from (List.mem_append_right _ (List.mem_append_right _ (List.mem_append_right _ (List.mem_append_left _ (List.mem_of_getElem? (i := 203) (by decide +kernel)))))))) (by decide +kernel)
  · exact gx_T_in (List.mem_append_right _ (show _ ∈ tables_1 from (List.mem_append_right _ (List.mem_append_right _ (List.mem_append_right _ (List.mem_append_left _ (List.mem_of_getElem? (i := 205) (by decide +kernel)))))))) (by decide +kernel)
  · exact gx_T_in (List.mem_append_right _ (show _ ∈ tables_1 from (List.mem_append_right _ (List.mem_append_right _ (List.mem_append_right _ (List.mem_append_left _ (List.mem_of_getElem? (i := 207) (by decide +kernel)))))))) (by decide +kernel)
  · exact gx_T_in (List.mem_append_right _ (show _ ∈ tables_1 from (List.mem_append_right _ (List.mem_append_right _ (List.mem_append_right _ (List.mem_append_left _ (List.mem_of_getElem? (i := 209) (by decide +kernel)))))))) (by decide +kernel)
  · exact gx_T_in (List.mem_append_right _ (show _ ∈ tables_1 from (List.mem_append_right _ (List.mem_append_right _ (List.mem_append_right _ (List.mem_append_left _ (List.mem_of_getElem? (i := 211) (by decide +kernel)))))))) (by decide +kernel)
  · exact gx_T_in (List.mem_append_right _ (show _ ∈ tables_1 from (List.mem_append_right _ (List.mem_append_right _ (List.mem_append_right _ (List.mem_append_left _ (List.mem_of_getElem? (i := 213) (by decide +kernel)))))))) (by decide +kernel)
  · exact gx_T_in (List.mem_append_right _ (show _ ∈ tables_1 from (List.mem_append_right _ (List.mem_append_right _ (List.mem_append_right _ (List.mem_append_left _ (List.mem_of_getElem? (i := 215) (by decide +kernel)))))))) (by decide +kernel)
  · exact gx_T_in (List.mem_append_right _ (show _ ∈ tables_1 from (List.mem_append_right _ (List.mem_append_right _ (List.mem_append_right _ (List.mem_append_left _ (List.mem_of_getElem? (i := 217) (by decide +kernel)))))))) (by decide +kernel)
  · exact gx_T_in (List.mem_append_right _ (show _ ∈ tables_1 from (List.mem_append_right _ (List.mem_append_right _ (List.mem_append_right _ (List.mem_append_left _ (List.mem_of_getElem? (i := 219) (by decide +kernel)))))))) (by decide +kernel)
  · exact gx_T_in (List.mem_append_right _ (show _ ∈ tables_1 from (List.mem_append_right _ (List.mem_append_right _ (List.mem_append_right _ (List.mem_append_left _ (List.mem_of_getElem? (i := 221) (by decide +kernel)))))))) (by decide +kernel)
  · exact gx_T_in (List.mem_append_right _ (show _ ∈ tables_1 from (List.mem_append_right _ (List.mem_append_right _ (List.mem_append_right _ (List.mem_append_left _ (List.mem_of_getElem? (i := 223) (by decide +kernel)))))))) (by decide +kernel)
  · exact gx_T_in (List.mem_append_right _ (show _ ∈ tables_1 from (List.mem_append_right _ (List.mem_append_right _ (List.mem_append_right _ (List.mem_append_left _ (List.mem_of_getElem? (i := 225) (by decide +kernel)))))))) (by decide +kernel)
  · exact gx_T_in (List.mem_append_right _ (show _ ∈ tables_1 from (List.mem_append_right _ (List.mem_append_right _ (List.mem_append_right _ (List.mem_append_left _ (List.mem_of_getElem? (i := 227) (by decide +kernel)))))))) (by decide +kernel)
  · exact gx_T_in (List.mem_append_right _ (show _ ∈ tables_1 from (List.mem_append_right _ (List.mem_append_right _ (List.mem_append_right _ (List.mem_append_left _ (List.mem_of_getElem? (i := 229) (by decide +kernel)))))))) (by decide +kernel)
  · exact gx_T_in (List.mem_append_right _ (show _ ∈ tables_1 from (List.mem_append_right _ (List.mem_append_right _ (List.mem_append_right _ (List.mem_append_left _ (List.mem_of_getElem? (i := 231) (by decide +kernel)))))))) (by decide +kernel)
  · exact gx_T_in (List.mem_append_right _ (show _ ∈ tables_1 from (List.mem_append_right _ (List.mem_append_right _ (List.mem_append_right _ (List.mem_append_left _ (List.mem_of_getElem? (i := 233) (by decide +kernel)))))))) (by decide +kernel)
  · exact gx_T_in (List.mem_append_right _ (show _ ∈ tables_1 from (List.mem_append_right _ (List.mem_append_right _ (List.mem_append_right _ (List.mem_append_left _ (List.mem_of_getElem? (i := 235) (by decide +kernel)))))))) (by decide +kernel)
  · exact gx_T_in (List.mem_append_right _ (show _ ∈ tables_1 from (List.mem_append_right _ (List.mem_append_right _ (List.mem_append_right _ (List.mem_append_left _ (List.mem_of_getElem? (i := 237) (by decide +kernel)))))))) (by decide +kernel)
theorem ac_int : Cond.arrayClass .int ∈ gx_T := gx_T_in (List.mem_append_right _ (show _ ∈ tables_1 from (List.mem_append_left _ (List.mem_of_getElem? (i := 50) (by decide +kernel))))) (by decide +kernel)
theorem ac_char : Cond.arrayClass .char ∈ gx_T := gx_T_in (List.mem_append_right _ (show _ ∈ tables_1 from (List.mem_append_left _ (List.mem_of_getElem? (i := 51) (by decide +kernel))))) (by decide +kernel)
theorem ac_boolean : Cond.arrayClass .boolean ∈ gx_T := gx_T_in (List.mem_append_right _ (show _ ∈ tables_1 from (List.mem_append_left _ (List.mem_of_getElem? (i := 49) (by decide +kernel))))) (by decide +kernel)
theorem ac_long : Cond.arrayClass .long ∈ gx_T := gx_T_in (List.mem_append_right _ (show _ ∈ tables_1 from (List.mem_append_right _ (List.mem_append_right _ (List.mem_append_right _ (List.mem_append_right _ (List.mem_of_getElem? (i := 96) (by decide +kernel)))))))) (by decide +kernel)
theorem in_Word : Cond.initialized "PostChain$Word" ∈ gx_T := gx_T_in (List.mem_append_right _ (show _ ∈ tables_1 from (List.mem_append_left _ (List.mem_of_getElem? (i := 3) (by decide +kernel))))) (by decide +kernel)
theorem in_Row : Cond.initialized "PostChain$Row" ∈ gx_T := gx_T_in (List.mem_append_right _ (show _ ∈ tables_1 from (List.mem_append_left _ (List.mem_of_getElem? (i := 8) (by decide +kernel))))) (by decide +kernel)
theorem in_Machine : Cond.initialized "PostChain$Machine" ∈ gx_T := gx_T_in (List.mem_append_right _ (show _ ∈ tables_1 from (List.mem_append_left _ (List.mem_of_getElem? (i := 2) (by decide +kernel))))) (by decide +kernel)
theorem in_Run : Cond.initialized "PostChain$Run" ∈ gx_T := gx_T_in (List.mem_append_right _ (show _ ∈ tables_1 from (List.mem_append_left _ (List.mem_of_getElem? (i := 4) (by decide +kernel))))) (by decide +kernel)
theorem in_Domino : Cond.initialized "PostChain$Domino" ∈ gx_T := gx_T_in (List.mem_append_right _ (show _ ∈ tables_1 from (List.mem_append_left _ (List.mem_of_getElem? (i := 6) (by decide +kernel))))) (by decide +kernel)
theorem in_Box : Cond.initialized "PostChain$Box" ∈ gx_T := gx_T_in (List.mem_append_right _ (show _ ∈ tables_1 from (List.mem_append_left _ (List.mem_of_getElem? (i := 5) (by decide +kernel))))) (by decide +kernel)
theorem in_Way : Cond.initialized "PostChain$Way" ∈ gx_T := gx_T_in (List.mem_append_right _ (show _ ∈ tables_1 from (List.mem_append_left _ (List.mem_of_getElem? (i := 7) (by decide +kernel))))) (by decide +kernel)
theorem in_Hunt : Cond.initialized "PostChain$Hunt" ∈ gx_T := gx_T_in (List.mem_append_right _ (show _ ∈ tables_1 from (List.mem_append_left _ (List.mem_of_getElem? (i := 9) (by decide +kernel))))) (by decide +kernel)
theorem in_PC : Cond.initialized "PostChain" ∈ gx_T := gx_T_in (List.mem_append_right _ (show _ ∈ tables_1 from (List.mem_append_left _ (List.mem_of_getElem? (i := 1) (by decide +kernel))))) (by decide +kernel)
theorem in_Mo : Cond.initialized "PostChainModel" ∈ gx_T := gx_T_in (List.mem_append_right _ (show _ ∈ tables_1 from (List.mem_append_left _ (List.mem_of_getElem? (i := 11) (by decide +kernel))))) (by decide +kernel)
theorem in_Law : Cond.initialized "PostChainLaw" ∈ gx_T := gx_T_in (List.mem_append_right _ (show _ ∈ tables_1 from (List.mem_append_left _ (List.mem_of_getElem? (i := 0) (by decide +kernel))))) (by decide +kernel)
theorem in_Math : Cond.initialized "java/lang/Math" ∈ gx_T := gx_T_in (List.mem_append_right _ (show _ ∈ tables_1 from (List.mem_append_left _ (List.mem_of_getElem? (i := 10) (by decide +kernel))))) (by decide +kernel)
theorem it_Word : Cond.instantiable "PostChain$Word" 2 ∈ gx_T := gx_T_in (List.mem_append_right _ (show _ ∈ tables_1 from (List.mem_append_left _ (List.mem_of_getElem? (i := 37) (by decide +kernel))))) (by decide +kernel)
theorem it_Row : Cond.instantiable "PostChain$Row" 2 ∈ gx_T := gx_T_in (List.mem_append_right _ (show _ ∈ tables_1 from (List.mem_append_left _ (List.mem_of_getElem? (i := 143) (by decide +kernel))))) (by decide +kernel)
theorem it_Machine : Cond.instantiable "PostChain$Machine" 5 ∈ gx_T := gx_T_in (List.mem_append_right _ (show _ ∈ tables_1 from (List.mem_append_left _ (List.mem_of_getElem? (i := 31) (by decide +kernel))))) (by decide +kernel)
theorem it_Run : Cond.instantiable "PostChain$Run" 2 ∈ gx_T := gx_T_in (List.mem_append_right _ (show _ ∈ tables_1 from (List.mem_append_left _ (List.mem_of_getElem? (i := 83) (by decide +kernel))))) (by decide +kernel)
theorem it_Domino : Cond.instantiable "PostChain$Domino" 2 ∈ gx_T := gx_T_in (List.mem_append_right _ (show _ ∈ tables_1 from (List.mem_append_left _ (List.mem_of_getElem? (i := 106) (by decide +kernel))))) (by decide +kernel)
theorem it_Box : Cond.instantiable "PostChain$Box" 3 ∈ gx_T := gx_T_in (List.mem_append_right _ (show _ ∈ tables_1 from (List.mem_append_left _ (List.mem_of_getElem? (i := 99) (by decide +kernel))))) (by decide +kernel)
theorem it_Way : Cond.instantiable "PostChain$Way" 2 ∈ gx_T := gx_T_in (List.mem_append_right _ (show _ ∈ tables_1 from (List.mem_append_left _ (List.mem_of_getElem? (i := 137) (by decide +kernel))))) (by decide +kernel)
theorem it_Hunt : Cond.instantiable "PostChain$Hunt" 8 ∈ gx_T := gx_T_in (List.mem_append_right _ (show _ ∈ tables_1 from (List.mem_append_left _ (List.mem_of_getElem? (i := 165) (by decide +kernel))))) (by decide +kernel)
theorem it_PC : Cond.instantiable "PostChain" 9 ∈ gx_T := gx_T_in (List.mem_append_right _ (show _ ∈ tables_1 from (List.mem_append_left _ (List.mem_of_getElem? (i := 23) (by decide +kernel))))) (by decide +kernel)
theorem it_Mo : Cond.instantiable "PostChainModel" 33 ∈ gx_T := gx_T_in (List.mem_append_right _ (show _ ∈ tables_1 from (List.mem_append_right _ (List.mem_append_right _ (List.mem_append_right _ (List.mem_append_left _ (List.mem_of_getElem? (i := 73) (by decide +kernel)))))))) (by decide +kernel)
abbrev M_PC_init : gx_M := (⟨"PostChain", "<init>", "()V"⟩, prog_1_method_1_code, 1, none)
theorem cs_PC_init : gx_cs M_PC_init := ⟨gx_T_in (List.mem_append_right _ (show _ ∈ tables_1 from (List.mem_append_left _ (List.mem_of_getElem? (i := 26) (by decide +kernel))))) (by decide +kernel), in_PC, ⟨by decide +kernel, by decide +kernel⟩, by decide⟩
theorem im_PC_init : Cond.instanceMethod M_PC_init.1 ∈ gx_T := gx_T_in (List.mem_append_right _ (show _ ∈ tables_1 from (List.mem_append_left _ (List.mem_of_getElem? (i := 25) (by decide +kernel))))) (by decide +kernel)
abbrev M_Machine_init : gx_M := (⟨"PostChain$Machine", "<init>", "()V"⟩, prog_5_method_1_code, 1, none)
theorem cs_Machine_init : gx_cs M_Machine_init := ⟨gx_T_in (List.mem_append_right _ (show _ ∈ tables_1 from (List.mem_append_left _ (List.mem_of_getElem? (i := 34) (by decide +kernel))))) (by decide +kernel), in_Machine, ⟨by decide +kernel, by decide +kernel⟩, by decide⟩
theorem im_Machine_init : Cond.instanceMethod M_Machine_init.1 ∈ gx_T := gx_T_in (List.mem_append_right _ (show _ ∈ tables_1 from (List.mem_append_left _ (List.mem_of_getElem? (i := 33) (by decide +kernel))))) (by decide +kernel)
abbrev M_Word_init : gx_M := (⟨"PostChain$Word", "<init>", "(I)V"⟩, prog_9_method_1_code, 2, none)
theorem cs_Word_init : gx_cs M_Word_init := ⟨gx_T_in (List.mem_append_right _ (show _ ∈ tables_1 from (List.mem_append_left _ (List.mem_of_getElem? (i := 40) (by decide +kernel))))) (by decide +kernel), in_Word, ⟨by decide +kernel, by decide +kernel⟩, by decide⟩
theorem im_Word_init : Cond.instanceMethod M_Word_init.1 ∈ gx_T := gx_T_in (List.mem_append_right _ (show _ ∈ tables_1 from (List.mem_append_left _ (List.mem_of_getElem? (i := 39) (by decide +kernel))))) (by decide +kernel)
abbrev M_PC_letter : gx_M := (⟨"PostChain", "letter", "(I)C"⟩, prog_1_method_27_code, 1, (some .char))
theorem cs_PC_letter : gx_cs M_PC_letter := ⟨gx_T_in (List.mem_append_right _ (show _ ∈ tables_1 from (List.mem_append_left _ (List.mem_of_getElem? (i := 54) (by decide +kernel))))) (by decide +kernel), in_PC, ⟨by decide +kernel, by decide +kernel⟩, by decide⟩
theorem st_PC_letter : Cond.static M_PC_letter.1 ∈ gx_T := gx_T_in (List.mem_append_right _ (show _ ∈ tables_1 from (List.mem_append_left _ (List.mem_of_getElem? (i := 53) (by decide +kernel))))) (by decide +kernel)
abbrev M_Word_add : gx_M := (⟨"PostChain$Word", "add", "(C)LPostChain$Word;"⟩, prog_9_method_6_code, 2, (some ( .object "PostChain$Word")))
theorem cs_Word_add : gx_cs M_Word_add := ⟨gx_T_in (List.mem_append_right _ (show _ ∈ tables_1 from (List.mem_append_left _ (List.mem_of_getElem? (i := 58) (by decide +kernel))))) (by decide +kernel), in_Word, ⟨by decide +kernel, by decide +kernel⟩, by decide⟩
theorem im_Word_add : Cond.instanceMethod M_Word_add.1 ∈ gx_T := gx_T_in (List.mem_append_right _ (show _ ∈ tables_1 from (List.mem_append_left _ (List.mem_of_getElem? (i := 56) (by decide +kernel))))) (by decide +kernel)
theorem se_Word_add : Cond.selects M_Word_add.1.cls M_Word_add.1 M_Word_add.1 ∈ gx_T := gx_T_in (List.mem_append_right _ (show _ ∈ tables_1 from (List.mem_append_left _ (List.mem_of_getElem? (i := 57) (by decide +kernel))))) (by decide +kernel)
abbrev M_Run_init : gx_M := (⟨"PostChain$Run", "<init>", "()V"⟩, prog_7_method_1_code, 2, none)
theorem cs_Run_init : gx_cs M_Run_init := ⟨gx_T_in (List.mem_append_right _ (show _ ∈ tables_1 from (List.mem_append_left _ (List.mem_of_getElem? (i := 86) (by decide +kernel))))) (by decide +kernel), in_Run, ⟨by decide +kernel, by decide +kernel⟩, by decide⟩
theorem im_Run_init : Cond.instanceMethod M_Run_init.1 ∈ gx_T := gx_T_in (List.mem_append_right _ (show _ ∈ tables_1 from (List.mem_append_left _ (List.mem_of_getElem? (i := 85) (by decide +kernel))))) (by decide +kernel)
abbrev M_Box_init : gx_M := (⟨"PostChain$Box", "<init>", "()V"⟩, prog_2_method_1_code, 2, none)
theorem cs_Box_init : gx_cs M_Box_init := ⟨gx_T_in (List.mem_append_right _ (show _ ∈ tables_1 from (List.mem_append_left _ (List.mem_of_getElem? (i := 102) (by decide +kernel))))) (by decide +kernel), in_Box, ⟨by decide +kernel, by decide +kernel⟩, by decide⟩
theorem im_Box_init : Cond.instanceMethod M_Box_init.1 ∈ gx_T := gx_T_in (List.mem_append_right _ (show _ ∈ tables_1 from (List.mem_append_left _ (List.mem_of_getElem? (i := 101) (by decide +kernel))))) (by decide +kernel)
abbrev M_Domino_init : gx_M := (⟨"PostChain$Domino", "<init>", "()V"⟩, prog_3_method_1_code, 1, none)
theorem cs_Domino_init : gx_cs M_Domino_init := ⟨gx_T_in (List.mem_append_right _ (show _ ∈ tables_1 from (List.mem_append_left _ (List.mem_of_getElem? (i := 109) (by decide +kernel))))) (by decide +kernel), in_Domino, ⟨by decide +kernel, by decide +kernel⟩, by decide⟩
theorem im_Domino_init : Cond.instanceMethod M_Domino_init.1 ∈ gx_T := gx_T_in (List.mem_append_right _ (show _ ∈ tables_1 from (List.mem_append_left _ (List.mem_of_getElem? (i := 108) (by decide +kernel))))) (by decide +kernel)
abbrev M_Way_init : gx_M := (⟨"PostChain$Way", "<init>", "()V"⟩, prog_8_method_1_code, 1, none)
theorem cs_Way_init : gx_cs M_Way_init := ⟨gx_T_in (List.mem_append_right _ (show _ ∈ tables_1 from (List.mem_append_left _ (List.mem_of_getElem? (i := 140) (by decide +kernel))))) (by decide +kernel), in_Way, ⟨by decide +kernel, by decide +kernel⟩, by decide⟩
theorem im_Way_init : Cond.instanceMethod M_Way_init.1 ∈ gx_T := gx_T_in (List.mem_append_right _ (show _ ∈ tables_1 from (List.mem_append_left _ (List.mem_of_getElem? (i := 139) (by decide +kernel))))) (by decide +kernel)
abbrev M_Row_init : gx_M := (⟨"PostChain$Row", "<init>", "(I)V"⟩, prog_6_method_1_code, 2, none)
theorem cs_Row_init : gx_cs M_Row_init := ⟨gx_T_in (List.mem_append_right _ (show _ ∈ tables_1 from (List.mem_append_left _ (List.mem_of_getElem? (i := 146) (by decide +kernel))))) (by decide +kernel), in_Row, ⟨by decide +kernel, by decide +kernel⟩, by decide⟩
theorem im_Row_init : Cond.instanceMethod M_Row_init.1 ∈ gx_T := gx_T_in (List.mem_append_right _ (show _ ∈ tables_1 from (List.mem_append_left _ (List.mem_of_getElem? (i := 145) (by decide +kernel))))) (by decide +kernel)
abbrev M_Hunt_init : gx_M := (⟨"PostChain$Hunt", "<init>", "()V"⟩, prog_4_method_1_code, 1, none)
theorem cs_Hunt_init : gx_cs M_Hunt_init := ⟨gx_T_in (List.mem_append_right _ (show _ ∈ tables_1 from (List.mem_append_left _ (List.mem_of_getElem? (i := 168) (by decide +kernel))))) (by decide +kernel), in_Hunt, ⟨by decide +kernel, by decide +kernel⟩, by decide⟩
theorem im_Hunt_init : Cond.instanceMethod M_Hunt_init.1 ∈ gx_T := gx_T_in (List.mem_append_right _ (show _ ∈ tables_1 from (List.mem_append_left _ (List.mem_of_getElem? (i := 167) (by decide +kernel))))) (by decide +kernel)
abbrev M_PC_startOver : gx_M := (⟨"PostChain", "startOver", "()V"⟩, prog_1_method_20_code, 1, none)
theorem cs_PC_startOver : gx_cs M_PC_startOver := ⟨gx_T_in (List.mem_append_right _ (show _ ∈ tables_1 from (List.mem_append_left _ (List.mem_of_getElem? (i := 204) (by decide +kernel))))) (by decide +kernel), in_PC, ⟨by decide +kernel, by decide +kernel⟩, by decide⟩
theorem im_PC_startOver : Cond.instanceMethod M_PC_startOver.1 ∈ gx_T := gx_T_in (List.mem_append_right _ (show _ ∈ tables_1 from (List.mem_append_left _ (List.mem_of_getElem? (i := 203) (by decide +kernel))))) (by decide +kernel)
theorem se_PC_startOver : Cond.selects M_PC_startOver.1.cls M_PC_startOver.1 M_PC_startOver.1 ∈ gx_T := gx_T_in (List.mem_append_left _ (List.mem_of_getElem? (i := 0) (by decide +kernel))) (by decide +kernel)
abbrev M_Run_follow : gx_M := (⟨"PostChain$Run", "follow", "(LPostChain$Machine;)V"⟩, prog_7_method_5_code, 3, none)
theorem cs_Run_follow : gx_cs M_Run_follow := ⟨gx_T_in (List.mem_append_right _ (show _ ∈ tables_1 from (List.mem_append_left _ (List.mem_of_getElem? (i := 208) (by decide +kernel))))) (by decide +kernel), in_Run, ⟨by decide +kernel, by decide +kernel⟩, by decide⟩
theorem im_Run_follow : Cond.instanceMethod M_Run_follow.1 ∈ gx_T := gx_T_in (List.mem_append_right _ (show _ ∈ tables_1 from (List.mem_append_left _ (List.mem_of_getElem? (i := 206) (by decide +kernel))))) (by decide +kernel)
theorem se_Run_follow : Cond.selects M_Run_follow.1.cls M_Run_follow.1 M_Run_follow.1 ∈ gx_T := gx_T_in (List.mem_append_right _ (show _ ∈ tables_1 from (List.mem_append_left _ (List.mem_of_getElem? (i := 207) (by decide +kernel))))) (by decide +kernel)
abbrev M_Word_copy : gx_M := (⟨"PostChain$Word", "copy", "(LPostChain$Word;)V"⟩, prog_9_method_8_code, 2, none)
theorem cs_Word_copy : gx_cs M_Word_copy := ⟨gx_T_in (List.mem_append_right _ (show _ ∈ tables_1 from (List.mem_append_left _ (List.mem_of_getElem? (i := 212) (by decide +kernel))))) (by decide +kernel), in_Word, ⟨by decide +kernel, by decide +kernel⟩, by decide⟩
theorem im_Word_copy : Cond.instanceMethod M_Word_copy.1 ∈ gx_T := gx_T_in (List.mem_append_right _ (show _ ∈ tables_1 from (List.mem_append_left _ (List.mem_of_getElem? (i := 210) (by decide +kernel))))) (by decide +kernel)
theorem se_Word_copy : Cond.selects M_Word_copy.1.cls M_Word_copy.1 M_Word_copy.1 ∈ gx_T := gx_T_in (List.mem_append_right _ (show _ ∈ tables_1 from (List.mem_append_left _ (List.mem_of_getElem? (i := 211) (by decide +kernel))))) (by decide +kernel)
abbrev M_Word_empty : gx_M := (⟨"PostChain$Word", "empty", "()V"⟩, prog_9_method_5_code, 1, none)
theorem cs_Word_empty : gx_cs M_Word_empty := ⟨gx_T_in (List.mem_append_right _ (show _ ∈ tables_1 from (List.mem_append_left _ (List.mem_of_getElem? (i := 216) (by decide +kernel))))) (by decide +kernel), in_Word, ⟨by decide +kernel, by decide +kernel⟩, by decide⟩
theorem im_Word_empty : Cond.instanceMethod M_Word_empty.1 ∈ gx_T := gx_T_in (List.mem_append_right _ (show _ ∈ tables_1 from (List.mem_append_left _ (List.mem_of_getElem? (i := 214) (by decide +kernel))))) (by decide +kernel)
theorem se_Word_empty : Cond.selects M_Word_empty.1.cls M_Word_empty.1 M_Word_empty.1 ∈ gx_T := gx_T_in (List.mem_append_right _ (show _ ∈ tables_1 from (List.mem_append_left _ (List.mem_of_getElem? (i := 215) (by decide +kernel))))) (by decide +kernel)
abbrev M_Word_size : gx_M := (⟨"PostChain$Word", "size", "()I"⟩, prog_9_method_2_code, 1, (some .int))
theorem cs_Word_size : gx_cs M_Word_size := ⟨gx_T_in (List.mem_append_right _ (show _ ∈ tables_1 from (List.mem_append_left _ (List.mem_of_getElem? (i := 220) (by decide +kernel))))) (by decide +kernel), in_Word, ⟨by decide +kernel, by decide +kernel⟩, by decide⟩
theorem im_Word_size : Cond.instanceMethod M_Word_size.1 ∈ gx_T := gx_T_in (List.mem_append_right _ (show _ ∈ tables_1 from (List.mem_append_left _ (List.mem_of_getElem? (i := 218) (by decide +kernel))))) (by decide +kernel)
theorem se_Word_size : Cond.selects M_Word_size.1.cls M_Word_size.1 M_Word_size.1 ∈ gx_T := gx_T_in (List.mem_append_right _ (show _ ∈ tables_1 from (List.mem_append_left _ (List.mem_of_getElem? (i := 219) (by decide +kernel))))) (by decide +kernel)
abbrev M_Word_addPart : gx_M := (⟨"PostChain$Word", "addPart", "(LPostChain$Word;II)V"⟩, prog_9_method_7_code, 5, none)
theorem cs_Word_addPart : gx_cs M_Word_addPart := ⟨gx_T_in (List.mem_append_right _ (show _ ∈ tables_1 from (List.mem_append_left _ (List.mem_of_getElem? (i := 224) (by decide +kernel))))) (by decide +kernel), in_Word, ⟨by decide +kernel, by decide +kernel⟩, by decide⟩
theorem im_Word_addPart : Cond.instanceMethod M_Word_addPart.1 ∈ gx_T := gx_T_in (List.mem_append_right _ (show _ ∈ tables_1 from (List.mem_append_left _ (List.mem_of_getElem? (i := 222) (by decide +kernel))))) (by decide +kernel)
theorem se_Word_addPart : Cond.selects M_Word_addPart.1.cls M_Word_addPart.1 M_Word_addPart.1 ∈ gx_T := gx_T_in (List.mem_append_right _ (show _ ∈ tables_1 from (List.mem_append_left _ (List.mem_of_getElem? (i := 223) (by decide +kernel))))) (by decide +kernel)
abbrev M_Word_at : gx_M := (⟨"PostChain$Word", "at", "(I)C"⟩, prog_9_method_3_code, 2, (some .char))
theorem cs_Word_at : gx_cs M_Word_at := ⟨gx_T_in (List.mem_append_right _ (show _ ∈ tables_1 from (List.mem_append_left _ (List.mem_of_getElem? (i := 228) (by decide +kernel))))) (by decide +kernel), in_Word, ⟨by decide +kernel, by decide +kernel⟩, by decide⟩
theorem im_Word_at : Cond.instanceMethod M_Word_at.1 ∈ gx_T := gx_T_in (List.mem_append_right _ (show _ ∈ tables_1 from (List.mem_append_left _ (List.mem_of_getElem? (i := 226) (by decide +kernel))))) (by decide +kernel)
theorem se_Word_at : Cond.selects M_Word_at.1.cls M_Word_at.1 M_Word_at.1 ∈ gx_T := gx_T_in (List.mem_append_right _ (show _ ∈ tables_1 from (List.mem_append_left _ (List.mem_of_getElem? (i := 227) (by decide +kernel))))) (by decide +kernel)
abbrev M_Machine_step : gx_M := (⟨"PostChain$Machine", "step", "(LPostChain$Word;LPostChain$Word;)Z"⟩, prog_5_method_6_code, 5, (some .boolean))
theorem cs_Machine_step : gx_cs M_Machine_step := ⟨gx_T_in (List.mem_append_right _ (show _ ∈ tables_1 from (List.mem_append_left _ (List.mem_of_getElem? (i := 233) (by decide +kernel))))) (by decide +kernel), in_Machine, ⟨by decide +kernel, by decide +kernel⟩, by decide⟩
theorem im_Machine_step : Cond.instanceMethod M_Machine_step.1 ∈ gx_T := gx_T_in (List.mem_append_right _ (show _ ∈ tables_1 from (List.mem_append_left _ (List.mem_of_getElem? (i := 231) (by decide +kernel))))) (by decide +kernel)
theorem se_Machine_step : Cond.selects M_Machine_step.1.cls M_Machine_step.1 M_Machine_step.1 ∈ gx_T := gx_T_in (List.mem_append_right _ (show _ ∈ tables_1 from (List.mem_append_left _ (List.mem_of_getElem? (i := 232) (by decide +kernel))))) (by decide +kernel)
abbrev M_Machine_ruleFor : gx_M := (⟨"PostChain$Machine", "ruleFor", "(LPostChain$Word;)I"⟩, prog_5_method_5_code, 5, (some .int))
theorem cs_Machine_ruleFor : gx_cs M_Machine_ruleFor := ⟨gx_T_in (List.mem_append_right _ (show _ ∈ tables_1 from (List.mem_append_left _ (List.mem_of_getElem? (i := 237) (by decide +kernel))))) (by decide +kernel), in_Machine, ⟨by decide +kernel, by decide +kernel⟩, by decide⟩
theorem im_Machine_ruleFor : Cond.instanceMethod M_Machine_ruleFor.1 ∈ gx_T := gx_T_in (List.mem_append_right _ (show _ ∈ tables_1 from (List.mem_append_left _ (List.mem_of_getElem? (i := 235) (by decide +kernel))))) (by decide +kernel)
theorem se_Machine_ruleFor : Cond.selects M_Machine_ruleFor.1.cls M_Machine_ruleFor.1 M_Machine_ruleFor.1 ∈ gx_T := gx_T_in (List.mem_append_right _ (show _ ∈ tables_1 from (List.mem_append_left _ (List.mem_of_getElem? (i := 236) (by decide +kernel))))) (by decide +kernel)
abbrev M_Word_head : gx_M := (⟨"PostChain$Word", "head", "()I"⟩, prog_9_method_12_code, 2, (some .int))
theorem cs_Word_head : gx_cs M_Word_head := ⟨gx_T_in (List.mem_append_right _ (show _ ∈ tables_1 from (List.mem_append_right _ (List.mem_append_left _ (List.mem_of_getElem? (i := 1) (by decide +kernel)))))) (by decide +kernel), in_Word, ⟨by decide +kernel, by decide +kernel⟩, by decide⟩
theorem im_Word_head : Cond.instanceMethod M_Word_head.1 ∈ gx_T := gx_T_in (List.mem_append_right _ (show _ ∈ tables_1 from (List.mem_append_left _ (List.mem_of_getElem? (i := 239) (by decide +kernel))))) (by decide +kernel)
theorem se_Word_head : Cond.selects M_Word_head.1.cls M_Word_head.1 M_Word_head.1 ∈ gx_T := gx_T_in (List.mem_append_right _ (show _ ∈ tables_1 from (List.mem_append_right _ (List.mem_append_left _ (List.mem_of_getElem? (i := 0) (by decide +kernel)))))) (by decide +kernel)
abbrev M_PC_symbolOf : gx_M := (⟨"PostChain", "symbolOf", "(C)I"⟩, prog_1_method_29_code, 1, (some .int))
theorem cs_PC_symbolOf : gx_cs M_PC_symbolOf := ⟨gx_T_in (List.mem_append_right _ (show _ ∈ tables_1 from (List.mem_append_right _ (List.mem_append_left _ (List.mem_of_getElem? (i := 6) (by decide +kernel)))))) (by decide +kernel), in_PC, ⟨by decide +kernel, by decide +kernel⟩, by decide⟩
theorem st_PC_symbolOf : Cond.static M_PC_symbolOf.1 ∈ gx_T := gx_T_in (List.mem_append_right _ (show _ ∈ tables_1 from (List.mem_append_right _ (List.mem_append_left _ (List.mem_of_getElem? (i := 5) (by decide +kernel)))))) (by decide +kernel)
abbrev M_PC_isState : gx_M := (⟨"PostChain", "isState", "(I)Z"⟩, prog_1_method_24_code, 1, (some .boolean))
theorem cs_PC_isState : gx_cs M_PC_isState := ⟨gx_T_in (List.mem_append_right _ (show _ ∈ tables_1 from (List.mem_append_right _ (List.mem_append_left _ (List.mem_of_getElem? (i := 9) (by decide +kernel)))))) (by decide +kernel), in_PC, ⟨by decide +kernel, by decide +kernel⟩, by decide⟩
theorem st_PC_isState : Cond.static M_PC_isState.1 ∈ gx_T := gx_T_in (List.mem_append_right _ (show _ ∈ tables_1 from (List.mem_append_right _ (List.mem_append_left _ (List.mem_of_getElem? (i := 8) (by decide +kernel)))))) (by decide +kernel)
abbrev M_PC_isSymbol : gx_M := (⟨"PostChain", "isSymbol", "(I)Z"⟩, prog_1_method_25_code, 1, (some .boolean))
theorem cs_PC_isSymbol : gx_cs M_PC_isSymbol := ⟨gx_T_in (List.mem_append_right _ (show _ ∈ tables_1 from (List.mem_append_right _ (List.mem_append_left _ (List.mem_of_getElem? (i := 12) (by decide +kernel)))))) (by decide +kernel), in_PC, ⟨by decide +kernel, by decide +kernel⟩, by decide⟩
theorem st_PC_isSymbol : Cond.static M_PC_isSymbol.1 ∈ gx_T := gx_T_in (List.mem_append_right _ (show _ ∈ tables_1 from (List.mem_append_right _ (List.mem_append_left _ (List.mem_of_getElem? (i := 11) (by decide +kernel)))))) (by decide +kernel)
abbrev M_PC_ruleNumber : gx_M := (⟨"PostChain", "ruleNumber", "(II)I"⟩, prog_1_method_26_code, 2, (some .int))
theorem cs_PC_ruleNumber : gx_cs M_PC_ruleNumber := ⟨gx_T_in (List.mem_append_right _ (show _ ∈ tables_1 from (List.mem_append_right _ (List.mem_append_left _ (List.mem_of_getElem? (i := 15) (by decide +kernel)))))) (by decide +kernel), in_PC, ⟨by decide +kernel, by decide +kernel⟩, by decide⟩
theorem st_PC_ruleNumber : Cond.static M_PC_ruleNumber.1 ∈ gx_T := gx_T_in (List.mem_append_right _ (show _ ∈ tables_1 from (List.mem_append_right _ (List.mem_append_left _ (List.mem_of_getElem? (i := 14) (by decide +kernel)))))) (by decide +kernel)
abbrev M_PC_digit : gx_M := (⟨"PostChain", "digit", "(I)C"⟩, prog_1_method_28_code, 1, (some .char))
theorem cs_PC_digit : gx_cs M_PC_digit := ⟨gx_T_in (List.mem_append_right _ (show _ ∈ tables_1 from (List.mem_append_right _ (List.mem_append_left _ (List.mem_of_getElem? (i := 20) (by decide +kernel)))))) (by decide +kernel), in_PC, ⟨by decide +kernel, by decide +kernel⟩, by decide⟩
theorem st_PC_digit : Cond.static M_PC_digit.1 ∈ gx_T := gx_T_in (List.mem_append_right _ (show _ ∈ tables_1 from (List.mem_append_right _ (List.mem_append_left _ (List.mem_of_getElem? (i := 19) (by decide +kernel)))))) (by decide +kernel)
abbrev M_Box_fill : gx_M := (⟨"PostChain$Box", "fill", "(LPostChain$Machine;)V"⟩, prog_2_method_5_code, 4, none)
theorem cs_Box_fill : gx_cs M_Box_fill := ⟨gx_T_in (List.mem_append_right _ (show _ ∈ tables_1 from (List.mem_append_right _ (List.mem_append_left _ (List.mem_of_getElem? (i := 25) (by decide +kernel)))))) (by decide +kernel), in_Box, ⟨by decide +kernel, by decide +kernel⟩, by decide⟩
theorem im_Box_fill : Cond.instanceMethod M_Box_fill.1 ∈ gx_T := gx_T_in (List.mem_append_right _ (show _ ∈ tables_1 from (List.mem_append_right _ (List.mem_append_left _ (List.mem_of_getElem? (i := 23) (by decide +kernel)))))) (by decide +kernel)
theorem se_Box_fill : Cond.selects M_Box_fill.1.cls M_Box_fill.1 M_Box_fill.1 ∈ gx_T := gx_T_in (List.mem_append_right _ (show _ ∈ tables_1 from (List.mem_append_right _ (List.mem_append_left _ (List.mem_of_getElem? (i := 24) (by decide +kernel)))))) (by decide +kernel)
abbrev M_Box_open : gx_M := (⟨"PostChain$Box", "open", "()LPostChain$Domino;"⟩, prog_2_method_8_code, 2, (some ( .object "PostChain$Domino")))
theorem cs_Box_open : gx_cs M_Box_open := ⟨gx_T_in (List.mem_append_right _ (show _ ∈ tables_1 from (List.mem_append_right _ (List.mem_append_left _ (List.mem_of_getElem? (i := 29) (by decide +kernel)))))) (by decide +kernel), in_Box, ⟨by decide +kernel, by decide +kernel⟩, by decide⟩
theorem im_Box_open : Cond.instanceMethod M_Box_open.1 ∈ gx_T := gx_T_in (List.mem_append_right _ (show _ ∈ tables_1 from (List.mem_append_right _ (List.mem_append_left _ (List.mem_of_getElem? (i := 28) (by decide +kernel)))))) (by decide +kernel)
theorem se_Box_open : Cond.selects M_Box_open.1.cls M_Box_open.1 M_Box_open.1 ∈ gx_T := gx_T_in (List.mem_append_left _ (List.mem_of_getElem? (i := 1) (by decide +kernel))) (by decide +kernel)
abbrev M_Box_addCopy : gx_M := (⟨"PostChain$Box", "addCopy", "(C)V"⟩, prog_2_method_9_code, 3, none)
theorem cs_Box_addCopy : gx_cs M_Box_addCopy := ⟨gx_T_in (List.mem_append_right _ (show _ ∈ tables_1 from (List.mem_append_right _ (List.mem_append_left _ (List.mem_of_getElem? (i := 40) (by decide +kernel)))))) (by decide +kernel), in_Box, ⟨by decide +kernel, by decide +kernel⟩, by decide⟩
theorem im_Box_addCopy : Cond.instanceMethod M_Box_addCopy.1 ∈ gx_T := gx_T_in (List.mem_append_right _ (show _ ∈ tables_1 from (List.mem_append_right _ (List.mem_append_left _ (List.mem_of_getElem? (i := 39) (by decide +kernel)))))) (by decide +kernel)
theorem se_Box_addCopy : Cond.selects M_Box_addCopy.1.cls M_Box_addCopy.1 M_Box_addCopy.1 ∈ gx_T := gx_T_in (List.mem_append_left _ (List.mem_of_getElem? (i := 2) (by decide +kernel))) (by decide +kernel)
abbrev M_Box_addRule : gx_M := (⟨"PostChain$Box", "addRule", "(LPostChain$Machine;IC)V"⟩, prog_2_method_10_code, 5, none)
theorem cs_Box_addRule : gx_cs M_Box_addRule := ⟨gx_T_in (List.mem_append_right _ (show _ ∈ tables_1 from (List.mem_append_right _ (List.mem_append_left _ (List.mem_of_getElem? (i := 45) (by decide +kernel)))))) (by decide +kernel), in_Box, ⟨by decide +kernel, by decide +kernel⟩, by decide⟩
theorem im_Box_addRule : Cond.instanceMethod M_Box_addRule.1 ∈ gx_T := gx_T_in (List.mem_append_right _ (show _ ∈ tables_1 from (List.mem_append_right _ (List.mem_append_left _ (List.mem_of_getElem? (i := 44) (by decide +kernel)))))) (by decide +kernel)
theorem se_Box_addRule : Cond.selects M_Box_addRule.1.cls M_Box_addRule.1 M_Box_addRule.1 ∈ gx_T := gx_T_in (List.mem_append_left _ (List.mem_of_getElem? (i := 3) (by decide +kernel))) (by decide +kernel)
abbrev M_Box_addRight : gx_M := (⟨"PostChain$Box", "addRight", "(LPostChain$Machine;IC)V"⟩, prog_2_method_11_code, 5, none)
theorem cs_Box_addRight : gx_cs M_Box_addRight := ⟨gx_T_in (List.mem_append_right _ (show _ ∈ tables_1 from (List.mem_append_right _ (List.mem_append_left _ (List.mem_of_getElem? (i := 49) (by decide +kernel)))))) (by decide +kernel), in_Box, ⟨by decide +kernel, by decide +kernel⟩, by decide⟩
theorem im_Box_addRight : Cond.instanceMethod M_Box_addRight.1 ∈ gx_T := gx_T_in (List.mem_append_right _ (show _ ∈ tables_1 from (List.mem_append_right _ (List.mem_append_left _ (List.mem_of_getElem? (i := 48) (by decide +kernel)))))) (by decide +kernel)
theorem se_Box_addRight : Cond.selects M_Box_addRight.1.cls M_Box_addRight.1 M_Box_addRight.1 ∈ gx_T := gx_T_in (List.mem_append_left _ (List.mem_of_getElem? (i := 4) (by decide +kernel))) (by decide +kernel)
abbrev M_Box_keepHash : gx_M := (⟨"PostChain$Box", "keepHash", "(LPostChain$Domino;C)V"⟩, prog_2_method_13_code, 2, none)
theorem cs_Box_keepHash : gx_cs M_Box_keepHash := ⟨gx_T_in (List.mem_append_right _ (show _ ∈ tables_1 from (List.mem_append_right _ (List.mem_append_left _ (List.mem_of_getElem? (i := 53) (by decide +kernel)))))) (by decide +kernel), in_Box, ⟨by decide +kernel, by decide +kernel⟩, by decide⟩
theorem st_Box_keepHash : Cond.static M_Box_keepHash.1 ∈ gx_T := gx_T_in (List.mem_append_right _ (show _ ∈ tables_1 from (List.mem_append_right _ (List.mem_append_left _ (List.mem_of_getElem? (i := 52) (by decide +kernel)))))) (by decide +kernel)
abbrev M_Box_addLeft : gx_M := (⟨"PostChain$Box", "addLeft", "(LPostChain$Machine;ICC)V"⟩, prog_2_method_12_code, 6, none)
theorem cs_Box_addLeft : gx_cs M_Box_addLeft := ⟨gx_T_in (List.mem_append_right _ (show _ ∈ tables_1 from (List.mem_append_right _ (List.mem_append_left _ (List.mem_of_getElem? (i := 57) (by decide +kernel)))))) (by decide +kernel), in_Box, ⟨by decide +kernel, by decide +kernel⟩, by decide⟩
theorem im_Box_addLeft : Cond.instanceMethod M_Box_addLeft.1 ∈ gx_T := gx_T_in (List.mem_append_right _ (show _ ∈ tables_1 from (List.mem_append_right _ (List.mem_append_left _ (List.mem_of_getElem? (i := 56) (by decide +kernel)))))) (by decide +kernel)
theorem se_Box_addLeft : Cond.selects M_Box_addLeft.1.cls M_Box_addLeft.1 M_Box_addLeft.1 ∈ gx_T := gx_T_in (List.mem_append_left _ (List.mem_of_getElem? (i := 5) (by decide +kernel))) (by decide +kernel)
abbrev M_Box_addEnding : gx_M := (⟨"PostChain$Box", "addEnding", "()V"⟩, prog_2_method_14_code, 4, none)
theorem cs_Box_addEnding : gx_cs M_Box_addEnding := ⟨gx_T_in (List.mem_append_right _ (show _ ∈ tables_1 from (List.mem_append_right _ (List.mem_append_left _ (List.mem_of_getElem? (i := 61) (by decide +kernel)))))) (by decide +kernel), in_Box, ⟨by decide +kernel, by decide +kernel⟩, by decide⟩
theorem im_Box_addEnding : Cond.instanceMethod M_Box_addEnding.1 ∈ gx_T := gx_T_in (List.mem_append_right _ (show _ ∈ tables_1 from (List.mem_append_right _ (List.mem_append_left _ (List.mem_of_getElem? (i := 60) (by decide +kernel)))))) (by decide +kernel)
theorem se_Box_addEnding : Cond.selects M_Box_addEnding.1.cls M_Box_addEnding.1 M_Box_addEnding.1 ∈ gx_T := gx_T_in (List.mem_append_left _ (List.mem_of_getElem? (i := 6) (by decide +kernel))) (by decide +kernel)
abbrev M_Way_trace : gx_M := (⟨"PostChain$Way", "trace", "(LPostChain$Machine;LPostChain$Run;LPostChain$Box;)V"⟩, prog_8_method_3_code, 5, none)
theorem cs_Way_trace : gx_cs M_Way_trace := ⟨gx_T_in (List.mem_append_right _ (show _ ∈ tables_1 from (List.mem_append_right _ (List.mem_append_left _ (List.mem_of_getElem? (i := 65) (by decide +kernel)))))) (by decide +kernel), in_Way, ⟨by decide +kernel, by decide +kernel⟩, by decide⟩
theorem im_Way_trace : Cond.instanceMethod M_Way_trace.1 ∈ gx_T := gx_T_in (List.mem_append_right _ (show _ ∈ tables_1 from (List.mem_append_right _ (List.mem_append_left _ (List.mem_of_getElem? (i := 63) (by decide +kernel)))))) (by decide +kernel)
theorem se_Way_trace : Cond.selects M_Way_trace.1.cls M_Way_trace.1 M_Way_trace.1 ∈ gx_T := gx_T_in (List.mem_append_right _ (show _ ∈ tables_1 from (List.mem_append_right _ (List.mem_append_left _ (List.mem_of_getElem? (i := 64) (by decide +kernel)))))) (by decide +kernel)
abbrev M_Row_empty : gx_M := (⟨"PostChain$Row", "empty", "()V"⟩, prog_6_method_4_code, 1, none)
theorem cs_Row_empty : gx_cs M_Row_empty := ⟨gx_T_in (List.mem_append_right _ (show _ ∈ tables_1 from (List.mem_append_right _ (List.mem_append_left _ (List.mem_of_getElem? (i := 69) (by decide +kernel)))))) (by decide +kernel), in_Row, ⟨by decide +kernel, by decide +kernel⟩, by decide⟩
theorem im_Row_empty : Cond.instanceMethod M_Row_empty.1 ∈ gx_T := gx_T_in (List.mem_append_right _ (show _ ∈ tables_1 from (List.mem_append_right _ (List.mem_append_left _ (List.mem_of_getElem? (i := 67) (by decide +kernel)))))) (by decide +kernel)
theorem se_Row_empty : Cond.selects M_Row_empty.1.cls M_Row_empty.1 M_Row_empty.1 ∈ gx_T := gx_T_in (List.mem_append_right _ (show _ ∈ tables_1 from (List.mem_append_right _ (List.mem_append_left _ (List.mem_of_getElem? (i := 68) (by decide +kernel)))))) (by decide +kernel)
abbrev M_Run_isHalted : gx_M := (⟨"PostChain$Run", "isHalted", "()Z"⟩, prog_7_method_4_code, 2, (some .boolean))
theorem cs_Run_isHalted : gx_cs M_Run_isHalted := ⟨gx_T_in (List.mem_append_right _ (show _ ∈ tables_1 from (List.mem_append_right _ (List.mem_append_left _ (List.mem_of_getElem? (i := 73) (by decide +kernel)))))) (by decide +kernel), in_Run, ⟨by decide +kernel, by decide +kernel⟩, by decide⟩
theorem im_Run_isHalted : Cond.instanceMethod M_Run_isHalted.1 ∈ gx_T := gx_T_in (List.mem_append_right _ (show _ ∈ tables_1 from (List.mem_append_right _ (List.mem_append_left _ (List.mem_of_getElem? (i := 71) (by decide +kernel)))))) (by decide +kernel)
theorem se_Run_isHalted : Cond.selects M_Run_isHalted.1.cls M_Run_isHalted.1 M_Run_isHalted.1 ∈ gx_T := gx_T_in (List.mem_append_right _ (show _ ∈ tables_1 from (List.mem_append_right _ (List.mem_append_left _ (List.mem_of_getElem? (i := 72) (by decide +kernel)))))) (by decide +kernel)
abbrev M_Run_text : gx_M := (⟨"PostChain$Run", "text", "(I)LPostChain$Word;"⟩, prog_7_method_3_code, 2, (some ( .object "PostChain$Word")))
theorem cs_Run_text : gx_cs M_Run_text := ⟨gx_T_in (List.mem_append_right _ (show _ ∈ tables_1 from (List.mem_append_right _ (List.mem_append_left _ (List.mem_of_getElem? (i := 77) (by decide +kernel)))))) (by decide +kernel), in_Run, ⟨by decide +kernel, by decide +kernel⟩, by decide⟩
theorem im_Run_text : Cond.instanceMethod M_Run_text.1 ∈ gx_T := gx_T_in (List.mem_append_right _ (show _ ∈ tables_1 from (List.mem_append_right _ (List.mem_append_left _ (List.mem_of_getElem? (i := 75) (by decide +kernel)))))) (by decide +kernel)
theorem se_Run_text : Cond.selects M_Run_text.1.cls M_Run_text.1 M_Run_text.1 ∈ gx_T := gx_T_in (List.mem_append_right _ (show _ ∈ tables_1 from (List.mem_append_right _ (List.mem_append_left _ (List.mem_of_getElem? (i := 76) (by decide +kernel)))))) (by decide +kernel)
abbrev M_Row_add : gx_M := (⟨"PostChain$Row", "add", "(I)V"⟩, prog_6_method_5_code, 2, none)
theorem cs_Row_add : gx_cs M_Row_add := ⟨gx_T_in (List.mem_append_right _ (show _ ∈ tables_1 from (List.mem_append_right _ (List.mem_append_left _ (List.mem_of_getElem? (i := 88) (by decide +kernel)))))) (by decide +kernel), in_Row, ⟨by decide +kernel, by decide +kernel⟩, by decide⟩
theorem im_Row_add : Cond.instanceMethod M_Row_add.1 ∈ gx_T := gx_T_in (List.mem_append_right _ (show _ ∈ tables_1 from (List.mem_append_right _ (List.mem_append_left _ (List.mem_of_getElem? (i := 86) (by decide +kernel)))))) (by decide +kernel)
theorem se_Row_add : Cond.selects M_Row_add.1.cls M_Row_add.1 M_Row_add.1 ∈ gx_T := gx_T_in (List.mem_append_right _ (show _ ∈ tables_1 from (List.mem_append_right _ (List.mem_append_left _ (List.mem_of_getElem? (i := 87) (by decide +kernel)))))) (by decide +kernel)
abbrev M_Run_stepCount : gx_M := (⟨"PostChain$Run", "stepCount", "()I"⟩, prog_7_method_2_code, 1, (some .int))
theorem cs_Run_stepCount : gx_cs M_Run_stepCount := ⟨gx_T_in (List.mem_append_right _ (show _ ∈ tables_1 from (List.mem_append_right _ (List.mem_append_left _ (List.mem_of_getElem? (i := 92) (by decide +kernel)))))) (by decide +kernel), in_Run, ⟨by decide +kernel, by decide +kernel⟩, by decide⟩
theorem im_Run_stepCount : Cond.instanceMethod M_Run_stepCount.1 ∈ gx_T := gx_T_in (List.mem_append_right _ (show _ ∈ tables_1 from (List.mem_append_right _ (List.mem_append_left _ (List.mem_of_getElem? (i := 90) (by decide +kernel)))))) (by decide +kernel)
theorem se_Run_stepCount : Cond.selects M_Run_stepCount.1.cls M_Run_stepCount.1 M_Run_stepCount.1 ∈ gx_T := gx_T_in (List.mem_append_right _ (show _ ∈ tables_1 from (List.mem_append_right _ (List.mem_append_left _ (List.mem_of_getElem? (i := 91) (by decide +kernel)))))) (by decide +kernel)
abbrev M_Way_passStep : gx_M := (⟨"PostChain$Way", "passStep", "(LPostChain$Machine;LPostChain$Word;LPostChain$Box;)V"⟩, prog_8_method_4_code, 9, none)
theorem cs_Way_passStep : gx_cs M_Way_passStep := ⟨gx_T_in (List.mem_append_right _ (show _ ∈ tables_1 from (List.mem_append_right _ (List.mem_append_left _ (List.mem_of_getElem? (i := 97) (by decide +kernel)))))) (by decide +kernel), in_Way, ⟨by decide +kernel, by decide +kernel⟩, by decide⟩
theorem im_Way_passStep : Cond.instanceMethod M_Way_passStep.1 ∈ gx_T := gx_T_in (List.mem_append_right _ (show _ ∈ tables_1 from (List.mem_append_right _ (List.mem_append_left _ (List.mem_of_getElem? (i := 96) (by decide +kernel)))))) (by decide +kernel)
theorem se_Way_passStep : Cond.selects M_Way_passStep.1.cls M_Way_passStep.1 M_Way_passStep.1 ∈ gx_T := gx_T_in (List.mem_append_left _ (List.mem_of_getElem? (i := 7) (by decide +kernel))) (by decide +kernel)
abbrev M_Box_ofRule : gx_M := (⟨"PostChain$Box", "ofRule", "(IZIZ)I"⟩, prog_2_method_6_code, 5, (some .int))
theorem cs_Box_ofRule : gx_cs M_Box_ofRule := ⟨gx_T_in (List.mem_append_right _ (show _ ∈ tables_1 from (List.mem_append_right _ (List.mem_append_left _ (List.mem_of_getElem? (i := 106) (by decide +kernel)))))) (by decide +kernel), in_Box, ⟨by decide +kernel, by decide +kernel⟩, by decide⟩
theorem im_Box_ofRule : Cond.instanceMethod M_Box_ofRule.1 ∈ gx_T := gx_T_in (List.mem_append_right _ (show _ ∈ tables_1 from (List.mem_append_right _ (List.mem_append_left _ (List.mem_of_getElem? (i := 104) (by decide +kernel)))))) (by decide +kernel)
theorem se_Box_ofRule : Cond.selects M_Box_ofRule.1.cls M_Box_ofRule.1 M_Box_ofRule.1 ∈ gx_T := gx_T_in (List.mem_append_right _ (show _ ∈ tables_1 from (List.mem_append_right _ (List.mem_append_left _ (List.mem_of_getElem? (i := 105) (by decide +kernel)))))) (by decide +kernel)
abbrev M_Way_pass : gx_M := (⟨"PostChain$Way", "pass", "(LPostChain$Word;III)V"⟩, prog_8_method_6_code, 5, none)
theorem cs_Way_pass : gx_cs M_Way_pass := ⟨gx_T_in (List.mem_append_right _ (show _ ∈ tables_1 from (List.mem_append_right _ (List.mem_append_left _ (List.mem_of_getElem? (i := 110) (by decide +kernel)))))) (by decide +kernel), in_Way, ⟨by decide +kernel, by decide +kernel⟩, by decide⟩
theorem im_Way_pass : Cond.instanceMethod M_Way_pass.1 ∈ gx_T := gx_T_in (List.mem_append_right _ (show _ ∈ tables_1 from (List.mem_append_right _ (List.mem_append_left _ (List.mem_of_getElem? (i := 109) (by decide +kernel)))))) (by decide +kernel)
theorem se_Way_pass : Cond.selects M_Way_pass.1.cls M_Way_pass.1 M_Way_pass.1 ∈ gx_T := gx_T_in (List.mem_append_left _ (List.mem_of_getElem? (i := 8) (by decide +kernel))) (by decide +kernel)
abbrev M_Way_copySymbols : gx_M := (⟨"PostChain$Way", "copySymbols", "(LPostChain$Word;II)V"⟩, prog_8_method_7_code, 5, none)
theorem cs_Way_copySymbols : gx_cs M_Way_copySymbols := ⟨gx_T_in (List.mem_append_right _ (show _ ∈ tables_1 from (List.mem_append_right _ (List.mem_append_left _ (List.mem_of_getElem? (i := 114) (by decide +kernel)))))) (by decide +kernel), in_Way, ⟨by decide +kernel, by decide +kernel⟩, by decide⟩
theorem im_Way_copySymbols : Cond.instanceMethod M_Way_copySymbols.1 ∈ gx_T := gx_T_in (List.mem_append_right _ (show _ ∈ tables_1 from (List.mem_append_right _ (List.mem_append_left _ (List.mem_of_getElem? (i := 113) (by decide +kernel)))))) (by decide +kernel)
theorem se_Way_copySymbols : Cond.selects M_Way_copySymbols.1.cls M_Way_copySymbols.1 M_Way_copySymbols.1 ∈ gx_T := gx_T_in (List.mem_append_left _ (List.mem_of_getElem? (i := 9) (by decide +kernel))) (by decide +kernel)
abbrev M_Way_passShorter : gx_M := (⟨"PostChain$Way", "passShorter", "(LPostChain$Box;)V"⟩, prog_8_method_5_code, 6, none)
theorem cs_Way_passShorter : gx_cs M_Way_passShorter := ⟨gx_T_in (List.mem_append_right _ (show _ ∈ tables_1 from (List.mem_append_right _ (List.mem_append_left _ (List.mem_of_getElem? (i := 119) (by decide +kernel)))))) (by decide +kernel), in_Way, ⟨by decide +kernel, by decide +kernel⟩, by decide⟩
theorem im_Way_passShorter : Cond.instanceMethod M_Way_passShorter.1 ∈ gx_T := gx_T_in (List.mem_append_right _ (show _ ∈ tables_1 from (List.mem_append_right _ (List.mem_append_left _ (List.mem_of_getElem? (i := 118) (by decide +kernel)))))) (by decide +kernel)
theorem se_Way_passShorter : Cond.selects M_Way_passShorter.1.cls M_Way_passShorter.1 M_Way_passShorter.1 ∈ gx_T := gx_T_in (List.mem_append_left _ (List.mem_of_getElem? (i := 10) (by decide +kernel))) (by decide +kernel)
abbrev M_Box_firstEnding : gx_M := (⟨"PostChain$Box", "firstEnding", "()I"⟩, prog_2_method_7_code, 1, (some .int))
theorem cs_Box_firstEnding : gx_cs M_Box_firstEnding := ⟨gx_T_in (List.mem_append_right _ (show _ ∈ tables_1 from (List.mem_append_right _ (List.mem_append_left _ (List.mem_of_getElem? (i := 123) (by decide +kernel)))))) (by decide +kernel), in_Box, ⟨by decide +kernel, by decide +kernel⟩, by decide⟩
theorem im_Box_firstEnding : Cond.instanceMethod M_Box_firstEnding.1 ∈ gx_T := gx_T_in (List.mem_append_right _ (show _ ∈ tables_1 from (List.mem_append_right _ (List.mem_append_left _ (List.mem_of_getElem? (i := 121) (by decide +kernel)))))) (by decide +kernel)
theorem se_Box_firstEnding : Cond.selects M_Box_firstEnding.1.cls M_Box_firstEnding.1 M_Box_firstEnding.1 ∈ gx_T := gx_T_in (List.mem_append_right _ (show _ ∈ tables_1 from (List.mem_append_right _ (List.mem_append_left _ (List.mem_of_getElem? (i := 122) (by decide +kernel)))))) (by decide +kernel)
abbrev M_Word_remove : gx_M := (⟨"PostChain$Word", "remove", "(I)V"⟩, prog_9_method_9_code, 3, none)
theorem cs_Word_remove : gx_cs M_Word_remove := ⟨gx_T_in (List.mem_append_right _ (show _ ∈ tables_1 from (List.mem_append_right _ (List.mem_append_left _ (List.mem_of_getElem? (i := 129) (by decide +kernel)))))) (by decide +kernel), in_Word, ⟨by decide +kernel, by decide +kernel⟩, by decide⟩
theorem im_Word_remove : Cond.instanceMethod M_Word_remove.1 ∈ gx_T := gx_T_in (List.mem_append_right _ (show _ ∈ tables_1 from (List.mem_append_right _ (List.mem_append_left _ (List.mem_of_getElem? (i := 127) (by decide +kernel)))))) (by decide +kernel)
theorem se_Word_remove : Cond.selects M_Word_remove.1.cls M_Word_remove.1 M_Word_remove.1 ∈ gx_T := gx_T_in (List.mem_append_right _ (show _ ∈ tables_1 from (List.mem_append_right _ (List.mem_append_left _ (List.mem_of_getElem? (i := 128) (by decide +kernel)))))) (by decide +kernel)
abbrev M_Box_size : gx_M := (⟨"PostChain$Box", "size", "()I"⟩, prog_2_method_2_code, 1, (some .int))
theorem cs_Box_size : gx_cs M_Box_size := ⟨gx_T_in (List.mem_append_right _ (show _ ∈ tables_1 from (List.mem_append_right _ (List.mem_append_left _ (List.mem_of_getElem? (i := 133) (by decide +kernel)))))) (by decide +kernel), in_Box, ⟨by decide +kernel, by decide +kernel⟩, by decide⟩
theorem im_Box_size : Cond.instanceMethod M_Box_size.1 ∈ gx_T := gx_T_in (List.mem_append_right _ (show _ ∈ tables_1 from (List.mem_append_right _ (List.mem_append_left _ (List.mem_of_getElem? (i := 131) (by decide +kernel)))))) (by decide +kernel)
theorem se_Box_size : Cond.selects M_Box_size.1.cls M_Box_size.1 M_Box_size.1 ∈ gx_T := gx_T_in (List.mem_append_right _ (show _ ∈ tables_1 from (List.mem_append_right _ (List.mem_append_left _ (List.mem_of_getElem? (i := 132) (by decide +kernel)))))) (by decide +kernel)
abbrev M_Hunt_forget : gx_M := (⟨"PostChain$Hunt", "forget", "()V"⟩, prog_4_method_3_code, 1, none)
theorem cs_Hunt_forget : gx_cs M_Hunt_forget := ⟨gx_T_in (List.mem_append_right _ (show _ ∈ tables_1 from (List.mem_append_right _ (List.mem_append_left _ (List.mem_of_getElem? (i := 137) (by decide +kernel)))))) (by decide +kernel), in_Hunt, ⟨by decide +kernel, by decide +kernel⟩, by decide⟩
theorem im_Hunt_forget : Cond.instanceMethod M_Hunt_forget.1 ∈ gx_T := gx_T_in (List.mem_append_right _ (show _ ∈ tables_1 from (List.mem_append_right _ (List.mem_append_left _ (List.mem_of_getElem? (i := 135) (by decide +kernel)))))) (by decide +kernel)
theorem se_Hunt_forget : Cond.selects M_Hunt_forget.1.cls M_Hunt_forget.1 M_Hunt_forget.1 ∈ gx_T := gx_T_in (List.mem_append_right _ (show _ ∈ tables_1 from (List.mem_append_right _ (List.mem_append_left _ (List.mem_of_getElem? (i := 136) (by decide +kernel)))))) (by decide +kernel)
abbrev M_PC_steps : gx_M := (⟨"PostChain", "steps", "()I"⟩, prog_1_method_5_code, 1, (some .int))
theorem cs_PC_steps : gx_cs M_PC_steps := ⟨gx_T_in (List.mem_append_right _ (show _ ∈ tables_1 from (List.mem_append_right _ (List.mem_append_left _ (List.mem_of_getElem? (i := 171) (by decide +kernel)))))) (by decide +kernel), in_PC, ⟨by decide +kernel, by decide +kernel⟩, by decide⟩
theorem im_PC_steps : Cond.instanceMethod M_PC_steps.1 ∈ gx_T := gx_T_in (List.mem_append_right _ (show _ ∈ tables_1 from (List.mem_append_right _ (List.mem_append_left _ (List.mem_of_getElem? (i := 169) (by decide +kernel)))))) (by decide +kernel)
theorem se_PC_steps : Cond.selects M_PC_steps.1.cls M_PC_steps.1 M_PC_steps.1 ∈ gx_T := gx_T_in (List.mem_append_right _ (show _ ∈ tables_1 from (List.mem_append_right _ (List.mem_append_left _ (List.mem_of_getElem? (i := 170) (by decide +kernel)))))) (by decide +kernel)
abbrev M_PC_halts : gx_M := (⟨"PostChain", "halts", "()Z"⟩, prog_1_method_6_code, 1, (some .boolean))
theorem cs_PC_halts : gx_cs M_PC_halts := ⟨gx_T_in (List.mem_append_right _ (show _ ∈ tables_1 from (List.mem_append_right _ (List.mem_append_left _ (List.mem_of_getElem? (i := 176) (by decide +kernel)))))) (by decide +kernel), in_PC, ⟨by decide +kernel, by decide +kernel⟩, by decide⟩
theorem im_PC_halts : Cond.instanceMethod M_PC_halts.1 ∈ gx_T := gx_T_in (List.mem_append_right _ (show _ ∈ tables_1 from (List.mem_append_right _ (List.mem_append_left _ (List.mem_of_getElem? (i := 174) (by decide +kernel)))))) (by decide +kernel)
theorem se_PC_halts : Cond.selects M_PC_halts.1.cls M_PC_halts.1 M_PC_halts.1 ∈ gx_T := gx_T_in (List.mem_append_right _ (show _ ∈ tables_1 from (List.mem_append_right _ (List.mem_append_left _ (List.mem_of_getElem? (i := 175) (by decide +kernel)))))) (by decide +kernel)
abbrev M_PC_run : gx_M := (⟨"PostChain", "run", "(II)I"⟩, prog_1_method_7_code, 3, (some .int))
theorem cs_PC_run : gx_cs M_PC_run := ⟨gx_T_in (List.mem_append_right _ (show _ ∈ tables_1 from (List.mem_append_right _ (List.mem_append_left _ (List.mem_of_getElem? (i := 181) (by decide +kernel)))))) (by decide +kernel), in_PC, ⟨by decide +kernel, by decide +kernel⟩, by decide⟩
theorem im_PC_run : Cond.instanceMethod M_PC_run.1 ∈ gx_T := gx_T_in (List.mem_append_right _ (show _ ∈ tables_1 from (List.mem_append_right _ (List.mem_append_left _ (List.mem_of_getElem? (i := 179) (by decide +kernel)))))) (by decide +kernel)
theorem se_PC_run : Cond.selects M_PC_run.1.cls M_PC_run.1 M_PC_run.1 ∈ gx_T := gx_T_in (List.mem_append_right _ (show _ ∈ tables_1 from (List.mem_append_right _ (List.mem_append_left _ (List.mem_of_getElem? (i := 180) (by decide +kernel)))))) (by decide +kernel)
abbrev M_Word_ask : gx_M := (⟨"PostChain$Word", "ask", "(I)I"⟩, prog_9_method_4_code, 2, (some .int))
theorem cs_Word_ask : gx_cs M_Word_ask := ⟨gx_T_in (List.mem_append_right _ (show _ ∈ tables_1 from (List.mem_append_right _ (List.mem_append_left _ (List.mem_of_getElem? (i := 186) (by decide +kernel)))))) (by decide +kernel), in_Word, ⟨by decide +kernel, by decide +kernel⟩, by decide⟩
theorem im_Word_ask : Cond.instanceMethod M_Word_ask.1 ∈ gx_T := gx_T_in (List.mem_append_right _ (show _ ∈ tables_1 from (List.mem_append_right _ (List.mem_append_left _ (List.mem_of_getElem? (i := 184) (by decide +kernel)))))) (by decide +kernel)
theorem se_Word_ask : Cond.selects M_Word_ask.1.cls M_Word_ask.1 M_Word_ask.1 ∈ gx_T := gx_T_in (List.mem_append_right _ (show _ ∈ tables_1 from (List.mem_append_right _ (List.mem_append_left _ (List.mem_of_getElem? (i := 185) (by decide +kernel)))))) (by decide +kernel)
abbrev M_PC_dominoes : gx_M := (⟨"PostChain", "dominoes", "()I"⟩, prog_1_method_8_code, 1, (some .int))
theorem cs_PC_dominoes : gx_cs M_PC_dominoes := ⟨gx_T_in (List.mem_append_right _ (show _ ∈ tables_1 from (List.mem_append_right _ (List.mem_append_left _ (List.mem_of_getElem? (i := 190) (by decide +kernel)))))) (by decide +kernel), in_PC, ⟨by decide +kernel, by decide +kernel⟩, by decide⟩
theorem im_PC_dominoes : Cond.instanceMethod M_PC_dominoes.1 ∈ gx_T := gx_T_in (List.mem_append_right _ (show _ ∈ tables_1 from (List.mem_append_right _ (List.mem_append_left _ (List.mem_of_getElem? (i := 188) (by decide +kernel)))))) (by decide +kernel)
theorem se_PC_dominoes : Cond.selects M_PC_dominoes.1.cls M_PC_dominoes.1 M_PC_dominoes.1 ∈ gx_T := gx_T_in (List.mem_append_right _ (show _ ∈ tables_1 from (List.mem_append_right _ (List.mem_append_left _ (List.mem_of_getElem? (i := 189) (by decide +kernel)))))) (by decide +kernel)
abbrev M_PC_domino : gx_M := (⟨"PostChain", "domino", "(IZI)I"⟩, prog_1_method_9_code, 4, (some .int))
theorem cs_PC_domino : gx_cs M_PC_domino := ⟨gx_T_in (List.mem_append_right _ (show _ ∈ tables_1 from (List.mem_append_right _ (List.mem_append_left _ (List.mem_of_getElem? (i := 195) (by decide +kernel)))))) (by decide +kernel), in_PC, ⟨by decide +kernel, by decide +kernel⟩, by decide⟩
theorem im_PC_domino : Cond.instanceMethod M_PC_domino.1 ∈ gx_T := gx_T_in (List.mem_append_right _ (show _ ∈ tables_1 from (List.mem_append_right _ (List.mem_append_left _ (List.mem_of_getElem? (i := 193) (by decide +kernel)))))) (by decide +kernel)
theorem se_PC_domino : Cond.selects M_PC_domino.1.cls M_PC_domino.1 M_PC_domino.1 ∈ gx_T := gx_T_in (List.mem_append_right _ (show _ ∈ tables_1 from (List.mem_append_right _ (List.mem_append_left _ (List.mem_of_getElem? (i := 194) (by decide +kernel)))))) (by decide +kernel)
abbrev M_Box_has : gx_M := (⟨"PostChain$Box", "has", "(I)Z"⟩, prog_2_method_3_code, 2, (some .boolean))
theorem cs_Box_has : gx_cs M_Box_has := ⟨gx_T_in (List.mem_append_right _ (show _ ∈ tables_1 from (List.mem_append_right _ (List.mem_append_left _ (List.mem_of_getElem? (i := 199) (by decide +kernel)))))) (by decide +kernel), in_Box, ⟨by decide +kernel, by decide +kernel⟩, by decide⟩
theorem im_Box_has : Cond.instanceMethod M_Box_has.1 ∈ gx_T := gx_T_in (List.mem_append_right _ (show _ ∈ tables_1 from (List.mem_append_right _ (List.mem_append_left _ (List.mem_of_getElem? (i := 197) (by decide +kernel)))))) (by decide +kernel)
theorem se_Box_has : Cond.selects M_Box_has.1.cls M_Box_has.1 M_Box_has.1 ∈ gx_T := gx_T_in (List.mem_append_right _ (show _ ∈ tables_1 from (List.mem_append_right _ (List.mem_append_left _ (List.mem_of_getElem? (i := 198) (by decide +kernel)))))) (by decide +kernel)
abbrev M_Box_get : gx_M := (⟨"PostChain$Box", "get", "(I)LPostChain$Domino;"⟩, prog_2_method_4_code, 2, (some ( .object "PostChain$Domino")))
theorem cs_Box_get : gx_cs M_Box_get := ⟨gx_T_in (List.mem_append_right _ (show _ ∈ tables_1 from (List.mem_append_right _ (List.mem_append_left _ (List.mem_of_getElem? (i := 203) (by decide +kernel)))))) (by decide +kernel), in_Box, ⟨by decide +kernel, by decide +kernel⟩, by decide⟩
theorem im_Box_get : Cond.instanceMethod M_Box_get.1 ∈ gx_T := gx_T_in (List.mem_append_right _ (show _ ∈ tables_1 from (List.mem_append_right _ (List.mem_append_left _ (List.mem_of_getElem? (i := 201) (by decide +kernel)))))) (by decide +kernel)
theorem se_Box_get : Cond.selects M_Box_get.1.cls M_Box_get.1 M_Box_get.1 ∈ gx_T := gx_T_in (List.mem_append_right _ (show _ ∈ tables_1 from (List.mem_append_right _ (List.mem_append_left _ (List.mem_of_getElem? (i := 202) (by decide +kernel)))))) (by decide +kernel)
abbrev M_PC_lay : gx_M := (⟨"PostChain", "lay", "(I)I"⟩, prog_1_method_11_code, 2, (some .int))
theorem cs_PC_lay : gx_cs M_PC_lay := ⟨gx_T_in (List.mem_append_right _ (show _ ∈ tables_1 from (List.mem_append_right _ (List.mem_append_left _ (List.mem_of_getElem? (i := 208) (by decide +kernel)))))) (by decide +kernel), in_PC, ⟨by decide +kernel, by decide +kernel⟩, by decide⟩
theorem im_PC_lay : Cond.instanceMethod M_PC_lay.1 ∈ gx_T := gx_T_in (List.mem_append_right _ (show _ ∈ tables_1 from (List.mem_append_right _ (List.mem_append_left _ (List.mem_of_getElem? (i := 206) (by decide +kernel)))))) (by decide +kernel)
theorem se_PC_lay : Cond.selects M_PC_lay.1.cls M_PC_lay.1 M_PC_lay.1 ∈ gx_T := gx_T_in (List.mem_append_right _ (show _ ∈ tables_1 from (List.mem_append_right _ (List.mem_append_left _ (List.mem_of_getElem? (i := 207) (by decide +kernel)))))) (by decide +kernel)
abbrev M_Row_size : gx_M := (⟨"PostChain$Row", "size", "()I"⟩, prog_6_method_2_code, 1, (some .int))
theorem cs_Row_size : gx_cs M_Row_size := ⟨gx_T_in (List.mem_append_right _ (show _ ∈ tables_1 from (List.mem_append_right _ (List.mem_append_left _ (List.mem_of_getElem? (i := 212) (by decide +kernel)))))) (by decide +kernel), in_Row, ⟨by decide +kernel, by decide +kernel⟩, by decide⟩
theorem im_Row_size : Cond.instanceMethod M_Row_size.1 ∈ gx_T := gx_T_in (List.mem_append_right _ (show _ ∈ tables_1 from (List.mem_append_right _ (List.mem_append_left _ (List.mem_of_getElem? (i := 210) (by decide +kernel)))))) (by decide +kernel)
theorem se_Row_size : Cond.selects M_Row_size.1.cls M_Row_size.1 M_Row_size.1 ∈ gx_T := gx_T_in (List.mem_append_right _ (show _ ∈ tables_1 from (List.mem_append_right _ (List.mem_append_left _ (List.mem_of_getElem? (i := 211) (by decide +kernel)))))) (by decide +kernel)
abbrev M_PC_clear : gx_M := (⟨"PostChain", "clear", "()V"⟩, prog_1_method_13_code, 1, none)
theorem cs_PC_clear : gx_cs M_PC_clear := ⟨gx_T_in (List.mem_append_right _ (show _ ∈ tables_1 from (List.mem_append_right _ (List.mem_append_left _ (List.mem_of_getElem? (i := 217) (by decide +kernel)))))) (by decide +kernel), in_PC, ⟨by decide +kernel, by decide +kernel⟩, by decide⟩
theorem im_PC_clear : Cond.instanceMethod M_PC_clear.1 ∈ gx_T := gx_T_in (List.mem_append_right _ (show _ ∈ tables_1 from (List.mem_append_right _ (List.mem_append_left _ (List.mem_of_getElem? (i := 215) (by decide +kernel)))))) (by decide +kernel)
theorem se_PC_clear : Cond.selects M_PC_clear.1.cls M_PC_clear.1 M_PC_clear.1 ∈ gx_T := gx_T_in (List.mem_append_right _ (show _ ∈ tables_1 from (List.mem_append_right _ (List.mem_append_left _ (List.mem_of_getElem? (i := 216) (by decide +kernel)))))) (by decide +kernel)
abbrev M_PC_tray : gx_M := (⟨"PostChain", "tray", "()I"⟩, prog_1_method_14_code, 1, (some .int))
theorem cs_PC_tray : gx_cs M_PC_tray := ⟨gx_T_in (List.mem_append_right _ (show _ ∈ tables_1 from (List.mem_append_right _ (List.mem_append_left _ (List.mem_of_getElem? (i := 221) (by decide +kernel)))))) (by decide +kernel), in_PC, ⟨by decide +kernel, by decide +kernel⟩, by decide⟩
theorem im_PC_tray : Cond.instanceMethod M_PC_tray.1 ∈ gx_T := gx_T_in (List.mem_append_right _ (show _ ∈ tables_1 from (List.mem_append_right _ (List.mem_append_left _ (List.mem_of_getElem? (i := 219) (by decide +kernel)))))) (by decide +kernel)
theorem se_PC_tray : Cond.selects M_PC_tray.1.cls M_PC_tray.1 M_PC_tray.1 ∈ gx_T := gx_T_in (List.mem_append_right _ (show _ ∈ tables_1 from (List.mem_append_right _ (List.mem_append_left _ (List.mem_of_getElem? (i := 220) (by decide +kernel)))))) (by decide +kernel)
abbrev M_PC_spellLaid : gx_M := (⟨"PostChain", "spellLaid", "()V"⟩, prog_1_method_21_code, 3, none)
theorem cs_PC_spellLaid : gx_cs M_PC_spellLaid := ⟨gx_T_in (List.mem_append_right _ (show _ ∈ tables_1 from (List.mem_append_right _ (List.mem_append_left _ (List.mem_of_getElem? (i := 225) (by decide +kernel)))))) (by decide +kernel), in_PC, ⟨by decide +kernel, by decide +kernel⟩, by decide⟩
theorem im_PC_spellLaid : Cond.instanceMethod M_PC_spellLaid.1 ∈ gx_T := gx_T_in (List.mem_append_right _ (show _ ∈ tables_1 from (List.mem_append_right _ (List.mem_append_left _ (List.mem_of_getElem? (i := 224) (by decide +kernel)))))) (by decide +kernel)
theorem se_PC_spellLaid : Cond.selects M_PC_spellLaid.1.cls M_PC_spellLaid.1 M_PC_spellLaid.1 ∈ gx_T := gx_T_in (List.mem_append_left _ (List.mem_of_getElem? (i := 11) (by decide +kernel))) (by decide +kernel)
abbrev M_Row_ask : gx_M := (⟨"PostChain$Row", "ask", "(I)I"⟩, prog_6_method_3_code, 2, (some .int))
theorem cs_Row_ask : gx_cs M_Row_ask := ⟨gx_T_in (List.mem_append_right _ (show _ ∈ tables_1 from (List.mem_append_right _ (List.mem_append_left _ (List.mem_of_getElem? (i := 229) (by decide +kernel)))))) (by decide +kernel), in_Row, ⟨by decide +kernel, by decide +kernel⟩, by decide⟩
theorem im_Row_ask : Cond.instanceMethod M_Row_ask.1 ∈ gx_T := gx_T_in (List.mem_append_right _ (show _ ∈ tables_1 from (List.mem_append_right _ (List.mem_append_left _ (List.mem_of_getElem? (i := 227) (by decide +kernel)))))) (by decide +kernel)
theorem se_Row_ask : Cond.selects M_Row_ask.1.cls M_Row_ask.1 M_Row_ask.1 ∈ gx_T := gx_T_in (List.mem_append_right _ (show _ ∈ tables_1 from (List.mem_append_right _ (List.mem_append_left _ (List.mem_of_getElem? (i := 228) (by decide +kernel)))))) (by decide +kernel)
abbrev M_Word_agrees : gx_M := (⟨"PostChain$Word", "agrees", "(LPostChain$Word;)Z"⟩, prog_9_method_10_code, 4, (some .boolean))
theorem cs_Word_agrees : gx_cs M_Word_agrees := ⟨gx_T_in (List.mem_append_right _ (show _ ∈ tables_1 from (List.mem_append_right _ (List.mem_append_left _ (List.mem_of_getElem? (i := 235) (by decide +kernel)))))) (by decide +kernel), in_Word, ⟨by decide +kernel, by decide +kernel⟩, by decide⟩
theorem im_Word_agrees : Cond.instanceMethod M_Word_agrees.1 ∈ gx_T := gx_T_in (List.mem_append_right _ (show _ ∈ tables_1 from (List.mem_append_right _ (List.mem_append_left _ (List.mem_of_getElem? (i := 233) (by decide +kernel)))))) (by decide +kernel)
theorem se_Word_agrees : Cond.selects M_Word_agrees.1.cls M_Word_agrees.1 M_Word_agrees.1 ∈ gx_T := gx_T_in (List.mem_append_right _ (show _ ∈ tables_1 from (List.mem_append_right _ (List.mem_append_left _ (List.mem_of_getElem? (i := 234) (by decide +kernel)))))) (by decide +kernel)
abbrev M_Word_same : gx_M := (⟨"PostChain$Word", "same", "(LPostChain$Word;)Z"⟩, prog_9_method_11_code, 2, (some .boolean))
theorem cs_Word_same : gx_cs M_Word_same := ⟨gx_T_in (List.mem_append_right _ (show _ ∈ tables_1 from (List.mem_append_right _ (List.mem_append_right _ (List.mem_append_left _ (List.mem_of_getElem? (i := 0) (by decide +kernel))))))) (by decide +kernel), in_Word, ⟨by decide +kernel, by decide +kernel⟩, by decide⟩
theorem im_Word_same : Cond.instanceMethod M_Word_same.1 ∈ gx_T := gx_T_in (List.mem_append_right _ (show _ ∈ tables_1 from (List.mem_append_right _ (List.mem_append_left _ (List.mem_of_getElem? (i := 238) (by decide +kernel)))))) (by decide +kernel)
theorem se_Word_same : Cond.selects M_Word_same.1.cls M_Word_same.1 M_Word_same.1 ∈ gx_T := gx_T_in (List.mem_append_right _ (show _ ∈ tables_1 from (List.mem_append_right _ (List.mem_append_left _ (List.mem_of_getElem? (i := 239) (by decide +kernel)))))) (by decide +kernel)
abbrev M_PC_back : gx_M := (⟨"PostChain", "back", "()I"⟩, prog_1_method_15_code, 1, (some .int))
theorem cs_PC_back : gx_cs M_PC_back := ⟨gx_T_in (List.mem_append_right _ (show _ ∈ tables_1 from (List.mem_append_right _ (List.mem_append_right _ (List.mem_append_left _ (List.mem_of_getElem? (i := 5) (by decide +kernel))))))) (by decide +kernel), in_PC, ⟨by decide +kernel, by decide +kernel⟩, by decide⟩
theorem im_PC_back : Cond.instanceMethod M_PC_back.1 ∈ gx_T := gx_T_in (List.mem_append_right _ (show _ ∈ tables_1 from (List.mem_append_right _ (List.mem_append_right _ (List.mem_append_left _ (List.mem_of_getElem? (i := 3) (by decide +kernel))))))) (by decide +kernel)
theorem se_PC_back : Cond.selects M_PC_back.1.cls M_PC_back.1 M_PC_back.1 ∈ gx_T := gx_T_in (List.mem_append_right _ (show _ ∈ tables_1 from (List.mem_append_right _ (List.mem_append_right _ (List.mem_append_left _ (List.mem_of_getElem? (i := 4) (by decide +kernel))))))) (by decide +kernel)
abbrev M_PC_hashesAheadOfHalt : gx_M := (⟨"PostChain", "hashesAheadOfHalt", "(LPostChain$Word;)I"⟩, prog_1_method_22_code, 3, (some .int))
theorem cs_PC_hashesAheadOfHalt : gx_cs M_PC_hashesAheadOfHalt := ⟨gx_T_in (List.mem_append_right _ (show _ ∈ tables_1 from (List.mem_append_right _ (List.mem_append_right _ (List.mem_append_left _ (List.mem_of_getElem? (i := 9) (by decide +kernel))))))) (by decide +kernel), in_PC, ⟨by decide +kernel, by decide +kernel⟩, by decide⟩
theorem st_PC_hashesAheadOfHalt : Cond.static M_PC_hashesAheadOfHalt.1 ∈ gx_T := gx_T_in (List.mem_append_right _ (show _ ∈ tables_1 from (List.mem_append_right _ (List.mem_append_right _ (List.mem_append_left _ (List.mem_of_getElem? (i := 8) (by decide +kernel))))))) (by decide +kernel)
abbrev M_PC_type : gx_M := (⟨"PostChain", "type", "(J)Z"⟩, prog_1_method_16_code, 6, (some .boolean))
theorem cs_PC_type : gx_cs M_PC_type := ⟨gx_T_in (List.mem_append_right _ (show _ ∈ tables_1 from (List.mem_append_right _ (List.mem_append_right _ (List.mem_append_left _ (List.mem_of_getElem? (i := 15) (by decide +kernel))))))) (by decide +kernel), in_PC, ⟨by decide +kernel, by decide +kernel⟩, by decide⟩
theorem im_PC_type : Cond.instanceMethod M_PC_type.1 ∈ gx_T := gx_T_in (List.mem_append_right _ (show _ ∈ tables_1 from (List.mem_append_right _ (List.mem_append_right _ (List.mem_append_left _ (List.mem_of_getElem? (i := 13) (by decide +kernel))))))) (by decide +kernel)
theorem se_PC_type : Cond.selects M_PC_type.1.cls M_PC_type.1 M_PC_type.1 ∈ gx_T := gx_T_in (List.mem_append_right _ (show _ ∈ tables_1 from (List.mem_append_right _ (List.mem_append_right _ (List.mem_append_left _ (List.mem_of_getElem? (i := 14) (by decide +kernel))))))) (by decide +kernel)
abbrev M_PC_byteOf : gx_M := (⟨"PostChain", "byteOf", "(JI)C"⟩, prog_1_method_23_code, 3, (some .char))
theorem cs_PC_byteOf : gx_cs M_PC_byteOf := ⟨gx_T_in (List.mem_append_right _ (show _ ∈ tables_1 from (List.mem_append_right _ (List.mem_append_right _ (List.mem_append_left _ (List.mem_of_getElem? (i := 18) (by decide +kernel))))))) (by decide +kernel), in_PC, ⟨by decide +kernel, by decide +kernel⟩, by decide⟩
theorem st_PC_byteOf : Cond.static M_PC_byteOf.1 ∈ gx_T := gx_T_in (List.mem_append_right _ (show _ ∈ tables_1 from (List.mem_append_right _ (List.mem_append_right _ (List.mem_append_left _ (List.mem_of_getElem? (i := 17) (by decide +kernel))))))) (by decide +kernel)
abbrev M_PC_trees : gx_M := (⟨"PostChain", "trees", "()I"⟩, prog_1_method_17_code, 1, (some .int))
theorem cs_PC_trees : gx_cs M_PC_trees := ⟨gx_T_in (List.mem_append_right _ (show _ ∈ tables_1 from (List.mem_append_right _ (List.mem_append_right _ (List.mem_append_left _ (List.mem_of_getElem? (i := 108) (by decide +kernel))))))) (by decide +kernel), in_PC, ⟨by decide +kernel, by decide +kernel⟩, by decide⟩
theorem im_PC_trees : Cond.instanceMethod M_PC_trees.1 ∈ gx_T := gx_T_in (List.mem_append_right _ (show _ ∈ tables_1 from (List.mem_append_right _ (List.mem_append_right _ (List.mem_append_left _ (List.mem_of_getElem? (i := 106) (by decide +kernel))))))) (by decide +kernel)
theorem se_PC_trees : Cond.selects M_PC_trees.1.cls M_PC_trees.1 M_PC_trees.1 ∈ gx_T := gx_T_in (List.mem_append_right _ (show _ ∈ tables_1 from (List.mem_append_right _ (List.mem_append_right _ (List.mem_append_left _ (List.mem_of_getElem? (i := 107) (by decide +kernel))))))) (by decide +kernel)
abbrev M_PC_search : gx_M := (⟨"PostChain", "search", "(I)I"⟩, prog_1_method_18_code, 3, (some .int))
theorem cs_PC_search : gx_cs M_PC_search := ⟨gx_T_in (List.mem_append_right _ (show _ ∈ tables_1 from (List.mem_append_right _ (List.mem_append_right _ (List.mem_append_left _ (List.mem_of_getElem? (i := 112) (by decide +kernel))))))) (by decide +kernel), in_PC, ⟨by decide +kernel, by decide +kernel⟩, by decide⟩
theorem im_PC_search : Cond.instanceMethod M_PC_search.1 ∈ gx_T := gx_T_in (List.mem_append_right _ (show _ ∈ tables_1 from (List.mem_append_right _ (List.mem_append_right _ (List.mem_append_left _ (List.mem_of_getElem? (i := 110) (by decide +kernel))))))) (by decide +kernel)
theorem se_PC_search : Cond.selects M_PC_search.1.cls M_PC_search.1 M_PC_search.1 ∈ gx_T := gx_T_in (List.mem_append_right _ (show _ ∈ tables_1 from (List.mem_append_right _ (List.mem_append_right _ (List.mem_append_left _ (List.mem_of_getElem? (i := 111) (by decide +kernel))))))) (by decide +kernel)
abbrev M_Hunt_look : gx_M := (⟨"PostChain$Hunt", "look", "(LPostChain$Box;I)I"⟩, prog_4_method_4_code, 4, (some .int))
theorem cs_Hunt_look : gx_cs M_Hunt_look := ⟨gx_T_in (List.mem_append_right _ (show _ ∈ tables_1 from (List.mem_append_right _ (List.mem_append_right _ (List.mem_append_left _ (List.mem_of_getElem? (i := 116) (by decide +kernel))))))) (by decide +kernel), in_Hunt, ⟨by decide +kernel, by decide +kernel⟩, by decide⟩
theorem im_Hunt_look : Cond.instanceMethod M_Hunt_look.1 ∈ gx_T := gx_T_in (List.mem_append_right _ (show _ ∈ tables_1 from (List.mem_append_right _ (List.mem_append_right _ (List.mem_append_left _ (List.mem_of_getElem? (i := 114) (by decide +kernel))))))) (by decide +kernel)
theorem se_Hunt_look : Cond.selects M_Hunt_look.1.cls M_Hunt_look.1 M_Hunt_look.1 ∈ gx_T := gx_T_in (List.mem_append_right _ (show _ ∈ tables_1 from (List.mem_append_right _ (List.mem_append_right _ (List.mem_append_left _ (List.mem_of_getElem? (i := 115) (by decide +kernel))))))) (by decide +kernel)
abbrev M_Hunt_keep : gx_M := (⟨"PostChain$Hunt", "keep", "(IILPostChain$Domino;)V"⟩, prog_4_method_9_code, 7, none)
theorem cs_Hunt_keep : gx_cs M_Hunt_keep := ⟨gx_T_in (List.mem_append_right _ (show _ ∈ tables_1 from (List.mem_append_right _ (List.mem_append_right _ (List.mem_append_left _ (List.mem_of_getElem? (i := 122) (by decide +kernel))))))) (by decide +kernel), in_Hunt, ⟨by decide +kernel, by decide +kernel⟩, by decide⟩
theorem im_Hunt_keep : Cond.instanceMethod M_Hunt_keep.1 ∈ gx_T := gx_T_in (List.mem_append_right _ (show _ ∈ tables_1 from (List.mem_append_right _ (List.mem_append_right _ (List.mem_append_left _ (List.mem_of_getElem? (i := 121) (by decide +kernel))))))) (by decide +kernel)
theorem se_Hunt_keep : Cond.selects M_Hunt_keep.1.cls M_Hunt_keep.1 M_Hunt_keep.1 ∈ gx_T := gx_T_in (List.mem_append_left _ (List.mem_of_getElem? (i := 12) (by decide +kernel))) (by decide +kernel)
abbrev M_Hunt_openOr : gx_M := (⟨"PostChain$Hunt", "openOr", "(LPostChain$Word;I)C"⟩, prog_4_method_10_code, 3, (some .char))
theorem cs_Hunt_openOr : gx_cs M_Hunt_openOr := ⟨gx_T_in (List.mem_append_right _ (show _ ∈ tables_1 from (List.mem_append_right _ (List.mem_append_right _ (List.mem_append_left _ (List.mem_of_getElem? (i := 128) (by decide +kernel))))))) (by decide +kernel), in_Hunt, ⟨by decide +kernel, by decide +kernel⟩, by decide⟩
theorem im_Hunt_openOr : Cond.instanceMethod M_Hunt_openOr.1 ∈ gx_T := gx_T_in (List.mem_append_right _ (show _ ∈ tables_1 from (List.mem_append_right _ (List.mem_append_right _ (List.mem_append_left _ (List.mem_of_getElem? (i := 127) (by decide +kernel))))))) (by decide +kernel)
theorem se_Hunt_openOr : Cond.selects M_Hunt_openOr.1.cls M_Hunt_openOr.1 M_Hunt_openOr.1 ∈ gx_T := gx_T_in (List.mem_append_left _ (List.mem_of_getElem? (i := 13) (by decide +kernel))) (by decide +kernel)
abbrev M_Hunt_goOn : gx_M := (⟨"PostChain$Hunt", "goOn", "(ILPostChain$Box;)V"⟩, prog_4_method_7_code, 4, none)
theorem cs_Hunt_goOn : gx_cs M_Hunt_goOn := ⟨gx_T_in (List.mem_append_right _ (show _ ∈ tables_1 from (List.mem_append_right _ (List.mem_append_right _ (List.mem_append_left _ (List.mem_of_getElem? (i := 133) (by decide +kernel))))))) (by decide +kernel), in_Hunt, ⟨by decide +kernel, by decide +kernel⟩, by decide⟩
theorem im_Hunt_goOn : Cond.instanceMethod M_Hunt_goOn.1 ∈ gx_T := gx_T_in (List.mem_append_right _ (show _ ∈ tables_1 from (List.mem_append_right _ (List.mem_append_right _ (List.mem_append_left _ (List.mem_of_getElem? (i := 132) (by decide +kernel))))))) (by decide +kernel)
theorem se_Hunt_goOn : Cond.selects M_Hunt_goOn.1.cls M_Hunt_goOn.1 M_Hunt_goOn.1 ∈ gx_T := gx_T_in (List.mem_append_left _ (List.mem_of_getElem? (i := 14) (by decide +kernel))) (by decide +kernel)
abbrev M_Hunt_fits : gx_M := (⟨"PostChain$Hunt", "fits", "(LPostChain$Domino;)Z"⟩, prog_4_method_8_code, 4, (some .boolean))
theorem cs_Hunt_fits : gx_cs M_Hunt_fits := ⟨gx_T_in (List.mem_append_right _ (show _ ∈ tables_1 from (List.mem_append_right _ (List.mem_append_right _ (List.mem_append_left _ (List.mem_of_getElem? (i := 139) (by decide +kernel))))))) (by decide +kernel), in_Hunt, ⟨by decide +kernel, by decide +kernel⟩, by decide⟩
theorem im_Hunt_fits : Cond.instanceMethod M_Hunt_fits.1 ∈ gx_T := gx_T_in (List.mem_append_right _ (show _ ∈ tables_1 from (List.mem_append_right _ (List.mem_append_right _ (List.mem_append_left _ (List.mem_of_getElem? (i := 138) (by decide +kernel))))))) (by decide +kernel)
theorem se_Hunt_fits : Cond.selects M_Hunt_fits.1.cls M_Hunt_fits.1 M_Hunt_fits.1 ∈ gx_T := gx_T_in (List.mem_append_left _ (List.mem_of_getElem? (i := 15) (by decide +kernel))) (by decide +kernel)
abbrev M_Hunt_foundSize : gx_M := (⟨"PostChain$Hunt", "foundSize", "()I"⟩, prog_4_method_5_code, 1, (some .int))
theorem cs_Hunt_foundSize : gx_cs M_Hunt_foundSize := ⟨gx_T_in (List.mem_append_right _ (show _ ∈ tables_1 from (List.mem_append_right _ (List.mem_append_right _ (List.mem_append_left _ (List.mem_of_getElem? (i := 143) (by decide +kernel))))))) (by decide +kernel), in_Hunt, ⟨by decide +kernel, by decide +kernel⟩, by decide⟩
theorem im_Hunt_foundSize : Cond.instanceMethod M_Hunt_foundSize.1 ∈ gx_T := gx_T_in (List.mem_append_right _ (show _ ∈ tables_1 from (List.mem_append_right _ (List.mem_append_right _ (List.mem_append_left _ (List.mem_of_getElem? (i := 141) (by decide +kernel))))))) (by decide +kernel)
theorem se_Hunt_foundSize : Cond.selects M_Hunt_foundSize.1.cls M_Hunt_foundSize.1 M_Hunt_foundSize.1 ∈ gx_T := gx_T_in (List.mem_append_right _ (show _ ∈ tables_1 from (List.mem_append_right _ (List.mem_append_right _ (List.mem_append_left _ (List.mem_of_getElem? (i := 142) (by decide +kernel))))))) (by decide +kernel)
abbrev M_Hunt_layFound : gx_M := (⟨"PostChain$Hunt", "layFound", "(LPostChain$Row;)V"⟩, prog_4_method_6_code, 4, none)
theorem cs_Hunt_layFound : gx_cs M_Hunt_layFound := ⟨gx_T_in (List.mem_append_right _ (show _ ∈ tables_1 from (List.mem_append_right _ (List.mem_append_right _ (List.mem_append_left _ (List.mem_of_getElem? (i := 147) (by decide +kernel))))))) (by decide +kernel), in_Hunt, ⟨by decide +kernel, by decide +kernel⟩, by decide⟩
theorem im_Hunt_layFound : Cond.instanceMethod M_Hunt_layFound.1 ∈ gx_T := gx_T_in (List.mem_append_right _ (show _ ∈ tables_1 from (List.mem_append_right _ (List.mem_append_right _ (List.mem_append_left _ (List.mem_of_getElem? (i := 145) (by decide +kernel))))))) (by decide +kernel)
theorem se_Hunt_layFound : Cond.selects M_Hunt_layFound.1.cls M_Hunt_layFound.1 M_Hunt_layFound.1 ∈ gx_T := gx_T_in (List.mem_append_right _ (show _ ∈ tables_1 from (List.mem_append_right _ (List.mem_append_right _ (List.mem_append_left _ (List.mem_of_getElem? (i := 146) (by decide +kernel))))))) (by decide +kernel)
abbrev M_Row_turn : gx_M := (⟨"PostChain$Row", "turn", "()V"⟩, prog_6_method_7_code, 3, none)
theorem cs_Row_turn : gx_cs M_Row_turn := ⟨gx_T_in (List.mem_append_right _ (show _ ∈ tables_1 from (List.mem_append_right _ (List.mem_append_right _ (List.mem_append_left _ (List.mem_of_getElem? (i := 154) (by decide +kernel))))))) (by decide +kernel), in_Row, ⟨by decide +kernel, by decide +kernel⟩, by decide⟩
theorem im_Row_turn : Cond.instanceMethod M_Row_turn.1 ∈ gx_T := gx_T_in (List.mem_append_right _ (show _ ∈ tables_1 from (List.mem_append_right _ (List.mem_append_right _ (List.mem_append_left _ (List.mem_of_getElem? (i := 152) (by decide +kernel))))))) (by decide +kernel)
theorem se_Row_turn : Cond.selects M_Row_turn.1.cls M_Row_turn.1 M_Row_turn.1 ∈ gx_T := gx_T_in (List.mem_append_right _ (show _ ∈ tables_1 from (List.mem_append_right _ (List.mem_append_right _ (List.mem_append_left _ (List.mem_of_getElem? (i := 153) (by decide +kernel))))))) (by decide +kernel)
abbrev M_PC_looked : gx_M := (⟨"PostChain", "looked", "()I"⟩, prog_1_method_19_code, 1, (some .int))
theorem cs_PC_looked : gx_cs M_PC_looked := ⟨gx_T_in (List.mem_append_right _ (show _ ∈ tables_1 from (List.mem_append_right _ (List.mem_append_right _ (List.mem_append_left _ (List.mem_of_getElem? (i := 158) (by decide +kernel))))))) (by decide +kernel), in_PC, ⟨by decide +kernel, by decide +kernel⟩, by decide⟩
theorem im_PC_looked : Cond.instanceMethod M_PC_looked.1 ∈ gx_T := gx_T_in (List.mem_append_right _ (show _ ∈ tables_1 from (List.mem_append_right _ (List.mem_append_right _ (List.mem_append_left _ (List.mem_of_getElem? (i := 156) (by decide +kernel))))))) (by decide +kernel)
theorem se_PC_looked : Cond.selects M_PC_looked.1.cls M_PC_looked.1 M_PC_looked.1 ∈ gx_T := gx_T_in (List.mem_append_right _ (show _ ∈ tables_1 from (List.mem_append_right _ (List.mem_append_right _ (List.mem_append_left _ (List.mem_of_getElem? (i := 157) (by decide +kernel))))))) (by decide +kernel)
abbrev M_Hunt_lookedAt : gx_M := (⟨"PostChain$Hunt", "lookedAt", "()I"⟩, prog_4_method_2_code, 1, (some .int))
theorem cs_Hunt_lookedAt : gx_cs M_Hunt_lookedAt := ⟨gx_T_in (List.mem_append_right _ (show _ ∈ tables_1 from (List.mem_append_right _ (List.mem_append_right _ (List.mem_append_left _ (List.mem_of_getElem? (i := 162) (by decide +kernel))))))) (by decide +kernel), in_Hunt, ⟨by decide +kernel, by decide +kernel⟩, by decide⟩
theorem im_Hunt_lookedAt : Cond.instanceMethod M_Hunt_lookedAt.1 ∈ gx_T := gx_T_in (List.mem_append_right _ (show _ ∈ tables_1 from (List.mem_append_right _ (List.mem_append_right _ (List.mem_append_left _ (List.mem_of_getElem? (i := 160) (by decide +kernel))))))) (by decide +kernel)
theorem se_Hunt_lookedAt : Cond.selects M_Hunt_lookedAt.1.cls M_Hunt_lookedAt.1 M_Hunt_lookedAt.1 ∈ gx_T := gx_T_in (List.mem_append_right _ (show _ ∈ tables_1 from (List.mem_append_right _ (List.mem_append_right _ (List.mem_append_left _ (List.mem_of_getElem? (i := 161) (by decide +kernel))))))) (by decide +kernel)
abbrev M_Law_rule : gx_M := (⟨"PostChainLaw", "rule", "(LPostChain;IIIZI[J)I"⟩, method_3_code, 8, (some .int))
abbrev M_PC_rule : gx_M := (⟨"PostChain", "rule", "(IIIZI)Z"⟩, prog_1_method_2_code, 6, (some .boolean))
theorem cs_PC_rule : gx_cs M_PC_rule := ⟨gx_T_in (List.mem_append_right _ (show _ ∈ tables_1 from (List.mem_append_right _ (List.mem_append_right _ (List.mem_append_left _ (List.mem_of_getElem? (i := 170) (by decide +kernel))))))) (by decide +kernel), in_PC, ⟨by decide +kernel, by decide +kernel⟩, by decide⟩
theorem im_PC_rule : Cond.instanceMethod M_PC_rule.1 ∈ gx_T := gx_T_in (List.mem_append_right _ (show _ ∈ tables_1 from (List.mem_append_right _ (List.mem_append_right _ (List.mem_append_left _ (List.mem_of_getElem? (i := 168) (by decide +kernel))))))) (by decide +kernel)
theorem se_PC_rule : Cond.selects M_PC_rule.1.cls M_PC_rule.1 M_PC_rule.1 ∈ gx_T := gx_T_in (List.mem_append_right _ (show _ ∈ tables_1 from (List.mem_append_right _ (List.mem_append_right _ (List.mem_append_left _ (List.mem_of_getElem? (i := 169) (by decide +kernel))))))) (by decide +kernel)
abbrev M_Machine_learn : gx_M := (⟨"PostChain$Machine", "learn", "(IIZI)Z"⟩, prog_5_method_2_code, 5, (some .boolean))
theorem cs_Machine_learn : gx_cs M_Machine_learn := ⟨gx_T_in (List.mem_append_right _ (show _ ∈ tables_1 from (List.mem_append_right _ (List.mem_append_right _ (List.mem_append_right _ (List.mem_append_left _ (List.mem_of_getElem? (i := 4) (by decide +kernel)))))))) (by decide +kernel), in_Machine, ⟨by decide +kernel, by decide +kernel⟩, by decide⟩
theorem im_Machine_learn : Cond.instanceMethod M_Machine_learn.1 ∈ gx_T := gx_T_in (List.mem_append_right _ (show _ ∈ tables_1 from (List.mem_append_right _ (List.mem_append_right _ (List.mem_append_right _ (List.mem_append_left _ (List.mem_of_getElem? (i := 2) (by decide +kernel)))))))) (by decide +kernel)
theorem se_Machine_learn : Cond.selects M_Machine_learn.1.cls M_Machine_learn.1 M_Machine_learn.1 ∈ gx_T := gx_T_in (List.mem_append_right _ (show _ ∈ tables_1 from (List.mem_append_right _ (List.mem_append_right _ (List.mem_append_right _ (List.mem_append_left _ (List.mem_of_getElem? (i := 3) (by decide +kernel)))))))) (by decide +kernel)
abbrev M_Law_drop : gx_M := (⟨"PostChainLaw", "drop", "(LPostChain;II[J)I"⟩, method_4_code, 5, (some .int))
abbrev M_PC_drop : gx_M := (⟨"PostChain", "drop", "(II)Z"⟩, prog_1_method_3_code, 3, (some .boolean))
theorem cs_PC_drop : gx_cs M_PC_drop := ⟨gx_T_in (List.mem_append_right _ (show _ ∈ tables_1 from (List.mem_append_right _ (List.mem_append_right _ (List.mem_append_right _ (List.mem_append_left _ (List.mem_of_getElem? (i := 11) (by decide +kernel)))))))) (by decide +kernel), in_PC, ⟨by decide +kernel, by decide +kernel⟩, by decide⟩
theorem im_PC_drop : Cond.instanceMethod M_PC_drop.1 ∈ gx_T := gx_T_in (List.mem_append_right _ (show _ ∈ tables_1 from (List.mem_append_right _ (List.mem_append_right _ (List.mem_append_right _ (List.mem_append_left _ (List.mem_of_getElem? (i := 9) (by decide +kernel)))))))) (by decide +kernel)
theorem se_PC_drop : Cond.selects M_PC_drop.1.cls M_PC_drop.1 M_PC_drop.1 ∈ gx_T := gx_T_in (List.mem_append_right _ (show _ ∈ tables_1 from (List.mem_append_right _ (List.mem_append_right _ (List.mem_append_right _ (List.mem_append_left _ (List.mem_of_getElem? (i := 10) (by decide +kernel)))))))) (by decide +kernel)
abbrev M_Machine_forget : gx_M := (⟨"PostChain$Machine", "forget", "(I)Z"⟩, prog_5_method_3_code, 3, (some .boolean))
theorem cs_Machine_forget : gx_cs M_Machine_forget := ⟨gx_T_in (List.mem_append_right _ (show _ ∈ tables_1 from (List.mem_append_right _ (List.mem_append_right _ (List.mem_append_right _ (List.mem_append_left _ (List.mem_of_getElem? (i := 15) (by decide +kernel)))))))) (by decide +kernel), in_Machine, ⟨by decide +kernel, by decide +kernel⟩, by decide⟩
theorem im_Machine_forget : Cond.instanceMethod M_Machine_forget.1 ∈ gx_T := gx_T_in (List.mem_append_right _ (show _ ∈ tables_1 from (List.mem_append_right _ (List.mem_append_right _ (List.mem_append_right _ (List.mem_append_left _ (List.mem_of_getElem? (i := 13) (by decide +kernel)))))))) (by decide +kernel)
theorem se_Machine_forget : Cond.selects M_Machine_forget.1.cls M_Machine_forget.1 M_Machine_forget.1 ∈ gx_T := gx_T_in (List.mem_append_right _ (show _ ∈ tables_1 from (List.mem_append_right _ (List.mem_append_right _ (List.mem_append_right _ (List.mem_append_left _ (List.mem_of_getElem? (i := 14) (by decide +kernel)))))))) (by decide +kernel)
abbrev M_Law_input : gx_M := (⟨"PostChainLaw", "input", "(LPostChain;II[J)I"⟩, method_5_code, 5, (some .int))
abbrev M_PC_input : gx_M := (⟨"PostChain", "input", "(II)Z"⟩, prog_1_method_4_code, 3, (some .boolean))
theorem cs_PC_input : gx_cs M_PC_input := ⟨gx_T_in (List.mem_append_right _ (show _ ∈ tables_1 from (List.mem_append_right _ (List.mem_append_right _ (List.mem_append_right _ (List.mem_append_left _ (List.mem_of_getElem? (i := 22) (by decide +kernel)))))))) (by decide +kernel), in_PC, ⟨by decide +kernel, by decide +kernel⟩, by decide⟩
theorem im_PC_input : Cond.instanceMethod M_PC_input.1 ∈ gx_T := gx_T_in (List.mem_append_right _ (show _ ∈ tables_1 from (List.mem_append_right _ (List.mem_append_right _ (List.mem_append_right _ (List.mem_append_left _ (List.mem_of_getElem? (i := 20) (by decide +kernel)))))))) (by decide +kernel)
theorem se_PC_input : Cond.selects M_PC_input.1.cls M_PC_input.1 M_PC_input.1 ∈ gx_T := gx_T_in (List.mem_append_right _ (show _ ∈ tables_1 from (List.mem_append_right _ (List.mem_append_right _ (List.mem_append_right _ (List.mem_append_left _ (List.mem_of_getElem? (i := 21) (by decide +kernel)))))))) (by decide +kernel)
abbrev M_Machine_take : gx_M := (⟨"PostChain$Machine", "take", "(II)V"⟩, prog_5_method_4_code, 5, none)
theorem cs_Machine_take : gx_cs M_Machine_take := ⟨gx_T_in (List.mem_append_right _ (show _ ∈ tables_1 from (List.mem_append_right _ (List.mem_append_right _ (List.mem_append_right _ (List.mem_append_left _ (List.mem_of_getElem? (i := 27) (by decide +kernel)))))))) (by decide +kernel), in_Machine, ⟨by decide +kernel, by decide +kernel⟩, by decide⟩
theorem im_Machine_take : Cond.instanceMethod M_Machine_take.1 ∈ gx_T := gx_T_in (List.mem_append_right _ (show _ ∈ tables_1 from (List.mem_append_right _ (List.mem_append_right _ (List.mem_append_right _ (List.mem_append_left _ (List.mem_of_getElem? (i := 25) (by decide +kernel)))))))) (by decide +kernel)
theorem se_Machine_take : Cond.selects M_Machine_take.1.cls M_Machine_take.1 M_Machine_take.1 ∈ gx_T := gx_T_in (List.mem_append_right _ (show _ ∈ tables_1 from (List.mem_append_right _ (List.mem_append_right _ (List.mem_append_right _ (List.mem_append_left _ (List.mem_of_getElem? (i := 26) (by decide +kernel)))))))) (by decide +kernel)
abbrev M_Law_way : gx_M := (⟨"PostChainLaw", "way", "(LPostChain;I[J)I"⟩, method_6_code, 4, (some .int))
abbrev M_PC_way : gx_M := (⟨"PostChain", "way", "(I)I"⟩, prog_1_method_10_code, 2, (some .int))
theorem cs_PC_way : gx_cs M_PC_way := ⟨gx_T_in (List.mem_append_right _ (show _ ∈ tables_1 from (List.mem_append_right _ (List.mem_append_right _ (List.mem_append_right _ (List.mem_append_left _ (List.mem_of_getElem? (i := 36) (by decide +kernel)))))))) (by decide +kernel), in_PC, ⟨by decide +kernel, by decide +kernel⟩, by decide⟩
theorem im_PC_way : Cond.instanceMethod M_PC_way.1 ∈ gx_T := gx_T_in (List.mem_append_right _ (show _ ∈ tables_1 from (List.mem_append_right _ (List.mem_append_right _ (List.mem_append_right _ (List.mem_append_left _ (List.mem_of_getElem? (i := 34) (by decide +kernel)))))))) (by decide +kernel)
theorem se_PC_way : Cond.selects M_PC_way.1.cls M_PC_way.1 M_PC_way.1 ∈ gx_T := gx_T_in (List.mem_append_right _ (show _ ∈ tables_1 from (List.mem_append_right _ (List.mem_append_right _ (List.mem_append_right _ (List.mem_append_left _ (List.mem_of_getElem? (i := 35) (by decide +kernel)))))))) (by decide +kernel)
abbrev M_Way_row : gx_M := (⟨"PostChain$Way", "row", "()LPostChain$Row;"⟩, prog_8_method_2_code, 1, (some ( .object "PostChain$Row")))
theorem cs_Way_row : gx_cs M_Way_row := ⟨gx_T_in (List.mem_append_right _ (show _ ∈ tables_1 from (List.mem_append_right _ (List.mem_append_right _ (List.mem_append_right _ (List.mem_append_left _ (List.mem_of_getElem? (i := 56) (by decide +kernel)))))))) (by decide +kernel), in_Way, ⟨by decide +kernel, by decide +kernel⟩, by decide⟩
theorem im_Way_row : Cond.instanceMethod M_Way_row.1 ∈ gx_T := gx_T_in (List.mem_append_right _ (show _ ∈ tables_1 from (List.mem_append_right _ (List.mem_append_right _ (List.mem_append_right _ (List.mem_append_left _ (List.mem_of_getElem? (i := 54) (by decide +kernel)))))))) (by decide +kernel)
theorem se_Way_row : Cond.selects M_Way_row.1.cls M_Way_row.1 M_Way_row.1 ∈ gx_T := gx_T_in (List.mem_append_right _ (show _ ∈ tables_1 from (List.mem_append_right _ (List.mem_append_right _ (List.mem_append_right _ (List.mem_append_left _ (List.mem_of_getElem? (i := 55) (by decide +kernel)))))))) (by decide +kernel)
abbrev M_Law_layWay : gx_M := (⟨"PostChainLaw", "layWay", "(LPostChain;[J)I"⟩, method_7_code, 3, (some .int))
abbrev M_PC_layWay : gx_M := (⟨"PostChain", "layWay", "()I"⟩, prog_1_method_12_code, 1, (some .int))
theorem cs_PC_layWay : gx_cs M_PC_layWay := ⟨gx_T_in (List.mem_append_right _ (show _ ∈ tables_1 from (List.mem_append_right _ (List.mem_append_right _ (List.mem_append_right _ (List.mem_append_left _ (List.mem_of_getElem? (i := 63) (by decide +kernel)))))))) (by decide +kernel), in_PC, ⟨by decide +kernel, by decide +kernel⟩, by decide⟩
theorem im_PC_layWay : Cond.instanceMethod M_PC_layWay.1 ∈ gx_T := gx_T_in (List.mem_append_right _ (show _ ∈ tables_1 from (List.mem_append_right _ (List.mem_append_right _ (List.mem_append_right _ (List.mem_append_left _ (List.mem_of_getElem? (i := 61) (by decide +kernel)))))))) (by decide +kernel)
theorem se_PC_layWay : Cond.selects M_PC_layWay.1.cls M_PC_layWay.1 M_PC_layWay.1 ∈ gx_T := gx_T_in (List.mem_append_right _ (show _ ∈ tables_1 from (List.mem_append_right _ (List.mem_append_right _ (List.mem_append_right _ (List.mem_append_left _ (List.mem_of_getElem? (i := 62) (by decide +kernel)))))))) (by decide +kernel)
abbrev M_Row_copy : gx_M := (⟨"PostChain$Row", "copy", "(LPostChain$Row;)V"⟩, prog_6_method_6_code, 3, none)
theorem cs_Row_copy : gx_cs M_Row_copy := ⟨gx_T_in (List.mem_append_right _ (show _ ∈ tables_1 from (List.mem_append_right _ (List.mem_append_right _ (List.mem_append_right _ (List.mem_append_left _ (List.mem_of_getElem? (i := 67) (by decide +kernel)))))))) (by decide +kernel), in_Row, ⟨by decide +kernel, by decide +kernel⟩, by decide⟩
theorem im_Row_copy : Cond.instanceMethod M_Row_copy.1 ∈ gx_T := gx_T_in (List.mem_append_right _ (show _ ∈ tables_1 from (List.mem_append_right _ (List.mem_append_right _ (List.mem_append_right _ (List.mem_append_left _ (List.mem_of_getElem? (i := 65) (by decide +kernel)))))))) (by decide +kernel)
theorem se_Row_copy : Cond.selects M_Row_copy.1.cls M_Row_copy.1 M_Row_copy.1 ∈ gx_T := gx_T_in (List.mem_append_right _ (show _ ∈ tables_1 from (List.mem_append_right _ (List.mem_append_right _ (List.mem_append_right _ (List.mem_append_left _ (List.mem_of_getElem? (i := 66) (by decide +kernel)))))))) (by decide +kernel)
abbrev M_Mo_init : gx_M := (⟨"PostChainModel", "<init>", "()V"⟩, prog_11_method_1_code, 1, none)
theorem cs_Mo_init : gx_cs M_Mo_init := ⟨gx_T_in (List.mem_append_right _ (show _ ∈ tables_1 from (List.mem_append_right _ (List.mem_append_right _ (List.mem_append_right _ (List.mem_append_left _ (List.mem_of_getElem? (i := 76) (by decide +kernel)))))))) (by decide +kernel), in_Mo, ⟨by decide +kernel, by decide +kernel⟩, by decide⟩
theorem im_Mo_init : Cond.instanceMethod M_Mo_init.1 ∈ gx_T := gx_T_in (List.mem_append_right _ (show _ ∈ tables_1 from (List.mem_append_right _ (List.mem_append_right _ (List.mem_append_right _ (List.mem_append_left _ (List.mem_of_getElem? (i := 75) (by decide +kernel)))))))) (by decide +kernel)
abbrev M_Mo_change : gx_M := (⟨"PostChainModel", "change", "()V"⟩, prog_11_method_8_code, 3, none)
theorem cs_Mo_change : gx_cs M_Mo_change := ⟨gx_T_in (List.mem_append_right _ (show _ ∈ tables_1 from (List.mem_append_right _ (List.mem_append_right _ (List.mem_append_right _ (List.mem_append_left _ (List.mem_of_getElem? (i := 81) (by decide +kernel)))))))) (by decide +kernel), in_Mo, ⟨by decide +kernel, by decide +kernel⟩, by decide⟩
theorem im_Mo_change : Cond.instanceMethod M_Mo_change.1 ∈ gx_T := gx_T_in (List.mem_append_right _ (show _ ∈ tables_1 from (List.mem_append_right _ (List.mem_append_right _ (List.mem_append_right _ (List.mem_append_left _ (List.mem_of_getElem? (i := 80) (by decide +kernel)))))))) (by decide +kernel)
theorem se_Mo_change : Cond.selects M_Mo_change.1.cls M_Mo_change.1 M_Mo_change.1 ∈ gx_T := gx_T_in (List.mem_append_left _ (List.mem_of_getElem? (i := 17) (by decide +kernel))) (by decide +kernel)
abbrev M_Mo_step : gx_M := (⟨"PostChainModel", "step", "(I)Z"⟩, prog_11_method_7_code, 10, (some .boolean))
theorem cs_Mo_step : gx_cs M_Mo_step := ⟨gx_T_in (List.mem_append_right _ (show _ ∈ tables_1 from (List.mem_append_right _ (List.mem_append_right _ (List.mem_append_right _ (List.mem_append_left _ (List.mem_of_getElem? (i := 85) (by decide +kernel)))))))) (by decide +kernel), in_Mo, ⟨by decide +kernel, by decide +kernel⟩, by decide⟩
theorem im_Mo_step : Cond.instanceMethod M_Mo_step.1 ∈ gx_T := gx_T_in (List.mem_append_right _ (show _ ∈ tables_1 from (List.mem_append_right _ (List.mem_append_right _ (List.mem_append_right _ (List.mem_append_left _ (List.mem_of_getElem? (i := 84) (by decide +kernel)))))))) (by decide +kernel)
theorem se_Mo_step : Cond.selects M_Mo_step.1.cls M_Mo_step.1 M_Mo_step.1 ∈ gx_T := gx_T_in (List.mem_append_left _ (List.mem_of_getElem? (i := 18) (by decide +kernel))) (by decide +kernel)
abbrev M_Mo_ruleOf : gx_M := (⟨"PostChainModel", "ruleOf", "(I)I"⟩, prog_11_method_5_code, 5, (some .int))
theorem cs_Mo_ruleOf : gx_cs M_Mo_ruleOf := ⟨gx_T_in (List.mem_append_right _ (show _ ∈ tables_1 from (List.mem_append_right _ (List.mem_append_right _ (List.mem_append_right _ (List.mem_append_left _ (List.mem_of_getElem? (i := 89) (by decide +kernel)))))))) (by decide +kernel), in_Mo, ⟨by decide +kernel, by decide +kernel⟩, by decide⟩
theorem im_Mo_ruleOf : Cond.instanceMethod M_Mo_ruleOf.1 ∈ gx_T := gx_T_in (List.mem_append_right _ (show _ ∈ tables_1 from (List.mem_append_right _ (List.mem_append_right _ (List.mem_append_right _ (List.mem_append_left _ (List.mem_of_getElem? (i := 88) (by decide +kernel)))))))) (by decide +kernel)
theorem se_Mo_ruleOf : Cond.selects M_Mo_ruleOf.1.cls M_Mo_ruleOf.1 M_Mo_ruleOf.1 ∈ gx_T := gx_T_in (List.mem_append_left _ (List.mem_of_getElem? (i := 19) (by decide +kernel))) (by decide +kernel)
abbrev M_Mo_head : gx_M := (⟨"PostChainModel", "head", "(I)I"⟩, prog_11_method_4_code, 3, (some .int))
theorem cs_Mo_head : gx_cs M_Mo_head := ⟨gx_T_in (List.mem_append_right _ (show _ ∈ tables_1 from (List.mem_append_right _ (List.mem_append_right _ (List.mem_append_right _ (List.mem_append_left _ (List.mem_of_getElem? (i := 93) (by decide +kernel)))))))) (by decide +kernel), in_Mo, ⟨by decide +kernel, by decide +kernel⟩, by decide⟩
theorem im_Mo_head : Cond.instanceMethod M_Mo_head.1 ∈ gx_T := gx_T_in (List.mem_append_right _ (show _ ∈ tables_1 from (List.mem_append_right _ (List.mem_append_right _ (List.mem_append_right _ (List.mem_append_left _ (List.mem_of_getElem? (i := 92) (by decide +kernel)))))))) (by decide +kernel)
theorem se_Mo_head : Cond.selects M_Mo_head.1.cls M_Mo_head.1 M_Mo_head.1 ∈ gx_T := gx_T_in (List.mem_append_left _ (List.mem_of_getElem? (i := 20) (by decide +kernel))) (by decide +kernel)
abbrev M_Mo_isSymbol : gx_M := (⟨"PostChainModel", "isSymbol", "(I)Z"⟩, prog_11_method_3_code, 1, (some .boolean))
theorem cs_Mo_isSymbol : gx_cs M_Mo_isSymbol := ⟨gx_T_in (List.mem_append_right _ (show _ ∈ tables_1 from (List.mem_append_right _ (List.mem_append_right _ (List.mem_append_right _ (List.mem_append_left _ (List.mem_of_getElem? (i := 96) (by decide +kernel)))))))) (by decide +kernel), in_Mo, ⟨by decide +kernel, by decide +kernel⟩, by decide⟩
theorem st_Mo_isSymbol : Cond.static M_Mo_isSymbol.1 ∈ gx_T := gx_T_in (List.mem_append_right _ (show _ ∈ tables_1 from (List.mem_append_right _ (List.mem_append_right _ (List.mem_append_right _ (List.mem_append_left _ (List.mem_of_getElem? (i := 95) (by decide +kernel)))))))) (by decide +kernel)
abbrev M_Mo_letter : gx_M := (⟨"PostChainModel", "letter", "(I)I"⟩, prog_11_method_6_code, 1, (some .int))
theorem cs_Mo_letter : gx_cs M_Mo_letter := ⟨gx_T_in (List.mem_append_right _ (show _ ∈ tables_1 from (List.mem_append_right _ (List.mem_append_right _ (List.mem_append_right _ (List.mem_append_left _ (List.mem_of_getElem? (i := 99) (by decide +kernel)))))))) (by decide +kernel), in_Mo, ⟨by decide +kernel, by decide +kernel⟩, by decide⟩
theorem st_Mo_letter : Cond.static M_Mo_letter.1 ∈ gx_T := gx_T_in (List.mem_append_right _ (show _ ∈ tables_1 from (List.mem_append_right _ (List.mem_append_right _ (List.mem_append_right _ (List.mem_append_left _ (List.mem_of_getElem? (i := 98) (by decide +kernel)))))))) (by decide +kernel)
abbrev M_Mo_makeDominoes : gx_M := (⟨"PostChainModel", "makeDominoes", "()V"⟩, prog_11_method_21_code, 3, none)
theorem cs_Mo_makeDominoes : gx_cs M_Mo_makeDominoes := ⟨gx_T_in (List.mem_append_right _ (show _ ∈ tables_1 from (List.mem_append_right _ (List.mem_append_right _ (List.mem_append_right _ (List.mem_append_left _ (List.mem_of_getElem? (i := 103) (by decide +kernel)))))))) (by decide +kernel), in_Mo, ⟨by decide +kernel, by decide +kernel⟩, by decide⟩
theorem im_Mo_makeDominoes : Cond.instanceMethod M_Mo_makeDominoes.1 ∈ gx_T := gx_T_in (List.mem_append_right _ (show _ ∈ tables_1 from (List.mem_append_right _ (List.mem_append_right _ (List.mem_append_right _ (List.mem_append_left _ (List.mem_of_getElem? (i := 102) (by decide +kernel)))))))) (by decide +kernel)
theorem se_Mo_makeDominoes : Cond.selects M_Mo_makeDominoes.1.cls M_Mo_makeDominoes.1 M_Mo_makeDominoes.1 ∈ gx_T := gx_T_in (List.mem_append_left _ (List.mem_of_getElem? (i := 21) (by decide +kernel))) (by decide +kernel)
abbrev M_Mo_addUpper : gx_M := (⟨"PostChainModel", "addUpper", "(I)V"⟩, prog_11_method_17_code, 2, none)
theorem cs_Mo_addUpper : gx_cs M_Mo_addUpper := ⟨gx_T_in (List.mem_append_right _ (show _ ∈ tables_1 from (List.mem_append_right _ (List.mem_append_right _ (List.mem_append_right _ (List.mem_append_left _ (List.mem_of_getElem? (i := 107) (by decide +kernel)))))))) (by decide +kernel), in_Mo, ⟨by decide +kernel, by decide +kernel⟩, by decide⟩
theorem im_Mo_addUpper : Cond.instanceMethod M_Mo_addUpper.1 ∈ gx_T := gx_T_in (List.mem_append_right _ (show _ ∈ tables_1 from (List.mem_append_right _ (List.mem_append_right _ (List.mem_append_right _ (List.mem_append_left _ (List.mem_of_getElem? (i := 106) (by decide +kernel)))))))) (by decide +kernel)
theorem se_Mo_addUpper : Cond.selects M_Mo_addUpper.1.cls M_Mo_addUpper.1 M_Mo_addUpper.1 ∈ gx_T := gx_T_in (List.mem_append_left _ (List.mem_of_getElem? (i := 22) (by decide +kernel))) (by decide +kernel)
abbrev M_Mo_addLower : gx_M := (⟨"PostChainModel", "addLower", "(I)V"⟩, prog_11_method_18_code, 2, none)
theorem cs_Mo_addLower : gx_cs M_Mo_addLower := ⟨gx_T_in (List.mem_append_right _ (show _ ∈ tables_1 from (List.mem_append_right _ (List.mem_append_right _ (List.mem_append_right _ (List.mem_append_left _ (List.mem_of_getElem? (i := 111) (by decide +kernel)))))))) (by decide +kernel), in_Mo, ⟨by decide +kernel, by decide +kernel⟩, by decide⟩
theorem im_Mo_addLower : Cond.instanceMethod M_Mo_addLower.1 ∈ gx_T := gx_T_in (List.mem_append_right _ (show _ ∈ tables_1 from (List.mem_append_right _ (List.mem_append_right _ (List.mem_append_right _ (List.mem_append_left _ (List.mem_of_getElem? (i := 110) (by decide +kernel)))))))) (by decide +kernel)
theorem se_Mo_addLower : Cond.selects M_Mo_addLower.1.cls M_Mo_addLower.1 M_Mo_addLower.1 ∈ gx_T := gx_T_in (List.mem_append_left _ (List.mem_of_getElem? (i := 23) (by decide +kernel))) (by decide +kernel)
abbrev M_Mo_make : gx_M := (⟨"PostChainModel", "make", "(IIIIIII)V"⟩, prog_11_method_19_code, 10, none)
theorem cs_Mo_make : gx_cs M_Mo_make := ⟨gx_T_in (List.mem_append_right _ (show _ ∈ tables_1 from (List.mem_append_right _ (List.mem_append_right _ (List.mem_append_right _ (List.mem_append_left _ (List.mem_of_getElem? (i := 115) (by decide +kernel)))))))) (by decide +kernel), in_Mo, ⟨by decide +kernel, by decide +kernel⟩, by decide⟩
theorem im_Mo_make : Cond.instanceMethod M_Mo_make.1 ∈ gx_T := gx_T_in (List.mem_append_right _ (show _ ∈ tables_1 from (List.mem_append_right _ (List.mem_append_right _ (List.mem_append_right _ (List.mem_append_left _ (List.mem_of_getElem? (i := 114) (by decide +kernel)))))))) (by decide +kernel)
theorem se_Mo_make : Cond.selects M_Mo_make.1.cls M_Mo_make.1 M_Mo_make.1 ∈ gx_T := gx_T_in (List.mem_append_left _ (List.mem_of_getElem? (i := 24) (by decide +kernel))) (by decide +kernel)
abbrev M_Mo_makeRule : gx_M := (⟨"PostChainModel", "makeRule", "(II)V"⟩, prog_11_method_20_code, 11, none)
theorem cs_Mo_makeRule : gx_cs M_Mo_makeRule := ⟨gx_T_in (List.mem_append_right _ (show _ ∈ tables_1 from (List.mem_append_right _ (List.mem_append_right _ (List.mem_append_right _ (List.mem_append_left _ (List.mem_of_getElem? (i := 119) (by decide +kernel)))))))) (by decide +kernel), in_Mo, ⟨by decide +kernel, by decide +kernel⟩, by decide⟩
theorem im_Mo_makeRule : Cond.instanceMethod M_Mo_makeRule.1 ∈ gx_T := gx_T_in (List.mem_append_right _ (show _ ∈ tables_1 from (List.mem_append_right _ (List.mem_append_right _ (List.mem_append_right _ (List.mem_append_left _ (List.mem_of_getElem? (i := 118) (by decide +kernel)))))))) (by decide +kernel)
theorem se_Mo_makeRule : Cond.selects M_Mo_makeRule.1.cls M_Mo_makeRule.1 M_Mo_makeRule.1 ∈ gx_T := gx_T_in (List.mem_append_left _ (List.mem_of_getElem? (i := 25) (by decide +kernel))) (by decide +kernel)
abbrev M_Mo_halted : gx_M := (⟨"PostChainModel", "halted", "()Z"⟩, prog_11_method_9_code, 1, (some .boolean))
theorem cs_Mo_halted : gx_cs M_Mo_halted := ⟨gx_T_in (List.mem_append_right _ (show _ ∈ tables_1 from (List.mem_append_right _ (List.mem_append_right _ (List.mem_append_right _ (List.mem_append_left _ (List.mem_of_getElem? (i := 123) (by decide +kernel)))))))) (by decide +kernel), in_Mo, ⟨by decide +kernel, by decide +kernel⟩, by decide⟩
theorem im_Mo_halted : Cond.instanceMethod M_Mo_halted.1 ∈ gx_T := gx_T_in (List.mem_append_right _ (show _ ∈ tables_1 from (List.mem_append_right _ (List.mem_append_right _ (List.mem_append_right _ (List.mem_append_left _ (List.mem_of_getElem? (i := 122) (by decide +kernel)))))))) (by decide +kernel)
theorem se_Mo_halted : Cond.selects M_Mo_halted.1.cls M_Mo_halted.1 M_Mo_halted.1 ∈ gx_T := gx_T_in (List.mem_append_left _ (List.mem_of_getElem? (i := 26) (by decide +kernel))) (by decide +kernel)
abbrev M_Mo_makeWay : gx_M := (⟨"PostChainModel", "makeWay", "()V"⟩, prog_11_method_27_code, 6, none)
theorem cs_Mo_makeWay : gx_cs M_Mo_makeWay := ⟨gx_T_in (List.mem_append_right _ (show _ ∈ tables_1 from (List.mem_append_right _ (List.mem_append_right _ (List.mem_append_right _ (List.mem_append_left _ (List.mem_of_getElem? (i := 127) (by decide +kernel)))))))) (by decide +kernel), in_Mo, ⟨by decide +kernel, by decide +kernel⟩, by decide⟩
theorem im_Mo_makeWay : Cond.instanceMethod M_Mo_makeWay.1 ∈ gx_T := gx_T_in (List.mem_append_right _ (show _ ∈ tables_1 from (List.mem_append_right _ (List.mem_append_right _ (List.mem_append_right _ (List.mem_append_left _ (List.mem_of_getElem? (i := 126) (by decide +kernel)))))))) (by decide +kernel)
theorem se_Mo_makeWay : Cond.selects M_Mo_makeWay.1.cls M_Mo_makeWay.1 M_Mo_makeWay.1 ∈ gx_T := gx_T_in (List.mem_append_left _ (List.mem_of_getElem? (i := 27) (by decide +kernel))) (by decide +kernel)
abbrev M_Mo_goOn : gx_M := (⟨"PostChainModel", "goOn", "(I)V"⟩, prog_11_method_24_code, 2, none)
theorem cs_Mo_goOn : gx_cs M_Mo_goOn := ⟨gx_T_in (List.mem_append_right _ (show _ ∈ tables_1 from (List.mem_append_right _ (List.mem_append_right _ (List.mem_append_right _ (List.mem_append_left _ (List.mem_of_getElem? (i := 131) (by decide +kernel)))))))) (by decide +kernel), in_Mo, ⟨by decide +kernel, by decide +kernel⟩, by decide⟩
theorem im_Mo_goOn : Cond.instanceMethod M_Mo_goOn.1 ∈ gx_T := gx_T_in (List.mem_append_right _ (show _ ∈ tables_1 from (List.mem_append_right _ (List.mem_append_right _ (List.mem_append_right _ (List.mem_append_left _ (List.mem_of_getElem? (i := 130) (by decide +kernel)))))))) (by decide +kernel)
theorem se_Mo_goOn : Cond.selects M_Mo_goOn.1.cls M_Mo_goOn.1 M_Mo_goOn.1 ∈ gx_T := gx_T_in (List.mem_append_left _ (List.mem_of_getElem? (i := 28) (by decide +kernel))) (by decide +kernel)
abbrev M_Mo_wayStep : gx_M := (⟨"PostChainModel", "wayStep", "(I)V"⟩, prog_11_method_26_code, 9, none)
theorem cs_Mo_wayStep : gx_cs M_Mo_wayStep := ⟨gx_T_in (List.mem_append_right _ (show _ ∈ tables_1 from (List.mem_append_right _ (List.mem_append_right _ (List.mem_append_right _ (List.mem_append_left _ (List.mem_of_getElem? (i := 135) (by decide +kernel)))))))) (by decide +kernel), in_Mo, ⟨by decide +kernel, by decide +kernel⟩, by decide⟩
theorem im_Mo_wayStep : Cond.instanceMethod M_Mo_wayStep.1 ∈ gx_T := gx_T_in (List.mem_append_right _ (show _ ∈ tables_1 from (List.mem_append_right _ (List.mem_append_right _ (List.mem_append_right _ (List.mem_append_left _ (List.mem_of_getElem? (i := 134) (by decide +kernel)))))))) (by decide +kernel)
theorem se_Mo_wayStep : Cond.selects M_Mo_wayStep.1.cls M_Mo_wayStep.1 M_Mo_wayStep.1 ∈ gx_T := gx_T_in (List.mem_append_left _ (List.mem_of_getElem? (i := 29) (by decide +kernel))) (by decide +kernel)
abbrev M_Mo_find : gx_M := (⟨"PostChainModel", "find", "(III)I"⟩, prog_11_method_25_code, 8, (some .int))
theorem cs_Mo_find : gx_cs M_Mo_find := ⟨gx_T_in (List.mem_append_right _ (show _ ∈ tables_1 from (List.mem_append_right _ (List.mem_append_right _ (List.mem_append_right _ (List.mem_append_left _ (List.mem_of_getElem? (i := 139) (by decide +kernel)))))))) (by decide +kernel), in_Mo, ⟨by decide +kernel, by decide +kernel⟩, by decide⟩
theorem im_Mo_find : Cond.instanceMethod M_Mo_find.1 ∈ gx_T := gx_T_in (List.mem_append_right _ (show _ ∈ tables_1 from (List.mem_append_right _ (List.mem_append_right _ (List.mem_append_right _ (List.mem_append_left _ (List.mem_of_getElem? (i := 138) (by decide +kernel)))))))) (by decide +kernel)
theorem se_Mo_find : Cond.selects M_Mo_find.1.cls M_Mo_find.1 M_Mo_find.1 ∈ gx_T := gx_T_in (List.mem_append_left _ (List.mem_of_getElem? (i := 30) (by decide +kernel))) (by decide +kernel)
abbrev M_Mo_thrown : gx_M := (⟨"PostChainModel", "thrown", "()I"⟩, prog_11_method_2_code, 1, (some .int))
theorem cs_Mo_thrown : gx_cs M_Mo_thrown := ⟨gx_T_in (List.mem_append_right _ (show _ ∈ tables_1 from (List.mem_append_right _ (List.mem_append_right _ (List.mem_append_right _ (List.mem_append_right _ (List.mem_of_getElem? (i := 3) (by decide +kernel)))))))) (by decide +kernel), in_Mo, ⟨by decide +kernel, by decide +kernel⟩, by decide⟩
theorem im_Mo_thrown : Cond.instanceMethod M_Mo_thrown.1 ∈ gx_T := gx_T_in (List.mem_append_right _ (show _ ∈ tables_1 from (List.mem_append_right _ (List.mem_append_right _ (List.mem_append_right _ (List.mem_append_right _ (List.mem_of_getElem? (i := 1) (by decide +kernel)))))))) (by decide +kernel)
theorem se_Mo_thrown : Cond.selects M_Mo_thrown.1.cls M_Mo_thrown.1 M_Mo_thrown.1 ∈ gx_T := gx_T_in (List.mem_append_right _ (show _ ∈ tables_1 from (List.mem_append_right _ (List.mem_append_right _ (List.mem_append_right _ (List.mem_append_right _ (List.mem_of_getElem? (i := 2) (by decide +kernel)))))))) (by decide +kernel)
abbrev M_Mo_rule : gx_M := (⟨"PostChainModel", "rule", "(IIIZI)Z"⟩, prog_11_method_11_code, 7, (some .boolean))
theorem cs_Mo_rule : gx_cs M_Mo_rule := ⟨gx_T_in (List.mem_append_right _ (show _ ∈ tables_1 from (List.mem_append_right _ (List.mem_append_right _ (List.mem_append_right _ (List.mem_append_right _ (List.mem_of_getElem? (i := 7) (by decide +kernel)))))))) (by decide +kernel), in_Mo, ⟨by decide +kernel, by decide +kernel⟩, by decide⟩
theorem im_Mo_rule : Cond.instanceMethod M_Mo_rule.1 ∈ gx_T := gx_T_in (List.mem_append_right _ (show _ ∈ tables_1 from (List.mem_append_right _ (List.mem_append_right _ (List.mem_append_right _ (List.mem_append_right _ (List.mem_of_getElem? (i := 5) (by decide +kernel)))))))) (by decide +kernel)
theorem se_Mo_rule : Cond.selects M_Mo_rule.1.cls M_Mo_rule.1 M_Mo_rule.1 ∈ gx_T := gx_T_in (List.mem_append_right _ (show _ ∈ tables_1 from (List.mem_append_right _ (List.mem_append_right _ (List.mem_append_right _ (List.mem_append_right _ (List.mem_of_getElem? (i := 6) (by decide +kernel)))))))) (by decide +kernel)
abbrev M_Mo_isRule : gx_M := (⟨"PostChainModel", "isRule", "(II)Z"⟩, prog_11_method_10_code, 2, (some .boolean))
theorem cs_Mo_isRule : gx_cs M_Mo_isRule := ⟨gx_T_in (List.mem_append_right _ (show _ ∈ tables_1 from (List.mem_append_right _ (List.mem_append_right _ (List.mem_append_right _ (List.mem_append_right _ (List.mem_of_getElem? (i := 10) (by decide +kernel)))))))) (by decide +kernel), in_Mo, ⟨by decide +kernel, by decide +kernel⟩, by decide⟩
theorem st_Mo_isRule : Cond.static M_Mo_isRule.1 ∈ gx_T := gx_T_in (List.mem_append_right _ (show _ ∈ tables_1 from (List.mem_append_right _ (List.mem_append_right _ (List.mem_append_right _ (List.mem_append_right _ (List.mem_of_getElem? (i := 9) (by decide +kernel)))))))) (by decide +kernel)
abbrev M_Mo_drop : gx_M := (⟨"PostChainModel", "drop", "(II)Z"⟩, prog_11_method_12_code, 3, (some .boolean))
theorem cs_Mo_drop : gx_cs M_Mo_drop := ⟨gx_T_in (List.mem_append_right _ (show _ ∈ tables_1 from (List.mem_append_right _ (List.mem_append_right _ (List.mem_append_right _ (List.mem_append_right _ (List.mem_of_getElem? (i := 14) (by decide +kernel)))))))) (by decide +kernel), in_Mo, ⟨by decide +kernel, by decide +kernel⟩, by decide⟩
theorem im_Mo_drop : Cond.instanceMethod M_Mo_drop.1 ∈ gx_T := gx_T_in (List.mem_append_right _ (show _ ∈ tables_1 from (List.mem_append_right _ (List.mem_append_right _ (List.mem_append_right _ (List.mem_append_right _ (List.mem_of_getElem? (i := 12) (by decide +kernel)))))))) (by decide +kernel)
theorem se_Mo_drop : Cond.selects M_Mo_drop.1.cls M_Mo_drop.1 M_Mo_drop.1 ∈ gx_T := gx_T_in (List.mem_append_right _ (show _ ∈ tables_1 from (List.mem_append_right _ (List.mem_append_right _ (List.mem_append_right _ (List.mem_append_right _ (List.mem_of_getElem? (i := 13) (by decide +kernel)))))))) (by decide +kernel)
abbrev M_Mo_input : gx_M := (⟨"PostChainModel", "input", "(II)Z"⟩, prog_11_method_13_code, 5, (some .boolean))
theorem cs_Mo_input : gx_cs M_Mo_input := ⟨gx_T_in (List.mem_append_right _ (show _ ∈ tables_1 from (List.mem_append_right _ (List.mem_append_right _ (List.mem_append_right _ (List.mem_append_right _ (List.mem_of_getElem? (i := 18) (by decide +kernel)))))))) (by decide +kernel), in_Mo, ⟨by decide +kernel, by decide +kernel⟩, by decide⟩
theorem im_Mo_input : Cond.instanceMethod M_Mo_input.1 ∈ gx_T := gx_T_in (List.mem_append_right _ (show _ ∈ tables_1 from (List.mem_append_right _ (List.mem_append_right _ (List.mem_append_right _ (List.mem_append_right _ (List.mem_of_getElem? (i := 16) (by decide +kernel)))))))) (by decide +kernel)
theorem se_Mo_input : Cond.selects M_Mo_input.1.cls M_Mo_input.1 M_Mo_input.1 ∈ gx_T := gx_T_in (List.mem_append_right _ (show _ ∈ tables_1 from (List.mem_append_right _ (List.mem_append_right _ (List.mem_append_right _ (List.mem_append_right _ (List.mem_of_getElem? (i := 17) (by decide +kernel)))))))) (by decide +kernel)
abbrev M_Mo_steps : gx_M := (⟨"PostChainModel", "steps", "()I"⟩, prog_11_method_14_code, 1, (some .int))
theorem cs_Mo_steps : gx_cs M_Mo_steps := ⟨gx_T_in (List.mem_append_right _ (show _ ∈ tables_1 from (List.mem_append_right _ (List.mem_append_right _ (List.mem_append_right _ (List.mem_append_right _ (List.mem_of_getElem? (i := 22) (by decide +kernel)))))))) (by decide +kernel), in_Mo, ⟨by decide +kernel, by decide +kernel⟩, by decide⟩
theorem im_Mo_steps : Cond.instanceMethod M_Mo_steps.1 ∈ gx_T := gx_T_in (List.mem_append_right _ (show _ ∈ tables_1 from (List.mem_append_right _ (List.mem_append_right _ (List.mem_append_right _ (List.mem_append_right _ (List.mem_of_getElem? (i := 20) (by decide +kernel)))))))) (by decide +kernel)
theorem se_Mo_steps : Cond.selects M_Mo_steps.1.cls M_Mo_steps.1 M_Mo_steps.1 ∈ gx_T := gx_T_in (List.mem_append_right _ (show _ ∈ tables_1 from (List.mem_append_right _ (List.mem_append_right _ (List.mem_append_right _ (List.mem_append_right _ (List.mem_of_getElem? (i := 21) (by decide +kernel)))))))) (by decide +kernel)
abbrev M_Mo_halts : gx_M := (⟨"PostChainModel", "halts", "()Z"⟩, prog_11_method_15_code, 1, (some .boolean))
theorem cs_Mo_halts : gx_cs M_Mo_halts := ⟨gx_T_in (List.mem_append_right _ (show _ ∈ tables_1 from (List.mem_append_right _ (List.mem_append_right _ (List.mem_append_right _ (List.mem_append_right _ (List.mem_of_getElem? (i := 26) (by decide +kernel)))))))) (by decide +kernel), in_Mo, ⟨by decide +kernel, by decide +kernel⟩, by decide⟩
theorem im_Mo_halts : Cond.instanceMethod M_Mo_halts.1 ∈ gx_T := gx_T_in (List.mem_append_right _ (show _ ∈ tables_1 from (List.mem_append_right _ (List.mem_append_right _ (List.mem_append_right _ (List.mem_append_right _ (List.mem_of_getElem? (i := 24) (by decide +kernel)))))))) (by decide +kernel)
theorem se_Mo_halts : Cond.selects M_Mo_halts.1.cls M_Mo_halts.1 M_Mo_halts.1 ∈ gx_T := gx_T_in (List.mem_append_right _ (show _ ∈ tables_1 from (List.mem_append_right _ (List.mem_append_right _ (List.mem_append_right _ (List.mem_append_right _ (List.mem_of_getElem? (i := 25) (by decide +kernel)))))))) (by decide +kernel)
abbrev M_Mo_run : gx_M := (⟨"PostChainModel", "run", "(II)I"⟩, prog_11_method_16_code, 3, (some .int))
theorem cs_Mo_run : gx_cs M_Mo_run := ⟨gx_T_in (List.mem_append_right _ (show _ ∈ tables_1 from (List.mem_append_right _ (List.mem_append_right _ (List.mem_append_right _ (List.mem_append_right _ (List.mem_of_getElem? (i := 30) (by decide +kernel)))))))) (by decide +kernel), in_Mo, ⟨by decide +kernel, by decide +kernel⟩, by decide⟩
theorem im_Mo_run : Cond.instanceMethod M_Mo_run.1 ∈ gx_T := gx_T_in (List.mem_append_right _ (show _ ∈ tables_1 from (List.mem_append_right _ (List.mem_append_right _ (List.mem_append_right _ (List.mem_append_right _ (List.mem_of_getElem? (i := 28) (by decide +kernel)))))))) (by decide +kernel)
theorem se_Mo_run : Cond.selects M_Mo_run.1.cls M_Mo_run.1 M_Mo_run.1 ∈ gx_T := gx_T_in (List.mem_append_right _ (show _ ∈ tables_1 from (List.mem_append_right _ (List.mem_append_right _ (List.mem_append_right _ (List.mem_append_right _ (List.mem_of_getElem? (i := 29) (by decide +kernel)))))))) (by decide +kernel)
abbrev M_Mo_dominoes : gx_M := (⟨"PostChainModel", "dominoes", "()I"⟩, prog_11_method_22_code, 1, (some .int))
theorem cs_Mo_dominoes : gx_cs M_Mo_dominoes := ⟨gx_T_in (List.mem_append_right _ (show _ ∈ tables_1 from (List.mem_append_right _ (List.mem_append_right _ (List.mem_append_right _ (List.mem_append_right _ (List.mem_of_getElem? (i := 34) (by decide +kernel)))))))) (by decide +kernel), in_Mo, ⟨by decide +kernel, by decide +kernel⟩, by decide⟩
theorem im_Mo_dominoes : Cond.instanceMethod M_Mo_dominoes.1 ∈ gx_T := gx_T_in (List.mem_append_right _ (show _ ∈ tables_1 from (List.mem_append_right _ (List.mem_append_right _ (List.mem_append_right _ (List.mem_append_right _ (List.mem_of_getElem? (i := 32) (by decide +kernel)))))))) (by decide +kernel)
theorem se_Mo_dominoes : Cond.selects M_Mo_dominoes.1.cls M_Mo_dominoes.1 M_Mo_dominoes.1 ∈ gx_T := gx_T_in (List.mem_append_right _ (show _ ∈ tables_1 from (List.mem_append_right _ (List.mem_append_right _ (List.mem_append_right _ (List.mem_append_right _ (List.mem_of_getElem? (i := 33) (by decide +kernel)))))))) (by decide +kernel)
abbrev M_Mo_domino : gx_M := (⟨"PostChainModel", "domino", "(IZI)I"⟩, prog_11_method_23_code, 5, (some .int))
theorem cs_Mo_domino : gx_cs M_Mo_domino := ⟨gx_T_in (List.mem_append_right _ (show _ ∈ tables_1 from (List.mem_append_right _ (List.mem_append_right _ (List.mem_append_right _ (List.mem_append_right _ (List.mem_of_getElem? (i := 38) (by decide +kernel)))))))) (by decide +kernel), in_Mo, ⟨by decide +kernel, by decide +kernel⟩, by decide⟩
theorem im_Mo_domino : Cond.instanceMethod M_Mo_domino.1 ∈ gx_T := gx_T_in (List.mem_append_right _ (show _ ∈ tables_1 from (List.mem_append_right _ (List.mem_append_right _ (List.mem_append_right _ (List.mem_append_right _ (List.mem_of_getElem? (i := 36) (by decide +kernel)))))))) (by decide +kernel)
theorem se_Mo_domino : Cond.selects M_Mo_domino.1.cls M_Mo_domino.1 M_Mo_domino.1 ∈ gx_T := gx_T_in (List.mem_append_right _ (show _ ∈ tables_1 from (List.mem_append_right _ (List.mem_append_right _ (List.mem_append_right _ (List.mem_append_right _ (List.mem_of_getElem? (i := 37) (by decide +kernel)))))))) (by decide +kernel)
abbrev M_Mo_way : gx_M := (⟨"PostChainModel", "way", "(I)I"⟩, prog_11_method_28_code, 2, (some .int))
theorem cs_Mo_way : gx_cs M_Mo_way := ⟨gx_T_in (List.mem_append_right _ (show _ ∈ tables_1 from (List.mem_append_right _ (List.mem_append_right _ (List.mem_append_right _ (List.mem_append_right _ (List.mem_of_getElem? (i := 42) (by decide +kernel)))))))) (by decide +kernel), in_Mo, ⟨by decide +kernel, by decide +kernel⟩, by decide⟩
theorem im_Mo_way : Cond.instanceMethod M_Mo_way.1 ∈ gx_T := gx_T_in (List.mem_append_right _ (show _ ∈ tables_1 from (List.mem_append_right _ (List.mem_append_right _ (List.mem_append_right _ (List.mem_append_right _ (List.mem_of_getElem? (i := 40) (by decide +kernel)))))))) (by decide +kernel)
theorem se_Mo_way : Cond.selects M_Mo_way.1.cls M_Mo_way.1 M_Mo_way.1 ∈ gx_T := gx_T_in (List.mem_append_right _ (show _ ∈ tables_1 from (List.mem_append_right _ (List.mem_append_right _ (List.mem_append_right _ (List.mem_append_right _ (List.mem_of_getElem? (i := 41) (by decide +kernel)))))))) (by decide +kernel)
abbrev M_Mo_lay : gx_M := (⟨"PostChainModel", "lay", "(I)I"⟩, prog_11_method_29_code, 2, (some .int))
theorem cs_Mo_lay : gx_cs M_Mo_lay := ⟨gx_T_in (List.mem_append_right _ (show _ ∈ tables_1 from (List.mem_append_right _ (List.mem_append_right _ (List.mem_append_right _ (List.mem_append_right _ (List.mem_of_getElem? (i := 46) (by decide +kernel)))))))) (by decide +kernel), in_Mo, ⟨by decide +kernel, by decide +kernel⟩, by decide⟩
theorem im_Mo_lay : Cond.instanceMethod M_Mo_lay.1 ∈ gx_T := gx_T_in (List.mem_append_right _ (show _ ∈ tables_1 from (List.mem_append_right _ (List.mem_append_right _ (List.mem_append_right _ (List.mem_append_right _ (List.mem_of_getElem? (i := 44) (by decide +kernel)))))))) (by decide +kernel)
theorem se_Mo_lay : Cond.selects M_Mo_lay.1.cls M_Mo_lay.1 M_Mo_lay.1 ∈ gx_T := gx_T_in (List.mem_append_right _ (show _ ∈ tables_1 from (List.mem_append_right _ (List.mem_append_right _ (List.mem_append_right _ (List.mem_append_right _ (List.mem_of_getElem? (i := 45) (by decide +kernel)))))))) (by decide +kernel)
abbrev M_Mo_layWay : gx_M := (⟨"PostChainModel", "layWay", "()I"⟩, prog_11_method_30_code, 2, (some .int))
theorem cs_Mo_layWay : gx_cs M_Mo_layWay := ⟨gx_T_in (List.mem_append_right _ (show _ ∈ tables_1 from (List.mem_append_right _ (List.mem_append_right _ (List.mem_append_right _ (List.mem_append_right _ (List.mem_of_getElem? (i := 50) (by decide +kernel)))))))) (by decide +kernel), in_Mo, ⟨by decide +kernel, by decide +kernel⟩, by decide⟩
theorem im_Mo_layWay : Cond.instanceMethod M_Mo_layWay.1 ∈ gx_T := gx_T_in (List.mem_append_right _ (show _ ∈ tables_1 from (List.mem_append_right _ (List.mem_append_right _ (List.mem_append_right _ (List.mem_append_right _ (List.mem_of_getElem? (i := 48) (by decide +kernel)))))))) (by decide +kernel)
theorem se_Mo_layWay : Cond.selects M_Mo_layWay.1.cls M_Mo_layWay.1 M_Mo_layWay.1 ∈ gx_T := gx_T_in (List.mem_append_right _ (show _ ∈ tables_1 from (List.mem_append_right _ (List.mem_append_right _ (List.mem_append_right _ (List.mem_append_right _ (List.mem_of_getElem? (i := 49) (by decide +kernel)))))))) (by decide +kernel)
abbrev M_Mo_clear : gx_M := (⟨"PostChainModel", "clear", "()V"⟩, prog_11_method_31_code, 1, none)
theorem cs_Mo_clear : gx_cs M_Mo_clear := ⟨gx_T_in (List.mem_append_right _ (show _ ∈ tables_1 from (List.mem_append_right _ (List.mem_append_right _ (List.mem_append_right _ (List.mem_append_right _ (List.mem_of_getElem? (i := 54) (by decide +kernel)))))))) (by decide +kernel), in_Mo, ⟨by decide +kernel, by decide +kernel⟩, by decide⟩
theorem im_Mo_clear : Cond.instanceMethod M_Mo_clear.1 ∈ gx_T := gx_T_in (List.mem_append_right _ (show _ ∈ tables_1 from (List.mem_append_right _ (List.mem_append_right _ (List.mem_append_right _ (List.mem_append_right _ (List.mem_of_getElem? (i := 52) (by decide +kernel)))))))) (by decide +kernel)
theorem se_Mo_clear : Cond.selects M_Mo_clear.1.cls M_Mo_clear.1 M_Mo_clear.1 ∈ gx_T := gx_T_in (List.mem_append_right _ (show _ ∈ tables_1 from (List.mem_append_right _ (List.mem_append_right _ (List.mem_append_right _ (List.mem_append_right _ (List.mem_of_getElem? (i := 53) (by decide +kernel)))))))) (by decide +kernel)
abbrev M_Mo_tray : gx_M := (⟨"PostChainModel", "tray", "()I"⟩, prog_11_method_34_code, 1, (some .int))
theorem cs_Mo_tray : gx_cs M_Mo_tray := ⟨gx_T_in (List.mem_append_right _ (show _ ∈ tables_1 from (List.mem_append_right _ (List.mem_append_right _ (List.mem_append_right _ (List.mem_append_right _ (List.mem_of_getElem? (i := 58) (by decide +kernel)))))))) (by decide +kernel), in_Mo, ⟨by decide +kernel, by decide +kernel⟩, by decide⟩
theorem im_Mo_tray : Cond.instanceMethod M_Mo_tray.1 ∈ gx_T := gx_T_in (List.mem_append_right _ (show _ ∈ tables_1 from (List.mem_append_right _ (List.mem_append_right _ (List.mem_append_right _ (List.mem_append_right _ (List.mem_of_getElem? (i := 56) (by decide +kernel)))))))) (by decide +kernel)
theorem se_Mo_tray : Cond.selects M_Mo_tray.1.cls M_Mo_tray.1 M_Mo_tray.1 ∈ gx_T := gx_T_in (List.mem_append_right _ (show _ ∈ tables_1 from (List.mem_append_right _ (List.mem_append_right _ (List.mem_append_right _ (List.mem_append_right _ (List.mem_of_getElem? (i := 57) (by decide +kernel)))))))) (by decide +kernel)
abbrev M_Mo_kind : gx_M := (⟨"PostChainModel", "kind", "()I"⟩, prog_11_method_33_code, 5, (some .int))
theorem cs_Mo_kind : gx_cs M_Mo_kind := ⟨gx_T_in (List.mem_append_right _ (show _ ∈ tables_1 from (List.mem_append_right _ (List.mem_append_right _ (List.mem_append_right _ (List.mem_append_right _ (List.mem_of_getElem? (i := 62) (by decide +kernel)))))))) (by decide +kernel), in_Mo, ⟨by decide +kernel, by decide +kernel⟩, by decide⟩
theorem im_Mo_kind : Cond.instanceMethod M_Mo_kind.1 ∈ gx_T := gx_T_in (List.mem_append_right _ (show _ ∈ tables_1 from (List.mem_append_right _ (List.mem_append_right _ (List.mem_append_right _ (List.mem_append_right _ (List.mem_of_getElem? (i := 61) (by decide +kernel)))))))) (by decide +kernel)
theorem se_Mo_kind : Cond.selects M_Mo_kind.1.cls M_Mo_kind.1 M_Mo_kind.1 ∈ gx_T := gx_T_in (List.mem_append_left _ (List.mem_of_getElem? (i := 31) (by decide +kernel))) (by decide +kernel)
abbrev M_Mo_word : gx_M := (⟨"PostChainModel", "word", "(Z)I"⟩, prog_11_method_32_code, 7, (some .int))
theorem cs_Mo_word : gx_cs M_Mo_word := ⟨gx_T_in (List.mem_append_right _ (show _ ∈ tables_1 from (List.mem_append_right _ (List.mem_append_right _ (List.mem_append_right _ (List.mem_append_right _ (List.mem_of_getElem? (i := 66) (by decide +kernel)))))))) (by decide +kernel), in_Mo, ⟨by decide +kernel, by decide +kernel⟩, by decide⟩
theorem im_Mo_word : Cond.instanceMethod M_Mo_word.1 ∈ gx_T := gx_T_in (List.mem_append_right _ (show _ ∈ tables_1 from (List.mem_append_right _ (List.mem_append_right _ (List.mem_append_right _ (List.mem_append_right _ (List.mem_of_getElem? (i := 65) (by decide +kernel)))))))) (by decide +kernel)
theorem se_Mo_word : Cond.selects M_Mo_word.1.cls M_Mo_word.1 M_Mo_word.1 ∈ gx_T := gx_T_in (List.mem_append_left _ (List.mem_of_getElem? (i := 32) (by decide +kernel))) (by decide +kernel)
abbrev M_Mo_back : gx_M := (⟨"PostChainModel", "back", "()I"⟩, prog_11_method_35_code, 4, (some .int))
theorem cs_Mo_back : gx_cs M_Mo_back := ⟨gx_T_in (List.mem_append_right _ (show _ ∈ tables_1 from (List.mem_append_right _ (List.mem_append_right _ (List.mem_append_right _ (List.mem_append_right _ (List.mem_of_getElem? (i := 70) (by decide +kernel)))))))) (by decide +kernel), in_Mo, ⟨by decide +kernel, by decide +kernel⟩, by decide⟩
theorem im_Mo_back : Cond.instanceMethod M_Mo_back.1 ∈ gx_T := gx_T_in (List.mem_append_right _ (show _ ∈ tables_1 from (List.mem_append_right _ (List.mem_append_right _ (List.mem_append_right _ (List.mem_append_right _ (List.mem_of_getElem? (i := 68) (by decide +kernel)))))))) (by decide +kernel)
theorem se_Mo_back : Cond.selects M_Mo_back.1.cls M_Mo_back.1 M_Mo_back.1 ∈ gx_T := gx_T_in (List.mem_append_right _ (show _ ∈ tables_1 from (List.mem_append_right _ (List.mem_append_right _ (List.mem_append_right _ (List.mem_append_right _ (List.mem_of_getElem? (i := 69) (by decide +kernel)))))))) (by decide +kernel)
abbrev M_Mo_type : gx_M := (⟨"PostChainModel", "type", "(J)Z"⟩, prog_11_method_36_code, 7, (some .boolean))
theorem cs_Mo_type : gx_cs M_Mo_type := ⟨gx_T_in (List.mem_append_right _ (show _ ∈ tables_1 from (List.mem_append_right _ (List.mem_append_right _ (List.mem_append_right _ (List.mem_append_right _ (List.mem_of_getElem? (i := 74) (by decide +kernel)))))))) (by decide +kernel), in_Mo, ⟨by decide +kernel, by decide +kernel⟩, by decide⟩
theorem im_Mo_type : Cond.instanceMethod M_Mo_type.1 ∈ gx_T := gx_T_in (List.mem_append_right _ (show _ ∈ tables_1 from (List.mem_append_right _ (List.mem_append_right _ (List.mem_append_right _ (List.mem_append_right _ (List.mem_of_getElem? (i := 72) (by decide +kernel)))))))) (by decide +kernel)
theorem se_Mo_type : Cond.selects M_Mo_type.1.cls M_Mo_type.1 M_Mo_type.1 ∈ gx_T := gx_T_in (List.mem_append_right _ (show _ ∈ tables_1 from (List.mem_append_right _ (List.mem_append_right _ (List.mem_append_right _ (List.mem_append_right _ (List.mem_of_getElem? (i := 73) (by decide +kernel)))))))) (by decide +kernel)
abbrev M_Mo_trees : gx_M := (⟨"PostChainModel", "trees", "()I"⟩, prog_11_method_37_code, 6, (some .int))
theorem cs_Mo_trees : gx_cs M_Mo_trees := ⟨gx_T_in (List.mem_append_right _ (show _ ∈ tables_1 from (List.mem_append_right _ (List.mem_append_right _ (List.mem_append_right _ (List.mem_append_right _ (List.mem_of_getElem? (i := 78) (by decide +kernel)))))))) (by decide +kernel), in_Mo, ⟨by decide +kernel, by decide +kernel⟩, by decide⟩
theorem im_Mo_trees : Cond.instanceMethod M_Mo_trees.1 ∈ gx_T := gx_T_in (List.mem_append_right _ (show _ ∈ tables_1 from (List.mem_append_right _ (List.mem_append_right _ (List.mem_append_right _ (List.mem_append_right _ (List.mem_of_getElem? (i := 76) (by decide +kernel)))))))) (by decide +kernel)
theorem se_Mo_trees : Cond.selects M_Mo_trees.1.cls M_Mo_trees.1 M_Mo_trees.1 ∈ gx_T := gx_T_in (List.mem_append_right _ (show _ ∈ tables_1 from (List.mem_append_right _ (List.mem_append_right _ (List.mem_append_right _ (List.mem_append_right _ (List.mem_of_getElem? (i := 77) (by decide +kernel)))))))) (by decide +kernel)
abbrev M_Mo_search : gx_M := (⟨"PostChainModel", "search", "(I)I"⟩, prog_11_method_39_code, 4, (some .int))
theorem cs_Mo_search : gx_cs M_Mo_search := ⟨gx_T_in (List.mem_append_right _ (show _ ∈ tables_1 from (List.mem_append_right _ (List.mem_append_right _ (List.mem_append_right _ (List.mem_append_right _ (List.mem_of_getElem? (i := 82) (by decide +kernel)))))))) (by decide +kernel), in_Mo, ⟨by decide +kernel, by decide +kernel⟩, by decide⟩
theorem im_Mo_search : Cond.instanceMethod M_Mo_search.1 ∈ gx_T := gx_T_in (List.mem_append_right _ (show _ ∈ tables_1 from (List.mem_append_right _ (List.mem_append_right _ (List.mem_append_right _ (List.mem_append_right _ (List.mem_of_getElem? (i := 80) (by decide +kernel)))))))) (by decide +kernel)
theorem se_Mo_search : Cond.selects M_Mo_search.1.cls M_Mo_search.1 M_Mo_search.1 ∈ gx_T := gx_T_in (List.mem_append_right _ (show _ ∈ tables_1 from (List.mem_append_right _ (List.mem_append_right _ (List.mem_append_right _ (List.mem_append_right _ (List.mem_of_getElem? (i := 81) (by decide +kernel)))))))) (by decide +kernel)
abbrev M_Mo_join : gx_M := (⟨"PostChainModel", "join", "(II)V"⟩, prog_11_method_38_code, 8, none)
theorem cs_Mo_join : gx_cs M_Mo_join := ⟨gx_T_in (List.mem_append_right _ (show _ ∈ tables_1 from (List.mem_append_right _ (List.mem_append_right _ (List.mem_append_right _ (List.mem_append_right _ (List.mem_of_getElem? (i := 86) (by decide +kernel)))))))) (by decide +kernel), in_Mo, ⟨by decide +kernel, by decide +kernel⟩, by decide⟩
theorem im_Mo_join : Cond.instanceMethod M_Mo_join.1 ∈ gx_T := gx_T_in (List.mem_append_right _ (show _ ∈ tables_1 from (List.mem_append_right _ (List.mem_append_right _ (List.mem_append_right _ (List.mem_append_right _ (List.mem_of_getElem? (i := 85) (by decide +kernel)))))))) (by decide +kernel)
theorem se_Mo_join : Cond.selects M_Mo_join.1.cls M_Mo_join.1 M_Mo_join.1 ∈ gx_T := gx_T_in (List.mem_append_left _ (List.mem_of_getElem? (i := 33) (by decide +kernel))) (by decide +kernel)
abbrev M_Mo_take : gx_M := (⟨"PostChainModel", "take", "(I)V"⟩, prog_11_method_40_code, 4, none)
theorem cs_Mo_take : gx_cs M_Mo_take := ⟨gx_T_in (List.mem_append_right _ (show _ ∈ tables_1 from (List.mem_append_right _ (List.mem_append_right _ (List.mem_append_right _ (List.mem_append_right _ (List.mem_of_getElem? (i := 90) (by decide +kernel)))))))) (by decide +kernel), in_Mo, ⟨by decide +kernel, by decide +kernel⟩, by decide⟩
theorem im_Mo_take : Cond.instanceMethod M_Mo_take.1 ∈ gx_T := gx_T_in (List.mem_append_right _ (show _ ∈ tables_1 from (List.mem_append_right _ (List.mem_append_right _ (List.mem_append_right _ (List.mem_append_right _ (List.mem_of_getElem? (i := 89) (by decide +kernel)))))))) (by decide +kernel)
theorem se_Mo_take : Cond.selects M_Mo_take.1.cls M_Mo_take.1 M_Mo_take.1 ∈ gx_T := gx_T_in (List.mem_append_left _ (List.mem_of_getElem? (i := 34) (by decide +kernel))) (by decide +kernel)
abbrev M_Mo_looked : gx_M := (⟨"PostChainModel", "looked", "()I"⟩, prog_11_method_41_code, 1, (some .int))
theorem cs_Mo_looked : gx_cs M_Mo_looked := ⟨gx_T_in (List.mem_append_right _ (show _ ∈ tables_1 from (List.mem_append_right _ (List.mem_append_right _ (List.mem_append_right _ (List.mem_append_right _ (List.mem_of_getElem? (i := 94) (by decide +kernel)))))))) (by decide +kernel), in_Mo, ⟨by decide +kernel, by decide +kernel⟩, by decide⟩
theorem im_Mo_looked : Cond.instanceMethod M_Mo_looked.1 ∈ gx_T := gx_T_in (List.mem_append_right _ (show _ ∈ tables_1 from (List.mem_append_right _ (List.mem_append_right _ (List.mem_append_right _ (List.mem_append_right _ (List.mem_of_getElem? (i := 92) (by decide +kernel)))))))) (by decide +kernel)
theorem se_Mo_looked : Cond.selects M_Mo_looked.1.cls M_Mo_looked.1 M_Mo_looked.1 ∈ gx_T := gx_T_in (List.mem_append_right _ (show _ ∈ tables_1 from (List.mem_append_right _ (List.mem_append_right _ (List.mem_append_right _ (List.mem_append_right _ (List.mem_of_getElem? (i := 93) (by decide +kernel)))))))) (by decide +kernel)
theorem im_Obj : Cond.instanceMethod Lib.objectInit ∈ gx_T := gx_T_in (List.mem_append_right _ (show _ ∈ tables_1 from (List.mem_append_left _ (List.mem_of_getElem? (i := 28) (by decide +kernel))))) (by decide +kernel)
theorem co_Obj : Cond.code Lib.objectInit ⟨#[0xb1]⟩ 1 none ∈ gx_T := gx_T_in (List.mem_append_right _ (show _ ∈ tables_1 from (List.mem_append_left _ (List.mem_of_getElem? (i := 29) (by decide +kernel))))) (by decide +kernel)
theorem st_Math_min : Cond.static Lib.Math.min.name ∈ gx_T := gx_T_in (List.mem_append_right _ (show _ ∈ tables_1 from (List.mem_append_right _ (List.mem_append_left _ (List.mem_of_getElem? (i := 31) (by decide +kernel)))))) (by decide +kernel)
theorem co_Math_min : Cond.code Lib.Math.min.name Lib.Math.min.code 2 (some .int) ∈ gx_T := gx_T_in (List.mem_append_right _ (show _ ∈ tables_1 from (List.mem_append_right _ (List.mem_append_left _ (List.mem_of_getElem? (i := 32) (by decide +kernel)))))) (by decide +kernel)
theorem st_Math_max : Cond.static Lib.Math.max.name ∈ gx_T := gx_T_in (List.mem_append_right _ (show _ ∈ tables_1 from (List.mem_append_right _ (List.mem_append_left _ (List.mem_of_getElem? (i := 80) (by decide +kernel)))))) (by decide +kernel)
theorem co_Math_max : Cond.code Lib.Math.max.name Lib.Math.max.code 2 (some .int) ∈ gx_T := gx_T_in (List.mem_append_right _ (show _ ∈ tables_1 from (List.mem_append_right _ (List.mem_append_left _ (List.mem_of_getElem? (i := 81) (by decide +kernel)))))) (by decide +kernel)
theorem lk_PC_3 : gx_lO "PostChain" 3 := ⟨gx_T_in (List.mem_append_right _ (show _ ∈ tables_1 from (List.mem_append_left _ (List.mem_of_getElem? (i := 27) (by decide +kernel))))) (by decide +kernel), im_Obj, co_Obj⟩
theorem lk_PC_11 : gx_lI "PostChain" 11 M_Machine_init 0 := ⟨cs_Machine_init, Or.inl (gx_T_in (List.mem_append_right _ (show _ ∈ tables_1 from (List.mem_append_left _ (List.mem_of_getElem? (i := 32) (by decide +kernel))))) (by decide +kernel)), by unfold gx_np; decide +kernel, im_Machine_init, rfl, rfl⟩
theorem lk_PC_18 : gx_lI "PostChain" 18 M_Run_init 0 := ⟨cs_Run_init, Or.inl (gx_T_in (List.mem_append_right _ (show _ ∈ tables_1 from (List.mem_append_left _ (List.mem_of_getElem? (i := 84) (by decide +kernel))))) (by decide +kernel)), by unfold gx_np; decide +kernel, im_Run_init, rfl, rfl⟩
theorem lk_PC_25 : gx_lI "PostChain" 25 M_Box_init 0 := ⟨cs_Box_init, Or.inl (gx_T_in (List.mem_append_right _ (show _ ∈ tables_1 from (List.mem_append_left _ (List.mem_of_getElem? (i := 100) (by decide +kernel))))) (by decide +kernel)), by unfold gx_np; decide +kernel, im_Box_init, rfl, rfl⟩
theorem lk_PC_32 : gx_lI "PostChain" 32 M_Way_init 0 := ⟨cs_Way_init, Or.inr ⟨"PostChain", by decide +kernel⟩, by unfold gx_np; decide +kernel, im_Way_init, rfl, rfl⟩
theorem lk_PC_39 : gx_lI "PostChain" 39 M_Hunt_init 0 := ⟨cs_Hunt_init, Or.inr ⟨"PostChain", by decide +kernel⟩, by unfold gx_np; decide +kernel, im_Hunt_init, rfl, rfl⟩
theorem lk_PC_46 : gx_lI "PostChain" 46 M_Row_init 1 := ⟨cs_Row_init, Or.inl (gx_T_in (List.mem_append_right _ (show _ ∈ tables_1 from (List.mem_append_left _ (List.mem_of_getElem? (i := 198) (by decide +kernel))))) (by decide +kernel)), by unfold gx_np; decide +kernel, im_Row_init, rfl, rfl⟩
theorem lk_PC_55 : gx_lI "PostChain" 55 M_Word_init 1 := ⟨cs_Word_init, Or.inl (gx_T_in (List.mem_append_right _ (show _ ∈ tables_1 from (List.mem_append_left _ (List.mem_of_getElem? (i := 200) (by decide +kernel))))) (by decide +kernel)), by unfold gx_np; decide +kernel, im_Word_init, rfl, rfl⟩
theorem lk_PC_66 : gx_lV "PostChain" 66 M_PC_startOver 0 8 := ⟨cs_PC_startOver, Or.inl (gx_T_in (List.mem_append_right _ (show _ ∈ tables_1 from (List.mem_append_left _ (List.mem_of_getElem? (i := 201) (by decide +kernel))))) (by decide +kernel)), by unfold gx_np; decide +kernel, im_PC_startOver, se_PC_startOver, T_PC, 9, rfl⟩
theorem lk_PC_69 : gx_lS "PostChain" 69 M_PC_isState 1 := ⟨cs_PC_isState, Or.inl (gx_T_in (List.mem_append_right _ (show _ ∈ tables_1 from (List.mem_append_right _ (List.mem_append_right _ (List.mem_append_left _ (List.mem_of_getElem? (i := 171) (by decide +kernel))))))) (by decide +kernel)), by unfold gx_np; decide +kernel, st_PC_isState⟩
theorem lk_PC_73 : gx_lS "PostChain" 73 M_PC_isSymbol 1 := ⟨cs_PC_isSymbol, Or.inl (gx_T_in (List.mem_append_right _ (show _ ∈ tables_1 from (List.mem_append_right _ (List.mem_append_right _ (List.mem_append_left _ (List.mem_of_getElem? (i := 172) (by decide +kernel))))))) (by decide +kernel)), by unfold gx_np; decide +kernel, st_PC_isSymbol⟩
theorem lk_PC_85 : gx_lS "PostChain" 85 M_PC_ruleNumber 2 := ⟨cs_PC_ruleNumber, Or.inl (gx_T_in (List.mem_append_right _ (show _ ∈ tables_1 from (List.mem_append_right _ (List.mem_append_right _ (List.mem_append_right _ (List.mem_append_left _ (List.mem_of_getElem? (i := 0) (by decide +kernel)))))))) (by decide +kernel)), by unfold gx_np; decide +kernel, st_PC_ruleNumber⟩
theorem lk_PC_89 : gx_lV "PostChain" 89 M_Machine_learn 4 2 := ⟨cs_Machine_learn, Or.inl (gx_T_in (List.mem_append_right _ (show _ ∈ tables_1 from (List.mem_append_right _ (List.mem_append_right _ (List.mem_append_right _ (List.mem_append_left _ (List.mem_of_getElem? (i := 1) (by decide +kernel)))))))) (by decide +kernel)), by unfold gx_np; decide +kernel, im_Machine_learn, se_Machine_learn, T_Machine, 5, rfl⟩
theorem lk_PC_93 : gx_lV "PostChain" 93 M_Machine_forget 1 2 := ⟨cs_Machine_forget, Or.inl (gx_T_in (List.mem_append_right _ (show _ ∈ tables_1 from (List.mem_append_right _ (List.mem_append_right _ (List.mem_append_right _ (List.mem_append_left _ (List.mem_of_getElem? (i := 12) (by decide +kernel)))))))) (by decide +kernel)), by unfold gx_np; decide +kernel, im_Machine_forget, se_Machine_forget, T_Machine, 5, rfl⟩
theorem lk_PC_98 : gx_lV "PostChain" 98 M_Machine_take 2 2 := ⟨cs_Machine_take, Or.inl (gx_T_in (List.mem_append_right _ (show _ ∈ tables_1 from (List.mem_append_right _ (List.mem_append_right _ (List.mem_append_right _ (List.mem_append_left _ (List.mem_of_getElem? (i := 24) (by decide +kernel)))))))) (by decide +kernel)), by unfold gx_np; decide +kernel, im_Machine_take, se_Machine_take, T_Machine, 5, rfl⟩
theorem lk_PC_102 : gx_lV "PostChain" 102 M_Run_stepCount 0 3 := ⟨cs_Run_stepCount, Or.inl (gx_T_in (List.mem_append_right _ (show _ ∈ tables_1 from (List.mem_append_right _ (List.mem_append_left _ (List.mem_of_getElem? (i := 172) (by decide +kernel)))))) (by decide +kernel)), by unfold gx_np; decide +kernel, im_Run_stepCount, se_Run_stepCount, T_Run, 2, rfl⟩
theorem lk_PC_106 : gx_lV "PostChain" 106 M_Run_isHalted 0 3 := ⟨cs_Run_isHalted, Or.inl (gx_T_in (List.mem_append_right _ (show _ ∈ tables_1 from (List.mem_append_right _ (List.mem_append_left _ (List.mem_of_getElem? (i := 177) (by decide +kernel)))))) (by decide +kernel)), by unfold gx_np; decide +kernel, im_Run_isHalted, se_Run_isHalted, T_Run, 2, rfl⟩
theorem lk_PC_110 : gx_lV "PostChain" 110 M_Run_text 1 3 := ⟨cs_Run_text, Or.inl (gx_T_in (List.mem_append_right _ (show _ ∈ tables_1 from (List.mem_append_right _ (List.mem_append_left _ (List.mem_of_getElem? (i := 182) (by decide +kernel)))))) (by decide +kernel)), by unfold gx_np; decide +kernel, im_Run_text, se_Run_text, T_Run, 2, rfl⟩
theorem lk_PC_114 : gx_lV "PostChain" 114 M_Word_ask 1 0 := ⟨cs_Word_ask, Or.inl (gx_T_in (List.mem_append_right _ (show _ ∈ tables_1 from (List.mem_append_right _ (List.mem_append_left _ (List.mem_of_getElem? (i := 183) (by decide +kernel)))))) (by decide +kernel)), by unfold gx_np; decide +kernel, im_Word_ask, se_Word_ask, T_Word, 2, rfl⟩
theorem lk_PC_118 : gx_lV "PostChain" 118 M_Box_size 0 5 := ⟨cs_Box_size, Or.inl (gx_T_in (List.mem_append_right _ (show _ ∈ tables_1 from (List.mem_append_right _ (List.mem_append_left _ (List.mem_of_getElem? (i := 191) (by decide +kernel)))))) (by decide +kernel)), by unfold gx_np; decide +kernel, im_Box_size, se_Box_size, T_Box, 3, rfl⟩
theorem lk_PC_121 : gx_lV "PostChain" 121 M_Box_has 1 5 := ⟨cs_Box_has, Or.inl (gx_T_in (List.mem_append_right _ (show _ ∈ tables_1 from (List.mem_append_right _ (List.mem_append_left _ (List.mem_of_getElem? (i := 196) (by decide +kernel)))))) (by decide +kernel)), by unfold gx_np; decide +kernel, im_Box_has, se_Box_has, T_Box, 3, rfl⟩
theorem lk_PC_124 : gx_lV "PostChain" 124 M_Box_get 1 5 := ⟨cs_Box_get, Or.inl (gx_T_in (List.mem_append_right _ (show _ ∈ tables_1 from (List.mem_append_right _ (List.mem_append_left _ (List.mem_of_getElem? (i := 200) (by decide +kernel)))))) (by decide +kernel)), by unfold gx_np; decide +kernel, im_Box_get, se_Box_get, T_Box, 3, rfl⟩
theorem lk_PC_141 : gx_lV "PostChain" 141 M_Way_row 0 6 := ⟨cs_Way_row, Or.inl (gx_T_in (List.mem_append_right _ (show _ ∈ tables_1 from (List.mem_append_right _ (List.mem_append_right _ (List.mem_append_right _ (List.mem_append_left _ (List.mem_of_getElem? (i := 53) (by decide +kernel)))))))) (by decide +kernel)), by unfold gx_np; decide +kernel, im_Way_row, se_Way_row, T_Way, 2, rfl⟩
theorem lk_PC_145 : gx_lV "PostChain" 145 M_Row_ask 1 1 := ⟨cs_Row_ask, Or.inl (gx_T_in (List.mem_append_right _ (show _ ∈ tables_1 from (List.mem_append_right _ (List.mem_append_left _ (List.mem_of_getElem? (i := 226) (by decide +kernel)))))) (by decide +kernel)), by unfold gx_np; decide +kernel, im_Row_ask, se_Row_ask, T_Row, 2, rfl⟩
theorem lk_PC_146 : gx_lV "PostChain" 146 M_Row_size 0 1 := ⟨cs_Row_size, Or.inl (gx_T_in (List.mem_append_right _ (show _ ∈ tables_1 from (List.mem_append_right _ (List.mem_append_left _ (List.mem_of_getElem? (i := 209) (by decide +kernel)))))) (by decide +kernel)), by unfold gx_np; decide +kernel, im_Row_size, se_Row_size, T_Row, 2, rfl⟩
theorem lk_PC_147 : gx_lV "PostChain" 147 M_Row_add 1 1 := ⟨cs_Row_add, Or.inl (gx_T_in (List.mem_append_right _ (show _ ∈ tables_1 from (List.mem_append_right _ (List.mem_append_left _ (List.mem_of_getElem? (i := 213) (by decide +kernel)))))) (by decide +kernel)), by unfold gx_np; decide +kernel, im_Row_add, se_Row_add, T_Row, 2, rfl⟩
theorem lk_PC_150 : gx_lV "PostChain" 150 M_Row_copy 1 1 := ⟨cs_Row_copy, Or.inl (gx_T_in (List.mem_append_right _ (show _ ∈ tables_1 from (List.mem_append_right _ (List.mem_append_right _ (List.mem_append_right _ (List.mem_append_left _ (List.mem_of_getElem? (i := 64) (by decide +kernel)))))))) (by decide +kernel)), by unfold gx_np; decide +kernel, im_Row_copy, se_Row_copy, T_Row, 2, rfl⟩
theorem lk_PC_154 : gx_lV "PostChain" 154 M_Row_empty 0 1 := ⟨cs_Row_empty, Or.inl (gx_T_in (List.mem_append_right _ (show _ ∈ tables_1 from (List.mem_append_right _ (List.mem_append_left _ (List.mem_of_getElem? (i := 138) (by decide +kernel)))))) (by decide +kernel)), by unfold gx_np; decide +kernel, im_Row_empty, se_Row_empty, T_Row, 2, rfl⟩
theorem lk_PC_157 : gx_lV "PostChain" 157 M_Word_empty 0 0 := ⟨cs_Word_empty, Or.inl (gx_T_in (List.mem_append_right _ (show _ ∈ tables_1 from (List.mem_append_right _ (List.mem_append_left _ (List.mem_of_getElem? (i := 139) (by decide +kernel)))))) (by decide +kernel)), by unfold gx_np; decide +kernel, im_Word_empty, se_Word_empty, T_Word, 2, rfl⟩
theorem lk_PC_158 : gx_lV "PostChain" 158 M_PC_spellLaid 0 8 := ⟨cs_PC_spellLaid, Or.inl (gx_T_in (List.mem_append_right _ (show _ ∈ tables_1 from (List.mem_append_right _ (List.mem_append_left _ (List.mem_of_getElem? (i := 222) (by decide +kernel)))))) (by decide +kernel)), by unfold gx_np; decide +kernel, im_PC_spellLaid, se_PC_spellLaid, T_PC, 9, rfl⟩
theorem lk_PC_161 : gx_lV "PostChain" 161 M_Word_agrees 1 0 := ⟨cs_Word_agrees, Or.inl (gx_T_in (List.mem_append_right _ (show _ ∈ tables_1 from (List.mem_append_right _ (List.mem_append_left _ (List.mem_of_getElem? (i := 232) (by decide +kernel)))))) (by decide +kernel)), by unfold gx_np; decide +kernel, im_Word_agrees, se_Word_agrees, T_Word, 2, rfl⟩
theorem lk_PC_165 : gx_lV "PostChain" 165 M_Word_same 1 0 := ⟨cs_Word_same, Or.inl (gx_T_in (List.mem_append_right _ (show _ ∈ tables_1 from (List.mem_append_right _ (List.mem_append_left _ (List.mem_of_getElem? (i := 237) (by decide +kernel)))))) (by decide +kernel)), by unfold gx_np; decide +kernel, im_Word_same, se_Word_same, T_Word, 2, rfl⟩
theorem lk_PC_168 : gx_lV "PostChain" 168 M_PC_tray 0 8 := ⟨cs_PC_tray, Or.inl (gx_T_in (List.mem_append_right _ (show _ ∈ tables_1 from (List.mem_append_right _ (List.mem_append_right _ (List.mem_append_left _ (List.mem_of_getElem? (i := 6) (by decide +kernel))))))) (by decide +kernel)), by unfold gx_np; decide +kernel, im_PC_tray, se_PC_tray, T_PC, 9, rfl⟩
theorem lk_PC_171 : gx_lS "PostChain" 171 M_PC_hashesAheadOfHalt 1 := ⟨cs_PC_hashesAheadOfHalt, Or.inl (gx_T_in (List.mem_append_right _ (show _ ∈ tables_1 from (List.mem_append_right _ (List.mem_append_right _ (List.mem_append_left _ (List.mem_of_getElem? (i := 7) (by decide +kernel))))))) (by decide +kernel)), by unfold gx_np; decide +kernel, st_PC_hashesAheadOfHalt⟩
theorem lk_PC_175 : gx_lS "PostChain" 175 M_PC_byteOf 2 := ⟨cs_PC_byteOf, Or.inl (gx_T_in (List.mem_append_right _ (show _ ∈ tables_1 from (List.mem_append_right _ (List.mem_append_right _ (List.mem_append_left _ (List.mem_of_getElem? (i := 16) (by decide +kernel))))))) (by decide +kernel)), by unfold gx_np; decide +kernel, st_PC_byteOf⟩
theorem lk_PC_186 : gx_lV "PostChain" 186 M_Word_size 0 0 := ⟨cs_Word_size, Or.inl (gx_T_in (List.mem_append_right _ (show _ ∈ tables_1 from (List.mem_append_right _ (List.mem_append_left _ (List.mem_of_getElem? (i := 230) (by decide +kernel)))))) (by decide +kernel)), by unfold gx_np; decide +kernel, im_Word_size, se_Word_size, T_Word, 2, rfl⟩
theorem lk_PC_187 : gx_lV "PostChain" 187 M_Word_add 1 0 := ⟨cs_Word_add, Or.inl (gx_T_in (List.mem_append_right _ (show _ ∈ tables_1 from (List.mem_append_right _ (List.mem_append_right _ (List.mem_append_left _ (List.mem_of_getElem? (i := 103) (by decide +kernel))))))) (by decide +kernel)), by unfold gx_np; decide +kernel, im_Word_add, se_Word_add, T_Word, 2, rfl⟩
theorem lk_PC_190 : gx_lV "PostChain" 190 M_Hunt_look 2 7 := ⟨cs_Hunt_look, Or.inl (gx_T_in (List.mem_append_right _ (show _ ∈ tables_1 from (List.mem_append_right _ (List.mem_append_right _ (List.mem_append_left _ (List.mem_of_getElem? (i := 113) (by decide +kernel))))))) (by decide +kernel)), by unfold gx_np; decide +kernel, im_Hunt_look, se_Hunt_look, T_Hunt, 8, rfl⟩
theorem lk_PC_194 : gx_lV "PostChain" 194 M_Hunt_foundSize 0 7 := ⟨cs_Hunt_foundSize, Or.inl (gx_T_in (List.mem_append_right _ (show _ ∈ tables_1 from (List.mem_append_right _ (List.mem_append_right _ (List.mem_append_left _ (List.mem_of_getElem? (i := 140) (by decide +kernel))))))) (by decide +kernel)), by unfold gx_np; decide +kernel, im_Hunt_foundSize, se_Hunt_foundSize, T_Hunt, 8, rfl⟩
theorem lk_PC_197 : gx_lV "PostChain" 197 M_Hunt_layFound 1 7 := ⟨cs_Hunt_layFound, Or.inl (gx_T_in (List.mem_append_right _ (show _ ∈ tables_1 from (List.mem_append_right _ (List.mem_append_right _ (List.mem_append_left _ (List.mem_of_getElem? (i := 144) (by decide +kernel))))))) (by decide +kernel)), by unfold gx_np; decide +kernel, im_Hunt_layFound, se_Hunt_layFound, T_Hunt, 8, rfl⟩
theorem lk_PC_200 : gx_lV "PostChain" 200 M_Hunt_lookedAt 0 7 := ⟨cs_Hunt_lookedAt, Or.inl (gx_T_in (List.mem_append_right _ (show _ ∈ tables_1 from (List.mem_append_right _ (List.mem_append_right _ (List.mem_append_left _ (List.mem_of_getElem? (i := 159) (by decide +kernel))))))) (by decide +kernel)), by unfold gx_np; decide +kernel, im_Hunt_lookedAt, se_Hunt_lookedAt, T_Hunt, 8, rfl⟩
theorem lk_PC_203 : gx_lV "PostChain" 203 M_Run_follow 1 3 := ⟨cs_Run_follow, Or.inl (gx_T_in (List.mem_append_right _ (show _ ∈ tables_1 from (List.mem_append_left _ (List.mem_of_getElem? (i := 205) (by decide +kernel))))) (by decide +kernel)), by unfold gx_np; decide +kernel, im_Run_follow, se_Run_follow, T_Run, 2, rfl⟩
theorem lk_PC_207 : gx_lV "PostChain" 207 M_Box_fill 1 5 := ⟨cs_Box_fill, Or.inl (gx_T_in (List.mem_append_right _ (show _ ∈ tables_1 from (List.mem_append_right _ (List.mem_append_left _ (List.mem_of_getElem? (i := 22) (by decide +kernel)))))) (by decide +kernel)), by unfold gx_np; decide +kernel, im_Box_fill, se_Box_fill, T_Box, 3, rfl⟩
theorem lk_PC_210 : gx_lV "PostChain" 210 M_Way_trace 3 6 := ⟨cs_Way_trace, Or.inl (gx_T_in (List.mem_append_right _ (show _ ∈ tables_1 from (List.mem_append_right _ (List.mem_append_left _ (List.mem_of_getElem? (i := 62) (by decide +kernel)))))) (by decide +kernel)), by unfold gx_np; decide +kernel, im_Way_trace, se_Way_trace, T_Way, 2, rfl⟩
theorem lk_PC_214 : gx_lV "PostChain" 214 M_Hunt_forget 0 7 := ⟨cs_Hunt_forget, Or.inl (gx_T_in (List.mem_append_right _ (show _ ∈ tables_1 from (List.mem_append_right _ (List.mem_append_left _ (List.mem_of_getElem? (i := 134) (by decide +kernel)))))) (by decide +kernel)), by unfold gx_np; decide +kernel, im_Hunt_forget, se_Hunt_forget, T_Hunt, 8, rfl⟩
theorem lk_PC_216 : gx_lV "PostChain" 216 M_Word_addPart 3 0 := ⟨cs_Word_addPart, Or.inl (gx_T_in (List.mem_append_right _ (show _ ∈ tables_1 from (List.mem_append_right _ (List.mem_append_left _ (List.mem_of_getElem? (i := 231) (by decide +kernel)))))) (by decide +kernel)), by unfold gx_np; decide +kernel, im_Word_addPart, se_Word_addPart, T_Word, 2, rfl⟩
theorem lk_PC_220 : gx_lV "PostChain" 220 M_Word_at 1 0 := ⟨cs_Word_at, Or.inl (gx_T_in (List.mem_append_right _ (show _ ∈ tables_1 from (List.mem_append_right _ (List.mem_append_right _ (List.mem_append_left _ (List.mem_of_getElem? (i := 10) (by decide +kernel))))))) (by decide +kernel)), by unfold gx_np; decide +kernel, im_Word_at, se_Word_at, T_Word, 2, rfl⟩
theorem lk_PC_224 : gx_lS "PostChain" 224 M_PC_letter 1 := ⟨cs_PC_letter, Or.inl (gx_T_in (List.mem_append_right _ (show _ ∈ tables_1 from (List.mem_append_right _ (List.mem_append_right _ (List.mem_append_left _ (List.mem_of_getElem? (i := 11) (by decide +kernel))))))) (by decide +kernel)), by unfold gx_np; decide +kernel, st_PC_letter⟩
theorem lk_Box_3 : gx_lO "PostChain$Box" 3 := ⟨gx_T_in (List.mem_append_right _ (show _ ∈ tables_1 from (List.mem_append_left _ (List.mem_of_getElem? (i := 103) (by decide +kernel))))) (by decide +kernel), im_Obj, co_Obj⟩
theorem lk_Box_21 : gx_lI "PostChain$Box" 21 M_Domino_init 0 := ⟨cs_Domino_init, Or.inr ⟨"PostChain", by decide +kernel⟩, by unfold gx_np; decide +kernel, im_Domino_init, rfl, rfl⟩
theorem lk_Box_26 : gx_lV "PostChain$Box" 26 M_Box_has 1 5 := ⟨cs_Box_has, Or.inl (gx_T_in (List.mem_append_right _ (show _ ∈ tables_1 from (List.mem_append_right _ (List.mem_append_left _ (List.mem_of_getElem? (i := 204) (by decide +kernel)))))) (by decide +kernel)), by unfold gx_np; decide +kernel, im_Box_has, se_Box_has, T_Box, 3, rfl⟩
theorem lk_Box_30 : gx_lV "PostChain$Box" 30 M_Box_open 0 5 := ⟨cs_Box_open, Or.inl (gx_T_in (List.mem_append_right _ (show _ ∈ tables_1 from (List.mem_append_right _ (List.mem_append_left _ (List.mem_of_getElem? (i := 26) (by decide +kernel)))))) (by decide +kernel)), by unfold gx_np; decide +kernel, im_Box_open, se_Box_open, T_Box, 3, rfl⟩
theorem lk_Box_38 : gx_lV "PostChain$Box" 38 M_Word_add 1 0 := ⟨cs_Word_add, Or.inl (gx_T_in (List.mem_append_right _ (show _ ∈ tables_1 from (List.mem_append_right _ (List.mem_append_left _ (List.mem_of_getElem? (i := 34) (by decide +kernel)))))) (by decide +kernel)), by unfold gx_np; decide +kernel, im_Word_add, se_Word_add, T_Word, 2, rfl⟩
theorem lk_Box_52 : gx_lV "PostChain$Box" 52 M_Word_size 0 0 := ⟨cs_Word_size, Or.inl (gx_T_in (List.mem_append_right _ (show _ ∈ tables_1 from (List.mem_append_right _ (List.mem_append_left _ (List.mem_of_getElem? (i := 35) (by decide +kernel)))))) (by decide +kernel)), by unfold gx_np; decide +kernel, im_Word_size, se_Word_size, T_Word, 2, rfl⟩
theorem lk_Box_56 : gx_lV "PostChain$Box" 56 M_Word_addPart 3 0 := ⟨cs_Word_addPart, Or.inl (gx_T_in (List.mem_append_right _ (show _ ∈ tables_1 from (List.mem_append_right _ (List.mem_append_left _ (List.mem_of_getElem? (i := 36) (by decide +kernel)))))) (by decide +kernel)), by unfold gx_np; decide +kernel, im_Word_addPart, se_Word_addPart, T_Word, 2, rfl⟩
theorem lk_Box_60 : gx_lV "PostChain$Box" 60 M_Box_addCopy 1 5 := ⟨cs_Box_addCopy, Or.inl (gx_T_in (List.mem_append_right _ (show _ ∈ tables_1 from (List.mem_append_right _ (List.mem_append_left _ (List.mem_of_getElem? (i := 37) (by decide +kernel)))))) (by decide +kernel)), by unfold gx_np; decide +kernel, im_Box_addCopy, se_Box_addCopy, T_Box, 3, rfl⟩
theorem lk_Box_64 : gx_lS "PostChain$Box" 64 M_PC_digit 1 := ⟨cs_PC_digit, Or.inr ⟨"PostChain", by decide +kernel⟩, by unfold gx_np; decide +kernel, st_PC_digit⟩
theorem lk_Box_68 : gx_lV "PostChain$Box" 68 M_Box_addRule 3 5 := ⟨cs_Box_addRule, Or.inl (gx_T_in (List.mem_append_right _ (show _ ∈ tables_1 from (List.mem_append_right _ (List.mem_append_left _ (List.mem_of_getElem? (i := 42) (by decide +kernel)))))) (by decide +kernel)), by unfold gx_np; decide +kernel, im_Box_addRule, se_Box_addRule, T_Box, 3, rfl⟩
theorem lk_Box_72 : gx_lV "PostChain$Box" 72 M_Box_addEnding 0 5 := ⟨cs_Box_addEnding, Or.inl (gx_T_in (List.mem_append_right _ (show _ ∈ tables_1 from (List.mem_append_right _ (List.mem_append_left _ (List.mem_of_getElem? (i := 58) (by decide +kernel)))))) (by decide +kernel)), by unfold gx_np; decide +kernel, im_Box_addEnding, se_Box_addEnding, T_Box, 3, rfl⟩
theorem lk_Box_75 : gx_lM "PostChain$Box" 75 Lib.Math.min.name Lib.Math.min.code := ⟨gx_T_in (List.mem_append_right _ (show _ ∈ tables_1 from (List.mem_append_right _ (List.mem_append_left _ (List.mem_of_getElem? (i := 30) (by decide +kernel)))))) (by decide +kernel), st_Math_min, in_Math, co_Math_min⟩
theorem lk_Box_81 : gx_lV "PostChain$Box" 81 M_Word_empty 0 0 := ⟨cs_Word_empty, Or.inl (gx_T_in (List.mem_append_right _ (show _ ∈ tables_1 from (List.mem_append_right _ (List.mem_append_left _ (List.mem_of_getElem? (i := 33) (by decide +kernel)))))) (by decide +kernel)), by unfold gx_np; decide +kernel, im_Word_empty, se_Word_empty, T_Word, 2, rfl⟩
theorem lk_Box_91 : gx_lV "PostChain$Box" 91 M_Box_addRight 3 5 := ⟨cs_Box_addRight, Or.inl (gx_T_in (List.mem_append_right _ (show _ ∈ tables_1 from (List.mem_append_right _ (List.mem_append_left _ (List.mem_of_getElem? (i := 46) (by decide +kernel)))))) (by decide +kernel)), by unfold gx_np; decide +kernel, im_Box_addRight, se_Box_addRight, T_Box, 3, rfl⟩
theorem lk_Box_94 : gx_lV "PostChain$Box" 94 M_Box_addLeft 4 5 := ⟨cs_Box_addLeft, Or.inl (gx_T_in (List.mem_append_right _ (show _ ∈ tables_1 from (List.mem_append_right _ (List.mem_append_left _ (List.mem_of_getElem? (i := 54) (by decide +kernel)))))) (by decide +kernel)), by unfold gx_np; decide +kernel, im_Box_addLeft, se_Box_addLeft, T_Box, 3, rfl⟩
theorem lk_Box_98 : gx_lS "PostChain$Box" 98 M_PC_letter 1 := ⟨cs_PC_letter, Or.inr ⟨"PostChain", by decide +kernel⟩, by unfold gx_np; decide +kernel, st_PC_letter⟩
theorem lk_Box_107 : gx_lS "PostChain$Box" 107 M_Box_keepHash 2 := ⟨cs_Box_keepHash, Or.inl (gx_T_in (List.mem_append_right _ (show _ ∈ tables_1 from (List.mem_append_right _ (List.mem_append_left _ (List.mem_of_getElem? (i := 51) (by decide +kernel)))))) (by decide +kernel)), by unfold gx_np; decide +kernel, st_Box_keepHash⟩
theorem lk_Domino_3 : gx_lO "PostChain$Domino" 3 := ⟨gx_T_in (List.mem_append_right _ (show _ ∈ tables_1 from (List.mem_append_left _ (List.mem_of_getElem? (i := 110) (by decide +kernel))))) (by decide +kernel), im_Obj, co_Obj⟩
theorem lk_Domino_11 : gx_lI "PostChain$Domino" 11 M_Word_init 1 := ⟨cs_Word_init, Or.inl (gx_T_in (List.mem_append_right _ (show _ ∈ tables_1 from (List.mem_append_left _ (List.mem_of_getElem? (i := 112) (by decide +kernel))))) (by decide +kernel)), by unfold gx_np; decide +kernel, im_Word_init, rfl, rfl⟩
theorem lk_Hunt_3 : gx_lO "PostChain$Hunt" 3 := ⟨gx_T_in (List.mem_append_right _ (show _ ∈ tables_1 from (List.mem_append_left _ (List.mem_of_getElem? (i := 169) (by decide +kernel))))) (by decide +kernel), im_Obj, co_Obj⟩
theorem lk_Hunt_30 : gx_lI "PostChain$Hunt" 30 M_Word_init 1 := ⟨cs_Word_init, Or.inl (gx_T_in (List.mem_append_right _ (show _ ∈ tables_1 from (List.mem_append_left _ (List.mem_of_getElem? (i := 171) (by decide +kernel))))) (by decide +kernel)), by unfold gx_np; decide +kernel, im_Word_init, rfl, rfl⟩
theorem lk_Hunt_44 : gx_lV "PostChain$Hunt" 44 M_Word_empty 0 0 := ⟨cs_Word_empty, Or.inl (gx_T_in (List.mem_append_right _ (show _ ∈ tables_1 from (List.mem_append_right _ (List.mem_append_right _ (List.mem_append_left _ (List.mem_of_getElem? (i := 117) (by decide +kernel))))))) (by decide +kernel)), by unfold gx_np; decide +kernel, im_Word_empty, se_Word_empty, T_Word, 2, rfl⟩
theorem lk_Hunt_47 : gx_lV "PostChain$Hunt" 47 M_Box_get 1 5 := ⟨cs_Box_get, Or.inl (gx_T_in (List.mem_append_right _ (show _ ∈ tables_1 from (List.mem_append_right _ (List.mem_append_right _ (List.mem_append_left _ (List.mem_of_getElem? (i := 118) (by decide +kernel))))))) (by decide +kernel)), by unfold gx_np; decide +kernel, im_Box_get, se_Box_get, T_Box, 3, rfl⟩
theorem lk_Hunt_53 : gx_lV "PostChain$Hunt" 53 M_Hunt_keep 3 7 := ⟨cs_Hunt_keep, Or.inl (gx_T_in (List.mem_append_right _ (show _ ∈ tables_1 from (List.mem_append_right _ (List.mem_append_right _ (List.mem_append_left _ (List.mem_of_getElem? (i := 119) (by decide +kernel))))))) (by decide +kernel)), by unfold gx_np; decide +kernel, im_Hunt_keep, se_Hunt_keep, T_Hunt, 8, rfl⟩
theorem lk_Hunt_57 : gx_lV "PostChain$Hunt" 57 M_Hunt_goOn 2 7 := ⟨cs_Hunt_goOn, Or.inl (gx_T_in (List.mem_append_right _ (show _ ∈ tables_1 from (List.mem_append_right _ (List.mem_append_right _ (List.mem_append_left _ (List.mem_of_getElem? (i := 130) (by decide +kernel))))))) (by decide +kernel)), by unfold gx_np; decide +kernel, im_Hunt_goOn, se_Hunt_goOn, T_Hunt, 8, rfl⟩
theorem lk_Hunt_61 : gx_lV "PostChain$Hunt" 61 M_Row_empty 0 1 := ⟨cs_Row_empty, Or.inl (gx_T_in (List.mem_append_right _ (show _ ∈ tables_1 from (List.mem_append_right _ (List.mem_append_right _ (List.mem_append_left _ (List.mem_of_getElem? (i := 148) (by decide +kernel))))))) (by decide +kernel)), by unfold gx_np; decide +kernel, im_Row_empty, se_Row_empty, T_Row, 2, rfl⟩
theorem lk_Hunt_64 : gx_lV "PostChain$Hunt" 64 M_Hunt_foundSize 0 7 := ⟨cs_Hunt_foundSize, Or.inl (gx_T_in (List.mem_append_right _ (show _ ∈ tables_1 from (List.mem_append_right _ (List.mem_append_right _ (List.mem_append_left _ (List.mem_of_getElem? (i := 149) (by decide +kernel))))))) (by decide +kernel)), by unfold gx_np; decide +kernel, im_Hunt_foundSize, se_Hunt_foundSize, T_Hunt, 8, rfl⟩
theorem lk_Hunt_68 : gx_lV "PostChain$Hunt" 68 M_Row_add 1 1 := ⟨cs_Row_add, Or.inl (gx_T_in (List.mem_append_right _ (show _ ∈ tables_1 from (List.mem_append_right _ (List.mem_append_right _ (List.mem_append_left _ (List.mem_of_getElem? (i := 150) (by decide +kernel))))))) (by decide +kernel)), by unfold gx_np; decide +kernel, im_Row_add, se_Row_add, T_Row, 2, rfl⟩
theorem lk_Hunt_71 : gx_lV "PostChain$Hunt" 71 M_Row_turn 0 1 := ⟨cs_Row_turn, Or.inl (gx_T_in (List.mem_append_right _ (show _ ∈ tables_1 from (List.mem_append_right _ (List.mem_append_right _ (List.mem_append_left _ (List.mem_of_getElem? (i := 151) (by decide +kernel))))))) (by decide +kernel)), by unfold gx_np; decide +kernel, im_Row_turn, se_Row_turn, T_Row, 2, rfl⟩
theorem lk_Hunt_74 : gx_lV "PostChain$Hunt" 74 M_Word_add 1 0 := ⟨cs_Word_add, Or.inl (gx_T_in (List.mem_append_right _ (show _ ∈ tables_1 from (List.mem_append_right _ (List.mem_append_right _ (List.mem_append_left _ (List.mem_of_getElem? (i := 134) (by decide +kernel))))))) (by decide +kernel)), by unfold gx_np; decide +kernel, im_Word_add, se_Word_add, T_Word, 2, rfl⟩
theorem lk_Hunt_77 : gx_lV "PostChain$Hunt" 77 M_Box_size 0 5 := ⟨cs_Box_size, Or.inl (gx_T_in (List.mem_append_right _ (show _ ∈ tables_1 from (List.mem_append_right _ (List.mem_append_right _ (List.mem_append_left _ (List.mem_of_getElem? (i := 135) (by decide +kernel))))))) (by decide +kernel)), by unfold gx_np; decide +kernel, im_Box_size, se_Box_size, T_Box, 3, rfl⟩
theorem lk_Hunt_79 : gx_lV "PostChain$Hunt" 79 M_Hunt_fits 1 7 := ⟨cs_Hunt_fits, Or.inl (gx_T_in (List.mem_append_right _ (show _ ∈ tables_1 from (List.mem_append_right _ (List.mem_append_right _ (List.mem_append_left _ (List.mem_of_getElem? (i := 136) (by decide +kernel))))))) (by decide +kernel)), by unfold gx_np; decide +kernel, im_Hunt_fits, se_Hunt_fits, T_Hunt, 8, rfl⟩
theorem lk_Hunt_88 : gx_lV "PostChain$Hunt" 88 M_Word_size 0 0 := ⟨cs_Word_size, Or.inl (gx_T_in (List.mem_append_right _ (show _ ∈ tables_1 from (List.mem_append_right _ (List.mem_append_right _ (List.mem_append_left _ (List.mem_of_getElem? (i := 123) (by decide +kernel))))))) (by decide +kernel)), by unfold gx_np; decide +kernel, im_Word_size, se_Word_size, T_Word, 2, rfl⟩
theorem lk_Hunt_92 : gx_lM "PostChain$Hunt" 92 Lib.Math.min.name Lib.Math.min.code := ⟨gx_T_in (List.mem_append_right _ (show _ ∈ tables_1 from (List.mem_append_right _ (List.mem_append_right _ (List.mem_append_left _ (List.mem_of_getElem? (i := 124) (by decide +kernel))))))) (by decide +kernel), st_Math_min, in_Math, co_Math_min⟩
theorem lk_Hunt_98 : gx_lV "PostChain$Hunt" 98 M_Word_at 1 0 := ⟨cs_Word_at, Or.inl (gx_T_in (List.mem_append_right _ (show _ ∈ tables_1 from (List.mem_append_right _ (List.mem_append_right _ (List.mem_append_left _ (List.mem_of_getElem? (i := 129) (by decide +kernel))))))) (by decide +kernel)), by unfold gx_np; decide +kernel, im_Word_at, se_Word_at, T_Word, 2, rfl⟩
theorem lk_Hunt_102 : gx_lV "PostChain$Hunt" 102 M_Hunt_openOr 2 7 := ⟨cs_Hunt_openOr, Or.inl (gx_T_in (List.mem_append_right _ (show _ ∈ tables_1 from (List.mem_append_right _ (List.mem_append_right _ (List.mem_append_left _ (List.mem_of_getElem? (i := 125) (by decide +kernel))))))) (by decide +kernel)), by unfold gx_np; decide +kernel, im_Hunt_openOr, se_Hunt_openOr, T_Hunt, 8, rfl⟩
theorem lk_Machine_3 : gx_lO "PostChain$Machine" 3 := ⟨gx_T_in (List.mem_append_right _ (show _ ∈ tables_1 from (List.mem_append_left _ (List.mem_of_getElem? (i := 35) (by decide +kernel))))) (by decide +kernel), im_Obj, co_Obj⟩
theorem lk_Machine_27 : gx_lI "PostChain$Machine" 27 M_Word_init 1 := ⟨cs_Word_init, Or.inl (gx_T_in (List.mem_append_right _ (show _ ∈ tables_1 from (List.mem_append_left _ (List.mem_of_getElem? (i := 38) (by decide +kernel))))) (by decide +kernel)), by unfold gx_np; decide +kernel, im_Word_init, rfl, rfl⟩
theorem lk_Machine_34 : gx_lS "PostChain$Machine" 34 M_PC_letter 1 := ⟨cs_PC_letter, Or.inr ⟨"PostChain", by decide +kernel⟩, by unfold gx_np; decide +kernel, st_PC_letter⟩
theorem lk_Machine_38 : gx_lV "PostChain$Machine" 38 M_Word_add 1 0 := ⟨cs_Word_add, Or.inl (gx_T_in (List.mem_append_right _ (show _ ∈ tables_1 from (List.mem_append_left _ (List.mem_of_getElem? (i := 55) (by decide +kernel))))) (by decide +kernel)), by unfold gx_np; decide +kernel, im_Word_add, se_Word_add, T_Word, 2, rfl⟩
theorem lk_Machine_42 : gx_lV "PostChain$Machine" 42 M_Word_empty 0 0 := ⟨cs_Word_empty, Or.inl (gx_T_in (List.mem_append_right _ (show _ ∈ tables_1 from (List.mem_append_right _ (List.mem_append_left _ (List.mem_of_getElem? (i := 16) (by decide +kernel)))))) (by decide +kernel)), by unfold gx_np; decide +kernel, im_Word_empty, se_Word_empty, T_Word, 2, rfl⟩
theorem lk_Machine_45 : gx_lS "PostChain$Machine" 45 M_PC_digit 1 := ⟨cs_PC_digit, Or.inr ⟨"PostChain", by decide +kernel⟩, by unfold gx_np; decide +kernel, st_PC_digit⟩
theorem lk_Machine_48 : gx_lM "PostChain$Machine" 48 Lib.Math.max.name Lib.Math.max.code := ⟨gx_T_in (List.mem_append_right _ (show _ ∈ tables_1 from (List.mem_append_right _ (List.mem_append_right _ (List.mem_append_right _ (List.mem_append_left _ (List.mem_of_getElem? (i := 28) (by decide +kernel)))))))) (by decide +kernel), st_Math_max, in_Math, co_Math_max⟩
theorem lk_Machine_54 : gx_lV "PostChain$Machine" 54 M_Word_head 0 0 := ⟨cs_Word_head, Or.inl (gx_T_in (List.mem_append_right _ (show _ ∈ tables_1 from (List.mem_append_left _ (List.mem_of_getElem? (i := 238) (by decide +kernel))))) (by decide +kernel)), by unfold gx_np; decide +kernel, im_Word_head, se_Word_head, T_Word, 2, rfl⟩
theorem lk_Machine_58 : gx_lV "PostChain$Machine" 58 M_Word_at 1 0 := ⟨cs_Word_at, Or.inl (gx_T_in (List.mem_append_right _ (show _ ∈ tables_1 from (List.mem_append_right _ (List.mem_append_left _ (List.mem_of_getElem? (i := 2) (by decide +kernel)))))) (by decide +kernel)), by unfold gx_np; decide +kernel, im_Word_at, se_Word_at, T_Word, 2, rfl⟩
theorem lk_Machine_61 : gx_lV "PostChain$Machine" 61 M_Word_size 0 0 := ⟨cs_Word_size, Or.inl (gx_T_in (List.mem_append_right _ (show _ ∈ tables_1 from (List.mem_append_right _ (List.mem_append_left _ (List.mem_of_getElem? (i := 3) (by decide +kernel)))))) (by decide +kernel)), by unfold gx_np; decide +kernel, im_Word_size, se_Word_size, T_Word, 2, rfl⟩
theorem lk_Machine_64 : gx_lS "PostChain$Machine" 64 M_PC_symbolOf 1 := ⟨cs_PC_symbolOf, Or.inr ⟨"PostChain", by decide +kernel⟩, by unfold gx_np; decide +kernel, st_PC_symbolOf⟩
theorem lk_Machine_68 : gx_lS "PostChain$Machine" 68 M_PC_isState 1 := ⟨cs_PC_isState, Or.inr ⟨"PostChain", by decide +kernel⟩, by unfold gx_np; decide +kernel, st_PC_isState⟩
theorem lk_Machine_72 : gx_lS "PostChain$Machine" 72 M_PC_isSymbol 1 := ⟨cs_PC_isSymbol, Or.inr ⟨"PostChain", by decide +kernel⟩, by unfold gx_np; decide +kernel, st_PC_isSymbol⟩
theorem lk_Machine_75 : gx_lS "PostChain$Machine" 75 M_PC_ruleNumber 2 := ⟨cs_PC_ruleNumber, Or.inr ⟨"PostChain", by decide +kernel⟩, by unfold gx_np; decide +kernel, st_PC_ruleNumber⟩
theorem lk_Machine_78 : gx_lV "PostChain$Machine" 78 M_Machine_ruleFor 1 2 := ⟨cs_Machine_ruleFor, Or.inl (gx_T_in (List.mem_append_right _ (show _ ∈ tables_1 from (List.mem_append_left _ (List.mem_of_getElem? (i := 234) (by decide +kernel))))) (by decide +kernel)), by unfold gx_np; decide +kernel, im_Machine_ruleFor, se_Machine_ruleFor, T_Machine, 5, rfl⟩
theorem lk_Machine_82 : gx_lV "PostChain$Machine" 82 M_Word_addPart 3 0 := ⟨cs_Word_addPart, Or.inl (gx_T_in (List.mem_append_right _ (show _ ∈ tables_1 from (List.mem_append_right _ (List.mem_append_left _ (List.mem_of_getElem? (i := 17) (by decide +kernel)))))) (by decide +kernel)), by unfold gx_np; decide +kernel, im_Word_addPart, se_Word_addPart, T_Word, 2, rfl⟩
theorem lk_Row_3 : gx_lO "PostChain$Row" 3 := ⟨gx_T_in (List.mem_append_right _ (show _ ∈ tables_1 from (List.mem_append_left _ (List.mem_of_getElem? (i := 147) (by decide +kernel))))) (by decide +kernel), im_Obj, co_Obj⟩
theorem lk_Row_19 : gx_lV "PostChain$Row" 19 M_Row_empty 0 1 := ⟨cs_Row_empty, Or.inl (gx_T_in (List.mem_append_right _ (show _ ∈ tables_1 from (List.mem_append_right _ (List.mem_append_right _ (List.mem_append_right _ (List.mem_append_left _ (List.mem_of_getElem? (i := 68) (by decide +kernel)))))))) (by decide +kernel)), by unfold gx_np; decide +kernel, im_Row_empty, se_Row_empty, T_Row, 2, rfl⟩
theorem lk_Row_22 : gx_lV "PostChain$Row" 22 M_Row_size 0 1 := ⟨cs_Row_size, Or.inl (gx_T_in (List.mem_append_right _ (show _ ∈ tables_1 from (List.mem_append_right _ (List.mem_append_right _ (List.mem_append_right _ (List.mem_append_left _ (List.mem_of_getElem? (i := 69) (by decide +kernel)))))))) (by decide +kernel)), by unfold gx_np; decide +kernel, im_Row_size, se_Row_size, T_Row, 2, rfl⟩
theorem lk_Row_26 : gx_lV "PostChain$Row" 26 M_Row_ask 1 1 := ⟨cs_Row_ask, Or.inl (gx_T_in (List.mem_append_right _ (show _ ∈ tables_1 from (List.mem_append_right _ (List.mem_append_right _ (List.mem_append_right _ (List.mem_append_left _ (List.mem_of_getElem? (i := 70) (by decide +kernel)))))))) (by decide +kernel)), by unfold gx_np; decide +kernel, im_Row_ask, se_Row_ask, T_Row, 2, rfl⟩
theorem lk_Row_30 : gx_lV "PostChain$Row" 30 M_Row_add 1 1 := ⟨cs_Row_add, Or.inl (gx_T_in (List.mem_append_right _ (show _ ∈ tables_1 from (List.mem_append_right _ (List.mem_append_right _ (List.mem_append_right _ (List.mem_append_left _ (List.mem_of_getElem? (i := 71) (by decide +kernel)))))))) (by decide +kernel)), by unfold gx_np; decide +kernel, im_Row_add, se_Row_add, T_Row, 2, rfl⟩
theorem lk_Run_3 : gx_lO "PostChain$Run" 3 := ⟨gx_T_in (List.mem_append_right _ (show _ ∈ tables_1 from (List.mem_append_left _ (List.mem_of_getElem? (i := 87) (by decide +kernel))))) (by decide +kernel), im_Obj, co_Obj⟩
theorem lk_Run_17 : gx_lI "PostChain$Run" 17 M_Word_init 1 := ⟨cs_Word_init, Or.inl (gx_T_in (List.mem_append_right _ (show _ ∈ tables_1 from (List.mem_append_left _ (List.mem_of_getElem? (i := 90) (by decide +kernel))))) (by decide +kernel)), by unfold gx_np; decide +kernel, im_Word_init, rfl, rfl⟩
theorem lk_Run_24 : gx_lM "PostChain$Run" 24 Lib.Math.min.name Lib.Math.min.code := ⟨gx_T_in (List.mem_append_right _ (show _ ∈ tables_1 from (List.mem_append_right _ (List.mem_append_left _ (List.mem_of_getElem? (i := 78) (by decide +kernel)))))) (by decide +kernel), st_Math_min, in_Math, co_Math_min⟩
theorem lk_Run_30 : gx_lM "PostChain$Run" 30 Lib.Math.max.name Lib.Math.max.code := ⟨gx_T_in (List.mem_append_right _ (show _ ∈ tables_1 from (List.mem_append_right _ (List.mem_append_left _ (List.mem_of_getElem? (i := 79) (by decide +kernel)))))) (by decide +kernel), st_Math_max, in_Math, co_Math_max⟩
theorem lk_Run_33 : gx_lV "PostChain$Run" 33 M_Run_text 1 3 := ⟨cs_Run_text, Or.inl (gx_T_in (List.mem_append_right _ (show _ ∈ tables_1 from (List.mem_append_right _ (List.mem_append_left _ (List.mem_of_getElem? (i := 74) (by decide +kernel)))))) (by decide +kernel)), by unfold gx_np; decide +kernel, im_Run_text, se_Run_text, T_Run, 2, rfl⟩
theorem lk_Run_37 : gx_lV "PostChain$Run" 37 M_Word_head 0 0 := ⟨cs_Word_head, Or.inl (gx_T_in (List.mem_append_right _ (show _ ∈ tables_1 from (List.mem_append_right _ (List.mem_append_left _ (List.mem_of_getElem? (i := 82) (by decide +kernel)))))) (by decide +kernel)), by unfold gx_np; decide +kernel, im_Word_head, se_Word_head, T_Word, 2, rfl⟩
theorem lk_Run_41 : gx_lV "PostChain$Run" 41 M_Word_at 1 0 := ⟨cs_Word_at, Or.inl (gx_T_in (List.mem_append_right _ (show _ ∈ tables_1 from (List.mem_append_right _ (List.mem_append_left _ (List.mem_of_getElem? (i := 83) (by decide +kernel)))))) (by decide +kernel)), by unfold gx_np; decide +kernel, im_Word_at, se_Word_at, T_Word, 2, rfl⟩
theorem lk_Run_45 : gx_lS "PostChain$Run" 45 M_PC_letter 1 := ⟨cs_PC_letter, Or.inr ⟨"PostChain", by decide +kernel⟩, by unfold gx_np; decide +kernel, st_PC_letter⟩
theorem lk_Run_54 : gx_lV "PostChain$Run" 54 M_Word_copy 1 0 := ⟨cs_Word_copy, Or.inl (gx_T_in (List.mem_append_right _ (show _ ∈ tables_1 from (List.mem_append_left _ (List.mem_of_getElem? (i := 209) (by decide +kernel))))) (by decide +kernel)), by unfold gx_np; decide +kernel, im_Word_copy, se_Word_copy, T_Word, 2, rfl⟩
theorem lk_Run_58 : gx_lV "PostChain$Run" 58 M_Machine_step 2 2 := ⟨cs_Machine_step, Or.inl (gx_T_in (List.mem_append_right _ (show _ ∈ tables_1 from (List.mem_append_left _ (List.mem_of_getElem? (i := 230) (by decide +kernel))))) (by decide +kernel)), by unfold gx_np; decide +kernel, im_Machine_step, se_Machine_step, T_Machine, 5, rfl⟩
theorem lk_Run_62 : gx_lV "PostChain$Run" 62 M_Word_size 0 0 := ⟨cs_Word_size, Or.inl (gx_T_in (List.mem_append_right _ (show _ ∈ tables_1 from (List.mem_append_right _ (List.mem_append_left _ (List.mem_of_getElem? (i := 21) (by decide +kernel)))))) (by decide +kernel)), by unfold gx_np; decide +kernel, im_Word_size, se_Word_size, T_Word, 2, rfl⟩
theorem lk_Way_3 : gx_lO "PostChain$Way" 3 := ⟨gx_T_in (List.mem_append_right _ (show _ ∈ tables_1 from (List.mem_append_left _ (List.mem_of_getElem? (i := 141) (by decide +kernel))))) (by decide +kernel), im_Obj, co_Obj⟩
theorem lk_Way_11 : gx_lI "PostChain$Way" 11 M_Row_init 1 := ⟨cs_Row_init, Or.inl (gx_T_in (List.mem_append_right _ (show _ ∈ tables_1 from (List.mem_append_left _ (List.mem_of_getElem? (i := 144) (by decide +kernel))))) (by decide +kernel)), by unfold gx_np; decide +kernel, im_Row_init, rfl, rfl⟩
theorem lk_Way_22 : gx_lI "PostChain$Way" 22 M_Word_init 1 := ⟨cs_Word_init, Or.inl (gx_T_in (List.mem_append_right _ (show _ ∈ tables_1 from (List.mem_append_left _ (List.mem_of_getElem? (i := 156) (by decide +kernel))))) (by decide +kernel)), by unfold gx_np; decide +kernel, im_Word_init, rfl, rfl⟩
theorem lk_Way_27 : gx_lV "PostChain$Way" 27 M_Row_empty 0 1 := ⟨cs_Row_empty, Or.inl (gx_T_in (List.mem_append_right _ (show _ ∈ tables_1 from (List.mem_append_right _ (List.mem_append_left _ (List.mem_of_getElem? (i := 66) (by decide +kernel)))))) (by decide +kernel)), by unfold gx_np; decide +kernel, im_Row_empty, se_Row_empty, T_Row, 2, rfl⟩
theorem lk_Way_30 : gx_lV "PostChain$Way" 30 M_Run_isHalted 0 3 := ⟨cs_Run_isHalted, Or.inl (gx_T_in (List.mem_append_right _ (show _ ∈ tables_1 from (List.mem_append_right _ (List.mem_append_left _ (List.mem_of_getElem? (i := 70) (by decide +kernel)))))) (by decide +kernel)), by unfold gx_np; decide +kernel, im_Run_isHalted, se_Run_isHalted, T_Run, 2, rfl⟩
theorem lk_Way_36 : gx_lV "PostChain$Way" 36 M_Row_add 1 1 := ⟨cs_Row_add, Or.inl (gx_T_in (List.mem_append_right _ (show _ ∈ tables_1 from (List.mem_append_right _ (List.mem_append_left _ (List.mem_of_getElem? (i := 85) (by decide +kernel)))))) (by decide +kernel)), by unfold gx_np; decide +kernel, im_Row_add, se_Row_add, T_Row, 2, rfl⟩
theorem lk_Way_39 : gx_lV "PostChain$Way" 39 M_Run_stepCount 0 3 := ⟨cs_Run_stepCount, Or.inl (gx_T_in (List.mem_append_right _ (show _ ∈ tables_1 from (List.mem_append_right _ (List.mem_append_left _ (List.mem_of_getElem? (i := 89) (by decide +kernel)))))) (by decide +kernel)), by unfold gx_np; decide +kernel, im_Run_stepCount, se_Run_stepCount, T_Run, 2, rfl⟩
theorem lk_Way_43 : gx_lV "PostChain$Way" 43 M_Run_text 1 3 := ⟨cs_Run_text, Or.inl (gx_T_in (List.mem_append_right _ (show _ ∈ tables_1 from (List.mem_append_right _ (List.mem_append_left _ (List.mem_of_getElem? (i := 93) (by decide +kernel)))))) (by decide +kernel)), by unfold gx_np; decide +kernel, im_Run_text, se_Run_text, T_Run, 2, rfl⟩
theorem lk_Way_47 : gx_lV "PostChain$Way" 47 M_Way_passStep 3 6 := ⟨cs_Way_passStep, Or.inl (gx_T_in (List.mem_append_right _ (show _ ∈ tables_1 from (List.mem_append_right _ (List.mem_append_left _ (List.mem_of_getElem? (i := 94) (by decide +kernel)))))) (by decide +kernel)), by unfold gx_np; decide +kernel, im_Way_passStep, se_Way_passStep, T_Way, 2, rfl⟩
theorem lk_Way_51 : gx_lV "PostChain$Way" 51 M_Word_copy 1 0 := ⟨cs_Word_copy, Or.inl (gx_T_in (List.mem_append_right _ (show _ ∈ tables_1 from (List.mem_append_right _ (List.mem_append_left _ (List.mem_of_getElem? (i := 115) (by decide +kernel)))))) (by decide +kernel)), by unfold gx_np; decide +kernel, im_Word_copy, se_Word_copy, T_Word, 2, rfl⟩
theorem lk_Way_55 : gx_lV "PostChain$Way" 55 M_Word_size 0 0 := ⟨cs_Word_size, Or.inl (gx_T_in (List.mem_append_right _ (show _ ∈ tables_1 from (List.mem_append_right _ (List.mem_append_left _ (List.mem_of_getElem? (i := 100) (by decide +kernel)))))) (by decide +kernel)), by unfold gx_np; decide +kernel, im_Word_size, se_Word_size, T_Word, 2, rfl⟩
theorem lk_Way_58 : gx_lV "PostChain$Way" 58 M_Way_passShorter 1 6 := ⟨cs_Way_passShorter, Or.inl (gx_T_in (List.mem_append_right _ (show _ ∈ tables_1 from (List.mem_append_right _ (List.mem_append_left _ (List.mem_of_getElem? (i := 116) (by decide +kernel)))))) (by decide +kernel)), by unfold gx_np; decide +kernel, im_Way_passShorter, se_Way_passShorter, T_Way, 2, rfl⟩
theorem lk_Way_62 : gx_lV "PostChain$Way" 62 M_Box_size 0 5 := ⟨cs_Box_size, Or.inl (gx_T_in (List.mem_append_right _ (show _ ∈ tables_1 from (List.mem_append_right _ (List.mem_append_left _ (List.mem_of_getElem? (i := 130) (by decide +kernel)))))) (by decide +kernel)), by unfold gx_np; decide +kernel, im_Box_size, se_Box_size, T_Box, 3, rfl⟩
theorem lk_Way_65 : gx_lV "PostChain$Way" 65 M_Machine_ruleFor 1 2 := ⟨cs_Machine_ruleFor, Or.inl (gx_T_in (List.mem_append_right _ (show _ ∈ tables_1 from (List.mem_append_right _ (List.mem_append_left _ (List.mem_of_getElem? (i := 98) (by decide +kernel)))))) (by decide +kernel)), by unfold gx_np; decide +kernel, im_Machine_ruleFor, se_Machine_ruleFor, T_Machine, 5, rfl⟩
theorem lk_Way_71 : gx_lV "PostChain$Way" 71 M_Word_head 0 0 := ⟨cs_Word_head, Or.inl (gx_T_in (List.mem_append_right _ (show _ ∈ tables_1 from (List.mem_append_right _ (List.mem_append_left _ (List.mem_of_getElem? (i := 99) (by decide +kernel)))))) (by decide +kernel)), by unfold gx_np; decide +kernel, im_Word_head, se_Word_head, T_Word, 2, rfl⟩
theorem lk_Way_78 : gx_lV "PostChain$Way" 78 M_Word_at 1 0 := ⟨cs_Word_at, Or.inl (gx_T_in (List.mem_append_right _ (show _ ∈ tables_1 from (List.mem_append_right _ (List.mem_append_left _ (List.mem_of_getElem? (i := 101) (by decide +kernel)))))) (by decide +kernel)), by unfold gx_np; decide +kernel, im_Word_at, se_Word_at, T_Word, 2, rfl⟩
theorem lk_Way_82 : gx_lS "PostChain$Way" 82 M_PC_symbolOf 1 := ⟨cs_PC_symbolOf, Or.inr ⟨"PostChain", by decide +kernel⟩, by unfold gx_np; decide +kernel, st_PC_symbolOf⟩
theorem lk_Way_86 : gx_lV "PostChain$Way" 86 M_Box_ofRule 4 5 := ⟨cs_Box_ofRule, Or.inl (gx_T_in (List.mem_append_right _ (show _ ∈ tables_1 from (List.mem_append_right _ (List.mem_append_left _ (List.mem_of_getElem? (i := 103) (by decide +kernel)))))) (by decide +kernel)), by unfold gx_np; decide +kernel, im_Box_ofRule, se_Box_ofRule, T_Box, 3, rfl⟩
theorem lk_Way_90 : gx_lV "PostChain$Way" 90 M_Way_pass 4 6 := ⟨cs_Way_pass, Or.inl (gx_T_in (List.mem_append_right _ (show _ ∈ tables_1 from (List.mem_append_right _ (List.mem_append_left _ (List.mem_of_getElem? (i := 107) (by decide +kernel)))))) (by decide +kernel)), by unfold gx_np; decide +kernel, im_Way_pass, se_Way_pass, T_Way, 2, rfl⟩
theorem lk_Way_94 : gx_lV "PostChain$Way" 94 M_Box_firstEnding 0 5 := ⟨cs_Box_firstEnding, Or.inl (gx_T_in (List.mem_append_right _ (show _ ∈ tables_1 from (List.mem_append_right _ (List.mem_append_left _ (List.mem_of_getElem? (i := 120) (by decide +kernel)))))) (by decide +kernel)), by unfold gx_np; decide +kernel, im_Box_firstEnding, se_Box_firstEnding, T_Box, 3, rfl⟩
theorem lk_Way_97 : gx_lM "PostChain$Way" 97 Lib.Math.min.name Lib.Math.min.code := ⟨gx_T_in (List.mem_append_right _ (show _ ∈ tables_1 from (List.mem_append_right _ (List.mem_append_left _ (List.mem_of_getElem? (i := 124) (by decide +kernel)))))) (by decide +kernel), st_Math_min, in_Math, co_Math_min⟩
theorem lk_Way_103 : gx_lM "PostChain$Way" 103 Lib.Math.max.name Lib.Math.max.code := ⟨gx_T_in (List.mem_append_right _ (show _ ∈ tables_1 from (List.mem_append_right _ (List.mem_append_left _ (List.mem_of_getElem? (i := 125) (by decide +kernel)))))) (by decide +kernel), st_Math_max, in_Math, co_Math_max⟩
theorem lk_Way_106 : gx_lV "PostChain$Way" 106 M_Word_remove 1 0 := ⟨cs_Word_remove, Or.inl (gx_T_in (List.mem_append_right _ (show _ ∈ tables_1 from (List.mem_append_right _ (List.mem_append_left _ (List.mem_of_getElem? (i := 126) (by decide +kernel)))))) (by decide +kernel)), by unfold gx_np; decide +kernel, im_Word_remove, se_Word_remove, T_Word, 2, rfl⟩
theorem lk_Way_109 : gx_lV "PostChain$Way" 109 M_Way_copySymbols 3 6 := ⟨cs_Way_copySymbols, Or.inl (gx_T_in (List.mem_append_right _ (show _ ∈ tables_1 from (List.mem_append_right _ (List.mem_append_left _ (List.mem_of_getElem? (i := 111) (by decide +kernel)))))) (by decide +kernel)), by unfold gx_np; decide +kernel, im_Way_copySymbols, se_Way_copySymbols, T_Way, 2, rfl⟩
theorem lk_Word_3 : gx_lO "PostChain$Word" 3 := ⟨gx_T_in (List.mem_append_right _ (show _ ∈ tables_1 from (List.mem_append_left _ (List.mem_of_getElem? (i := 41) (by decide +kernel))))) (by decide +kernel), im_Obj, co_Obj⟩
theorem lk_Word_19 : gx_lV "PostChain$Word" 19 M_Word_at 1 0 := ⟨cs_Word_at, Or.inl (gx_T_in (List.mem_append_right _ (show _ ∈ tables_1 from (List.mem_append_left _ (List.mem_of_getElem? (i := 225) (by decide +kernel))))) (by decide +kernel)), by unfold gx_np; decide +kernel, im_Word_at, se_Word_at, T_Word, 2, rfl⟩
theorem lk_Word_23 : gx_lV "PostChain$Word" 23 M_Word_add 1 0 := ⟨cs_Word_add, Or.inl (gx_T_in (List.mem_append_right _ (show _ ∈ tables_1 from (List.mem_append_left _ (List.mem_of_getElem? (i := 229) (by decide +kernel))))) (by decide +kernel)), by unfold gx_np; decide +kernel, im_Word_add, se_Word_add, T_Word, 2, rfl⟩
theorem lk_Word_27 : gx_lV "PostChain$Word" 27 M_Word_empty 0 0 := ⟨cs_Word_empty, Or.inl (gx_T_in (List.mem_append_right _ (show _ ∈ tables_1 from (List.mem_append_left _ (List.mem_of_getElem? (i := 213) (by decide +kernel))))) (by decide +kernel)), by unfold gx_np; decide +kernel, im_Word_empty, se_Word_empty, T_Word, 2, rfl⟩
theorem lk_Word_30 : gx_lV "PostChain$Word" 30 M_Word_size 0 0 := ⟨cs_Word_size, Or.inl (gx_T_in (List.mem_append_right _ (show _ ∈ tables_1 from (List.mem_append_left _ (List.mem_of_getElem? (i := 217) (by decide +kernel))))) (by decide +kernel)), by unfold gx_np; decide +kernel, im_Word_size, se_Word_size, T_Word, 2, rfl⟩
theorem lk_Word_34 : gx_lV "PostChain$Word" 34 M_Word_addPart 3 0 := ⟨cs_Word_addPart, Or.inl (gx_T_in (List.mem_append_right _ (show _ ∈ tables_1 from (List.mem_append_left _ (List.mem_of_getElem? (i := 221) (by decide +kernel))))) (by decide +kernel)), by unfold gx_np; decide +kernel, im_Word_addPart, se_Word_addPart, T_Word, 2, rfl⟩
theorem lk_Word_38 : gx_lM "PostChain$Word" 38 Lib.Math.min.name Lib.Math.min.code := ⟨gx_T_in (List.mem_append_right _ (show _ ∈ tables_1 from (List.mem_append_right _ (List.mem_append_left _ (List.mem_of_getElem? (i := 236) (by decide +kernel)))))) (by decide +kernel), st_Math_min, in_Math, co_Math_min⟩
theorem lk_Word_44 : gx_lV "PostChain$Word" 44 M_Word_agrees 1 0 := ⟨cs_Word_agrees, Or.inl (gx_T_in (List.mem_append_right _ (show _ ∈ tables_1 from (List.mem_append_right _ (List.mem_append_right _ (List.mem_append_left _ (List.mem_of_getElem? (i := 1) (by decide +kernel))))))) (by decide +kernel)), by unfold gx_np; decide +kernel, im_Word_agrees, se_Word_agrees, T_Word, 2, rfl⟩
theorem lk_Law_7 : gx_lV "PostChainLaw" 7 M_PC_rule 5 8 := ⟨cs_PC_rule, Or.inl (gx_T_in (List.mem_append_right _ (show _ ∈ tables_1 from (List.mem_append_right _ (List.mem_append_right _ (List.mem_append_left _ (List.mem_of_getElem? (i := 167) (by decide +kernel))))))) (by decide +kernel)), by unfold gx_np; decide +kernel, im_PC_rule, se_PC_rule, T_PC, 9, rfl⟩
theorem lk_Law_15 : gx_lV "PostChainLaw" 15 M_PC_drop 2 8 := ⟨cs_PC_drop, Or.inl (gx_T_in (List.mem_append_right _ (show _ ∈ tables_1 from (List.mem_append_right _ (List.mem_append_right _ (List.mem_append_right _ (List.mem_append_left _ (List.mem_of_getElem? (i := 8) (by decide +kernel)))))))) (by decide +kernel)), by unfold gx_np; decide +kernel, im_PC_drop, se_PC_drop, T_PC, 9, rfl⟩
theorem lk_Law_19 : gx_lV "PostChainLaw" 19 M_PC_input 2 8 := ⟨cs_PC_input, Or.inl (gx_T_in (List.mem_append_right _ (show _ ∈ tables_1 from (List.mem_append_right _ (List.mem_append_right _ (List.mem_append_right _ (List.mem_append_left _ (List.mem_of_getElem? (i := 19) (by decide +kernel)))))))) (by decide +kernel)), by unfold gx_np; decide +kernel, im_PC_input, se_PC_input, T_PC, 9, rfl⟩
theorem lk_Law_22 : gx_lV "PostChainLaw" 22 M_PC_way 1 8 := ⟨cs_PC_way, Or.inl (gx_T_in (List.mem_append_right _ (show _ ∈ tables_1 from (List.mem_append_right _ (List.mem_append_right _ (List.mem_append_right _ (List.mem_append_left _ (List.mem_of_getElem? (i := 33) (by decide +kernel)))))))) (by decide +kernel)), by unfold gx_np; decide +kernel, im_PC_way, se_PC_way, T_PC, 9, rfl⟩
theorem lk_Law_28 : gx_lV "PostChainLaw" 28 M_PC_layWay 0 8 := ⟨cs_PC_layWay, Or.inl (gx_T_in (List.mem_append_right _ (show _ ∈ tables_1 from (List.mem_append_right _ (List.mem_append_right _ (List.mem_append_right _ (List.mem_append_left _ (List.mem_of_getElem? (i := 60) (by decide +kernel)))))))) (by decide +kernel)), by unfold gx_np; decide +kernel, im_PC_layWay, se_PC_layWay, T_PC, 9, rfl⟩
theorem lk_Law_32 : gx_lI "PostChainLaw" 32 M_PC_init 0 := ⟨cs_PC_init, Or.inl (gx_T_in (List.mem_append_right _ (show _ ∈ tables_1 from (List.mem_append_left _ (List.mem_of_getElem? (i := 24) (by decide +kernel))))) (by decide +kernel)), by unfold gx_np; decide +kernel, im_PC_init, rfl, rfl⟩
theorem lk_Law_35 : gx_lI "PostChainLaw" 35 M_Mo_init 0 := ⟨cs_Mo_init, Or.inl (gx_T_in (List.mem_append_right _ (show _ ∈ tables_1 from (List.mem_append_right _ (List.mem_append_right _ (List.mem_append_right _ (List.mem_append_left _ (List.mem_of_getElem? (i := 74) (by decide +kernel)))))))) (by decide +kernel)), by unfold gx_np; decide +kernel, im_Mo_init, rfl, rfl⟩
theorem lk_Law_41 : gx_lV "PostChainLaw" 41 M_Mo_rule 5 9 := ⟨cs_Mo_rule, Or.inl (gx_T_in (List.mem_append_right _ (show _ ∈ tables_1 from (List.mem_append_right _ (List.mem_append_right _ (List.mem_append_right _ (List.mem_append_right _ (List.mem_of_getElem? (i := 4) (by decide +kernel)))))))) (by decide +kernel)), by unfold gx_np; decide +kernel, im_Mo_rule, se_Mo_rule, T_Mo, 33, rfl⟩
theorem lk_Law_42 : gx_lV "PostChainLaw" 42 M_Mo_thrown 0 9 := ⟨cs_Mo_thrown, Or.inl (gx_T_in (List.mem_append_right _ (show _ ∈ tables_1 from (List.mem_append_right _ (List.mem_append_right _ (List.mem_append_right _ (List.mem_append_right _ (List.mem_of_getElem? (i := 0) (by decide +kernel)))))))) (by decide +kernel)), by unfold gx_np; decide +kernel, im_Mo_thrown, se_Mo_thrown, T_Mo, 33, rfl⟩
theorem lk_Law_48 : gx_lV "PostChainLaw" 48 M_Mo_drop 2 9 := ⟨cs_Mo_drop, Or.inl (gx_T_in (List.mem_append_right _ (show _ ∈ tables_1 from (List.mem_append_right _ (List.mem_append_right _ (List.mem_append_right _ (List.mem_append_right _ (List.mem_of_getElem? (i := 11) (by decide +kernel)))))))) (by decide +kernel)), by unfold gx_np; decide +kernel, im_Mo_drop, se_Mo_drop, T_Mo, 33, rfl⟩
theorem lk_Law_51 : gx_lV "PostChainLaw" 51 M_Mo_input 2 9 := ⟨cs_Mo_input, Or.inl (gx_T_in (List.mem_append_right _ (show _ ∈ tables_1 from (List.mem_append_right _ (List.mem_append_right _ (List.mem_append_right _ (List.mem_append_right _ (List.mem_of_getElem? (i := 15) (by decide +kernel)))))))) (by decide +kernel)), by unfold gx_np; decide +kernel, im_Mo_input, se_Mo_input, T_Mo, 33, rfl⟩
theorem lk_Law_52 : gx_lV "PostChainLaw" 52 M_PC_steps 0 8 := ⟨cs_PC_steps, Or.inl (gx_T_in (List.mem_append_right _ (show _ ∈ tables_1 from (List.mem_append_right _ (List.mem_append_left _ (List.mem_of_getElem? (i := 168) (by decide +kernel)))))) (by decide +kernel)), by unfold gx_np; decide +kernel, im_PC_steps, se_PC_steps, T_PC, 9, rfl⟩
theorem lk_Law_55 : gx_lV "PostChainLaw" 55 M_Mo_steps 0 9 := ⟨cs_Mo_steps, Or.inl (gx_T_in (List.mem_append_right _ (show _ ∈ tables_1 from (List.mem_append_right _ (List.mem_append_right _ (List.mem_append_right _ (List.mem_append_right _ (List.mem_of_getElem? (i := 19) (by decide +kernel)))))))) (by decide +kernel)), by unfold gx_np; decide +kernel, im_Mo_steps, se_Mo_steps, T_Mo, 33, rfl⟩
theorem lk_Law_56 : gx_lV "PostChainLaw" 56 M_PC_halts 0 8 := ⟨cs_PC_halts, Or.inl (gx_T_in (List.mem_append_right _ (show _ ∈ tables_1 from (List.mem_append_right _ (List.mem_append_left _ (List.mem_of_getElem? (i := 173) (by decide +kernel)))))) (by decide +kernel)), by unfold gx_np; decide +kernel, im_PC_halts, se_PC_halts, T_PC, 9, rfl⟩
theorem lk_Law_60 : gx_lV "PostChainLaw" 60 M_Mo_halts 0 9 := ⟨cs_Mo_halts, Or.inl (gx_T_in (List.mem_append_right _ (show _ ∈ tables_1 from (List.mem_append_right _ (List.mem_append_right _ (List.mem_append_right _ (List.mem_append_right _ (List.mem_of_getElem? (i := 23) (by decide +kernel)))))))) (by decide +kernel)), by unfold gx_np; decide +kernel, im_Mo_halts, se_Mo_halts, T_Mo, 33, rfl⟩
theorem lk_Law_61 : gx_lV "PostChainLaw" 61 M_PC_run 2 8 := ⟨cs_PC_run, Or.inl (gx_T_in (List.mem_append_right _ (show _ ∈ tables_1 from (List.mem_append_right _ (List.mem_append_left _ (List.mem_of_getElem? (i := 178) (by decide +kernel)))))) (by decide +kernel)), by unfold gx_np; decide +kernel, im_PC_run, se_PC_run, T_PC, 9, rfl⟩
theorem lk_Law_65 : gx_lV "PostChainLaw" 65 M_Mo_run 2 9 := ⟨cs_Mo_run, Or.inl (gx_T_in (List.mem_append_right _ (show _ ∈ tables_1 from (List.mem_append_right _ (List.mem_append_right _ (List.mem_append_right _ (List.mem_append_right _ (List.mem_of_getElem? (i := 27) (by decide +kernel)))))))) (by decide +kernel)), by unfold gx_np; decide +kernel, im_Mo_run, se_Mo_run, T_Mo, 33, rfl⟩
theorem lk_Law_66 : gx_lV "PostChainLaw" 66 M_PC_dominoes 0 8 := ⟨cs_PC_dominoes, Or.inl (gx_T_in (List.mem_append_right _ (show _ ∈ tables_1 from (List.mem_append_right _ (List.mem_append_left _ (List.mem_of_getElem? (i := 187) (by decide +kernel)))))) (by decide +kernel)), by unfold gx_np; decide +kernel, im_PC_dominoes, se_PC_dominoes, T_PC, 9, rfl⟩
theorem lk_Law_69 : gx_lV "PostChainLaw" 69 M_Mo_dominoes 0 9 := ⟨cs_Mo_dominoes, Or.inl (gx_T_in (List.mem_append_right _ (show _ ∈ tables_1 from (List.mem_append_right _ (List.mem_append_right _ (List.mem_append_right _ (List.mem_append_right _ (List.mem_of_getElem? (i := 31) (by decide +kernel)))))))) (by decide +kernel)), by unfold gx_np; decide +kernel, im_Mo_dominoes, se_Mo_dominoes, T_Mo, 33, rfl⟩
theorem lk_Law_70 : gx_lV "PostChainLaw" 70 M_PC_domino 3 8 := ⟨cs_PC_domino, Or.inl (gx_T_in (List.mem_append_right _ (show _ ∈ tables_1 from (List.mem_append_right _ (List.mem_append_left _ (List.mem_of_getElem? (i := 192) (by decide +kernel)))))) (by decide +kernel)), by unfold gx_np; decide +kernel, im_PC_domino, se_PC_domino, T_PC, 9, rfl⟩
theorem lk_Law_74 : gx_lV "PostChainLaw" 74 M_Mo_domino 3 9 := ⟨cs_Mo_domino, Or.inl (gx_T_in (List.mem_append_right _ (show _ ∈ tables_1 from (List.mem_append_right _ (List.mem_append_right _ (List.mem_append_right _ (List.mem_append_right _ (List.mem_of_getElem? (i := 35) (by decide +kernel)))))))) (by decide +kernel)), by unfold gx_np; decide +kernel, im_Mo_domino, se_Mo_domino, T_Mo, 33, rfl⟩
theorem lk_Law_78 : gx_lV "PostChainLaw" 78 M_Mo_way 1 9 := ⟨cs_Mo_way, Or.inl (gx_T_in (List.mem_append_right _ (show _ ∈ tables_1 from (List.mem_append_right _ (List.mem_append_right _ (List.mem_append_right _ (List.mem_append_right _ (List.mem_of_getElem? (i := 39) (by decide +kernel)))))))) (by decide +kernel)), by unfold gx_np; decide +kernel, im_Mo_way, se_Mo_way, T_Mo, 33, rfl⟩
theorem lk_Law_79 : gx_lV "PostChainLaw" 79 M_PC_lay 1 8 := ⟨cs_PC_lay, Or.inl (gx_T_in (List.mem_append_right _ (show _ ∈ tables_1 from (List.mem_append_right _ (List.mem_append_left _ (List.mem_of_getElem? (i := 205) (by decide +kernel)))))) (by decide +kernel)), by unfold gx_np; decide +kernel, im_PC_lay, se_PC_lay, T_PC, 9, rfl⟩
theorem lk_Law_82 : gx_lV "PostChainLaw" 82 M_Mo_lay 1 9 := ⟨cs_Mo_lay, Or.inl (gx_T_in (List.mem_append_right _ (show _ ∈ tables_1 from (List.mem_append_right _ (List.mem_append_right _ (List.mem_append_right _ (List.mem_append_right _ (List.mem_of_getElem? (i := 43) (by decide +kernel)))))))) (by decide +kernel)), by unfold gx_np; decide +kernel, im_Mo_lay, se_Mo_lay, T_Mo, 33, rfl⟩
theorem lk_Law_86 : gx_lV "PostChainLaw" 86 M_Mo_layWay 0 9 := ⟨cs_Mo_layWay, Or.inl (gx_T_in (List.mem_append_right _ (show _ ∈ tables_1 from (List.mem_append_right _ (List.mem_append_right _ (List.mem_append_right _ (List.mem_append_right _ (List.mem_of_getElem? (i := 47) (by decide +kernel)))))))) (by decide +kernel)), by unfold gx_np; decide +kernel, im_Mo_layWay, se_Mo_layWay, T_Mo, 33, rfl⟩
theorem lk_Law_87 : gx_lV "PostChainLaw" 87 M_PC_clear 0 8 := ⟨cs_PC_clear, Or.inl (gx_T_in (List.mem_append_right _ (show _ ∈ tables_1 from (List.mem_append_right _ (List.mem_append_left _ (List.mem_of_getElem? (i := 214) (by decide +kernel)))))) (by decide +kernel)), by unfold gx_np; decide +kernel, im_PC_clear, se_PC_clear, T_PC, 9, rfl⟩
theorem lk_Law_90 : gx_lV "PostChainLaw" 90 M_Mo_clear 0 9 := ⟨cs_Mo_clear, Or.inl (gx_T_in (List.mem_append_right _ (show _ ∈ tables_1 from (List.mem_append_right _ (List.mem_append_right _ (List.mem_append_right _ (List.mem_append_right _ (List.mem_of_getElem? (i := 51) (by decide +kernel)))))))) (by decide +kernel)), by unfold gx_np; decide +kernel, im_Mo_clear, se_Mo_clear, T_Mo, 33, rfl⟩
theorem lk_Law_91 : gx_lV "PostChainLaw" 91 M_PC_tray 0 8 := ⟨cs_PC_tray, Or.inl (gx_T_in (List.mem_append_right _ (show _ ∈ tables_1 from (List.mem_append_right _ (List.mem_append_left _ (List.mem_of_getElem? (i := 218) (by decide +kernel)))))) (by decide +kernel)), by unfold gx_np; decide +kernel, im_PC_tray, se_PC_tray, T_PC, 9, rfl⟩
theorem lk_Law_94 : gx_lV "PostChainLaw" 94 M_Mo_tray 0 9 := ⟨cs_Mo_tray, Or.inl (gx_T_in (List.mem_append_right _ (show _ ∈ tables_1 from (List.mem_append_right _ (List.mem_append_right _ (List.mem_append_right _ (List.mem_append_right _ (List.mem_of_getElem? (i := 55) (by decide +kernel)))))))) (by decide +kernel)), by unfold gx_np; decide +kernel, im_Mo_tray, se_Mo_tray, T_Mo, 33, rfl⟩
theorem lk_Law_95 : gx_lV "PostChainLaw" 95 M_PC_back 0 8 := ⟨cs_PC_back, Or.inl (gx_T_in (List.mem_append_right _ (show _ ∈ tables_1 from (List.mem_append_right _ (List.mem_append_right _ (List.mem_append_left _ (List.mem_of_getElem? (i := 2) (by decide +kernel))))))) (by decide +kernel)), by unfold gx_np; decide +kernel, im_PC_back, se_PC_back, T_PC, 9, rfl⟩
theorem lk_Law_98 : gx_lV "PostChainLaw" 98 M_Mo_back 0 9 := ⟨cs_Mo_back, Or.inl (gx_T_in (List.mem_append_right _ (show _ ∈ tables_1 from (List.mem_append_right _ (List.mem_append_right _ (List.mem_append_right _ (List.mem_append_right _ (List.mem_of_getElem? (i := 67) (by decide +kernel)))))))) (by decide +kernel)), by unfold gx_np; decide +kernel, im_Mo_back, se_Mo_back, T_Mo, 33, rfl⟩
theorem lk_Law_101 : gx_lV "PostChainLaw" 101 M_PC_type 1 8 := ⟨cs_PC_type, Or.inl (gx_T_in (List.mem_append_right _ (show _ ∈ tables_1 from (List.mem_append_right _ (List.mem_append_right _ (List.mem_append_left _ (List.mem_of_getElem? (i := 12) (by decide +kernel))))))) (by decide +kernel)), by unfold gx_np; decide +kernel, im_PC_type, se_PC_type, T_PC, 9, rfl⟩
theorem lk_Law_105 : gx_lV "PostChainLaw" 105 M_Mo_type 1 9 := ⟨cs_Mo_type, Or.inl (gx_T_in (List.mem_append_right _ (show _ ∈ tables_1 from (List.mem_append_right _ (List.mem_append_right _ (List.mem_append_right _ (List.mem_append_right _ (List.mem_of_getElem? (i := 71) (by decide +kernel)))))))) (by decide +kernel)), by unfold gx_np; decide +kernel, im_Mo_type, se_Mo_type, T_Mo, 33, rfl⟩
theorem lk_Law_106 : gx_lV "PostChainLaw" 106 M_PC_trees 0 8 := ⟨cs_PC_trees, Or.inl (gx_T_in (List.mem_append_right _ (show _ ∈ tables_1 from (List.mem_append_right _ (List.mem_append_right _ (List.mem_append_left _ (List.mem_of_getElem? (i := 105) (by decide +kernel))))))) (by decide +kernel)), by unfold gx_np; decide +kernel, im_PC_trees, se_PC_trees, T_PC, 9, rfl⟩
theorem lk_Law_109 : gx_lV "PostChainLaw" 109 M_Mo_trees 0 9 := ⟨cs_Mo_trees, Or.inl (gx_T_in (List.mem_append_right _ (show _ ∈ tables_1 from (List.mem_append_right _ (List.mem_append_right _ (List.mem_append_right _ (List.mem_append_right _ (List.mem_of_getElem? (i := 75) (by decide +kernel)))))))) (by decide +kernel)), by unfold gx_np; decide +kernel, im_Mo_trees, se_Mo_trees, T_Mo, 33, rfl⟩
theorem lk_Law_110 : gx_lV "PostChainLaw" 110 M_PC_search 1 8 := ⟨cs_PC_search, Or.inl (gx_T_in (List.mem_append_right _ (show _ ∈ tables_1 from (List.mem_append_right _ (List.mem_append_right _ (List.mem_append_left _ (List.mem_of_getElem? (i := 109) (by decide +kernel))))))) (by decide +kernel)), by unfold gx_np; decide +kernel, im_PC_search, se_PC_search, T_PC, 9, rfl⟩
theorem lk_Law_113 : gx_lV "PostChainLaw" 113 M_Mo_search 1 9 := ⟨cs_Mo_search, Or.inl (gx_T_in (List.mem_append_right _ (show _ ∈ tables_1 from (List.mem_append_right _ (List.mem_append_right _ (List.mem_append_right _ (List.mem_append_right _ (List.mem_of_getElem? (i := 79) (by decide +kernel)))))))) (by decide +kernel)), by unfold gx_np; decide +kernel, im_Mo_search, se_Mo_search, T_Mo, 33, rfl⟩
theorem lk_Law_114 : gx_lV "PostChainLaw" 114 M_PC_looked 0 8 := ⟨cs_PC_looked, Or.inl (gx_T_in (List.mem_append_right _ (show _ ∈ tables_1 from (List.mem_append_right _ (List.mem_append_right _ (List.mem_append_left _ (List.mem_of_getElem? (i := 155) (by decide +kernel))))))) (by decide +kernel)), by unfold gx_np; decide +kernel, im_PC_looked, se_PC_looked, T_PC, 9, rfl⟩
theorem lk_Law_117 : gx_lV "PostChainLaw" 117 M_Mo_looked 0 9 := ⟨cs_Mo_looked, Or.inl (gx_T_in (List.mem_append_right _ (show _ ∈ tables_1 from (List.mem_append_right _ (List.mem_append_right _ (List.mem_append_right _ (List.mem_append_right _ (List.mem_of_getElem? (i := 91) (by decide +kernel)))))))) (by decide +kernel)), by unfold gx_np; decide +kernel, im_Mo_looked, se_Mo_looked, T_Mo, 33, rfl⟩
theorem lk_Mo_1 : gx_lO "PostChainModel" 1 := ⟨gx_T_in (List.mem_append_right _ (show _ ∈ tables_1 from (List.mem_append_right _ (List.mem_append_right _ (List.mem_append_right _ (List.mem_append_left _ (List.mem_of_getElem? (i := 77) (by decide +kernel)))))))) (by decide +kernel), im_Obj, co_Obj⟩
theorem lk_Mo_87 : gx_lV "PostChainModel" 87 M_Mo_change 0 9 := ⟨cs_Mo_change, Or.inl (gx_T_in (List.mem_append_right _ (show _ ∈ tables_1 from (List.mem_append_right _ (List.mem_append_right _ (List.mem_append_right _ (List.mem_append_left _ (List.mem_of_getElem? (i := 78) (by decide +kernel)))))))) (by decide +kernel)), by unfold gx_np; decide +kernel, im_Mo_change, se_Mo_change, T_Mo, 33, rfl⟩
theorem lk_Mo_93 : gx_lS "PostChainModel" 93 M_Mo_isSymbol 1 := ⟨cs_Mo_isSymbol, Or.inl (gx_T_in (List.mem_append_right _ (show _ ∈ tables_1 from (List.mem_append_right _ (List.mem_append_right _ (List.mem_append_right _ (List.mem_append_left _ (List.mem_of_getElem? (i := 94) (by decide +kernel)))))))) (by decide +kernel)), by unfold gx_np; decide +kernel, st_Mo_isSymbol⟩
theorem lk_Mo_97 : gx_lV "PostChainModel" 97 M_Mo_head 1 9 := ⟨cs_Mo_head, Or.inl (gx_T_in (List.mem_append_right _ (show _ ∈ tables_1 from (List.mem_append_right _ (List.mem_append_right _ (List.mem_append_right _ (List.mem_append_left _ (List.mem_of_getElem? (i := 90) (by decide +kernel)))))))) (by decide +kernel)), by unfold gx_np; decide +kernel, im_Mo_head, se_Mo_head, T_Mo, 33, rfl⟩
theorem lk_Mo_101 : gx_lV "PostChainModel" 101 M_Mo_ruleOf 1 9 := ⟨cs_Mo_ruleOf, Or.inl (gx_T_in (List.mem_append_right _ (show _ ∈ tables_1 from (List.mem_append_right _ (List.mem_append_right _ (List.mem_append_right _ (List.mem_append_left _ (List.mem_of_getElem? (i := 86) (by decide +kernel)))))))) (by decide +kernel)), by unfold gx_np; decide +kernel, im_Mo_ruleOf, se_Mo_ruleOf, T_Mo, 33, rfl⟩
theorem lk_Mo_104 : gx_lS "PostChainModel" 104 M_Mo_letter 1 := ⟨cs_Mo_letter, Or.inl (gx_T_in (List.mem_append_right _ (show _ ∈ tables_1 from (List.mem_append_right _ (List.mem_append_right _ (List.mem_append_right _ (List.mem_append_left _ (List.mem_of_getElem? (i := 97) (by decide +kernel)))))))) (by decide +kernel)), by unfold gx_np; decide +kernel, st_Mo_letter⟩
theorem lk_Mo_113 : gx_lV "PostChainModel" 113 M_Mo_step 1 9 := ⟨cs_Mo_step, Or.inl (gx_T_in (List.mem_append_right _ (show _ ∈ tables_1 from (List.mem_append_right _ (List.mem_append_right _ (List.mem_append_right _ (List.mem_append_left _ (List.mem_of_getElem? (i := 82) (by decide +kernel)))))))) (by decide +kernel)), by unfold gx_np; decide +kernel, im_Mo_step, se_Mo_step, T_Mo, 33, rfl⟩
theorem lk_Mo_116 : gx_lV "PostChainModel" 116 M_Mo_makeDominoes 0 9 := ⟨cs_Mo_makeDominoes, Or.inl (gx_T_in (List.mem_append_right _ (show _ ∈ tables_1 from (List.mem_append_right _ (List.mem_append_right _ (List.mem_append_right _ (List.mem_append_left _ (List.mem_of_getElem? (i := 100) (by decide +kernel)))))))) (by decide +kernel)), by unfold gx_np; decide +kernel, im_Mo_makeDominoes, se_Mo_makeDominoes, T_Mo, 33, rfl⟩
theorem lk_Mo_122 : gx_lV "PostChainModel" 122 M_Mo_halted 0 9 := ⟨cs_Mo_halted, Or.inl (gx_T_in (List.mem_append_right _ (show _ ∈ tables_1 from (List.mem_append_right _ (List.mem_append_right _ (List.mem_append_right _ (List.mem_append_left _ (List.mem_of_getElem? (i := 120) (by decide +kernel)))))))) (by decide +kernel)), by unfold gx_np; decide +kernel, im_Mo_halted, se_Mo_halted, T_Mo, 33, rfl⟩
theorem lk_Mo_126 : gx_lV "PostChainModel" 126 M_Mo_makeWay 0 9 := ⟨cs_Mo_makeWay, Or.inl (gx_T_in (List.mem_append_right _ (show _ ∈ tables_1 from (List.mem_append_right _ (List.mem_append_right _ (List.mem_append_right _ (List.mem_append_left _ (List.mem_of_getElem? (i := 124) (by decide +kernel)))))))) (by decide +kernel)), by unfold gx_np; decide +kernel, im_Mo_makeWay, se_Mo_makeWay, T_Mo, 33, rfl⟩
theorem lk_Mo_135 : gx_lS "PostChainModel" 135 M_Mo_isRule 2 := ⟨cs_Mo_isRule, Or.inl (gx_T_in (List.mem_append_right _ (show _ ∈ tables_1 from (List.mem_append_right _ (List.mem_append_right _ (List.mem_append_right _ (List.mem_append_right _ (List.mem_of_getElem? (i := 8) (by decide +kernel)))))))) (by decide +kernel)), by unfold gx_np; decide +kernel, st_Mo_isRule⟩
theorem lk_Mo_142 : gx_lV "PostChainModel" 142 M_Mo_addUpper 1 9 := ⟨cs_Mo_addUpper, Or.inl (gx_T_in (List.mem_append_right _ (show _ ∈ tables_1 from (List.mem_append_right _ (List.mem_append_right _ (List.mem_append_right _ (List.mem_append_left _ (List.mem_of_getElem? (i := 104) (by decide +kernel)))))))) (by decide +kernel)), by unfold gx_np; decide +kernel, im_Mo_addUpper, se_Mo_addUpper, T_Mo, 33, rfl⟩
theorem lk_Mo_146 : gx_lV "PostChainModel" 146 M_Mo_addLower 1 9 := ⟨cs_Mo_addLower, Or.inl (gx_T_in (List.mem_append_right _ (show _ ∈ tables_1 from (List.mem_append_right _ (List.mem_append_right _ (List.mem_append_right _ (List.mem_append_left _ (List.mem_of_getElem? (i := 108) (by decide +kernel)))))))) (by decide +kernel)), by unfold gx_np; decide +kernel, im_Mo_addLower, se_Mo_addLower, T_Mo, 33, rfl⟩
theorem lk_Mo_149 : gx_lV "PostChainModel" 149 M_Mo_make 7 9 := ⟨cs_Mo_make, Or.inl (gx_T_in (List.mem_append_right _ (show _ ∈ tables_1 from (List.mem_append_right _ (List.mem_append_right _ (List.mem_append_right _ (List.mem_append_left _ (List.mem_of_getElem? (i := 112) (by decide +kernel)))))))) (by decide +kernel)), by unfold gx_np; decide +kernel, im_Mo_make, se_Mo_make, T_Mo, 33, rfl⟩
theorem lk_Mo_153 : gx_lV "PostChainModel" 153 M_Mo_makeRule 2 9 := ⟨cs_Mo_makeRule, Or.inl (gx_T_in (List.mem_append_right _ (show _ ∈ tables_1 from (List.mem_append_right _ (List.mem_append_right _ (List.mem_append_right _ (List.mem_append_left _ (List.mem_of_getElem? (i := 116) (by decide +kernel)))))))) (by decide +kernel)), by unfold gx_np; decide +kernel, im_Mo_makeRule, se_Mo_makeRule, T_Mo, 33, rfl⟩
theorem lk_Mo_157 : gx_lV "PostChainModel" 157 M_Mo_goOn 1 9 := ⟨cs_Mo_goOn, Or.inl (gx_T_in (List.mem_append_right _ (show _ ∈ tables_1 from (List.mem_append_right _ (List.mem_append_right _ (List.mem_append_right _ (List.mem_append_left _ (List.mem_of_getElem? (i := 128) (by decide +kernel)))))))) (by decide +kernel)), by unfold gx_np; decide +kernel, im_Mo_goOn, se_Mo_goOn, T_Mo, 33, rfl⟩
theorem lk_Mo_160 : gx_lV "PostChainModel" 160 M_Mo_find 3 9 := ⟨cs_Mo_find, Or.inl (gx_T_in (List.mem_append_right _ (show _ ∈ tables_1 from (List.mem_append_right _ (List.mem_append_right _ (List.mem_append_right _ (List.mem_append_left _ (List.mem_of_getElem? (i := 136) (by decide +kernel)))))))) (by decide +kernel)), by unfold gx_np; decide +kernel, im_Mo_find, se_Mo_find, T_Mo, 33, rfl⟩
theorem lk_Mo_164 : gx_lV "PostChainModel" 164 M_Mo_wayStep 1 9 := ⟨cs_Mo_wayStep, Or.inl (gx_T_in (List.mem_append_right _ (show _ ∈ tables_1 from (List.mem_append_right _ (List.mem_append_right _ (List.mem_append_right _ (List.mem_append_left _ (List.mem_of_getElem? (i := 132) (by decide +kernel)))))))) (by decide +kernel)), by unfold gx_np; decide +kernel, im_Mo_wayStep, se_Mo_wayStep, T_Mo, 33, rfl⟩
theorem lk_Mo_167 : gx_lV "PostChainModel" 167 M_Mo_word 1 9 := ⟨cs_Mo_word, Or.inl (gx_T_in (List.mem_append_right _ (show _ ∈ tables_1 from (List.mem_append_right _ (List.mem_append_right _ (List.mem_append_right _ (List.mem_append_right _ (List.mem_of_getElem? (i := 63) (by decide +kernel)))))))) (by decide +kernel)), by unfold gx_np; decide +kernel, im_Mo_word, se_Mo_word, T_Mo, 33, rfl⟩
theorem lk_Mo_171 : gx_lV "PostChainModel" 171 M_Mo_kind 0 9 := ⟨cs_Mo_kind, Or.inl (gx_T_in (List.mem_append_right _ (show _ ∈ tables_1 from (List.mem_append_right _ (List.mem_append_right _ (List.mem_append_right _ (List.mem_append_right _ (List.mem_of_getElem? (i := 59) (by decide +kernel)))))))) (by decide +kernel)), by unfold gx_np; decide +kernel, im_Mo_kind, se_Mo_kind, T_Mo, 33, rfl⟩
theorem lk_Mo_178 : gx_lV "PostChainModel" 178 M_Mo_join 2 9 := ⟨cs_Mo_join, Or.inl (gx_T_in (List.mem_append_right _ (show _ ∈ tables_1 from (List.mem_append_right _ (List.mem_append_right _ (List.mem_append_right _ (List.mem_append_right _ (List.mem_of_getElem? (i := 83) (by decide +kernel)))))))) (by decide +kernel)), by unfold gx_np; decide +kernel, im_Mo_join, se_Mo_join, T_Mo, 33, rfl⟩
theorem lk_Mo_181 : gx_lV "PostChainModel" 181 M_Mo_take 1 9 := ⟨cs_Mo_take, Or.inl (gx_T_in (List.mem_append_right _ (show _ ∈ tables_1 from (List.mem_append_right _ (List.mem_append_right _ (List.mem_append_right _ (List.mem_append_right _ (List.mem_of_getElem? (i := 87) (by decide +kernel)))))))) (by decide +kernel)), by unfold gx_np; decide +kernel, im_Mo_take, se_Mo_take, T_Mo, 33, rfl⟩
theorem fl_Word_9 : gx_fl "PostChain$Word" 9 0 0 := ⟨R_Word, T_Word, 2, rfl, by decide, uc_Word, Or.inl (gx_T_in (List.mem_append_right _ (show _ ∈ tables_1 from (List.mem_append_left _ (List.mem_of_getElem? (i := 42) (by decide +kernel))))) (by decide +kernel))⟩
theorem fp_Word_9 : gx_fp "PostChain$Word" 9 0 0 true (.array .char) := ⟨R_Word, T_Word, 2, t_Word, rfl, by decide, uc_Word, gx_T_in (List.mem_append_right _ (show _ ∈ tables_1 from (List.mem_append_left _ (List.mem_of_getElem? (i := 42) (by decide +kernel))))) (by decide +kernel), t_Word_ok, n_Word, rfl, rfl, by decide +kernel⟩
theorem fl_Word_15 : gx_fl "PostChain$Word" 15 0 1 := ⟨R_Word, T_Word, 2, rfl, by decide, uc_Word, Or.inl (gx_T_in (List.mem_append_right _ (show _ ∈ tables_1 from (List.mem_append_left _ (List.mem_of_getElem? (i := 43) (by decide +kernel))))) (by decide +kernel))⟩
theorem fp_Word_15 : gx_fp "PostChain$Word" 15 0 1 false .int := ⟨R_Word, T_Word, 2, t_Word, rfl, by decide, uc_Word, gx_T_in (List.mem_append_right _ (show _ ∈ tables_1 from (List.mem_append_left _ (List.mem_of_getElem? (i := 43) (by decide +kernel))))) (by decide +kernel), t_Word_ok, n_Word, rfl, rfl, by decide +kernel⟩
theorem fl_Machine_9 : gx_fl "PostChain$Machine" 9 2 0 := ⟨R_Machine, T_Machine, 5, rfl, by decide, uc_Machine, Or.inl (gx_T_in (List.mem_append_right _ (show _ ∈ tables_1 from (List.mem_append_left _ (List.mem_of_getElem? (i := 59) (by decide +kernel))))) (by decide +kernel))⟩
theorem fp_Machine_9 : gx_fp "PostChain$Machine" 9 2 0 true (.array .boolean) := ⟨R_Machine, T_Machine, 5, t_Machine, rfl, by decide, uc_Machine, gx_T_in (List.mem_append_right _ (show _ ∈ tables_1 from (List.mem_append_left _ (List.mem_of_getElem? (i := 59) (by decide +kernel))))) (by decide +kernel), t_Machine_ok, n_Machine, rfl, rfl, by decide +kernel⟩
theorem fl_Box_84 : gx_fl "PostChain$Box" 84 2 0 := ⟨R_Machine, T_Machine, 5, rfl, by decide, uc_Machine, Or.inr ⟨"PostChain", by decide +kernel⟩⟩
theorem fl_Machine_15 : gx_fl "PostChain$Machine" 15 2 1 := ⟨R_Machine, T_Machine, 5, rfl, by decide, uc_Machine, Or.inl (gx_T_in (List.mem_append_right _ (show _ ∈ tables_1 from (List.mem_append_left _ (List.mem_of_getElem? (i := 61) (by decide +kernel))))) (by decide +kernel))⟩
theorem fp_Machine_15 : gx_fp "PostChain$Machine" 15 2 1 true (.array .boolean) := ⟨R_Machine, T_Machine, 5, t_Machine, rfl, by decide, uc_Machine, gx_T_in (List.mem_append_right _ (show _ ∈ tables_1 from (List.mem_append_left _ (List.mem_of_getElem? (i := 61) (by decide +kernel))))) (by decide +kernel), t_Machine_ok, n_Machine, rfl, rfl, by decide +kernel⟩
theorem fl_Way_74 : gx_fl "PostChain$Way" 74 2 1 := ⟨R_Machine, T_Machine, 5, rfl, by decide, uc_Machine, Or.inr ⟨"PostChain", by decide +kernel⟩⟩
theorem fl_Box_88 : gx_fl "PostChain$Box" 88 2 1 := ⟨R_Machine, T_Machine, 5, rfl, by decide, uc_Machine, Or.inr ⟨"PostChain", by decide +kernel⟩⟩
theorem fl_Machine_18 : gx_fl "PostChain$Machine" 18 2 2 := ⟨R_Machine, T_Machine, 5, rfl, by decide, uc_Machine, Or.inl (gx_T_in (List.mem_append_right _ (show _ ∈ tables_1 from (List.mem_append_left _ (List.mem_of_getElem? (i := 64) (by decide +kernel))))) (by decide +kernel))⟩
theorem fp_Machine_18 : gx_fp "PostChain$Machine" 18 2 2 true (.array .int) := ⟨R_Machine, T_Machine, 5, t_Machine, rfl, by decide, uc_Machine, gx_T_in (List.mem_append_right _ (show _ ∈ tables_1 from (List.mem_append_left _ (List.mem_of_getElem? (i := 64) (by decide +kernel))))) (by decide +kernel), t_Machine_ok, n_Machine, rfl, rfl, by decide +kernel⟩
theorem fl_Box_101 : gx_fl "PostChain$Box" 101 2 2 := ⟨R_Machine, T_Machine, 5, rfl, by decide, uc_Machine, Or.inr ⟨"PostChain", by decide +kernel⟩⟩
theorem fl_Machine_22 : gx_fl "PostChain$Machine" 22 2 3 := ⟨R_Machine, T_Machine, 5, rfl, by decide, uc_Machine, Or.inl (gx_T_in (List.mem_append_right _ (show _ ∈ tables_1 from (List.mem_append_left _ (List.mem_of_getElem? (i := 66) (by decide +kernel))))) (by decide +kernel))⟩
theorem fp_Machine_22 : gx_fp "PostChain$Machine" 22 2 3 true (.array .int) := ⟨R_Machine, T_Machine, 5, t_Machine, rfl, by decide, uc_Machine, gx_T_in (List.mem_append_right _ (show _ ∈ tables_1 from (List.mem_append_left _ (List.mem_of_getElem? (i := 66) (by decide +kernel))))) (by decide +kernel), t_Machine_ok, n_Machine, rfl, rfl, by decide +kernel⟩
theorem fl_Box_104 : gx_fl "PostChain$Box" 104 2 3 := ⟨R_Machine, T_Machine, 5, rfl, by decide, uc_Machine, Or.inr ⟨"PostChain", by decide +kernel⟩⟩
theorem fl_Machine_30 : gx_fl "PostChain$Machine" 30 2 4 := ⟨R_Machine, T_Machine, 5, rfl, by decide, uc_Machine, Or.inl (gx_T_in (List.mem_append_right _ (show _ ∈ tables_1 from (List.mem_append_left _ (List.mem_of_getElem? (i := 68) (by decide +kernel))))) (by decide +kernel))⟩
theorem fp_Machine_30 : gx_fp "PostChain$Machine" 30 2 4 true (.object "PostChain$Word") := ⟨R_Machine, T_Machine, 5, t_Machine, rfl, by decide, uc_Machine, gx_T_in (List.mem_append_right _ (show _ ∈ tables_1 from (List.mem_append_left _ (List.mem_of_getElem? (i := 68) (by decide +kernel))))) (by decide +kernel), t_Machine_ok, n_Machine, rfl, rfl, by decide +kernel⟩
theorem fl_Run_48 : gx_fl "PostChain$Run" 48 2 4 := ⟨R_Machine, T_Machine, 5, rfl, by decide, uc_Machine, Or.inr ⟨"PostChain", by decide +kernel⟩⟩
theorem fl_Box_47 : gx_fl "PostChain$Box" 47 2 4 := ⟨R_Machine, T_Machine, 5, rfl, by decide, uc_Machine, Or.inr ⟨"PostChain", by decide +kernel⟩⟩
theorem fl_Run_11 : gx_fl "PostChain$Run" 11 3 0 := ⟨R_Run, T_Run, 2, rfl, by decide, uc_Run, Or.inl (gx_T_in (List.mem_append_right _ (show _ ∈ tables_1 from (List.mem_append_left _ (List.mem_of_getElem? (i := 91) (by decide +kernel))))) (by decide +kernel))⟩
theorem fp_Run_11 : gx_fp "PostChain$Run" 11 3 0 true (.array (.object "PostChain$Word")) := ⟨R_Run, T_Run, 2, t_Run, rfl, by decide, uc_Run, gx_T_in (List.mem_append_right _ (show _ ∈ tables_1 from (List.mem_append_left _ (List.mem_of_getElem? (i := 91) (by decide +kernel))))) (by decide +kernel), t_Run_ok, n_Run, rfl, rfl, by decide +kernel⟩
theorem fl_Run_20 : gx_fl "PostChain$Run" 20 3 1 := ⟨R_Run, T_Run, 2, rfl, by decide, uc_Run, Or.inl (gx_T_in (List.mem_append_right _ (show _ ∈ tables_1 from (List.mem_append_left _ (List.mem_of_getElem? (i := 92) (by decide +kernel))))) (by decide +kernel))⟩
theorem fp_Run_20 : gx_fp "PostChain$Run" 20 3 1 false .int := ⟨R_Run, T_Run, 2, t_Run, rfl, by decide, uc_Run, gx_T_in (List.mem_append_right _ (show _ ∈ tables_1 from (List.mem_append_left _ (List.mem_of_getElem? (i := 92) (by decide +kernel))))) (by decide +kernel), t_Run_ok, n_Run, rfl, rfl, by decide +kernel⟩
theorem fl_Domino_14 : gx_fl "PostChain$Domino" 14 4 0 := ⟨R_Domino, T_Domino, 2, rfl, by decide, uc_Domino, Or.inl (gx_T_in (List.mem_append_right _ (show _ ∈ tables_1 from (List.mem_append_left _ (List.mem_of_getElem? (i := 113) (by decide +kernel))))) (by decide +kernel))⟩
theorem fp_Domino_14 : gx_fp "PostChain$Domino" 14 4 0 true (.object "PostChain$Word") := ⟨R_Domino, T_Domino, 2, t_Domino, rfl, by decide, uc_Domino, gx_T_in (List.mem_append_right _ (show _ ∈ tables_1 from (List.mem_append_left _ (List.mem_of_getElem? (i := 113) (by decide +kernel))))) (by decide +kernel), t_Domino_ok, n_Domino, rfl, rfl, by decide +kernel⟩
theorem fl_Box_34 : gx_fl "PostChain$Box" 34 4 0 := ⟨R_Domino, T_Domino, 2, rfl, by decide, uc_Domino, Or.inr ⟨"PostChain", by decide +kernel⟩⟩
theorem fl_Hunt_83 : gx_fl "PostChain$Hunt" 83 4 0 := ⟨R_Domino, T_Domino, 2, rfl, by decide, uc_Domino, Or.inr ⟨"PostChain", by decide +kernel⟩⟩
theorem fl_PC_128 : gx_fl "PostChain" 128 4 0 := ⟨R_Domino, T_Domino, 2, rfl, by decide, uc_Domino, Or.inr ⟨"PostChain", by decide +kernel⟩⟩
theorem fl_Domino_20 : gx_fl "PostChain$Domino" 20 4 1 := ⟨R_Domino, T_Domino, 2, rfl, by decide, uc_Domino, Or.inl (gx_T_in (List.mem_append_right _ (show _ ∈ tables_1 from (List.mem_append_left _ (List.mem_of_getElem? (i := 117) (by decide +kernel))))) (by decide +kernel))⟩
theorem fp_Domino_20 : gx_fp "PostChain$Domino" 20 4 1 true (.object "PostChain$Word") := ⟨R_Domino, T_Domino, 2, t_Domino, rfl, by decide, uc_Domino, gx_T_in (List.mem_append_right _ (show _ ∈ tables_1 from (List.mem_append_left _ (List.mem_of_getElem? (i := 117) (by decide +kernel))))) (by decide +kernel), t_Domino_ok, n_Domino, rfl, rfl, by decide +kernel⟩
theorem fl_Box_44 : gx_fl "PostChain$Box" 44 4 1 := ⟨R_Domino, T_Domino, 2, rfl, by decide, uc_Domino, Or.inr ⟨"PostChain", by decide +kernel⟩⟩
theorem fl_Hunt_89 : gx_fl "PostChain$Hunt" 89 4 1 := ⟨R_Domino, T_Domino, 2, rfl, by decide, uc_Domino, Or.inr ⟨"PostChain", by decide +kernel⟩⟩
theorem fl_PC_133 : gx_fl "PostChain" 133 4 1 := ⟨R_Domino, T_Domino, 2, rfl, by decide, uc_Domino, Or.inr ⟨"PostChain", by decide +kernel⟩⟩
theorem fl_Box_11 : gx_fl "PostChain$Box" 11 5 0 := ⟨R_Box, T_Box, 3, rfl, by decide, uc_Box, Or.inl (gx_T_in (List.mem_append_right _ (show _ ∈ tables_1 from (List.mem_append_left _ (List.mem_of_getElem? (i := 126) (by decide +kernel))))) (by decide +kernel))⟩
theorem fp_Box_11 : gx_fp "PostChain$Box" 11 5 0 true (.array (.object "PostChain$Domino")) := ⟨R_Box, T_Box, 3, t_Box, rfl, by decide, uc_Box, gx_T_in (List.mem_append_right _ (show _ ∈ tables_1 from (List.mem_append_left _ (List.mem_of_getElem? (i := 126) (by decide +kernel))))) (by decide +kernel), t_Box_ok, n_Box, rfl, rfl, by decide +kernel⟩
theorem fl_Box_17 : gx_fl "PostChain$Box" 17 5 1 := ⟨R_Box, T_Box, 3, rfl, by decide, uc_Box, Or.inl (gx_T_in (List.mem_append_right _ (show _ ∈ tables_1 from (List.mem_append_left _ (List.mem_of_getElem? (i := 127) (by decide +kernel))))) (by decide +kernel))⟩
theorem fp_Box_17 : gx_fp "PostChain$Box" 17 5 1 true (.array .int) := ⟨R_Box, T_Box, 3, t_Box, rfl, by decide, uc_Box, gx_T_in (List.mem_append_right _ (show _ ∈ tables_1 from (List.mem_append_left _ (List.mem_of_getElem? (i := 127) (by decide +kernel))))) (by decide +kernel), t_Box_ok, n_Box, rfl, rfl, by decide +kernel⟩
theorem fl_Box_22 : gx_fl "PostChain$Box" 22 5 2 := ⟨R_Box, T_Box, 3, rfl, by decide, uc_Box, Or.inl (gx_T_in (List.mem_append_right _ (show _ ∈ tables_1 from (List.mem_append_left _ (List.mem_of_getElem? (i := 128) (by decide +kernel))))) (by decide +kernel))⟩
theorem fp_Box_22 : gx_fp "PostChain$Box" 22 5 2 false .int := ⟨R_Box, T_Box, 3, t_Box, rfl, by decide, uc_Box, gx_T_in (List.mem_append_right _ (show _ ∈ tables_1 from (List.mem_append_left _ (List.mem_of_getElem? (i := 128) (by decide +kernel))))) (by decide +kernel), t_Box_ok, n_Box, rfl, rfl, by decide +kernel⟩
theorem fl_Row_9 : gx_fl "PostChain$Row" 9 1 0 := ⟨R_Row, T_Row, 2, rfl, by decide, uc_Row, Or.inl (gx_T_in (List.mem_append_right _ (show _ ∈ tables_1 from (List.mem_append_left _ (List.mem_of_getElem? (i := 148) (by decide +kernel))))) (by decide +kernel))⟩
theorem fp_Row_9 : gx_fp "PostChain$Row" 9 1 0 true (.array .int) := ⟨R_Row, T_Row, 2, t_Row, rfl, by decide, uc_Row, gx_T_in (List.mem_append_right _ (show _ ∈ tables_1 from (List.mem_append_left _ (List.mem_of_getElem? (i := 148) (by decide +kernel))))) (by decide +kernel), t_Row_ok, n_Row, rfl, rfl, by decide +kernel⟩
theorem fl_Row_15 : gx_fl "PostChain$Row" 15 1 1 := ⟨R_Row, T_Row, 2, rfl, by decide, uc_Row, Or.inl (gx_T_in (List.mem_append_right _ (show _ ∈ tables_1 from (List.mem_append_left _ (List.mem_of_getElem? (i := 149) (by decide +kernel))))) (by decide +kernel))⟩
theorem fp_Row_15 : gx_fp "PostChain$Row" 15 1 1 false .int := ⟨R_Row, T_Row, 2, t_Row, rfl, by decide, uc_Row, gx_T_in (List.mem_append_right _ (show _ ∈ tables_1 from (List.mem_append_left _ (List.mem_of_getElem? (i := 149) (by decide +kernel))))) (by decide +kernel), t_Row_ok, n_Row, rfl, rfl, by decide +kernel⟩
theorem fl_Way_14 : gx_fl "PostChain$Way" 14 6 0 := ⟨R_Way, T_Way, 2, rfl, by decide, uc_Way, Or.inl (gx_T_in (List.mem_append_right _ (show _ ∈ tables_1 from (List.mem_append_left _ (List.mem_of_getElem? (i := 157) (by decide +kernel))))) (by decide +kernel))⟩
theorem fp_Way_14 : gx_fp "PostChain$Way" 14 6 0 true (.object "PostChain$Row") := ⟨R_Way, T_Way, 2, t_Way, rfl, by decide, uc_Way, gx_T_in (List.mem_append_right _ (show _ ∈ tables_1 from (List.mem_append_left _ (List.mem_of_getElem? (i := 157) (by decide +kernel))))) (by decide +kernel), t_Way_ok, n_Way, rfl, rfl, by decide +kernel⟩
theorem fl_Way_23 : gx_fl "PostChain$Way" 23 6 1 := ⟨R_Way, T_Way, 2, rfl, by decide, uc_Way, Or.inl (gx_T_in (List.mem_append_right _ (show _ ∈ tables_1 from (List.mem_append_left _ (List.mem_of_getElem? (i := 158) (by decide +kernel))))) (by decide +kernel))⟩
theorem fp_Way_23 : gx_fp "PostChain$Way" 23 6 1 true (.object "PostChain$Word") := ⟨R_Way, T_Way, 2, t_Way, rfl, by decide, uc_Way, gx_T_in (List.mem_append_right _ (show _ ∈ tables_1 from (List.mem_append_left _ (List.mem_of_getElem? (i := 158) (by decide +kernel))))) (by decide +kernel), t_Way_ok, n_Way, rfl, rfl, by decide +kernel⟩
theorem fl_Hunt_11 : gx_fl "PostChain$Hunt" 11 7 0 := ⟨R_Hunt, T_Hunt, 8, rfl, by decide, uc_Hunt, Or.inl (gx_T_in (List.mem_append_right _ (show _ ∈ tables_1 from (List.mem_append_left _ (List.mem_of_getElem? (i := 172) (by decide +kernel))))) (by decide +kernel))⟩
theorem fp_Hunt_11 : gx_fp "PostChain$Hunt" 11 7 0 true (.array .int) := ⟨R_Hunt, T_Hunt, 8, t_Hunt, rfl, by decide, uc_Hunt, gx_T_in (List.mem_append_right _ (show _ ∈ tables_1 from (List.mem_append_left _ (List.mem_of_getElem? (i := 172) (by decide +kernel))))) (by decide +kernel), t_Hunt_ok, n_Hunt, rfl, rfl, by decide +kernel⟩
theorem fl_Hunt_15 : gx_fl "PostChain$Hunt" 15 7 1 := ⟨R_Hunt, T_Hunt, 8, rfl, by decide, uc_Hunt, Or.inl (gx_T_in (List.mem_append_right _ (show _ ∈ tables_1 from (List.mem_append_left _ (List.mem_of_getElem? (i := 173) (by decide +kernel))))) (by decide +kernel))⟩
theorem fp_Hunt_15 : gx_fp "PostChain$Hunt" 15 7 1 true (.array .int) := ⟨R_Hunt, T_Hunt, 8, t_Hunt, rfl, by decide, uc_Hunt, gx_T_in (List.mem_append_right _ (show _ ∈ tables_1 from (List.mem_append_left _ (List.mem_of_getElem? (i := 173) (by decide +kernel))))) (by decide +kernel), t_Hunt_ok, n_Hunt, rfl, rfl, by decide +kernel⟩
theorem fl_Hunt_18 : gx_fl "PostChain$Hunt" 18 7 2 := ⟨R_Hunt, T_Hunt, 8, rfl, by decide, uc_Hunt, Or.inl (gx_T_in (List.mem_append_right _ (show _ ∈ tables_1 from (List.mem_append_left _ (List.mem_of_getElem? (i := 174) (by decide +kernel))))) (by decide +kernel))⟩
theorem fp_Hunt_18 : gx_fp "PostChain$Hunt" 18 7 2 true (.array .int) := ⟨R_Hunt, T_Hunt, 8, t_Hunt, rfl, by decide, uc_Hunt, gx_T_in (List.mem_append_right _ (show _ ∈ tables_1 from (List.mem_append_left _ (List.mem_of_getElem? (i := 174) (by decide +kernel))))) (by decide +kernel), t_Hunt_ok, n_Hunt, rfl, rfl, by decide +kernel⟩
theorem fl_Hunt_21 : gx_fl "PostChain$Hunt" 21 7 3 := ⟨R_Hunt, T_Hunt, 8, rfl, by decide, uc_Hunt, Or.inl (gx_T_in (List.mem_append_right _ (show _ ∈ tables_1 from (List.mem_append_left _ (List.mem_of_getElem? (i := 175) (by decide +kernel))))) (by decide +kernel))⟩
theorem fp_Hunt_21 : gx_fp "PostChain$Hunt" 21 7 3 true (.array .int) := ⟨R_Hunt, T_Hunt, 8, t_Hunt, rfl, by decide, uc_Hunt, gx_T_in (List.mem_append_right _ (show _ ∈ tables_1 from (List.mem_append_left _ (List.mem_of_getElem? (i := 175) (by decide +kernel))))) (by decide +kernel), t_Hunt_ok, n_Hunt, rfl, rfl, by decide +kernel⟩
theorem fl_Hunt_24 : gx_fl "PostChain$Hunt" 24 7 4 := ⟨R_Hunt, T_Hunt, 8, rfl, by decide, uc_Hunt, Or.inl (gx_T_in (List.mem_append_right _ (show _ ∈ tables_1 from (List.mem_append_left _ (List.mem_of_getElem? (i := 176) (by decide +kernel))))) (by decide +kernel))⟩
theorem fp_Hunt_24 : gx_fp "PostChain$Hunt" 24 7 4 true (.array .char) := ⟨R_Hunt, T_Hunt, 8, t_Hunt, rfl, by decide, uc_Hunt, gx_T_in (List.mem_append_right _ (show _ ∈ tables_1 from (List.mem_append_left _ (List.mem_of_getElem? (i := 176) (by decide +kernel))))) (by decide +kernel), t_Hunt_ok, n_Hunt, rfl, rfl, by decide +kernel⟩
theorem fl_Hunt_33 : gx_fl "PostChain$Hunt" 33 7 5 := ⟨R_Hunt, T_Hunt, 8, rfl, by decide, uc_Hunt, Or.inl (gx_T_in (List.mem_append_right _ (show _ ∈ tables_1 from (List.mem_append_left _ (List.mem_of_getElem? (i := 177) (by decide +kernel))))) (by decide +kernel))⟩
theorem fp_Hunt_33 : gx_fp "PostChain$Hunt" 33 7 5 true (.object "PostChain$Word") := ⟨R_Hunt, T_Hunt, 8, t_Hunt, rfl, by decide, uc_Hunt, gx_T_in (List.mem_append_right _ (show _ ∈ tables_1 from (List.mem_append_left _ (List.mem_of_getElem? (i := 177) (by decide +kernel))))) (by decide +kernel), t_Hunt_ok, n_Hunt, rfl, rfl, by decide +kernel⟩
theorem fl_Hunt_41 : gx_fl "PostChain$Hunt" 41 7 6 := ⟨R_Hunt, T_Hunt, 8, rfl, by decide, uc_Hunt, Or.inl (gx_T_in (List.mem_append_right _ (show _ ∈ tables_1 from (List.mem_append_left _ (List.mem_of_getElem? (i := 178) (by decide +kernel))))) (by decide +kernel))⟩
theorem fp_Hunt_41 : gx_fp "PostChain$Hunt" 41 7 6 false .int := ⟨R_Hunt, T_Hunt, 8, t_Hunt, rfl, by decide, uc_Hunt, gx_T_in (List.mem_append_right _ (show _ ∈ tables_1 from (List.mem_append_left _ (List.mem_of_getElem? (i := 178) (by decide +kernel))))) (by decide +kernel), t_Hunt_ok, n_Hunt, rfl, rfl, by decide +kernel⟩
theorem fl_Hunt_37 : gx_fl "PostChain$Hunt" 37 7 7 := ⟨R_Hunt, T_Hunt, 8, rfl, by decide, uc_Hunt, Or.inl (gx_T_in (List.mem_append_right _ (show _ ∈ tables_1 from (List.mem_append_left _ (List.mem_of_getElem? (i := 179) (by decide +kernel))))) (by decide +kernel))⟩
theorem fp_Hunt_37 : gx_fp "PostChain$Hunt" 37 7 7 false .int := ⟨R_Hunt, T_Hunt, 8, t_Hunt, rfl, by decide, uc_Hunt, gx_T_in (List.mem_append_right _ (show _ ∈ tables_1 from (List.mem_append_left _ (List.mem_of_getElem? (i := 179) (by decide +kernel))))) (by decide +kernel), t_Hunt_ok, n_Hunt, rfl, rfl, by decide +kernel⟩
theorem fl_PC_12 : gx_fl "PostChain" 12 8 0 := ⟨R_PC, T_PC, 9, rfl, by decide, uc_PC, Or.inl (gx_T_in (List.mem_append_right _ (show _ ∈ tables_1 from (List.mem_append_right _ (List.mem_append_left _ (List.mem_of_getElem? (i := 140) (by decide +kernel)))))) (by decide +kernel))⟩
theorem fp_PC_12 : gx_fp "PostChain" 12 8 0 true (.object "PostChain$Machine") := ⟨R_PC, T_PC, 9, t_PC, rfl, by decide, uc_PC, gx_T_in (List.mem_append_right _ (show _ ∈ tables_1 from (List.mem_append_right _ (List.mem_append_left _ (List.mem_of_getElem? (i := 140) (by decide +kernel)))))) (by decide +kernel), t_PC_ok, n_PC, rfl, rfl, by decide +kernel⟩
theorem fl_PC_19 : gx_fl "PostChain" 19 8 1 := ⟨R_PC, T_PC, 9, rfl, by decide, uc_PC, Or.inl (gx_T_in (List.mem_append_right _ (show _ ∈ tables_1 from (List.mem_append_right _ (List.mem_append_left _ (List.mem_of_getElem? (i := 141) (by decide +kernel)))))) (by decide +kernel))⟩
theorem fp_PC_19 : gx_fp "PostChain" 19 8 1 true (.object "PostChain$Run") := ⟨R_PC, T_PC, 9, t_PC, rfl, by decide, uc_PC, gx_T_in (List.mem_append_right _ (show _ ∈ tables_1 from (List.mem_append_right _ (List.mem_append_left _ (List.mem_of_getElem? (i := 141) (by decide +kernel)))))) (by decide +kernel), t_PC_ok, n_PC, rfl, rfl, by decide +kernel⟩
theorem fl_PC_26 : gx_fl "PostChain" 26 8 2 := ⟨R_PC, T_PC, 9, rfl, by decide, uc_PC, Or.inl (gx_T_in (List.mem_append_right _ (show _ ∈ tables_1 from (List.mem_append_right _ (List.mem_append_left _ (List.mem_of_getElem? (i := 142) (by decide +kernel)))))) (by decide +kernel))⟩
theorem fp_PC_26 : gx_fp "PostChain" 26 8 2 true (.object "PostChain$Box") := ⟨R_PC, T_PC, 9, t_PC, rfl, by decide, uc_PC, gx_T_in (List.mem_append_right _ (show _ ∈ tables_1 from (List.mem_append_right _ (List.mem_append_left _ (List.mem_of_getElem? (i := 142) (by decide +kernel)))))) (by decide +kernel), t_PC_ok, n_PC, rfl, rfl, by decide +kernel⟩
theorem fl_PC_33 : gx_fl "PostChain" 33 8 3 := ⟨R_PC, T_PC, 9, rfl, by decide, uc_PC, Or.inl (gx_T_in (List.mem_append_right _ (show _ ∈ tables_1 from (List.mem_append_right _ (List.mem_append_left _ (List.mem_of_getElem? (i := 143) (by decide +kernel)))))) (by decide +kernel))⟩
theorem fp_PC_33 : gx_fp "PostChain" 33 8 3 true (.object "PostChain$Way") := ⟨R_PC, T_PC, 9, t_PC, rfl, by decide, uc_PC, gx_T_in (List.mem_append_right _ (show _ ∈ tables_1 from (List.mem_append_right _ (List.mem_append_left _ (List.mem_of_getElem? (i := 143) (by decide +kernel)))))) (by decide +kernel), t_PC_ok, n_PC, rfl, rfl, by decide +kernel⟩
theorem fl_PC_40 : gx_fl "PostChain" 40 8 4 := ⟨R_PC, T_PC, 9, rfl, by decide, uc_PC, Or.inl (gx_T_in (List.mem_append_right _ (show _ ∈ tables_1 from (List.mem_append_right _ (List.mem_append_left _ (List.mem_of_getElem? (i := 144) (by decide +kernel)))))) (by decide +kernel))⟩
theorem fp_PC_40 : gx_fp "PostChain" 40 8 4 true (.object "PostChain$Hunt") := ⟨R_PC, T_PC, 9, t_PC, rfl, by decide, uc_PC, gx_T_in (List.mem_append_right _ (show _ ∈ tables_1 from (List.mem_append_right _ (List.mem_append_left _ (List.mem_of_getElem? (i := 144) (by decide +kernel)))))) (by decide +kernel), t_PC_ok, n_PC, rfl, rfl, by decide +kernel⟩
theorem fl_PC_49 : gx_fl "PostChain" 49 8 5 := ⟨R_PC, T_PC, 9, rfl, by decide, uc_PC, Or.inl (gx_T_in (List.mem_append_right _ (show _ ∈ tables_1 from (List.mem_append_right _ (List.mem_append_left _ (List.mem_of_getElem? (i := 145) (by decide +kernel)))))) (by decide +kernel))⟩
theorem fp_PC_49 : gx_fp "PostChain" 49 8 5 true (.object "PostChain$Row") := ⟨R_PC, T_PC, 9, t_PC, rfl, by decide, uc_PC, gx_T_in (List.mem_append_right _ (show _ ∈ tables_1 from (List.mem_append_right _ (List.mem_append_left _ (List.mem_of_getElem? (i := 145) (by decide +kernel)))))) (by decide +kernel), t_PC_ok, n_PC, rfl, rfl, by decide +kernel⟩
theorem fl_PC_56 : gx_fl "PostChain" 56 8 6 := ⟨R_PC, T_PC, 9, rfl, by decide, uc_PC, Or.inl (gx_T_in (List.mem_append_right _ (show _ ∈ tables_1 from (List.mem_append_right _ (List.mem_append_left _ (List.mem_of_getElem? (i := 146) (by decide +kernel)))))) (by decide +kernel))⟩
theorem fp_PC_56 : gx_fp "PostChain" 56 8 6 true (.object "PostChain$Word") := ⟨R_PC, T_PC, 9, t_PC, rfl, by decide, uc_PC, gx_T_in (List.mem_append_right _ (show _ ∈ tables_1 from (List.mem_append_right _ (List.mem_append_left _ (List.mem_of_getElem? (i := 146) (by decide +kernel)))))) (by decide +kernel), t_PC_ok, n_PC, rfl, rfl, by decide +kernel⟩
theorem fl_PC_60 : gx_fl "PostChain" 60 8 7 := ⟨R_PC, T_PC, 9, rfl, by decide, uc_PC, Or.inl (gx_T_in (List.mem_append_right _ (show _ ∈ tables_1 from (List.mem_append_right _ (List.mem_append_left _ (List.mem_of_getElem? (i := 147) (by decide +kernel)))))) (by decide +kernel))⟩
theorem fp_PC_60 : gx_fp "PostChain" 60 8 7 true (.object "PostChain$Word") := ⟨R_PC, T_PC, 9, t_PC, rfl, by decide, uc_PC, gx_T_in (List.mem_append_right _ (show _ ∈ tables_1 from (List.mem_append_right _ (List.mem_append_left _ (List.mem_of_getElem? (i := 147) (by decide +kernel)))))) (by decide +kernel), t_PC_ok, n_PC, rfl, rfl, by decide +kernel⟩
theorem fl_PC_63 : gx_fl "PostChain" 63 8 8 := ⟨R_PC, T_PC, 9, rfl, by decide, uc_PC, Or.inl (gx_T_in (List.mem_append_right _ (show _ ∈ tables_1 from (List.mem_append_right _ (List.mem_append_left _ (List.mem_of_getElem? (i := 148) (by decide +kernel)))))) (by decide +kernel))⟩
theorem fp_PC_63 : gx_fp "PostChain" 63 8 8 true (.object "PostChain$Word") := ⟨R_PC, T_PC, 9, t_PC, rfl, by decide, uc_PC, gx_T_in (List.mem_append_right _ (show _ ∈ tables_1 from (List.mem_append_right _ (List.mem_append_left _ (List.mem_of_getElem? (i := 148) (by decide +kernel)))))) (by decide +kernel), t_PC_ok, n_PC, rfl, rfl, by decide +kernel⟩
theorem fl_Mo_90 : gx_fl "PostChainModel" 90 9 0 := ⟨R_Mo, T_Mo, 33, rfl, by decide, uc_Mo, Or.inl (gx_T_in (List.mem_append_right _ (show _ ∈ tables_1 from (List.mem_append_right _ (List.mem_append_right _ (List.mem_append_right _ (List.mem_append_left _ (List.mem_of_getElem? (i := 140) (by decide +kernel)))))))) (by decide +kernel))⟩
theorem fp_Mo_90 : gx_fp "PostChainModel" 90 9 0 false .int := ⟨R_Mo, T_Mo, 33, t_Mo, rfl, by decide, uc_Mo, gx_T_in (List.mem_append_right _ (show _ ∈ tables_1 from (List.mem_append_right _ (List.mem_append_right _ (List.mem_append_right _ (List.mem_append_left _ (List.mem_of_getElem? (i := 140) (by decide +kernel)))))))) (by decide +kernel), t_Mo_ok, n_Mo, rfl, rfl, by decide +kernel⟩
theorem fl_Mo_7 : gx_fl "PostChainModel" 7 9 1 := ⟨R_Mo, T_Mo, 33, rfl, by decide, uc_Mo, Or.inl (gx_T_in (List.mem_append_right _ (show _ ∈ tables_1 from (List.mem_append_right _ (List.mem_append_right _ (List.mem_append_right _ (List.mem_append_left _ (List.mem_of_getElem? (i := 141) (by decide +kernel)))))))) (by decide +kernel))⟩
theorem fp_Mo_7 : gx_fp "PostChainModel" 7 9 1 false (.array .boolean) := ⟨R_Mo, T_Mo, 33, t_Mo, rfl, by decide, uc_Mo, gx_T_in (List.mem_append_right _ (show _ ∈ tables_1 from (List.mem_append_right _ (List.mem_append_right _ (List.mem_append_right _ (List.mem_append_left _ (List.mem_of_getElem? (i := 141) (by decide +kernel)))))))) (by decide +kernel), t_Mo_ok, n_Mo, rfl, rfl, by decide +kernel⟩
theorem fl_Mo_13 : gx_fl "PostChainModel" 13 9 2 := ⟨R_Mo, T_Mo, 33, rfl, by decide, uc_Mo, Or.inl (gx_T_in (List.mem_append_right _ (show _ ∈ tables_1 from (List.mem_append_right _ (List.mem_append_right _ (List.mem_append_right _ (List.mem_append_left _ (List.mem_of_getElem? (i := 142) (by decide +kernel)))))))) (by decide +kernel))⟩
theorem fp_Mo_13 : gx_fp "PostChainModel" 13 9 2 false (.array .int) := ⟨R_Mo, T_Mo, 33, t_Mo, rfl, by decide, uc_Mo, gx_T_in (List.mem_append_right _ (show _ ∈ tables_1 from (List.mem_append_right _ (List.mem_append_right _ (List.mem_append_right _ (List.mem_append_left _ (List.mem_of_getElem? (i := 142) (by decide +kernel)))))))) (by decide +kernel), t_Mo_ok, n_Mo, rfl, rfl, by decide +kernel⟩
theorem fl_Mo_17 : gx_fl "PostChainModel" 17 9 3 := ⟨R_Mo, T_Mo, 33, rfl, by decide, uc_Mo, Or.inl (gx_T_in (List.mem_append_right _ (show _ ∈ tables_1 from (List.mem_append_right _ (List.mem_append_right _ (List.mem_append_right _ (List.mem_append_left _ (List.mem_of_getElem? (i := 143) (by decide +kernel)))))))) (by decide +kernel))⟩
theorem fp_Mo_17 : gx_fp "PostChainModel" 17 9 3 false (.array .boolean) := ⟨R_Mo, T_Mo, 33, t_Mo, rfl, by decide, uc_Mo, gx_T_in (List.mem_append_right _ (show _ ∈ tables_1 from (List.mem_append_right _ (List.mem_append_right _ (List.mem_append_right _ (List.mem_append_left _ (List.mem_of_getElem? (i := 143) (by decide +kernel)))))))) (by decide +kernel), t_Mo_ok, n_Mo, rfl, rfl, by decide +kernel⟩
theorem fl_Mo_20 : gx_fl "PostChainModel" 20 9 4 := ⟨R_Mo, T_Mo, 33, rfl, by decide, uc_Mo, Or.inl (gx_T_in (List.mem_append_right _ (show _ ∈ tables_1 from (List.mem_append_right _ (List.mem_append_right _ (List.mem_append_right _ (List.mem_append_left _ (List.mem_of_getElem? (i := 144) (by decide +kernel)))))))) (by decide +kernel))⟩
theorem fp_Mo_20 : gx_fp "PostChainModel" 20 9 4 false (.array .int) := ⟨R_Mo, T_Mo, 33, t_Mo, rfl, by decide, uc_Mo, gx_T_in (List.mem_append_right _ (show _ ∈ tables_1 from (List.mem_append_right _ (List.mem_append_right _ (List.mem_append_right _ (List.mem_append_left _ (List.mem_of_getElem? (i := 144) (by decide +kernel)))))))) (by decide +kernel), t_Mo_ok, n_Mo, rfl, rfl, by decide +kernel⟩
theorem fl_Mo_107 : gx_fl "PostChainModel" 107 9 5 := ⟨R_Mo, T_Mo, 33, rfl, by decide, uc_Mo, Or.inl (gx_T_in (List.mem_append_right _ (show _ ∈ tables_1 from (List.mem_append_right _ (List.mem_append_right _ (List.mem_append_right _ (List.mem_append_left _ (List.mem_of_getElem? (i := 145) (by decide +kernel)))))))) (by decide +kernel))⟩
theorem fp_Mo_107 : gx_fp "PostChainModel" 107 9 5 false .int := ⟨R_Mo, T_Mo, 33, t_Mo, rfl, by decide, uc_Mo, gx_T_in (List.mem_append_right _ (show _ ∈ tables_1 from (List.mem_append_right _ (List.mem_append_right _ (List.mem_append_right _ (List.mem_append_left _ (List.mem_of_getElem? (i := 145) (by decide +kernel)))))))) (by decide +kernel), t_Mo_ok, n_Mo, rfl, rfl, by decide +kernel⟩
theorem fl_Mo_23 : gx_fl "PostChainModel" 23 9 6 := ⟨R_Mo, T_Mo, 33, rfl, by decide, uc_Mo, Or.inl (gx_T_in (List.mem_append_right _ (show _ ∈ tables_1 from (List.mem_append_right _ (List.mem_append_right _ (List.mem_append_right _ (List.mem_append_left _ (List.mem_of_getElem? (i := 146) (by decide +kernel)))))))) (by decide +kernel))⟩
theorem fp_Mo_23 : gx_fp "PostChainModel" 23 9 6 false (.array .int) := ⟨R_Mo, T_Mo, 33, t_Mo, rfl, by decide, uc_Mo, gx_T_in (List.mem_append_right _ (show _ ∈ tables_1 from (List.mem_append_right _ (List.mem_append_right _ (List.mem_append_right _ (List.mem_append_left _ (List.mem_of_getElem? (i := 146) (by decide +kernel)))))))) (by decide +kernel), t_Mo_ok, n_Mo, rfl, rfl, by decide +kernel⟩
theorem fl_Mo_110 : gx_fl "PostChainModel" 110 9 7 := ⟨R_Mo, T_Mo, 33, rfl, by decide, uc_Mo, Or.inl (gx_T_in (List.mem_append_right _ (show _ ∈ tables_1 from (List.mem_append_right _ (List.mem_append_right _ (List.mem_append_right _ (List.mem_append_left _ (List.mem_of_getElem? (i := 147) (by decide +kernel)))))))) (by decide +kernel))⟩
theorem fp_Mo_110 : gx_fp "PostChainModel" 110 9 7 false .int := ⟨R_Mo, T_Mo, 33, t_Mo, rfl, by decide, uc_Mo, gx_T_in (List.mem_append_right _ (show _ ∈ tables_1 from (List.mem_append_right _ (List.mem_append_right _ (List.mem_append_right _ (List.mem_append_left _ (List.mem_of_getElem? (i := 147) (by decide +kernel)))))))) (by decide +kernel), t_Mo_ok, n_Mo, rfl, rfl, by decide +kernel⟩
theorem fl_Mo_26 : gx_fl "PostChainModel" 26 9 8 := ⟨R_Mo, T_Mo, 33, rfl, by decide, uc_Mo, Or.inl (gx_T_in (List.mem_append_right _ (show _ ∈ tables_1 from (List.mem_append_right _ (List.mem_append_right _ (List.mem_append_right _ (List.mem_append_left _ (List.mem_of_getElem? (i := 148) (by decide +kernel)))))))) (by decide +kernel))⟩
theorem fp_Mo_26 : gx_fp "PostChainModel" 26 9 8 false (.array .int) := ⟨R_Mo, T_Mo, 33, t_Mo, rfl, by decide, uc_Mo, gx_T_in (List.mem_append_right _ (show _ ∈ tables_1 from (List.mem_append_right _ (List.mem_append_right _ (List.mem_append_right _ (List.mem_append_left _ (List.mem_of_getElem? (i := 148) (by decide +kernel)))))))) (by decide +kernel), t_Mo_ok, n_Mo, rfl, rfl, by decide +kernel⟩
theorem fl_Mo_29 : gx_fl "PostChainModel" 29 9 9 := ⟨R_Mo, T_Mo, 33, rfl, by decide, uc_Mo, Or.inl (gx_T_in (List.mem_append_right _ (show _ ∈ tables_1 from (List.mem_append_right _ (List.mem_append_right _ (List.mem_append_right _ (List.mem_append_left _ (List.mem_of_getElem? (i := 149) (by decide +kernel)))))))) (by decide +kernel))⟩
theorem fp_Mo_29 : gx_fp "PostChainModel" 29 9 9 false (.array .int) := ⟨R_Mo, T_Mo, 33, t_Mo, rfl, by decide, uc_Mo, gx_T_in (List.mem_append_right _ (show _ ∈ tables_1 from (List.mem_append_right _ (List.mem_append_right _ (List.mem_append_right _ (List.mem_append_left _ (List.mem_of_getElem? (i := 149) (by decide +kernel)))))))) (by decide +kernel), t_Mo_ok, n_Mo, rfl, rfl, by decide +kernel⟩
theorem fl_Mo_139 : gx_fl "PostChainModel" 139 9 10 := ⟨R_Mo, T_Mo, 33, rfl, by decide, uc_Mo, Or.inl (gx_T_in (List.mem_append_right _ (show _ ∈ tables_1 from (List.mem_append_right _ (List.mem_append_right _ (List.mem_append_right _ (List.mem_append_left _ (List.mem_of_getElem? (i := 150) (by decide +kernel)))))))) (by decide +kernel))⟩
theorem fp_Mo_139 : gx_fp "PostChainModel" 139 9 10 false .int := ⟨R_Mo, T_Mo, 33, t_Mo, rfl, by decide, uc_Mo, gx_T_in (List.mem_append_right _ (show _ ∈ tables_1 from (List.mem_append_right _ (List.mem_append_right _ (List.mem_append_right _ (List.mem_append_left _ (List.mem_of_getElem? (i := 150) (by decide +kernel)))))))) (by decide +kernel), t_Mo_ok, n_Mo, rfl, rfl, by decide +kernel⟩
theorem fl_Mo_32 : gx_fl "PostChainModel" 32 9 11 := ⟨R_Mo, T_Mo, 33, rfl, by decide, uc_Mo, Or.inl (gx_T_in (List.mem_append_right _ (show _ ∈ tables_1 from (List.mem_append_right _ (List.mem_append_right _ (List.mem_append_right _ (List.mem_append_left _ (List.mem_of_getElem? (i := 151) (by decide +kernel)))))))) (by decide +kernel))⟩
theorem fp_Mo_32 : gx_fp "PostChainModel" 32 9 11 false (.array .int) := ⟨R_Mo, T_Mo, 33, t_Mo, rfl, by decide, uc_Mo, gx_T_in (List.mem_append_right _ (show _ ∈ tables_1 from (List.mem_append_right _ (List.mem_append_right _ (List.mem_append_right _ (List.mem_append_left _ (List.mem_of_getElem? (i := 151) (by decide +kernel)))))))) (by decide +kernel), t_Mo_ok, n_Mo, rfl, rfl, by decide +kernel⟩
theorem fl_Mo_35 : gx_fl "PostChainModel" 35 9 12 := ⟨R_Mo, T_Mo, 33, rfl, by decide, uc_Mo, Or.inl (gx_T_in (List.mem_append_right _ (show _ ∈ tables_1 from (List.mem_append_right _ (List.mem_append_right _ (List.mem_append_right _ (List.mem_append_left _ (List.mem_of_getElem? (i := 152) (by decide +kernel)))))))) (by decide +kernel))⟩
theorem fp_Mo_35 : gx_fp "PostChainModel" 35 9 12 false (.array .int) := ⟨R_Mo, T_Mo, 33, t_Mo, rfl, by decide, uc_Mo, gx_T_in (List.mem_append_right _ (show _ ∈ tables_1 from (List.mem_append_right _ (List.mem_append_right _ (List.mem_append_right _ (List.mem_append_left _ (List.mem_of_getElem? (i := 152) (by decide +kernel)))))))) (by decide +kernel), t_Mo_ok, n_Mo, rfl, rfl, by decide +kernel⟩
theorem fl_Mo_38 : gx_fl "PostChainModel" 38 9 13 := ⟨R_Mo, T_Mo, 33, rfl, by decide, uc_Mo, Or.inl (gx_T_in (List.mem_append_right _ (show _ ∈ tables_1 from (List.mem_append_right _ (List.mem_append_right _ (List.mem_append_right _ (List.mem_append_left _ (List.mem_of_getElem? (i := 153) (by decide +kernel)))))))) (by decide +kernel))⟩
theorem fp_Mo_38 : gx_fp "PostChainModel" 38 9 13 false (.array .int) := ⟨R_Mo, T_Mo, 33, t_Mo, rfl, by decide, uc_Mo, gx_T_in (List.mem_append_right _ (show _ ∈ tables_1 from (List.mem_append_right _ (List.mem_append_right _ (List.mem_append_right _ (List.mem_append_left _ (List.mem_of_getElem? (i := 153) (by decide +kernel)))))))) (by decide +kernel), t_Mo_ok, n_Mo, rfl, rfl, by decide +kernel⟩
theorem fl_Mo_41 : gx_fl "PostChainModel" 41 9 14 := ⟨R_Mo, T_Mo, 33, rfl, by decide, uc_Mo, Or.inl (gx_T_in (List.mem_append_right _ (show _ ∈ tables_1 from (List.mem_append_right _ (List.mem_append_right _ (List.mem_append_right _ (List.mem_append_left _ (List.mem_of_getElem? (i := 154) (by decide +kernel)))))))) (by decide +kernel))⟩
theorem fp_Mo_41 : gx_fp "PostChainModel" 41 9 14 false (.array .int) := ⟨R_Mo, T_Mo, 33, t_Mo, rfl, by decide, uc_Mo, gx_T_in (List.mem_append_right _ (show _ ∈ tables_1 from (List.mem_append_right _ (List.mem_append_right _ (List.mem_append_right _ (List.mem_append_left _ (List.mem_of_getElem? (i := 154) (by decide +kernel)))))))) (by decide +kernel), t_Mo_ok, n_Mo, rfl, rfl, by decide +kernel⟩
theorem fl_Mo_119 : gx_fl "PostChainModel" 119 9 15 := ⟨R_Mo, T_Mo, 33, rfl, by decide, uc_Mo, Or.inl (gx_T_in (List.mem_append_right _ (show _ ∈ tables_1 from (List.mem_append_right _ (List.mem_append_right _ (List.mem_append_right _ (List.mem_append_left _ (List.mem_of_getElem? (i := 155) (by decide +kernel)))))))) (by decide +kernel))⟩
theorem fp_Mo_119 : gx_fp "PostChainModel" 119 9 15 false .int := ⟨R_Mo, T_Mo, 33, t_Mo, rfl, by decide, uc_Mo, gx_T_in (List.mem_append_right _ (show _ ∈ tables_1 from (List.mem_append_right _ (List.mem_append_right _ (List.mem_append_right _ (List.mem_append_left _ (List.mem_of_getElem? (i := 155) (by decide +kernel)))))))) (by decide +kernel), t_Mo_ok, n_Mo, rfl, rfl, by decide +kernel⟩
theorem fl_Mo_44 : gx_fl "PostChainModel" 44 9 16 := ⟨R_Mo, T_Mo, 33, rfl, by decide, uc_Mo, Or.inl (gx_T_in (List.mem_append_right _ (show _ ∈ tables_1 from (List.mem_append_right _ (List.mem_append_right _ (List.mem_append_right _ (List.mem_append_left _ (List.mem_of_getElem? (i := 156) (by decide +kernel)))))))) (by decide +kernel))⟩
theorem fp_Mo_44 : gx_fp "PostChainModel" 44 9 16 false (.array .int) := ⟨R_Mo, T_Mo, 33, t_Mo, rfl, by decide, uc_Mo, gx_T_in (List.mem_append_right _ (show _ ∈ tables_1 from (List.mem_append_right _ (List.mem_append_right _ (List.mem_append_right _ (List.mem_append_left _ (List.mem_of_getElem? (i := 156) (by decide +kernel)))))))) (by decide +kernel), t_Mo_ok, n_Mo, rfl, rfl, by decide +kernel⟩
theorem fl_Mo_129 : gx_fl "PostChainModel" 129 9 17 := ⟨R_Mo, T_Mo, 33, rfl, by decide, uc_Mo, Or.inl (gx_T_in (List.mem_append_right _ (show _ ∈ tables_1 from (List.mem_append_right _ (List.mem_append_right _ (List.mem_append_right _ (List.mem_append_left _ (List.mem_of_getElem? (i := 157) (by decide +kernel)))))))) (by decide +kernel))⟩
theorem fp_Mo_129 : gx_fp "PostChainModel" 129 9 17 false .int := ⟨R_Mo, T_Mo, 33, t_Mo, rfl, by decide, uc_Mo, gx_T_in (List.mem_append_right _ (show _ ∈ tables_1 from (List.mem_append_right _ (List.mem_append_right _ (List.mem_append_right _ (List.mem_append_left _ (List.mem_of_getElem? (i := 157) (by decide +kernel)))))))) (by decide +kernel), t_Mo_ok, n_Mo, rfl, rfl, by decide +kernel⟩
theorem fl_Mo_47 : gx_fl "PostChainModel" 47 9 18 := ⟨R_Mo, T_Mo, 33, rfl, by decide, uc_Mo, Or.inl (gx_T_in (List.mem_append_right _ (show _ ∈ tables_1 from (List.mem_append_right _ (List.mem_append_right _ (List.mem_append_right _ (List.mem_append_left _ (List.mem_of_getElem? (i := 158) (by decide +kernel)))))))) (by decide +kernel))⟩
theorem fp_Mo_47 : gx_fp "PostChainModel" 47 9 18 false (.array .int) := ⟨R_Mo, T_Mo, 33, t_Mo, rfl, by decide, uc_Mo, gx_T_in (List.mem_append_right _ (show _ ∈ tables_1 from (List.mem_append_right _ (List.mem_append_right _ (List.mem_append_right _ (List.mem_append_left _ (List.mem_of_getElem? (i := 158) (by decide +kernel)))))))) (by decide +kernel), t_Mo_ok, n_Mo, rfl, rfl, by decide +kernel⟩
theorem fl_Mo_132 : gx_fl "PostChainModel" 132 9 19 := ⟨R_Mo, T_Mo, 33, rfl, by decide, uc_Mo, Or.inl (gx_T_in (List.mem_append_right _ (show _ ∈ tables_1 from (List.mem_append_right _ (List.mem_append_right _ (List.mem_append_right _ (List.mem_append_left _ (List.mem_of_getElem? (i := 159) (by decide +kernel)))))))) (by decide +kernel))⟩
theorem fp_Mo_132 : gx_fp "PostChainModel" 132 9 19 false .int := ⟨R_Mo, T_Mo, 33, t_Mo, rfl, by decide, uc_Mo, gx_T_in (List.mem_append_right _ (show _ ∈ tables_1 from (List.mem_append_right _ (List.mem_append_right _ (List.mem_append_right _ (List.mem_append_left _ (List.mem_of_getElem? (i := 159) (by decide +kernel)))))))) (by decide +kernel), t_Mo_ok, n_Mo, rfl, rfl, by decide +kernel⟩
theorem fl_Mo_50 : gx_fl "PostChainModel" 50 9 20 := ⟨R_Mo, T_Mo, 33, rfl, by decide, uc_Mo, Or.inl (gx_T_in (List.mem_append_right _ (show _ ∈ tables_1 from (List.mem_append_right _ (List.mem_append_right _ (List.mem_append_right _ (List.mem_append_left _ (List.mem_of_getElem? (i := 160) (by decide +kernel)))))))) (by decide +kernel))⟩
theorem fp_Mo_50 : gx_fp "PostChainModel" 50 9 20 false (.array .int) := ⟨R_Mo, T_Mo, 33, t_Mo, rfl, by decide, uc_Mo, gx_T_in (List.mem_append_right _ (show _ ∈ tables_1 from (List.mem_append_right _ (List.mem_append_right _ (List.mem_append_right _ (List.mem_append_left _ (List.mem_of_getElem? (i := 160) (by decide +kernel)))))))) (by decide +kernel), t_Mo_ok, n_Mo, rfl, rfl, by decide +kernel⟩
theorem fl_Mo_53 : gx_fl "PostChainModel" 53 9 21 := ⟨R_Mo, T_Mo, 33, rfl, by decide, uc_Mo, Or.inl (gx_T_in (List.mem_append_right _ (show _ ∈ tables_1 from (List.mem_append_right _ (List.mem_append_right _ (List.mem_append_right _ (List.mem_append_left _ (List.mem_of_getElem? (i := 161) (by decide +kernel)))))))) (by decide +kernel))⟩
theorem fp_Mo_53 : gx_fp "PostChainModel" 53 9 21 false (.array .int) := ⟨R_Mo, T_Mo, 33, t_Mo, rfl, by decide, uc_Mo, gx_T_in (List.mem_append_right _ (show _ ∈ tables_1 from (List.mem_append_right _ (List.mem_append_right _ (List.mem_append_right _ (List.mem_append_left _ (List.mem_of_getElem? (i := 161) (by decide +kernel)))))))) (by decide +kernel), t_Mo_ok, n_Mo, rfl, rfl, by decide +kernel⟩
theorem fl_Mo_56 : gx_fl "PostChainModel" 56 9 22 := ⟨R_Mo, T_Mo, 33, rfl, by decide, uc_Mo, Or.inl (gx_T_in (List.mem_append_right _ (show _ ∈ tables_1 from (List.mem_append_right _ (List.mem_append_right _ (List.mem_append_right _ (List.mem_append_left _ (List.mem_of_getElem? (i := 162) (by decide +kernel)))))))) (by decide +kernel))⟩
theorem fp_Mo_56 : gx_fp "PostChainModel" 56 9 22 false (.array .int) := ⟨R_Mo, T_Mo, 33, t_Mo, rfl, by decide, uc_Mo, gx_T_in (List.mem_append_right _ (show _ ∈ tables_1 from (List.mem_append_right _ (List.mem_append_right _ (List.mem_append_right _ (List.mem_append_left _ (List.mem_of_getElem? (i := 162) (by decide +kernel)))))))) (by decide +kernel), t_Mo_ok, n_Mo, rfl, rfl, by decide +kernel⟩
theorem fl_Mo_59 : gx_fl "PostChainModel" 59 9 23 := ⟨R_Mo, T_Mo, 33, rfl, by decide, uc_Mo, Or.inl (gx_T_in (List.mem_append_right _ (show _ ∈ tables_1 from (List.mem_append_right _ (List.mem_append_right _ (List.mem_append_right _ (List.mem_append_left _ (List.mem_of_getElem? (i := 163) (by decide +kernel)))))))) (by decide +kernel))⟩
theorem fp_Mo_59 : gx_fp "PostChainModel" 59 9 23 false .int := ⟨R_Mo, T_Mo, 33, t_Mo, rfl, by decide, uc_Mo, gx_T_in (List.mem_append_right _ (show _ ∈ tables_1 from (List.mem_append_right _ (List.mem_append_right _ (List.mem_append_right _ (List.mem_append_left _ (List.mem_of_getElem? (i := 163) (by decide +kernel)))))))) (by decide +kernel), t_Mo_ok, n_Mo, rfl, rfl, by decide +kernel⟩
theorem fl_Mo_175 : gx_fl "PostChainModel" 175 9 24 := ⟨R_Mo, T_Mo, 33, rfl, by decide, uc_Mo, Or.inl (gx_T_in (List.mem_append_right _ (show _ ∈ tables_1 from (List.mem_append_right _ (List.mem_append_right _ (List.mem_append_right _ (List.mem_append_left _ (List.mem_of_getElem? (i := 164) (by decide +kernel)))))))) (by decide +kernel))⟩
theorem fp_Mo_175 : gx_fp "PostChainModel" 175 9 24 false .int := ⟨R_Mo, T_Mo, 33, t_Mo, rfl, by decide, uc_Mo, gx_T_in (List.mem_append_right _ (show _ ∈ tables_1 from (List.mem_append_right _ (List.mem_append_right _ (List.mem_append_right _ (List.mem_append_left _ (List.mem_of_getElem? (i := 164) (by decide +kernel)))))))) (by decide +kernel), t_Mo_ok, n_Mo, rfl, rfl, by decide +kernel⟩
theorem fl_Mo_63 : gx_fl "PostChainModel" 63 9 25 := ⟨R_Mo, T_Mo, 33, rfl, by decide, uc_Mo, Or.inl (gx_T_in (List.mem_append_right _ (show _ ∈ tables_1 from (List.mem_append_right _ (List.mem_append_right _ (List.mem_append_right _ (List.mem_append_left _ (List.mem_of_getElem? (i := 165) (by decide +kernel)))))))) (by decide +kernel))⟩
theorem fp_Mo_63 : gx_fp "PostChainModel" 63 9 25 false (.array .int) := ⟨R_Mo, T_Mo, 33, t_Mo, rfl, by decide, uc_Mo, gx_T_in (List.mem_append_right _ (show _ ∈ tables_1 from (List.mem_append_right _ (List.mem_append_right _ (List.mem_append_right _ (List.mem_append_left _ (List.mem_of_getElem? (i := 165) (by decide +kernel)))))))) (by decide +kernel), t_Mo_ok, n_Mo, rfl, rfl, by decide +kernel⟩
theorem fl_Mo_66 : gx_fl "PostChainModel" 66 9 26 := ⟨R_Mo, T_Mo, 33, rfl, by decide, uc_Mo, Or.inl (gx_T_in (List.mem_append_right _ (show _ ∈ tables_1 from (List.mem_append_right _ (List.mem_append_right _ (List.mem_append_right _ (List.mem_append_left _ (List.mem_of_getElem? (i := 166) (by decide +kernel)))))))) (by decide +kernel))⟩
theorem fp_Mo_66 : gx_fp "PostChainModel" 66 9 26 false (.array .int) := ⟨R_Mo, T_Mo, 33, t_Mo, rfl, by decide, uc_Mo, gx_T_in (List.mem_append_right _ (show _ ∈ tables_1 from (List.mem_append_right _ (List.mem_append_right _ (List.mem_append_right _ (List.mem_append_left _ (List.mem_of_getElem? (i := 166) (by decide +kernel)))))))) (by decide +kernel), t_Mo_ok, n_Mo, rfl, rfl, by decide +kernel⟩
theorem fl_Mo_69 : gx_fl "PostChainModel" 69 9 27 := ⟨R_Mo, T_Mo, 33, rfl, by decide, uc_Mo, Or.inl (gx_T_in (List.mem_append_right _ (show _ ∈ tables_1 from (List.mem_append_right _ (List.mem_append_right _ (List.mem_append_right _ (List.mem_append_left _ (List.mem_of_getElem? (i := 167) (by decide +kernel)))))))) (by decide +kernel))⟩
theorem fp_Mo_69 : gx_fp "PostChainModel" 69 9 27 false (.array .int) := ⟨R_Mo, T_Mo, 33, t_Mo, rfl, by decide, uc_Mo, gx_T_in (List.mem_append_right _ (show _ ∈ tables_1 from (List.mem_append_right _ (List.mem_append_right _ (List.mem_append_right _ (List.mem_append_left _ (List.mem_of_getElem? (i := 167) (by decide +kernel)))))))) (by decide +kernel), t_Mo_ok, n_Mo, rfl, rfl, by decide +kernel⟩
theorem fl_Mo_72 : gx_fl "PostChainModel" 72 9 28 := ⟨R_Mo, T_Mo, 33, rfl, by decide, uc_Mo, Or.inl (gx_T_in (List.mem_append_right _ (show _ ∈ tables_1 from (List.mem_append_right _ (List.mem_append_right _ (List.mem_append_right _ (List.mem_append_left _ (List.mem_of_getElem? (i := 168) (by decide +kernel)))))))) (by decide +kernel))⟩
theorem fp_Mo_72 : gx_fp "PostChainModel" 72 9 28 false (.array .int) := ⟨R_Mo, T_Mo, 33, t_Mo, rfl, by decide, uc_Mo, gx_T_in (List.mem_append_right _ (show _ ∈ tables_1 from (List.mem_append_right _ (List.mem_append_right _ (List.mem_append_right _ (List.mem_append_left _ (List.mem_of_getElem? (i := 168) (by decide +kernel)))))))) (by decide +kernel), t_Mo_ok, n_Mo, rfl, rfl, by decide +kernel⟩
theorem fl_Mo_75 : gx_fl "PostChainModel" 75 9 29 := ⟨R_Mo, T_Mo, 33, rfl, by decide, uc_Mo, Or.inl (gx_T_in (List.mem_append_right _ (show _ ∈ tables_1 from (List.mem_append_right _ (List.mem_append_right _ (List.mem_append_right _ (List.mem_append_left _ (List.mem_of_getElem? (i := 169) (by decide +kernel)))))))) (by decide +kernel))⟩
theorem fp_Mo_75 : gx_fp "PostChainModel" 75 9 29 false (.array .int) := ⟨R_Mo, T_Mo, 33, t_Mo, rfl, by decide, uc_Mo, gx_T_in (List.mem_append_right _ (show _ ∈ tables_1 from (List.mem_append_right _ (List.mem_append_right _ (List.mem_append_right _ (List.mem_append_left _ (List.mem_of_getElem? (i := 169) (by decide +kernel)))))))) (by decide +kernel), t_Mo_ok, n_Mo, rfl, rfl, by decide +kernel⟩
theorem fl_Mo_78 : gx_fl "PostChainModel" 78 9 30 := ⟨R_Mo, T_Mo, 33, rfl, by decide, uc_Mo, Or.inl (gx_T_in (List.mem_append_right _ (show _ ∈ tables_1 from (List.mem_append_right _ (List.mem_append_right _ (List.mem_append_right _ (List.mem_append_left _ (List.mem_of_getElem? (i := 170) (by decide +kernel)))))))) (by decide +kernel))⟩
theorem fp_Mo_78 : gx_fp "PostChainModel" 78 9 30 false (.array .int) := ⟨R_Mo, T_Mo, 33, t_Mo, rfl, by decide, uc_Mo, gx_T_in (List.mem_append_right _ (show _ ∈ tables_1 from (List.mem_append_right _ (List.mem_append_right _ (List.mem_append_right _ (List.mem_append_left _ (List.mem_of_getElem? (i := 170) (by decide +kernel)))))))) (by decide +kernel), t_Mo_ok, n_Mo, rfl, rfl, by decide +kernel⟩
theorem fl_Mo_81 : gx_fl "PostChainModel" 81 9 31 := ⟨R_Mo, T_Mo, 33, rfl, by decide, uc_Mo, Or.inl (gx_T_in (List.mem_append_right _ (show _ ∈ tables_1 from (List.mem_append_right _ (List.mem_append_right _ (List.mem_append_right _ (List.mem_append_left _ (List.mem_of_getElem? (i := 171) (by decide +kernel)))))))) (by decide +kernel))⟩
theorem fp_Mo_81 : gx_fp "PostChainModel" 81 9 31 false (.array .int) := ⟨R_Mo, T_Mo, 33, t_Mo, rfl, by decide, uc_Mo, gx_T_in (List.mem_append_right _ (show _ ∈ tables_1 from (List.mem_append_right _ (List.mem_append_right _ (List.mem_append_right _ (List.mem_append_left _ (List.mem_of_getElem? (i := 171) (by decide +kernel)))))))) (by decide +kernel), t_Mo_ok, n_Mo, rfl, rfl, by decide +kernel⟩
theorem fl_Mo_84 : gx_fl "PostChainModel" 84 9 32 := ⟨R_Mo, T_Mo, 33, rfl, by decide, uc_Mo, Or.inl (gx_T_in (List.mem_append_right _ (show _ ∈ tables_1 from (List.mem_append_right _ (List.mem_append_right _ (List.mem_append_right _ (List.mem_append_left _ (List.mem_of_getElem? (i := 172) (by decide +kernel)))))))) (by decide +kernel))⟩
theorem fp_Mo_84 : gx_fp "PostChainModel" 84 9 32 false (.array .int) := ⟨R_Mo, T_Mo, 33, t_Mo, rfl, by decide, uc_Mo, gx_T_in (List.mem_append_right _ (show _ ∈ tables_1 from (List.mem_append_right _ (List.mem_append_right _ (List.mem_append_right _ (List.mem_append_left _ (List.mem_of_getElem? (i := 172) (by decide +kernel)))))))) (by decide +kernel), t_Mo_ok, n_Mo, rfl, rfl, by decide +kernel⟩
theorem cl_Law_8 : Cond.classLink "PostChainLaw" 8 "PostChain" ∈ gx_T := gx_T_in (List.mem_append_right _ (show _ ∈ tables_1 from (List.mem_append_left _ (List.mem_of_getElem? (i := 22) (by decide +kernel))))) (by decide +kernel)
theorem nw_Law_8 : gx_nw "PostChainLaw" 8 8 9 [.null, .null, .null, .null, .null, .null, .null, .null, .null] := ⟨R_PC, T_PC, t_PC, rfl, uc_PC, cl_Law_8, it_PC, in_PC, t_PC_ok, fun j hj => by rcases (show j = 0 ∨ j = 1 ∨ j = 2 ∨ j = 3 ∨ j = 4 ∨ j = 5 ∨ j = 6 ∨ j = 7 ∨ j = 8 by omega) with rfl | rfl | rfl | rfl | rfl | rfl | rfl | rfl | rfl <;> rfl⟩
theorem cl_PC_9 : Cond.classLink "PostChain" 9 "PostChain$Machine" ∈ gx_T := gx_T_in (List.mem_append_right _ (show _ ∈ tables_1 from (List.mem_append_left _ (List.mem_of_getElem? (i := 30) (by decide +kernel))))) (by decide +kernel)
theorem nw_PC_9 : gx_nw "PostChain" 9 2 5 [.null, .null, .null, .null, .null] := ⟨R_Machine, T_Machine, t_Machine, rfl, uc_Machine, cl_PC_9, it_Machine, in_Machine, t_Machine_ok, fun j hj => by rcases (show j = 0 ∨ j = 1 ∨ j = 2 ∨ j = 3 ∨ j = 4 by omega) with rfl | rfl | rfl | rfl | rfl <;> rfl⟩
theorem cl_Machine_25 : Cond.classLink "PostChain$Machine" 25 "PostChain$Word" ∈ gx_T := gx_T_in (List.mem_append_right _ (show _ ∈ tables_1 from (List.mem_append_left _ (List.mem_of_getElem? (i := 36) (by decide +kernel))))) (by decide +kernel)
theorem nw_Machine_25 : gx_nw "PostChain$Machine" 25 0 2 [.null, .int 0] := ⟨R_Word, T_Word, t_Word, rfl, uc_Word, cl_Machine_25, it_Word, in_Word, t_Word_ok, fun j hj => by rcases (show j = 0 ∨ j = 1 by omega) with rfl | rfl <;> rfl⟩
theorem cl_PC_16 : Cond.classLink "PostChain" 16 "PostChain$Run" ∈ gx_T := gx_T_in (List.mem_append_right _ (show _ ∈ tables_1 from (List.mem_append_left _ (List.mem_of_getElem? (i := 82) (by decide +kernel))))) (by decide +kernel)
theorem nw_PC_16 : gx_nw "PostChain" 16 3 2 [.null, .int 0] := ⟨R_Run, T_Run, t_Run, rfl, uc_Run, cl_PC_16, it_Run, in_Run, t_Run_ok, fun j hj => by rcases (show j = 0 ∨ j = 1 by omega) with rfl | rfl <;> rfl⟩
theorem cl_Run_9 : Cond.classLink "PostChain$Run" 9 "PostChain$Word" ∈ gx_T := gx_T_in (List.mem_append_right _ (show _ ∈ tables_1 from (List.mem_append_left _ (List.mem_of_getElem? (i := 88) (by decide +kernel))))) (by decide +kernel)
theorem nw_Run_9 : gx_nw "PostChain$Run" 9 0 2 [.null, .int 0] := ⟨R_Word, T_Word, t_Word, rfl, uc_Word, cl_Run_9, it_Word, in_Word, t_Word_ok, fun j hj => by rcases (show j = 0 ∨ j = 1 by omega) with rfl | rfl <;> rfl⟩
theorem cl_PC_23 : Cond.classLink "PostChain" 23 "PostChain$Box" ∈ gx_T := gx_T_in (List.mem_append_right _ (show _ ∈ tables_1 from (List.mem_append_left _ (List.mem_of_getElem? (i := 98) (by decide +kernel))))) (by decide +kernel)
theorem nw_PC_23 : gx_nw "PostChain" 23 5 3 [.null, .null, .int 0] := ⟨R_Box, T_Box, t_Box, rfl, uc_Box, cl_PC_23, it_Box, in_Box, t_Box_ok, fun j hj => by rcases (show j = 0 ∨ j = 1 ∨ j = 2 by omega) with rfl | rfl | rfl <;> rfl⟩
theorem cl_Box_9 : Cond.classLink "PostChain$Box" 9 "PostChain$Domino" ∈ gx_T := gx_T_in (List.mem_append_right _ (show _ ∈ tables_1 from (List.mem_append_left _ (List.mem_of_getElem? (i := 104) (by decide +kernel))))) (by decide +kernel)
theorem nw_Box_9 : gx_nw "PostChain$Box" 9 4 2 [.null, .null] := ⟨R_Domino, T_Domino, t_Domino, rfl, uc_Domino, cl_Box_9, it_Domino, in_Domino, t_Domino_ok, fun j hj => by rcases (show j = 0 ∨ j = 1 by omega) with rfl | rfl <;> rfl⟩
theorem cl_Domino_9 : Cond.classLink "PostChain$Domino" 9 "PostChain$Word" ∈ gx_T := gx_T_in (List.mem_append_right _ (show _ ∈ tables_1 from (List.mem_append_left _ (List.mem_of_getElem? (i := 111) (by decide +kernel))))) (by decide +kernel)
theorem nw_Domino_9 : gx_nw "PostChain$Domino" 9 0 2 [.null, .int 0] := ⟨R_Word, T_Word, t_Word, rfl, uc_Word, cl_Domino_9, it_Word, in_Word, t_Word_ok, fun j hj => by rcases (show j = 0 ∨ j = 1 by omega) with rfl | rfl <;> rfl⟩
theorem cl_PC_30 : Cond.classLink "PostChain" 30 "PostChain$Way" ∈ gx_T := gx_T_in (List.mem_append_right _ (show _ ∈ tables_1 from (List.mem_append_left _ (List.mem_of_getElem? (i := 136) (by decide +kernel))))) (by decide +kernel)
theorem nw_PC_30 : gx_nw "PostChain" 30 6 2 [.null, .null] := ⟨R_Way, T_Way, t_Way, rfl, uc_Way, cl_PC_30, it_Way, in_Way, t_Way_ok, fun j hj => by rcases (show j = 0 ∨ j = 1 by omega) with rfl | rfl <;> rfl⟩
theorem cl_Way_9 : Cond.classLink "PostChain$Way" 9 "PostChain$Row" ∈ gx_T := gx_T_in (List.mem_append_right _ (show _ ∈ tables_1 from (List.mem_append_left _ (List.mem_of_getElem? (i := 142) (by decide +kernel))))) (by decide +kernel)
theorem nw_Way_9 : gx_nw "PostChain$Way" 9 1 2 [.null, .int 0] := ⟨R_Row, T_Row, t_Row, rfl, uc_Row, cl_Way_9, it_Row, in_Row, t_Row_ok, fun j hj => by rcases (show j = 0 ∨ j = 1 by omega) with rfl | rfl <;> rfl⟩
theorem cl_Way_20 : Cond.classLink "PostChain$Way" 20 "PostChain$Word" ∈ gx_T := gx_T_in (List.mem_append_right _ (show _ ∈ tables_1 from (List.mem_append_left _ (List.mem_of_getElem? (i := 155) (by decide +kernel))))) (by decide +kernel)
theorem nw_Way_20 : gx_nw "PostChain$Way" 20 0 2 [.null, .int 0] := ⟨R_Word, T_Word, t_Word, rfl, uc_Word, cl_Way_20, it_Word, in_Word, t_Word_ok, fun j hj => by rcases (show j = 0 ∨ j = 1 by omega) with rfl | rfl <;> rfl⟩
theorem cl_PC_37 : Cond.classLink "PostChain" 37 "PostChain$Hunt" ∈ gx_T := gx_T_in (List.mem_append_right _ (show _ ∈ tables_1 from (List.mem_append_left _ (List.mem_of_getElem? (i := 164) (by decide +kernel))))) (by decide +kernel)
theorem nw_PC_37 : gx_nw "PostChain" 37 7 8 [.null, .null, .null, .null, .null, .null, .int 0, .int 0] := ⟨R_Hunt, T_Hunt, t_Hunt, rfl, uc_Hunt, cl_PC_37, it_Hunt, in_Hunt, t_Hunt_ok, fun j hj => by rcases (show j = 0 ∨ j = 1 ∨ j = 2 ∨ j = 3 ∨ j = 4 ∨ j = 5 ∨ j = 6 ∨ j = 7 by omega) with rfl | rfl | rfl | rfl | rfl | rfl | rfl | rfl <;> rfl⟩
theorem cl_Hunt_28 : Cond.classLink "PostChain$Hunt" 28 "PostChain$Word" ∈ gx_T := gx_T_in (List.mem_append_right _ (show _ ∈ tables_1 from (List.mem_append_left _ (List.mem_of_getElem? (i := 170) (by decide +kernel))))) (by decide +kernel)
theorem nw_Hunt_28 : gx_nw "PostChain$Hunt" 28 0 2 [.null, .int 0] := ⟨R_Word, T_Word, t_Word, rfl, uc_Word, cl_Hunt_28, it_Word, in_Word, t_Word_ok, fun j hj => by rcases (show j = 0 ∨ j = 1 by omega) with rfl | rfl <;> rfl⟩
theorem cl_PC_44 : Cond.classLink "PostChain" 44 "PostChain$Row" ∈ gx_T := gx_T_in (List.mem_append_right _ (show _ ∈ tables_1 from (List.mem_append_left _ (List.mem_of_getElem? (i := 197) (by decide +kernel))))) (by decide +kernel)
theorem nw_PC_44 : gx_nw "PostChain" 44 1 2 [.null, .int 0] := ⟨R_Row, T_Row, t_Row, rfl, uc_Row, cl_PC_44, it_Row, in_Row, t_Row_ok, fun j hj => by rcases (show j = 0 ∨ j = 1 by omega) with rfl | rfl <;> rfl⟩
theorem cl_PC_53 : Cond.classLink "PostChain" 53 "PostChain$Word" ∈ gx_T := gx_T_in (List.mem_append_right _ (show _ ∈ tables_1 from (List.mem_append_left _ (List.mem_of_getElem? (i := 199) (by decide +kernel))))) (by decide +kernel)
theorem nw_PC_53 : gx_nw "PostChain" 53 0 2 [.null, .int 0] := ⟨R_Word, T_Word, t_Word, rfl, uc_Word, cl_PC_53, it_Word, in_Word, t_Word_ok, fun j hj => by rcases (show j = 0 ∨ j = 1 by omega) with rfl | rfl <;> rfl⟩
theorem cl_Law_13 : Cond.classLink "PostChainLaw" 13 "java/lang/IllegalArgumentException" ∈ gx_T := gx_T_in (List.mem_append_right _ (show _ ∈ tables_1 from (List.mem_append_right _ (List.mem_append_right _ (List.mem_append_left _ (List.mem_of_getElem? (i := 166) (by decide +kernel))))))) (by decide +kernel)
theorem cl_PC_76 : Cond.classLink "PostChain" 76 "java/lang/IllegalArgumentException" ∈ gx_T := gx_T_in (List.mem_append_right _ (show _ ∈ tables_1 from (List.mem_append_right _ (List.mem_append_right _ (List.mem_append_left _ (List.mem_of_getElem? (i := 173) (by decide +kernel))))))) (by decide +kernel)
theorem cl_Law_26 : Cond.classLink "PostChainLaw" 26 "java/lang/IllegalStateException" ∈ gx_T := gx_T_in (List.mem_append_right _ (show _ ∈ tables_1 from (List.mem_append_right _ (List.mem_append_right _ (List.mem_append_right _ (List.mem_append_left _ (List.mem_of_getElem? (i := 32) (by decide +kernel)))))))) (by decide +kernel)
theorem cl_PC_136 : Cond.classLink "PostChain" 136 "java/lang/IllegalStateException" ∈ gx_T := gx_T_in (List.mem_append_right _ (show _ ∈ tables_1 from (List.mem_append_right _ (List.mem_append_right _ (List.mem_append_right _ (List.mem_append_left _ (List.mem_of_getElem? (i := 37) (by decide +kernel)))))))) (by decide +kernel)
theorem cl_Law_33 : Cond.classLink "PostChainLaw" 33 "PostChainModel" ∈ gx_T := gx_T_in (List.mem_append_right _ (show _ ∈ tables_1 from (List.mem_append_right _ (List.mem_append_right _ (List.mem_append_right _ (List.mem_append_left _ (List.mem_of_getElem? (i := 72) (by decide +kernel)))))))) (by decide +kernel)
theorem nw_Law_33 : gx_nw "PostChainLaw" 33 9 33 [.int 0, .null, .null, .null, .null, .int 0, .null, .int 0, .null, .null, .int 0, .null, .null, .null, .null, .int 0, .null, .int 0, .null, .int 0, .null, .null, .null, .int 0, .int 0, .null, .null, .null, .null, .null, .null, .null, .null] := ⟨R_Mo, T_Mo, t_Mo, rfl, uc_Mo, cl_Law_33, it_Mo, in_Mo, t_Mo_ok, fun j hj => by rcases (show j = 0 ∨ j = 1 ∨ j = 2 ∨ j = 3 ∨ j = 4 ∨ j = 5 ∨ j = 6 ∨ j = 7 ∨ j = 8 ∨ j = 9 ∨ j = 10 ∨ j = 11 ∨ j = 12 ∨ j = 13 ∨ j = 14 ∨ j = 15 ∨ j = 16 ∨ j = 17 ∨ j = 18 ∨ j = 19 ∨ j = 20 ∨ j = 21 ∨ j = 22 ∨ j = 23 ∨ j = 24 ∨ j = 25 ∨ j = 26 ∨ j = 27 ∨ j = 28 ∨ j = 29 ∨ j = 30 ∨ j = 31 ∨ j = 32 by omega) with rfl | rfl | rfl | rfl | rfl | rfl | rfl | rfl | rfl | rfl | rfl | rfl | rfl | rfl | rfl | rfl | rfl | rfl | rfl | rfl | rfl | rfl | rfl | rfl | rfl | rfl | rfl | rfl | rfl | rfl | rfl | rfl | rfl <;> rfl⟩
end
section
/-! My calculus, first part: worlds as maps from addresses to abstract cells; a text or a row of numbers is one abstract cell -/
abbrev gx_E : Type := (Nat × vp_A) ⊕ (Nat × List Value) ⊕ (Nat × Nat × List Nat)
abbrev gx_W : Type := (Nat → Option gx_E) × Nat
/-- class numbers and slots; array classes; the heap at the law's start -/
abbrev gx_N : Type := va_G × (Nat → ClassId) × Heap
def gx_ta (N : gx_N) : List (ClassId × FieldType) := [(N.2.1 0, .int), (N.2.1 1, .char), (N.2.1 2, .boolean), (N.2.1 3, .object "PostChain$Word"), (N.2.1 4, .object "PostChain$Domino"), (N.2.1 5, .long)]
/-- which array kind a box of class number ci keeps: Word chars (kind 1), Row ints (kind 0) -/
def gx_bk (ci : Nat) : Nat := match ci with
  | 0 => 1
  | _ => 0
def gx_fn (l : List Nat) (f : Nat → Int32) : Prop := ∀ i, i < l.length → f i = nI (l.getD i 0)
def gx_sm (l : List Nat) : Prop := ∀ c ∈ l, c < 65536
def gx_is (N : gx_N) (q : Nat) (x : gx_E) (H : Heap) : Prop := match x with
  | .inl a => va_at N.1 gx_cl (q, .inl (N.2.1 a.1, a.2)) H
  | .inr (.inl o) => va_at N.1 gx_cl (q, .inr o) H
  | .inr (.inr t) => ∃ f : Nat → Int32, gx_fn t.2.2 f ∧ (t.2.2.length ≤ t.2.1 ∧ t.2.1 < 65536 ∧ gx_sm t.2.2) ∧ va_at N.1 gx_cl (q, .inr (t.1, [.ref (q + 1), .int (nI t.2.2.length)])) H ∧ va_at N.1 gx_cl (q + 1, .inl (N.2.1 (gx_bk t.1), t.2.1, .inl f)) H
def gx_wide (x : gx_E) : Bool := match x with
  | .inr (.inr _) => true
  | _ => false
def gx_Wd (N : gx_N) (w : gx_W) (H : Heap) : Prop :=
  H.size = w.2 ∧ N.2.2.size ≤ w.2 ∧ (∀ q : Nat, q < N.2.2.size → H[q]? = N.2.2[q]?) ∧ (∀ (q : Nat) (x : gx_E), w.1 q = some x → N.2.2.size ≤ q ∧ gx_is N q x H) ∧ ∀ (q : Nat) (x : gx_E), w.1 q = some x → gx_wide x = true → w.1 (q + 1) = none
def gx_cv (w : gx_W) (q : Nat) : Prop := (∃ x, w.1 q = some x) ∨ ∃ q' x, q = q' + 1 ∧ w.1 q' = some x ∧ gx_wide x = true
def gx_A (w : gx_W) : Nat → Prop := fun q => gx_cv w q ∨ w.2 ≤ q
def gx_st (w : gx_W) (a : Nat) (x : gx_E) : gx_W := (fun q => if q = a then some x else w.1 q, w.2)
def gx_al (w : gx_W) (x : gx_E) : gx_W := (fun q => if q = w.2 then some x else w.1 q, w.2 + 1)
abbrev gx_bx (ci cap : Nat) (l : List Nat) : gx_E := .inr (.inr (ci, cap, l))
abbrev gx_ob (ci : Nat) (fs : List Value) : gx_E := .inr (.inl (ci, fs))
abbrev gx_ai (k n : Nat) (f : Nat → Int32) : gx_E := .inl (k, n, .inl f)
abbrev gx_al8 (k n : Nat) (f : Nat → Int64) : gx_E := .inl (k, n, .inr (.inl f))
abbrev gx_ar (k n : Nat) (f : Nat → Option Nat) : gx_E := .inl (k, n, .inr (.inr (.inr (.inr f))))
def gx_raw (w : gx_W) (h ci cap n : Nat) (f : Nat → Int32) : gx_W := (fun q => if q = h then some (gx_ob ci [.ref (h + 1), .int (nI n)]) else if q = h + 1 then some (gx_ai (gx_bk ci) cap f) else w.1 q, w.2)
theorem gx_st_eq {w : gx_W} {a : Nat} {x : gx_E} : (gx_st w a x).1 a = some x := by simp [gx_st]
theorem gx_st_ne {w : gx_W} {a q : Nat} {x : gx_E} (h : q ≠ a) : (gx_st w a x).1 q = w.1 q := by simp [gx_st, h]
theorem gx_st_st {w : gx_W} {a : Nat} {x y : gx_E} : gx_st (gx_st w a x) a y = gx_st w a y := by
  unfold gx_st
  congr 1
  funext q
  by_cases h : q = a <;> simp [h]
theorem gx_st_id {w : gx_W} {a : Nat} {x : gx_E} (h : w.1 a = some x) : gx_st w a x = w := by
  unfold gx_st
  obtain ⟨f, n⟩ := w
  congr 1
  funext q
  by_cases hq : q = a
  · subst hq; simp; exact h.symm
  · simp [hq]
theorem gx_st_cm {w : gx_W} {a b : Nat} {x y : gx_E} (h : a ≠ b) : gx_st (gx_st w a x) b y = gx_st (gx_st w b y) a x := by
  unfold gx_st
  congr 1
  funext q
  by_cases h1 : q = a
  · subst h1; simp [h]
  · simp [h1]
theorem gx_raw_h {w : gx_W} {h ci cap n : Nat} {f : Nat → Int32} : (gx_raw w h ci cap n f).1 h = some (gx_ob ci [.ref (h + 1), .int (nI n)]) := by simp [gx_raw]
theorem gx_raw_h1 {w : gx_W} {h ci cap n : Nat} {f : Nat → Int32} : (gx_raw w h ci cap n f).1 (h + 1) = some (gx_ai (gx_bk ci) cap f) := by simp [gx_raw]
theorem gx_raw_ne {w : gx_W} {h ci cap n q : Nat} {f : Nat → Int32} (h0 : q ≠ h) (h1 : q ≠ h + 1) : (gx_raw w h ci cap n f).1 q = w.1 q := by simp [gx_raw, h0, h1]
theorem gx_raw_n {w : gx_W} {h ci cap n n' : Nat} {f : Nat → Int32} : gx_st (gx_raw w h ci cap n f) h (gx_ob ci [.ref (h + 1), .int (nI n')]) = gx_raw w h ci cap n' f := by
  unfold gx_st gx_raw
  congr 1
  funext q
  by_cases hq : q = h <;> simp [hq]
theorem gx_raw_f {w : gx_W} {h ci cap n : Nat} {f f' : Nat → Int32} : gx_st (gx_raw w h ci cap n f) (h + 1) (gx_ai (gx_bk ci) cap f') = gx_raw w h ci cap n f' := by
  unfold gx_st gx_raw
  congr 1
  funext q
  by_cases hq : q = h + 1
  · subst hq; simp
  · simp [hq]
theorem gx_is.kept {N : gx_N} {q : Nat} {x : gx_E} {H H1 : Heap} (h : gx_is N q x H) (h1 : H1[q]? = H[q]?) (h2 : gx_wide x = true → H1[q + 1]? = H[q + 1]?) : gx_is N q x H1 := by
  obtain a | o | t := x
  · exact va_at.kept (q := (q, .inl (N.2.1 a.1, a.2))) (show va_at N.1 gx_cl _ H from h) h1
  · exact va_at.kept (q := (q, .inr o)) (show va_at N.1 gx_cl _ H from h) h1
  · obtain ⟨f, hf, hl, ho, ha⟩ := h
    exact ⟨f, hf, hl, va_at.kept ho h1, va_at.kept ha (h2 rfl)⟩
theorem gx_is.lt {N : gx_N} {q : Nat} {x : gx_E} {H : Heap} (h : gx_is N q x H) : q < H.size := by
  obtain a | o | t := x
  · exact va_at.lt (q := (q, .inl (N.2.1 a.1, a.2))) (show va_at N.1 gx_cl _ H from h)
  · exact va_at.lt (q := (q, .inr o)) (show va_at N.1 gx_cl _ H from h)
  · obtain ⟨f, hf, hl, ho, ha⟩ := h
    exact va_at.lt ho
theorem gx_is.lt1 {N : gx_N} {q : Nat} {x : gx_E} {H : Heap} (h : gx_is N q x H) (hw : gx_wide x = true) : q + 1 < H.size := by
  obtain a | o | t := x
  · cases hw
  · cases hw
  · obtain ⟨f, hf, hl, ho, ha⟩ := h
    exact va_at.lt ha
theorem gx_Wd.lt {N : gx_N} {w : gx_W} {H : Heap} (h : gx_Wd N w H) {q : Nat} {x : gx_E} (hq : w.1 q = some x) : q < w.2 := by
  rw [← h.1]; exact (h.2.2.2.1 q x hq).2.lt
theorem gx_Wd.put {N : gx_N} {w : gx_W} {H H1 : Heap} {a : Nat} {x0 x : gx_E} (h : gx_Wd N w H) (ha : w.1 a = some x0) (hx0 : gx_wide x0 = false) (hx : gx_wide x = false) (hi : gx_is N a x H1) (hz : H1.size = H.size) (ho : ∀ q : Nat, q ≠ a → H1[q]? = H[q]?) : gx_Wd N (gx_st w a x) H1 := by
  obtain ⟨h1, h2, h3, h4, h5⟩ := h
  have hba := (h4 a x0 ha).1
  refine ⟨hz.trans h1, h2, fun q hq => by rw [ho q (by omega)]; exact h3 q hq, fun q y hq => ?_, fun q y hq hy => ?_⟩
  · by_cases hqa : q = a
    · subst hqa
      rw [gx_st_eq] at hq
      cases hq
      exact ⟨hba, hi⟩
    · rw [gx_st_ne hqa] at hq
      refine ⟨(h4 q y hq).1, (h4 q y hq).2.kept (ho q hqa) (fun hy => ho (q + 1) fun e => ?_)⟩
      have := h5 q y hq hy
      rw [e, ha] at this
      cases this
  · by_cases hqa : q = a
    · subst hqa
      rw [gx_st_eq] at hq
      cases hq
      rw [hx] at hy; cases hy
    · rw [gx_st_ne hqa] at hq
      have h6 := h5 q y hq hy
      by_cases hq1 : q + 1 = a
      · rw [hq1, ha] at h6; cases h6
      · rw [gx_st_ne hq1]; exact h6
theorem gx_Wd.al {N : gx_N} {w : gx_W} {H H1 : Heap} {x : gx_E} (h : gx_Wd N w H) (hx : gx_wide x = false) (hi : gx_is N w.2 x H1) (hz : H1.size = H.size + 1) (ho : ∀ q : Nat, q < H.size → H1[q]? = H[q]?) : gx_Wd N (gx_al w x) H1 := by
  have hlt := fun {q : Nat} {y : gx_E} (e : w.1 q = some y) => h.lt e
  obtain ⟨h1, h2, h3, h4, h5⟩ := h
  refine ⟨by rw [hz, h1]; rfl, Nat.le_succ_of_le h2, fun q hq => by rw [ho q (by omega)]; exact h3 q hq, fun q y hq => ?_, fun q y hq hy => ?_⟩
  · by_cases hqa : q = w.2
    · subst hqa
      simp [gx_al] at hq
      subst hq
      exact ⟨h2, hi⟩
    · simp [gx_al, hqa] at hq
      have h7 := (h4 q y hq).2
      refine ⟨(h4 q y hq).1, h7.kept (ho q h7.lt) (fun hy => ho (q + 1) (h7.lt1 hy))⟩
  · by_cases hqa : q = w.2
    · subst hqa
      simp [gx_al] at hq
      subst hq
      rw [hx] at hy; cases hy
    · simp [gx_al, hqa] at hq
      have h7 := (h4 q y hq).2.lt1 hy
      have h8 : q + 1 ≠ w.2 := by omega
      simp [gx_al, h8]
      exact h5 q y hq hy
theorem gx_Wd.unbox {N : gx_N} {w : gx_W} {H : Heap} {h ci cap : Nat} {l : List Nat} (hW : gx_Wd N w H) (hb : w.1 h = some (gx_bx ci cap l)) : w.1 (h + 1) = none ∧ (l.length ≤ cap ∧ cap < 65536 ∧ gx_sm l) ∧ ∃ f, gx_fn l f ∧ gx_Wd N (gx_raw w h ci cap l.length f) H := by
  obtain ⟨h1, h2, h3, h4, h5⟩ := hW
  obtain ⟨hb0, f, hf, hl, ho, ha⟩ := h4 h _ hb
  have h6 := h5 h _ hb rfl
  refine ⟨h6, hl, f, hf, h1, h2, h3, fun q y hq => ?_, fun q y hq hy => ?_⟩
  · by_cases e0 : q = h
    · subst e0
      rw [gx_raw_h] at hq; cases hq
      exact ⟨hb0, ho⟩
    · by_cases e1 : q = h + 1
      · subst e1
        rw [gx_raw_h1] at hq; cases hq
        exact ⟨by omega, ha⟩
      · rw [gx_raw_ne e0 e1] at hq
        exact h4 q y hq
  · by_cases e0 : q = h
    · subst e0
      rw [gx_raw_h] at hq; cases hq; cases hy
    · by_cases e1 : q = h + 1
      · subst e1
        rw [gx_raw_h1] at hq; cases hq; cases hy
      · rw [gx_raw_ne e0 e1] at hq
        have h7 := h5 q y hq hy
        have e2 : q + 1 ≠ h := fun e => by rw [e, hb] at h7; cases h7
        rw [gx_raw_ne e2 (by omega)]
        exact h7
theorem gx_Wd.box {N : gx_N} {w : gx_W} {H : Heap} {h ci cap n : Nat} {l : List Nat} {f : Nat → Int32} (hW : gx_Wd N (gx_raw w h ci cap n f) H) (h0 : w.1 (h + 1) = none) (hn : n = l.length) (hl : l.length ≤ cap ∧ cap < 65536 ∧ gx_sm l) (hf : gx_fn l f) : gx_Wd N (gx_st w h (gx_bx ci cap l)) H := by
  subst hn
  obtain ⟨h1, h2, h3, h4, h5⟩ := hW
  have a0 := h4 h _ gx_raw_h
  have a1 := h4 (h + 1) _ gx_raw_h1
  refine ⟨h1, h2, h3, fun q y hq => ?_, fun q y hq hy => ?_⟩
  · by_cases e0 : q = h
    · subst e0
      rw [gx_st_eq] at hq; cases hq
      exact ⟨a0.1, f, hf, hl, a0.2, a1.2⟩
    · rw [gx_st_ne e0] at hq
      have e1 : q ≠ h + 1 := fun e => by rw [e, h0] at hq; cases hq
      exact h4 q y (by rw [gx_raw_ne e0 e1]; exact hq)
  · by_cases e0 : q = h
    · subst e0
      rw [gx_st_ne (by omega)]; exact h0
    · rw [gx_st_ne e0] at hq
      have e1 : q ≠ h + 1 := fun e => by rw [e, h0] at hq; cases hq
      have h6 := h5 q y (by rw [gx_raw_ne e0 e1]; exact hq) hy
      have e2 : q + 1 ≠ h := fun e => by rw [e, gx_raw_h] at h6; cases h6
      rw [gx_st_ne e2]
      rw [gx_raw_ne e2 (by omega)] at h6
      exact h6
theorem gx_cv.st {w : gx_W} {a q : Nat} {x0 x : gx_E} (ha : w.1 a = some x0) (hx : gx_wide x = true → gx_wide x0 = true) (h : gx_cv (gx_st w a x) q) : gx_cv w q := by
  rcases h with ⟨y, hy⟩ | ⟨q', y, e, hy, hw⟩
  · by_cases hq : q = a
    · exact Or.inl ⟨x0, by rw [hq]; exact ha⟩
    · rw [gx_st_ne hq] at hy; exact Or.inl ⟨y, hy⟩
  · by_cases hq : q' = a
    · subst hq
      rw [gx_st_eq] at hy; cases hy
      exact Or.inr ⟨q', x0, e, ha, hx hw⟩
    · rw [gx_st_ne hq] at hy; exact Or.inr ⟨q', y, e, hy, hw⟩
theorem gx_cv.al {w : gx_W} {q : Nat} {x : gx_E} (hx : gx_wide x = false) (h : gx_cv (gx_al w x) q) : gx_cv w q ∨ w.2 ≤ q := by
  rcases h with ⟨y, hy⟩ | ⟨q', y, e, hy, hw⟩
  · by_cases hq : q = w.2
    · exact Or.inr (by omega)
    · simp [gx_al, hq] at hy; exact Or.inl (Or.inl ⟨y, hy⟩)
  · by_cases hq : q' = w.2
    · subst hq
      simp [gx_al] at hy
      subst hy
      rw [hx] at hw; cases hw
    · simp [gx_al, hq] at hy; exact Or.inl (Or.inr ⟨q', y, e, hy, hw⟩)
theorem gx_cv.raw {w : gx_W} {h ci cap cap' n q : Nat} {l : List Nat} {f : Nat → Int32} (hb : w.1 h = some (gx_bx ci cap' l)) (hc : gx_cv (gx_raw w h ci cap n f) q) : gx_cv w q := by
  rcases hc with ⟨y, hy⟩ | ⟨q', y, e, hy, hw⟩
  · by_cases e0 : q = h
    · exact Or.inl ⟨_, by rw [e0]; exact hb⟩
    · by_cases e1 : q = h + 1
      · exact Or.inr ⟨h, _, e1, hb, rfl⟩
      · rw [gx_raw_ne e0 e1] at hy; exact Or.inl ⟨y, hy⟩
  · by_cases e0 : q' = h
    · subst e0
      rw [gx_raw_h] at hy; cases hy; cases hw
    · by_cases e1 : q' = h + 1
      · subst e1
        rw [gx_raw_h1] at hy; cases hy; cases hw
      · rw [gx_raw_ne e0 e1] at hy; exact Or.inr ⟨q', y, e, hy, hw⟩
/-! locals by their places -/
def gx_en : Nat → List (Option Value) → List (Nat × Value)
  | _, [] => []
  | k, none :: t => gx_en (k + 1) t
  | k, some v :: t => (k, v) :: gx_en (k + 1) t
theorem gx_en_of : ∀ (L : List (Option Value)) (k i : Nat) (v : Value), L[i]? = some (some v) → (k + i, v) ∈ gx_en k L
  | [], k, i, v, h => by simp at h
  | none :: t, k, 0, v, h => by simp at h
  | none :: t, k, i + 1, v, h => by
    have := gx_en_of t (k + 1) i v (by simpa using h)
    rw [show k + (i + 1) = k + 1 + i by omega]
    exact this
  | some u :: t, k, 0, v, h => by
    simp at h
    subst h
    exact List.mem_cons_self
  | some u :: t, k, i + 1, v, h => by
    have := gx_en_of t (k + 1) i v (by simpa using h)
    rw [show k + (i + 1) = k + 1 + i by omega]
    exact List.mem_cons_of_mem _ this
theorem gx_en_to : ∀ (L : List (Option Value)) (k : Nat) (q : Nat × Value), q ∈ gx_en k L → ∃ i, q.1 = k + i ∧ L[i]? = some (some q.2)
  | [], k, q, h => by cases h
  | none :: t, k, q, h => by
    obtain ⟨i, h1, h2⟩ := gx_en_to t (k + 1) q h
    exact ⟨i + 1, by omega, by simpa using h2⟩
  | some u :: t, k, q, h => by
    rcases List.mem_cons.mp h with h | h
    · subst h; exact ⟨0, rfl, rfl⟩
    · obtain ⟨i, h1, h2⟩ := gx_en_to t (k + 1) q h
      exact ⟨i + 1, by omega, by simpa using h2⟩
def gx_Lv (ls : Array Slot) (nL : Nat) (L : List (Option Value)) : Prop := ls.size = nL ∧ lv_wf ls ∧ ∀ (i : Nat) (v : Value), L[i]? = some (some v) → ls[i]? = some (.val v)
theorem gx_Lv.has {ls : Array Slot} {nL : Nat} {L : List (Option Value)} (h : gx_Lv ls nL L) : lv_has ls nL (gx_en 0 L) := ⟨h.1, h.2.1, fun q hq => by
  obtain ⟨i, h1, h2⟩ := gx_en_to L 0 q hq
  rw [h1, Nat.zero_add]
  exact h.2.2 i q.2 h2⟩
/-- the slot before isn't a long one -/
def gx_c1 (L : List (Option Value)) (i : Nat) : Bool := match i with
  | 0 => true
  | j + 1 => match L[j]? with
    | some (some v) => v.category == 1
    | _ => true
theorem gx_Lv.set {ls' : Array Slot} {nL i : Nat} {L : List (Option Value)} {v : Value} (hc : gx_c1 L i = true) (h : lv_has ls' nL ((i, v) :: (gx_en 0 L).filter (fun q => !(q.1 == i) && !(q.1 + 1 == i && q.2.category == 2)))) : gx_Lv ls' nL (L.set i (some v)) := by
  obtain ⟨h1, h2, h3⟩ := h
  refine ⟨h1, h2, fun j u hj => ?_⟩
  by_cases e : j = i
  · subst e
    have hu : u = v := by
      rw [List.getElem?_set] at hj
      by_cases hl : j < L.length
      · simp [hl] at hj; exact hj.symm
      · simp [hl] at hj
    subst hu
    exact h3 (j, u) List.mem_cons_self
  · rw [List.getElem?_set_ne (Ne.symm e)] at hj
    refine h3 (j, u) (List.mem_cons_of_mem _ (List.mem_filter.mpr ⟨by have := gx_en_of L 0 j u hj; rwa [Nat.zero_add] at this, ?_⟩))
    have h5 : ¬ (j + 1 = i ∧ u.category = 2) := by
      rintro ⟨rfl, h6⟩
      simp only [gx_c1, hj] at hc
      rw [h6] at hc
      exact absurd hc (by decide)
    by_cases h7 : j + 1 = i
    · have h8 : ¬ u.category = 2 := fun h => h5 ⟨h7, h⟩
      simp [e, h8]
    · simp [e, h7]
def gx_sl : List Value → List (Option Value)
  | [] => []
  | v :: t => if v.category = 2 then some v :: none :: gx_sl t else some v :: gx_sl t
theorem gx_sl_of : ∀ (vs : List Value) (k i : Nat) (v : Value), (gx_sl vs)[i]? = some (some v) → (k + i, v) ∈ lv_args k vs
  | [], k, i, v, h => by simp [gx_sl] at h
  | u :: t, k, i, v, h => by
    unfold gx_sl at h
    unfold lv_args
    by_cases hc : u.category = 2
    · rw [if_pos hc] at h
      rw [if_pos hc]
      match i, h with
      | 0, h => simp at h; subst h; exact List.mem_cons_self
      | 1, h => simp at h
      | i + 2, h =>
        have := gx_sl_of t (k + 2) i v (by simpa using h)
        rw [show k + (i + 2) = k + 2 + i by omega]
        exact List.mem_cons_of_mem _ this
    · rw [if_neg hc] at h
      rw [if_neg hc]
      match i, h with
      | 0, h => simp at h; subst h; exact List.mem_cons_self
      | i + 1, h =>
        have := gx_sl_of t (k + 1) i v (by simpa using h)
        rw [show k + (i + 1) = k + 1 + i by omega]
        exact List.mem_cons_of_mem _ this
def gx_in (nL : Nat) (vs : List Value) : List (Option Value) := gx_sl vs ++ List.replicate (nL - (gx_sl vs).length) none
theorem gx_Lv.entry {ls : Array Slot} {nL : Nat} {vs : List Value} (h : lv_has ls nL (lv_args 0 vs)) : gx_Lv ls nL (gx_in nL vs) := by
  refine ⟨h.1, h.2.1, fun i v hi => ?_⟩
  unfold gx_in at hi
  by_cases hl : i < (gx_sl vs).length
  · rw [List.getElem?_append_left hl] at hi
    have := gx_sl_of vs 0 i v hi
    rw [Nat.zero_add] at this
    exact h.2.2 (i, v) this
  · rw [List.getElem?_append_right (by omega), List.getElem?_replicate] at hi
    split at hi <;> simp at hi
end
section
/-! My calculus, second part: the judgement of a walk, and of a call -/
def gx_ws (M : gx_M) : List Cond := Cond.code M.1 M.2.1 M.2.2.1 M.2.2.2 :: gx_T
/-- classes of exceptions: what the tables say of them that words of gx_T don't -/
def gx_xf : List Cond := [.declares (Bundle.initS "java/lang/RuntimeException"), .declares (Bundle.initS "java/lang/Exception"), .declares (Bundle.initS "java/lang/Throwable"), .castable "java/lang/IllegalArgumentException" "java/lang/IllegalArgumentException", .castable "java/lang/IllegalStateException" "java/lang/IllegalStateException"]
theorem gx_xf_face {c : Cond} (hc : c ∈ gx_xf) : c.faceAtom = true := by
  simp only [gx_xf, List.mem_cons, List.not_mem_nil, or_false] at hc
  rcases hc with rfl | rfl | rfl | rfl | rfl <;> rfl
theorem gx_face {c : Cond} (hc : c ∈ gx_xf) {u U : State} {a : Array Value} (hW : u.vm.Alike U.vm) (h : c.before a u = true) : ∀ a', c.before a' U = true := by
  intro a'
  have h1 : c.before a (u.setVm U.vm) = true := Cond.faceAtom_setVm hW _ (gx_xf_face hc) h
  simp only [gx_xf, List.mem_cons, List.not_mem_nil, or_false] at hc
  rcases hc with rfl | rfl | rfl | rfl | rfl <;> exact h1
/-- the old heap's end -/
def gx_oA (N : gx_N) : Nat → Prop := fun q => N.2.2.size ≤ q
/-- the texts of the exceptions -/
def gx_xs : List (Nat × String) := [(78, "no such state or symbol"), (83, "no such next state"), (96, "no such input"), (138, "the run does not halt")]
def gx_ab : List Int32 := [35, 48, 49, 50, 97, 98, 99, 100, 104]
/-- a static field has its place -/
def gx_Ls (C n dd : String) (N : gx_N) (U : State) : Prop := ∃ (cf : ClassId) (k : Class) (i : Nat) (f : Field) (a : Nat) (cell : Cell), U.vm.findClass C = some cf ∧ U.fieldFound? C n dd = some (cf, k, i, f) ∧ f.isStatic = true ∧ k.statics = some a ∧ N.2.2[a]? = some cell ∧ cell.vm.isStatics = true ∧ cell.cls = cf ∧ f.slot < cell.slots.size ∧ k.staticTypes[f.slot]? = some f.type
theorem gx_Ls.moved {C n dd : String} {N : gx_N} {u U : State} (hvm : u.vm.Alike U.vm) (h : gx_Ls C n dd N u) : gx_Ls C n dd N U := by
  obtain ⟨cf, k, i, f, a, cell, h0, h1, h2, h3, h4, h5, h6, h7, h8⟩ := h
  obtain ⟨k', hi', he⟩ := State.fieldFound?_setVm hvm h1
  exact ⟨cf, k', i, f, a, cell, by rw [hvm.findClass]; exact h0, hi', h2, by rw [he]; exact h3, h4, h5, h6, h7, by rw [he]; exact h8⟩
theorem gx_Ls.word {C n dd : String} {N : gx_N} {U : State} (h : gx_Ls C n dd N U) (ho : ∀ q : Nat, q < N.2.2.size → U.heap[q]? = N.2.2[q]?) (a : Array Value) : (Cond.laysStatic C n dd).before a U = true := by
  obtain ⟨cf, k, i, f, ad, cell, h0, h1, h2, h3, h4, h5, h6, h7, h8⟩ := h
  have h9 : U.heap[ad]? = some cell := by rw [ho ad (Array.getElem?_eq_some_iff.mp h4).1]; exact h4
  simp [Cond.before, Cond.holds, Cond.value, h0, h1, h2, h3, h9, h5, h6, h7, h8]
/-- what is known of the objects that the law's start gives, for the sake of exceptions and texts -/
def gx_Ex (N : gx_N) (U : State) : Prop := (∀ c ∈ gx_xf, ∀ a, c.before a U = true) ∧ (∃ v : RefV, va_Z Bundle.tN "UNASSIGNED_STACK" Bundle.steD v.v (gx_oA N) U N.2.2) ∧ (∃ v : RefV, va_Z Bundle.tN "SUPPRESSED_SENTINEL" Bundle.listD v.v (gx_oA N) U N.2.2) ∧ (∀ q ∈ gx_xs, ∃ a, vk_R "PostChain" q.1 q.2 a U) ∧ (∃ adK adV : Nat → Nat, vk_R "PostChain" 179 "#012abcdh" (adK 0) U ∧ vk_S 1 [9] [gx_ab] adK adV (gx_oA N) U N.2.2) ∧ va_Z "java/lang/String" "COMPACT_STRINGS" "Z" (.int 1) (gx_oA N) U N.2.2 ∧ gx_Ls Bundle.tN "UNASSIGNED_STACK" Bundle.steD N U ∧ gx_Ls Bundle.tN "SUPPRESSED_SENTINEL" Bundle.listD N U
theorem gx_Ex.moved {N : gx_N} {u U : State} (hW : u.WarmedH U.vm) (h : gx_Ex N u) : gx_Ex N U := by
  obtain ⟨h1, ⟨v2, h2⟩, ⟨v3, h3⟩, h4, ⟨aK, aV, h5, h6⟩, h7, h8, h9⟩ := h
  exact ⟨fun c hc => gx_face hc hW.alike (h1 c hc #[]), ⟨v2, h2.moved hW.alike⟩, ⟨v3, h3.moved hW.alike⟩, fun q hq => (h4 q hq).imp fun a ha => ha.warm hW, ⟨aK, aV, h5.warm hW, h6.moved hW.alike⟩, h7.moved hW.alike, h8.moved hW.alike, h9.moved hW.alike⟩
theorem gx_Ex.same {N : gx_N} {u U : State} (e : u.vm = U.vm) (h : gx_Ex N u) : gx_Ex N U := by
  obtain ⟨h1, ⟨v2, h2⟩, ⟨v3, h3⟩, h4, ⟨aK, aV, h5, h6⟩, h7, h8, h9⟩ := h
  have hA : u.vm.Alike U.vm := by rw [e]; exact Vm.Alike.refl _
  exact ⟨fun c hc => gx_face hc hA (h1 c hc #[]), ⟨v2, h2.moved hA⟩, ⟨v3, h3.moved hA⟩, fun q hq => (h4 q hq).imp fun a ha => ha.same e.symm, ⟨aK, aV, h5.same e.symm, h6.moved hA⟩, h7.moved hA, h8.moved hA, h9.moved hA⟩
def gx_Kn (N : gx_N) (U : State) : Prop := va_K N.1 gx_cl (gx_ta N) U ∧ (∀ q ∈ gx_nf, va_Nw (.fieldLinkNest q.1 q.2.1 q.2.2.1 q.2.2.2.1 q.2.2.2.2.1 q.2.2.2.2.2) U) ∧ (∀ q ∈ gx_nm, va_Nw (.methodLinkNest q.1 q.2.1 q.2.2.1 q.2.2.2) U) ∧ va_AO "PostChain$Word" U ∧ va_AO "PostChain$Domino" U ∧ gx_Ex N U
theorem gx_Kn.moved {N : gx_N} {u U : State} (hW : u.WarmedH U.vm) (h : gx_Kn N u) : gx_Kn N U :=
  ⟨va_K.moved hW.alike h.1, fun q hq => va_Nw.warmF hW (h.2.1 q hq), fun q hq => va_Nw.warmM hW (h.2.2.1 q hq), va_AO.moved hW.alike h.2.2.2.1, va_AO.moved hW.alike h.2.2.2.2.1, gx_Ex.moved hW h.2.2.2.2.2⟩
theorem gx_Kn.same {N : gx_N} {u U : State} (e : u.vm = U.vm) (h : gx_Kn N u) : gx_Kn N U :=
  ⟨va_K.moved (by rw [e]; exact Vm.Alike.refl _) h.1, fun q hq => va_Nw.same rfl e (h.2.1 q hq), fun q hq => va_Nw.same rfl e (h.2.2.1 q hq), va_AO.moved (by rw [e]; exact Vm.Alike.refl _) h.2.2.2.1, va_AO.moved (by rw [e]; exact Vm.Alike.refl _) h.2.2.2.2.1, gx_Ex.same e h.2.2.2.2.2⟩
def gx_rm (d mc ms : Nat) : Room := { frames := d, cells := mc, slots := ms, locals := 32 * d }
/-- what holds when a method has returned; what holds when it has thrown an object of a class -/
abbrev gx_P : Type := (Option Value → gx_W → Prop) × (String → gx_W → Prop)
def gx_thr (a : Nat) (C : String) (t : State) : Prop := ∃ cell : Cell, t.heap[a]? = some cell ∧ (∀ k, cell.vm ≠ .statics k) ∧ t.vm.findClass C = some cell.cls
def gx_Qc (N : gx_N) (A : Nat → Prop) (Q : gx_P) : Array Value → State → Outcome → State → Prop := fun _ st oc t =>
  ((∃ (r : Option Value) (w : gx_W), oc = .returned r ∧ Q.1 r w ∧ gx_Wd N w t.heap ∧ ∀ q, gx_cv w q → A q) ∨ ∃ (a : Nat) (C : String) (w : gx_W), oc = .threw a ∧ Q.2 C w ∧ gx_thr a C t ∧ gx_Wd N w t.heap ∧ ∀ q, gx_cv w q → A q) ∧ va_F A st t
abbrev gx_nt (Q : Option Value → gx_W → Prop) : gx_P := (Q, fun _ _ => False)
abbrev gx_eq (r : Option Value) (w : gx_W) : Option Value → gx_W → Prop := fun r' w' => r' = r ∧ w' = w
/-- no stack traces are made -/
def gx_lt (l : Launch) : Prop := ∀ e : Env, l.admits e → e.platform.stackTraces = false
/-- who catches what -/
def gx_tab (y : MethodName) : List (Nat × Nat × Nat × Nat) := if y = ⟨"PostChainLaw", "rule", "(LPostChain;IIIZI[J)I"⟩ then [(0, 23, 26, 13)] else if y = ⟨"PostChainLaw", "drop", "(LPostChain;II[J)I"⟩ then [(0, 17, 20, 13)] else if y = ⟨"PostChainLaw", "input", "(LPostChain;II[J)I"⟩ then [(0, 17, 20, 13)] else if y = ⟨"PostChainLaw", "way", "(LPostChain;I[J)I"⟩ then [(0, 9, 12, 26)] else if y = ⟨"PostChainLaw", "layWay", "(LPostChain;[J)I"⟩ then [(0, 8, 11, 26)] else []
def gx_xt (M : gx_M) (c : Code) : Prop := c.exceptionTable.toList.map (fun h => (h.startPc, h.endPc, h.handlerPc, h.catchType)) = gx_tab M.1
/-- a call of M with these arguments in this world comes back with Q; d frames deep at most, mc cells of ms slots are new at most -/
def gx_Ct (M : gx_M) (d mc ms : Nat) (as : List Value) (w : gx_W) (Q : Option Value → gx_W → Prop) : Prop :=
  ∀ (l : Launch) (N : gx_N), gx_lt l → Met l M.1 (gx_ws M) (gx_rm d mc ms) (va_Pc as (fun U => gx_Wd N w U.heap ∧ gx_Kn N U)) (gx_Qc N (gx_A w) (gx_nt Q)) mc ms (gx_A w)
/-- a walk's end: returned or thrown -/
def gx_Z (N : gx_N) (A : Nat → Prop) (Q : gx_P) (below : List Frame) (args : Array Value) (s : State) (R : Room) : State → Prop := fun t =>
  ∃ o, t.status = .running ∧ Ended t below o ∧ gx_Qc N A Q args s o t ∧ ∃ L, s.WarmedH t.vm ∧ s.sameButNew ({ t with vm := s.vm } : State) L R.cells R.slots ∧ ∀ q ∈ L, A q.base
/-- F: what a method knows beside (the law: its script) -/
def gx_V (F : gx_N → State → Prop) (M : gx_M) (d : Nat) (R : Room) (p : Program) (l : Launch) (s : State) (m : MethodId) (args : Array Value) (meth : Method) (c : Code) (N : gx_N) (A : Nat → Prop) : Prop :=
  p.tables.exec = Jvm.exec ∧ c.code = M.2.1 ∧ c.maxLocals = M.2.2.1 ∧ meth.sig.returnType = M.2.2.2 ∧ meth.locks = false ∧ s.vm.findClass M.1.cls = some m.cls ∧ meth.name = M.1.name ∧ (∀ w ∈ gx_T, w.before args s = true) ∧ gx_Kn N s ∧ d ≤ R.frames ∧ 32 * d ≤ R.locals ∧ (∀ q, s.heap.size ≤ q → A q) ∧ F N s ∧ gx_lt l ∧ gx_xt M c ∧ (∀ q, A q → N.2.2.size ≤ q) ∧ ∀ q : Nat, q < N.2.2.size → s.heap[q]? = N.2.2[q]?
def gx_X (F : gx_N → State → Prop) (M : gx_M) (d : Nat) (Q : gx_P) (pc : Nat) (L : List (Option Value)) (st : List Value) (w : gx_W) (b : Nat × Nat) : Prop :=
  ∀ (p : Program) (l : Launch) (e : Env) (R : Room) (s : State) (m : MethodId) (args : Array Value) (below : List Frame) (meth : Method) (c : Code) (H : Heap) (locs : List Loc) (cells slots : Nat) (ls : Array Slot) (N : gx_N) (A : Nat → Prop),
    gx_V F M d R p l s m args meth c N A → gx_Lv ls M.2.2.1 L → gx_Wd N w H → va_S A s.heap H locs → (∀ q, gx_cv w q → A q) → cells + b.1 ≤ R.cells → slots + b.2 ≤ R.slots →
    W p l e R s m args below meth c H locs cells slots (gx_Z N A Q below args s R) (F0 m pc ls st)
section GXA
variable {F : gx_N → State → Prop} {M : gx_M} {d : Nat} {Q : gx_P} {pc : Nat} {L : List (Option Value)} {st rest : List Value} {w : gx_W} {b : Nat × Nat}
theorem gx_mono {p : Program} {l : Launch} {e : Env} {R : Room} {s : State} {m : MethodId} {args : Array Value} {below : List Frame} {meth : Method} {c : Code} {H : Heap} {locs : List Loc} {cells slots : Nat} {Q1 Q2 : State → Prop} {g : JFrame} (h : ∀ t, Q1 t → Q2 t) (k : W p l e R s m args below meth c H locs cells slots Q1 g) : W p l e R s m args below meth c H locs cells slots Q2 g := fun T hT X => by
  obtain ⟨t, a, q⟩ := k T hT X
  exact ⟨t, a, h t q⟩
theorem gx_Z.of {N : gx_N} {A : Nat → Prop} {below : List Frame} {args : Array Value} {s : State} {R : Room} (t : State) (h : MQ below (gx_Qc N A Q) args s R.cells R.slots A t) : gx_Z N A Q below args s R t := by
  obtain ⟨o, h1, h2, h3, L', h4, h5⟩ := h
  exact ⟨o, h1, h2, h3, L', h4.2.1, h4.2.2, h5⟩
set_option maxHeartbeats 1000000 in
/-- a call's contract out of the walk of its body -/
theorem gx_ct {mc ms : Nat} {as : List Value} {Q0 : Option Value → gx_W → Prop} (hy : plainName M.1.cls = true) (hn : (lg_sl as).length ≤ M.2.2.1) (hL : gx_in M.2.2.1 as = L) (k : gx_X (fun _ _ => True) M d (gx_nt Q0) 0 L [] w (mc, ms)) (ht0 : gx_tab M.1 = [] := by decide +kernel) : gx_Ct M d mc ms as w Q0 := by
  intro l N hlt
  refine Met.ofW (cc := M.2.1) (maxL := M.2.2.1) (ret := M.2.2.2) hy rfl ?_
  intro p e s m args below meth c s₁ B hml hv
  obtain ⟨rfl, hw, hK⟩ := hv
  have hts := atoms_spec (ws := gx_ws M) B.pre
  have hl := lv_entry as hn
  rw [lg_entry_eq]
  generalize (lg_sl as ++ List.replicate (M.2.2.1 - (lg_sl as).length) Slot.unset).toArray = ls at hl ⊢
  subst hL
  have hsz : s.heap.size = w.2 := hw.1
  have hxt : gx_xt M c := by
    have h1 := B.noHandlers (hts _ List.mem_cons_self)
    have h2 : c.exceptionTable.toList = [] := by
      have h3 : c.exceptionTable.size = 0 := by simpa [Array.isEmpty] using h1
      exact List.eq_nil_of_length_eq_zero (by simpa using h3)
    show c.exceptionTable.toList.map _ = _
    rw [h2, ht0]; rfl
  have hAo : ∀ q, gx_A w q → N.2.2.size ≤ q := fun q hq => by
    rcases hq with (⟨x, hx⟩ | ⟨q', x, e, hx, -⟩) | hq
    · exact (hw.2.2.2.1 q x hx).1
    · have := (hw.2.2.2.1 q' x hx).1; omega
    · exact Nat.le_trans hw.2.1 hq
  refine gx_mono (fun t ht => ?_) (k p l e _ s m _ below meth c s.heap [] 0 0 ls N (gx_A w)
    ⟨B.exec, B.bytes, hml, B.returns, B.notSynchronized, findClass_of_methodNamed B.named, (name_of_methodNamed B.named B.method).1, fun x hx => hts x (List.mem_cons_of_mem _ hx), hK, Nat.le_refl _, Nat.le_refl _, fun q hq => Or.inr (by omega), trivial, hlt, hxt, hAo, hw.2.2.1⟩
    (gx_Lv.entry hl) hw va_S.rf (fun q h => Or.inl h) (by show 0 + mc ≤ mc; omega) (by show 0 + ms ≤ ms; omega))
  obtain ⟨o, h1, h2, h3, L', h4, h5, h6⟩ := ht
  rcases h3.1 with ⟨r, w', rfl, -⟩ | ⟨_, _, _, _, hF, _⟩
  · exact ⟨_, h1, h2, h3, L', ⟨⟨_, rfl⟩, h4, h5⟩, h6⟩
  · exact hF.elim
/-- an instruction that touches no cell and no local -/
theorem gx_go {pc' : Nat} {st' : List Value}
    (h : ∀ {p : Program} {l : Launch} {e : Env} {R : Room} {s : State} {m : MethodId} {args : Array Value} {below : List Frame} {meth : Method} {c : Code} {H : Heap} {locs : List Loc} {cells slots : Nat} {Q0 : State → Prop} {ls : Array Slot} {N : gx_N} {A : Nat → Prop},
      gx_V F M d R p l s m args meth c N A → gx_Lv ls M.2.2.1 L → gx_Wd N w H → W p l e R s m args below meth c H locs cells slots Q0 (F0 m pc' ls st') → W p l e R s m args below meth c H locs cells slots Q0 (F0 m pc ls st))
    (k : gx_X F M d Q pc' L st' w b) : gx_X F M d Q pc L st w b :=
  fun p l e R s m args below meth c H locs cells slots ls N A V hl hw hS hd hc hs => h V hl hw (k p l e R s m args below meth c H locs cells slots ls N A V hl hw hS hd hc hs)
theorem gx_iconst {n : Int} (hdg : decode M.2.1 pc = .ok (.iconst n, 1)) (v : Int32) (hv : Int32.ofInt n = v) (k : gx_X F M d Q (pc + 1) L (.int v :: st) w b) : gx_X F M d Q pc L st w b := gx_go (fun V _ _ k => lv_iconst V.1 V.2.1 hdg hv k) k
theorem gx_bipush {n : Int} (hdg : decode M.2.1 pc = .ok (.bipush n, 2)) (v : Int32) (hv : (Int8.ofInt n).toInt32 = v) (k : gx_X F M d Q (pc + 2) L (.int v :: st) w b) : gx_X F M d Q pc L st w b := gx_go (fun V _ _ k => lv_bipush V.1 V.2.1 hdg hv k) k
theorem gx_sipush {n : Int} (hdg : decode M.2.1 pc = .ok (.sipush n, 3)) (v : Int32) (hv : (Int16.ofInt n).toInt32 = v) (k : gx_X F M d Q (pc + 3) L (.int v :: st) w b) : gx_X F M d Q pc L st w b := gx_go (fun V _ _ k => lv_sipush V.1 V.2.1 hdg hv k) k
theorem gx_lconst {n : Fin 2} (hdg : decode M.2.1 pc = .ok (.lconst n, 1)) (v : Int64) (hv : Int64.ofNat (n : Nat) = v) (k : gx_X F M d Q (pc + 1) L (.long v :: st) w b) : gx_X F M d Q pc L st w b := gx_go (fun V _ _ k => lv_lconst V.1 V.2.1 hdg hv k) k
theorem gx_iload_n {j : Fin 4} {x : Int32} (hdg : decode M.2.1 pc = .ok (.iload_n j, 1)) (hl : L[(j : Nat)]? = some (some (.int x))) (k : gx_X F M d Q (pc + 1) L (.int x :: st) w b) : gx_X F M d Q pc L st w b := gx_go (fun V h _ k => lv_iload_n V.1 V.2.1 hdg rfl (h.2.2 _ _ hl) k) k
theorem gx_iload {j : Nat} {x : Int32} (hdg : decode M.2.1 pc = .ok (.iload j, 2)) (hl : L[j]? = some (some (.int x))) (k : gx_X F M d Q (pc + 2) L (.int x :: st) w b) : gx_X F M d Q pc L st w b := gx_go (fun V h _ k => lv_iload V.1 V.2.1 hdg (h.2.2 _ _ hl) k) k
theorem gx_lload_n {j : Fin 4} {x : Int64} (hdg : decode M.2.1 pc = .ok (.lload_n j, 1)) (hl : L[(j : Nat)]? = some (some (.long x))) (k : gx_X F M d Q (pc + 1) L (.long x :: st) w b) : gx_X F M d Q pc L st w b := gx_go (fun V h _ k => lv_lload_n V.1 V.2.1 hdg rfl (h.2.2 _ _ hl) k) k
theorem gx_aload_n {j : Fin 4} {x : Nat} (hdg : decode M.2.1 pc = .ok (.aload_n j, 1)) (hl : L[(j : Nat)]? = some (some (.ref x))) (k : gx_X F M d Q (pc + 1) L (.ref x :: st) w b) : gx_X F M d Q pc L st w b := gx_go (fun V h _ k => lv_aload_n V.1 V.2.1 hdg rfl (h.2.2 _ _ hl) k) k
theorem gx_aload {j : Nat} {x : Nat} (hdg : decode M.2.1 pc = .ok (.aload j, 2)) (hl : L[j]? = some (some (.ref x))) (k : gx_X F M d Q (pc + 2) L (.ref x :: st) w b) : gx_X F M d Q pc L st w b := gx_go (fun V h _ k => lv_aload V.1 V.2.1 hdg (h.2.2 _ _ hl) k) k
theorem gx_iadd {x y : Int32} (hdg : decode M.2.1 pc = .ok (.iadd, 1)) (k : gx_X F M d Q (pc + 1) L (.int (x + y) :: st) w b) : gx_X F M d Q pc L (.int y :: .int x :: st) w b := gx_go (fun V _ _ k => lv_iadd V.1 V.2.1 hdg k) k
theorem gx_isub {x y : Int32} (hdg : decode M.2.1 pc = .ok (.isub, 1)) (k : gx_X F M d Q (pc + 1) L (.int (x - y) :: st) w b) : gx_X F M d Q pc L (.int y :: .int x :: st) w b := gx_go (fun V _ _ k => lv_isub V.1 V.2.1 hdg k) k
theorem gx_imul {x y : Int32} (hdg : decode M.2.1 pc = .ok (.imul, 1)) (k : gx_X F M d Q (pc + 1) L (.int (x * y) :: st) w b) : gx_X F M d Q pc L (.int y :: .int x :: st) w b := gx_go (fun V _ _ k => lv_imul V.1 V.2.1 hdg k) k
theorem gx_iand {x y : Int32} (hdg : decode M.2.1 pc = .ok (.iand, 1)) (k : gx_X F M d Q (pc + 1) L (.int (x &&& y) :: st) w b) : gx_X F M d Q pc L (.int y :: .int x :: st) w b := gx_go (fun V _ _ k => lv_iand V.1 V.2.1 hdg k) k
theorem gx_idiv {x y : Int32} (hdg : decode M.2.1 pc = .ok (.idiv, 1)) (hne : ¬ y = 0) (k : gx_X F M d Q (pc + 1) L (.int (x / y) :: st) w b) : gx_X F M d Q pc L (.int y :: .int x :: st) w b := gx_go (fun V _ _ k => lv_idiv V.1 V.2.1 hdg hne k) k
theorem gx_irem {x y : Int32} (hdg : decode M.2.1 pc = .ok (.irem, 1)) (hne : ¬ y = 0) (k : gx_X F M d Q (pc + 1) L (.int (x - x / y * y) :: st) w b) : gx_X F M d Q pc L (.int y :: .int x :: st) w b := gx_go (fun V _ _ k => lv_irem V.1 V.2.1 hdg hne k) k
theorem gx_land {x y : Int64} (hdg : decode M.2.1 pc = .ok (.land, 1)) (k : gx_X F M d Q (pc + 1) L (.long (x &&& y) :: st) w b) : gx_X F M d Q pc L (.long y :: .long x :: st) w b := gx_go (fun V _ _ k => lv_land V.1 V.2.1 hdg k) k
theorem gx_lor {x y : Int64} (hdg : decode M.2.1 pc = .ok (.lor, 1)) (k : gx_X F M d Q (pc + 1) L (.long (x ||| y) :: st) w b) : gx_X F M d Q pc L (.long y :: .long x :: st) w b := gx_go (fun V _ _ k => lv_lor V.1 V.2.1 hdg k) k
theorem gx_i2l {x : Int32} (hdg : decode M.2.1 pc = .ok (.i2l, 1)) (k : gx_X F M d Q (pc + 1) L (.long x.toInt64 :: st) w b) : gx_X F M d Q pc L (.int x :: st) w b := gx_go (fun V _ _ k => lv_i2l V.1 V.2.1 hdg rfl k) k
theorem gx_l2i {x : Int64} (hdg : decode M.2.1 pc = .ok (.l2i, 1)) (k : gx_X F M d Q (pc + 1) L (.int x.toInt32 :: st) w b) : gx_X F M d Q pc L (.long x :: st) w b := gx_go (fun V _ _ k => lv_l2i V.1 V.2.1 hdg rfl k) k
theorem gx_i2c {x : Int32} (hdg : decode M.2.1 pc = .ok (.i2c, 1)) (k : gx_X F M d Q (pc + 1) L (.int (x.toUInt32 % 65536).toInt32 :: st) w b) : gx_X F M d Q pc L (.int x :: st) w b := gx_go (fun V _ _ k => lv_i2c V.1 V.2.1 hdg rfl k) k
theorem gx_lushr {x : Int64} {y : Int32} (hdg : decode M.2.1 pc = .ok (.lushr, 1)) (k : gx_X F M d Q (pc + 1) L (.long (x.toUInt64 >>> (y.toInt64.toUInt64 &&& Int64.toUInt64 63)).toInt64 :: st) w b) : gx_X F M d Q pc L (.int y :: .long x :: st) w b := gx_go (fun V _ _ k => lv_lushr V.1 V.2.1 hdg rfl k) k
theorem gx_lshr {x : Int64} {y : Int32} (hdg : decode M.2.1 pc = .ok (.lshr, 1)) (k : gx_X F M d Q (pc + 1) L (.long (x >>> (y.toInt64 &&& 63)) :: st) w b) : gx_X F M d Q pc L (.int y :: .long x :: st) w b := gx_go (fun V _ _ k => lv_lshr V.1 V.2.1 hdg rfl k) k
theorem gx_lshl {x : Int64} {y : Int32} (hdg : decode M.2.1 pc = .ok (.lshl, 1)) (k : gx_X F M d Q (pc + 1) L (.long (x <<< (y.toInt64 &&& 63)) :: st) w b) : gx_X F M d Q pc L (.int y :: .long x :: st) w b := gx_go (fun V _ _ k => lv_lshl V.1 V.2.1 hdg rfl k) k
theorem gx_dup {v : Value} (hdg : decode M.2.1 pc = .ok (.dup, 1)) (hv : v.category = 1) (k : gx_X F M d Q (pc + 1) L (v :: v :: st) w b) : gx_X F M d Q pc L (v :: st) w b := gx_go (fun V _ _ k => lv_dup V.1 V.2.1 hdg hv k) k
theorem gx_pop {v : Value} (hdg : decode M.2.1 pc = .ok (.pop, 1)) (hv : v.category = 1) (k : gx_X F M d Q (pc + 1) L st w b) : gx_X F M d Q pc L (v :: st) w b := gx_go (fun V _ _ k => lv_pop V.1 V.2.1 hdg hv k) k
theorem gx_dup2 {v u : Value} (hdg : decode M.2.1 pc = .ok (.dup2, 1)) (hv : v.category = 1) (hu : u.category = 1) (k : gx_X F M d Q (pc + 1) L (v :: u :: v :: u :: st) w b) : gx_X F M d Q pc L (v :: u :: st) w b := gx_go (fun V _ _ k => lv_dup2_11 V.1 V.2.1 hdg hv hu k) k
theorem gx_goto {off : Int} {tgt : Nat} (hdg : decode M.2.1 pc = .ok (.goto off, 3)) (ht : (pc : Int) + off = (tgt : Int)) (k : gx_X F M d Q tgt L st w b) : gx_X F M d Q pc L st w b := gx_go (fun V _ _ k => lv_goto V.1 V.2.1 hdg ht k) k
theorem gx_tableOut {dflt lo hi : Int} {offs : Array Int} {len : Nat} {x : Int32} {tgt : Nat} (hdg : decode M.2.1 pc = .ok (.tableswitch dflt lo hi offs, len)) (h : x.toInt < lo ∨ hi < x.toInt) (ht : (pc : Int) + dflt = (tgt : Int)) (k : gx_X F M d Q tgt L st w b) : gx_X F M d Q pc L (.int x :: st) w b := gx_go (fun V _ _ k => lv_tableOut V.1 V.2.1 hdg h ht k) k
theorem gx_tableIn {dflt lo hi : Int} {offs : Array Int} {len : Nat} {x : Int32} {off : Int} {tgt : Nat} (hdg : decode M.2.1 pc = .ok (.tableswitch dflt lo hi offs, len)) (h1 : ¬ x.toInt < lo) (h2 : ¬ hi < x.toInt) (ho : offs[(x.toInt - lo).toNat]? = some off) (ht : (pc : Int) + off = (tgt : Int)) (k : gx_X F M d Q tgt L st w b) : gx_X F M d Q pc L (.int x :: st) w b := gx_go (fun V _ _ k => lv_tableIn V.1 V.2.1 hdg h1 h2 ho ht k) k
theorem gx_if_eq {x : Int32} {off : Int} {tgt : Nat} (hdg : decode M.2.1 pc = .ok (.ifCond .eq off, 3)) (ht : (pc : Int) + off = (tgt : Int)) (kt : x = 0 → gx_X F M d Q tgt L st w b) (kf : ¬ (x = 0) → gx_X F M d Q (pc + 3) L st w b) : gx_X F M d Q pc L (.int x :: st) w b := fun p l e R s m args below meth c H locs cells slots ls N A V hl hw hS hd hc hs => lv_if_eq V.1 V.2.1 hdg ht (fun h => kt h p l e R s m args below meth c H locs cells slots ls N A V hl hw hS hd hc hs) (fun h => kf h p l e R s m args below meth c H locs cells slots ls N A V hl hw hS hd hc hs)
theorem gx_icmp_eq {x y : Int32} {off : Int} {tgt : Nat} (hdg : decode M.2.1 pc = .ok (.if_icmp .eq off, 3)) (ht : (pc : Int) + off = (tgt : Int)) (kt : x = y → gx_X F M d Q tgt L st w b) (kf : ¬ (x = y) → gx_X F M d Q (pc + 3) L st w b) : gx_X F M d Q pc L (.int y :: .int x :: st) w b := fun p l e R s m args below meth c H locs cells slots ls N A V hl hw hS hd hc hs => lv_icmp_eq V.1 V.2.1 hdg ht (fun h => kt h p l e R s m args below meth c H locs cells slots ls N A V hl hw hS hd hc hs) (fun h => kf h p l e R s m args below meth c H locs cells slots ls N A V hl hw hS hd hc hs)
theorem gx_if_ne {x : Int32} {off : Int} {tgt : Nat} (hdg : decode M.2.1 pc = .ok (.ifCond .ne off, 3)) (ht : (pc : Int) + off = (tgt : Int)) (kt : ¬ x = 0 → gx_X F M d Q tgt L st w b) (kf : x = 0 → gx_X F M d Q (pc + 3) L st w b) : gx_X F M d Q pc L (.int x :: st) w b := fun p l e R s m args below meth c H locs cells slots ls N A V hl hw hS hd hc hs => lv_if_ne V.1 V.2.1 hdg ht (fun h => kt h p l e R s m args below meth c H locs cells slots ls N A V hl hw hS hd hc hs) (fun h => kf h p l e R s m args below meth c H locs cells slots ls N A V hl hw hS hd hc hs)
theorem gx_icmp_ne {x y : Int32} {off : Int} {tgt : Nat} (hdg : decode M.2.1 pc = .ok (.if_icmp .ne off, 3)) (ht : (pc : Int) + off = (tgt : Int)) (kt : ¬ x = y → gx_X F M d Q tgt L st w b) (kf : x = y → gx_X F M d Q (pc + 3) L st w b) : gx_X F M d Q pc L (.int y :: .int x :: st) w b := fun p l e R s m args below meth c H locs cells slots ls N A V hl hw hS hd hc hs => lv_icmp_ne V.1 V.2.1 hdg ht (fun h => kt h p l e R s m args below meth c H locs cells slots ls N A V hl hw hS hd hc hs) (fun h => kf h p l e R s m args below meth c H locs cells slots ls N A V hl hw hS hd hc hs)
theorem gx_if_lt {x : Int32} {off : Int} {tgt : Nat} (hdg : decode M.2.1 pc = .ok (.ifCond .lt off, 3)) (ht : (pc : Int) + off = (tgt : Int)) (kt : x < 0 → gx_X F M d Q tgt L st w b) (kf : ¬ (x < 0) → gx_X F M d Q (pc + 3) L st w b) : gx_X F M d Q pc L (.int x :: st) w b := fun p l e R s m args below meth c H locs cells slots ls N A V hl hw hS hd hc hs => lv_if_lt V.1 V.2.1 hdg ht (fun h => kt h p l e R s m args below meth c H locs cells slots ls N A V hl hw hS hd hc hs) (fun h => kf h p l e R s m args below meth c H locs cells slots ls N A V hl hw hS hd hc hs)
theorem gx_icmp_lt {x y : Int32} {off : Int} {tgt : Nat} (hdg : decode M.2.1 pc = .ok (.if_icmp .lt off, 3)) (ht : (pc : Int) + off = (tgt : Int)) (kt : x < y → gx_X F M d Q tgt L st w b) (kf : ¬ (x < y) → gx_X F M d Q (pc + 3) L st w b) : gx_X F M d Q pc L (.int y :: .int x :: st) w b := fun p l e R s m args below meth c H locs cells slots ls N A V hl hw hS hd hc hs => lv_icmp_lt V.1 V.2.1 hdg ht (fun h => kt h p l e R s m args below meth c H locs cells slots ls N A V hl hw hS hd hc hs) (fun h => kf h p l e R s m args below meth c H locs cells slots ls N A V hl hw hS hd hc hs)
theorem gx_if_ge {x : Int32} {off : Int} {tgt : Nat} (hdg : decode M.2.1 pc = .ok (.ifCond .ge off, 3)) (ht : (pc : Int) + off = (tgt : Int)) (kt : 0 ≤ x → gx_X F M d Q tgt L st w b) (kf : ¬ (0 ≤ x) → gx_X F M d Q (pc + 3) L st w b) : gx_X F M d Q pc L (.int x :: st) w b := fun p l e R s m args below meth c H locs cells slots ls N A V hl hw hS hd hc hs => lv_if_ge V.1 V.2.1 hdg ht (fun h => kt h p l e R s m args below meth c H locs cells slots ls N A V hl hw hS hd hc hs) (fun h => kf h p l e R s m args below meth c H locs cells slots ls N A V hl hw hS hd hc hs)
theorem gx_icmp_ge {x y : Int32} {off : Int} {tgt : Nat} (hdg : decode M.2.1 pc = .ok (.if_icmp .ge off, 3)) (ht : (pc : Int) + off = (tgt : Int)) (kt : y ≤ x → gx_X F M d Q tgt L st w b) (kf : ¬ (y ≤ x) → gx_X F M d Q (pc + 3) L st w b) : gx_X F M d Q pc L (.int y :: .int x :: st) w b := fun p l e R s m args below meth c H locs cells slots ls N A V hl hw hS hd hc hs => lv_icmp_ge V.1 V.2.1 hdg ht (fun h => kt h p l e R s m args below meth c H locs cells slots ls N A V hl hw hS hd hc hs) (fun h => kf h p l e R s m args below meth c H locs cells slots ls N A V hl hw hS hd hc hs)
theorem gx_if_gt {x : Int32} {off : Int} {tgt : Nat} (hdg : decode M.2.1 pc = .ok (.ifCond .gt off, 3)) (ht : (pc : Int) + off = (tgt : Int)) (kt : 0 < x → gx_X F M d Q tgt L st w b) (kf : ¬ (0 < x) → gx_X F M d Q (pc + 3) L st w b) : gx_X F M d Q pc L (.int x :: st) w b := fun p l e R s m args below meth c H locs cells slots ls N A V hl hw hS hd hc hs => lv_if_gt V.1 V.2.1 hdg ht (fun h => kt h p l e R s m args below meth c H locs cells slots ls N A V hl hw hS hd hc hs) (fun h => kf h p l e R s m args below meth c H locs cells slots ls N A V hl hw hS hd hc hs)
theorem gx_icmp_gt {x y : Int32} {off : Int} {tgt : Nat} (hdg : decode M.2.1 pc = .ok (.if_icmp .gt off, 3)) (ht : (pc : Int) + off = (tgt : Int)) (kt : y < x → gx_X F M d Q tgt L st w b) (kf : ¬ (y < x) → gx_X F M d Q (pc + 3) L st w b) : gx_X F M d Q pc L (.int y :: .int x :: st) w b := fun p l e R s m args below meth c H locs cells slots ls N A V hl hw hS hd hc hs => lv_icmp_gt V.1 V.2.1 hdg ht (fun h => kt h p l e R s m args below meth c H locs cells slots ls N A V hl hw hS hd hc hs) (fun h => kf h p l e R s m args below meth c H locs cells slots ls N A V hl hw hS hd hc hs)
theorem gx_if_le {x : Int32} {off : Int} {tgt : Nat} (hdg : decode M.2.1 pc = .ok (.ifCond .le off, 3)) (ht : (pc : Int) + off = (tgt : Int)) (kt : x ≤ 0 → gx_X F M d Q tgt L st w b) (kf : ¬ (x ≤ 0) → gx_X F M d Q (pc + 3) L st w b) : gx_X F M d Q pc L (.int x :: st) w b := fun p l e R s m args below meth c H locs cells slots ls N A V hl hw hS hd hc hs => lv_if_le V.1 V.2.1 hdg ht (fun h => kt h p l e R s m args below meth c H locs cells slots ls N A V hl hw hS hd hc hs) (fun h => kf h p l e R s m args below meth c H locs cells slots ls N A V hl hw hS hd hc hs)
theorem gx_icmp_le {x y : Int32} {off : Int} {tgt : Nat} (hdg : decode M.2.1 pc = .ok (.if_icmp .le off, 3)) (ht : (pc : Int) + off = (tgt : Int)) (kt : x ≤ y → gx_X F M d Q tgt L st w b) (kf : ¬ (x ≤ y) → gx_X F M d Q (pc + 3) L st w b) : gx_X F M d Q pc L (.int y :: .int x :: st) w b := fun p l e R s m args below meth c H locs cells slots ls N A V hl hw hS hd hc hs => lv_icmp_le V.1 V.2.1 hdg ht (fun h => kt h p l e R s m args below meth c H locs cells slots ls N A V hl hw hS hd hc hs) (fun h => kf h p l e R s m args below meth c H locs cells slots ls N A V hl hw hS hd hc hs)
theorem gx_istore_n {j : Fin 4} {x : Int32} (hdg : decode M.2.1 pc = .ok (.istore_n j, 1)) (hn : (j : Nat) < M.2.2.1) (hc1 : gx_c1 L (j : Nat) = true) (k : gx_X F M d Q (pc + 1) (L.set (j : Nat) (some (.int x))) st w b) : gx_X F M d Q pc L (.int x :: st) w b := fun p l e R s m args below meth c H locs cells slots ls N A V hl hw hS hd hc hs => lv_istore_n V.1 V.2.1 hdg rfl hl.has hn rfl (fun ls' h' => k p l e R s m args below meth c H locs cells slots ls' N A V (gx_Lv.set hc1 h') hw hS hd hc hs)
theorem gx_istore {j : Nat} {x : Int32} (hdg : decode M.2.1 pc = .ok (.istore j, 2)) (hn : j < M.2.2.1) (hc1 : gx_c1 L j = true) (k : gx_X F M d Q (pc + 2) (L.set j (some (.int x))) st w b) : gx_X F M d Q pc L (.int x :: st) w b := fun p l e R s m args below meth c H locs cells slots ls N A V hl hw hS hd hc hs => lv_istore V.1 V.2.1 hdg hl.has hn rfl (fun ls' h' => k p l e R s m args below meth c H locs cells slots ls' N A V (gx_Lv.set hc1 h') hw hS hd hc hs)
theorem gx_astore_n {j : Fin 4} {x : Nat} (hdg : decode M.2.1 pc = .ok (.astore_n j, 1)) (hn : (j : Nat) < M.2.2.1) (hc1 : gx_c1 L (j : Nat) = true) (k : gx_X F M d Q (pc + 1) (L.set (j : Nat) (some (.ref x))) st w b) : gx_X F M d Q pc L (.ref x :: st) w b := fun p l e R s m args below meth c H locs cells slots ls N A V hl hw hS hd hc hs => lv_astore_n V.1 V.2.1 hdg rfl hl.has hn rfl (fun ls' h' => k p l e R s m args below meth c H locs cells slots ls' N A V (gx_Lv.set hc1 h') hw hS hd hc hs)
theorem gx_astore {j : Nat} {x : Nat} (hdg : decode M.2.1 pc = .ok (.astore j, 2)) (hn : j < M.2.2.1) (hc1 : gx_c1 L j = true) (k : gx_X F M d Q (pc + 2) (L.set j (some (.ref x))) st w b) : gx_X F M d Q pc L (.ref x :: st) w b := fun p l e R s m args below meth c H locs cells slots ls N A V hl hw hS hd hc hs => lv_astore V.1 V.2.1 hdg hl.has hn rfl (fun ls' h' => k p l e R s m args below meth c H locs cells slots ls' N A V (gx_Lv.set hc1 h') hw hS hd hc hs)
theorem gx_iinc {j : Nat} {n : Int} {x : Int32} (hdg : decode M.2.1 pc = .ok (.iinc j n, 3)) (hl0 : L[j]? = some (some (.int x))) (v : Int32) (hv : x + Int32.ofInt n = v) (hn : j < M.2.2.1) (hc1 : gx_c1 L j = true) (k : gx_X F M d Q (pc + 3) (L.set j (some (.int v))) st w b) : gx_X F M d Q pc L st w b := fun p l e R s m args below meth c H locs cells slots ls N A V hl hw hS hd hc hs => by
  have h5 := gx_en_of L 0 j _ hl0
  rw [Nat.zero_add] at h5
  obtain ⟨i, hi⟩ := List.getElem?_of_mem h5
  exact lv_iinc V.1 V.2.1 hdg hl.has hi hv hn rfl (fun ls' h' => k p l e R s m args below meth c H locs cells slots ls' N A V (gx_Lv.set hc1 h') hw hS hd hc hs)
theorem gx_ireturn {v : Int32} (hr : M.2.2.2 = some .int) (hdg : decode M.2.1 pc = .ok (.ireturn, 1)) (hq : Q.1 (some (.int v)) w) : gx_X F M d Q pc L [.int v] w b := fun p l e R s m args below meth c H locs cells slots ls N A V hl hw hS hd hc hs => by
  refine W.widen (k := R.cells) (n := R.slots) (by omega) (by omega) ?_
  exact gx_mono gx_Z.of (W.iret (v := v) V.1 V.2.1 (V.2.2.2.1.trans hr) (fun t ht _ => ⟨Or.inl ⟨_, w, rfl, hq, by rw [ht]; exact hw, hd⟩, hS.F ht⟩) hS.2.2 hdg V.2.2.2.2.1)
theorem gx_zreturn {v : Int32} {ty : FieldType} (hr : M.2.2.2 = some ty) (hn : narrow ty (.int v) = .int v) (hdg : decode M.2.1 pc = .ok (.ireturn, 1)) (hq : Q.1 (some (.int v)) w) : gx_X F M d Q pc L [.int v] w b := fun p l e R s m args below meth c H locs cells slots ls N A V hl hw hS hd hc hs => by
  refine W.widen (k := R.cells) (n := R.slots) (by omega) (by omega) ?_
  exact gx_mono gx_Z.of (W.zret (v := v) V.1 V.2.1 (V.2.2.2.1.trans hr) hn (fun t ht _ => ⟨Or.inl ⟨_, w, rfl, hq, by rw [ht]; exact hw, hd⟩, hS.F ht⟩) hS.2.2 hdg V.2.2.2.2.1)
theorem gx_areturn {v : Value} {rt : FieldType} (hr : M.2.2.2 = some rt) (hrt : (∃ n, rt = .object n) ∨ ∃ t, rt = .array t) (hv : v = .null ∨ ∃ a, v = .ref a) (hdg : decode M.2.1 pc = .ok (.areturn, 1)) (hq : Q.1 (some v) w) : gx_X F M d Q pc L [v] w b := fun p l e R s m args below meth c H locs cells slots ls N A V hl hw hS hd hc hs => by
  refine W.widen (k := R.cells) (n := R.slots) (by omega) (by omega) ?_
  exact gx_mono gx_Z.of (W.aret (v := v) V.1 V.2.1 (V.2.2.2.1.trans hr) hrt hv (fun t ht _ => ⟨Or.inl ⟨_, w, rfl, hq, by rw [ht]; exact hw, hd⟩, hS.F ht⟩) hS.2.2 hdg V.2.2.2.2.1)
theorem gx_return (hr : M.2.2.2 = none) (hdg : decode M.2.1 pc = .ok (.return_, 1)) (hq : Q.1 none w) : gx_X F M d Q pc L [] w b := fun p l e R s m args below meth c H locs cells slots ls N A V hl hw hS hd hc hs => by
  refine W.widen (k := R.cells) (n := R.slots) (by omega) (by omega) ?_
  exact gx_mono gx_Z.of (W.vret V.1 V.2.1 (V.2.2.2.1.trans hr) (fun t ht _ => ⟨Or.inl ⟨_, w, rfl, hq, by rw [ht]; exact hw, hd⟩, hS.F ht⟩) hS.2.2 hdg V.2.2.2.2.1)
theorem gx_top {x y : Int32} (h : x = y) (k : gx_X F M d Q pc L (.int y :: st) w b) : gx_X F M d Q pc L (.int x :: st) w b := h ▸ k
theorem gx_w {w' : gx_W} (h : w = w') (k : gx_X F M d Q pc L st w' b) : gx_X F M d Q pc L st w b := h ▸ k
/-- a text or a row is opened: its two cells -/
theorem gx_unbox {h ci cap : Nat} {l : List Nat} (hb : w.1 h = some (gx_bx ci cap l)) (k : ∀ f, gx_fn l f → l.length ≤ cap → cap < 65536 → gx_sm l → w.1 (h + 1) = none → gx_X F M d Q pc L st (gx_raw w h ci cap l.length f) b) : gx_X F M d Q pc L st w b := fun p l e R s m args below meth c H locs cells slots ls N A V hl hw hS hd hc hs => by
  obtain ⟨h1, h2, f, hf, hw'⟩ := hw.unbox hb
  exact k f hf h2.1 h2.2.1 h2.2.2 h1 p _ e R s m args below meth c H locs cells slots ls N A V hl hw' hS (fun q hq => hd q (gx_cv.raw hb hq)) hc hs
/-- and closed again -/
theorem gx_box {h ci cap n : Nat} {f : Nat → Int32} (l : List Nat) (h0 : w.1 (h + 1) = none) (hn : n = l.length) (hc0 : l.length ≤ cap) (hcap : cap < 65536) (hsm : gx_sm l) (hf : gx_fn l f) (k : gx_X F M d Q pc L st (gx_st w h (gx_bx ci cap l)) b) : gx_X F M d Q pc L st (gx_raw w h ci cap n f) b := fun p l' e R s m args below meth c H locs cells slots ls N A V hl hw hS hd hc hs => by
  refine k p l' e R s m args below meth c H locs cells slots ls N A V hl (hw.box h0 hn ⟨hc0, hcap, hsm⟩ hf) hS (fun q hq => hd q ?_) hc hs
  have key : ∀ q y, (gx_st w h (gx_bx ci cap l)).1 q = some y → q = h ∨ (q ≠ h ∧ q ≠ h + 1 ∧ w.1 q = some y) := fun q y hy => by
    by_cases e0 : q = h
    · exact Or.inl e0
    · rw [gx_st_ne e0] at hy
      exact Or.inr ⟨e0, (fun e1 => by rw [e1, h0] at hy; cases hy), hy⟩
  rcases hq with ⟨y, hy⟩ | ⟨q', y, e, hy, hw2⟩
  · rcases key q y hy with rfl | ⟨e0, e1, h1⟩
    · exact Or.inl ⟨_, gx_raw_h⟩
    · exact Or.inl ⟨y, by rw [gx_raw_ne e0 e1]; exact h1⟩
  · rcases key q' y hy with rfl | ⟨e0, e1, h1⟩
    · rw [e]; exact Or.inl ⟨_, gx_raw_h1⟩
    · exact Or.inr ⟨q', y, e, by rw [gx_raw_ne e0 e1]; exact h1, hw2⟩
theorem gx_P1 {D : va_G} {cl : List vw_C} {a : Nat} {x : va_E} {H : Heap} (h : va_at D cl (a, x) H) : va_P D cl [(a, x)] H := fun k q hk => by
  have hz : k < 1 := (List.getElem?_eq_some_iff.mp hk).1
  rw [show k = 0 by omega] at hk
  cases hk
  exact h
theorem gx_get {idx ci j a : Nat} {fs : List Value} {v : Value} (hf : gx_fl M.1.cls idx ci j) (hdg : decode M.2.1 pc = .ok (.getfield idx, 3)) (hw0 : w.1 a = some (gx_ob ci fs)) (hv : fs[j]? = some v) (k : gx_X F M d Q (pc + 3) L (v :: st) w b) : gx_X F M d Q pc L (.ref a :: st) w b := gx_go (fun V _ hw k => by
  obtain ⟨hx, hb, hml, hr, hlk, hown, hnm, hts, hK, hfr, hlo, hA, hF⟩ := V
  obtain ⟨C, T, n, h1, h2, h3, h4 | ⟨host, h4⟩⟩ := hf
  · exact va_get (ws := [(a, .inr (ci, fs))]) hx hb hts h3 hown hK.1 (gx_P1 (hw.2.2.2.1 a _ hw0).2) 0 rfl h1 j h2 (hts _ h4) (fun _ h => h) hv hdg k
  · exact va_getN (ws := [(a, .inr (ci, fs))]) hx hb hts h3 hown hK.1 (gx_P1 (hw.2.2.2.1 a _ hw0).2) 0 rfl h1 j h2 (va_Nw.use rfl (hK.2.1 _ h4)) (fun _ h => h) hv hdg k) k
end GXA
end
section
section GXA
variable {F : gx_N → State → Prop} {M : gx_M} {d : Nat} {Q : gx_P} {pc : Nat} {L : List (Option Value)} {st rest : List Value} {w : gx_W} {b : Nat × Nat}
set_option maxHeartbeats 1000000 in
theorem gx_put {idx ci j a : Nat} {fs : List Value} {v : Value} {fin : Bool} {ty : FieldType} (hf : gx_fp M.1.cls idx ci j fin ty) (hfin : fin = true → M.1.name = "<init>") (hdg : decode M.2.1 pc = .ok (.putfield idx, 3)) (hw0 : w.1 a = some (gx_ob ci fs)) (hn : narrow ty v = v) (hfit : fits ty v = true) (hj : j < fs.length) (k : gx_X F M d Q (pc + 3) L st (gx_st w a (gx_ob ci (fs.set j v))) b) : gx_X F M d Q pc L (v :: .ref a :: st) w b := fun p l e R s m args below meth c H locs cells slots ls N A V hl hw hS hd hc hs => by
  have V0 := V
  obtain ⟨hx, hb, hml, hr, hlk, hown, hnm, hts, hK, hfr, hlo, hA, hF⟩ := V
  obtain ⟨C, T, n, ty0, h1, h2, h3, h4, h5, h6, h7, h8, h9⟩ := hf
  have hap := va_apart (own := M.1.cls) hts h3 ty0 h5 h6 hK.1 h1
  obtain ⟨r, g1, cell, q1, q2, q3, q4⟩ := (hw.2.2.2.1 a _ hw0).2
  have hrr : r = (C, T, n) := Option.some.inj (g1.symm.trans h1)
  subst hrr
  obtain ⟨hSl, hfc, kC, hkC, hkind⟩ := hK.1.1 ci _ h1
  obtain ⟨cf, kf, fi, f, hi, hsl⟩ := hSl j h2
  have hlay := hts _ (h3 _ (u_in_lay h2))
  have hst := (u_facts hfc hkC (u_lays hts h3 h2) hi).1
  have fin' : ∀ H' : Heap, H'[a]? = some (cell.setSlot f.slot v) → H'.size = H.size → (∀ q, q ≠ a → H'[q]? = H[q]?) → W p l e R s m args below meth c H' (locs ++ [⟨a, f.slot⟩]) cells slots (gx_Z N A Q below args s R) (F0 m (pc + 3) ls st) := by
    intro H' e1 e2 e3
    rw [hsl] at e1
    have hi2 : gx_is N a (gx_ob ci (fs.set j v)) H' := ⟨_, h1, t_OB.to (V := updV (vp_V fs) j v) ⟨_, e1, q2, q3, t_set q4 hap h2 v⟩ (fun i _ => vp_updV_set hj v i)⟩
    exact k p l e R s m args below meth c H' _ cells slots ls N A V0 hl (hw.put hw0 rfl rfl hi2 e2 e3) (hS.put e2 e3 (hd a (Or.inl ⟨_, hw0⟩))) (fun q hq => hd q (gx_cv.st hw0 (fun h => by cases h) hq)) hc hs
  unfold u_lay at hlay
  cases hfe : fin with
  | false =>
    rw [hfe] at h7
    rw [if_neg (by rw [h7]; decide)] at hlay
    have h10 := u_store hfc hkC hkind hlay hi h9 hn hfit
    exact W.putK hx hb (f := f) ⟨hown, hts _ h4, ⟨_, _, _, hi⟩, hst⟩ (by rw [q2]; exact h10) q1 q3 (by rw [hsl]; exact k2_hasslot (q4 j h2)) rfl rfl hdg fin'
  | true =>
    rw [hfe] at h7
    rw [if_pos h7] at hlay
    have hcf : m.cls = cf := by
      obtain ⟨_, _, c', _, _, _, -, -, hf', -, -, -, hown2, -⟩ := Cond.laysFinal_spec hlay
      have e1 : c' = cf := by have := hi.symm.trans hf'; simp at this; exact this.1.symm
      rw [h8] at hown2
      rw [← e1]; exact Option.some.inj (hown.symm.trans hown2)
    have h10 := u_fits hfc hkC hkind (Or.inr hlay) hi h9 hn hfit
    exact W.putFinK hx hb hown (hts _ h4) hi hst hcf (hnm.trans (hfin hfe)) (by rw [q2]; exact h10) q1 q3 (by rw [hsl]; exact k2_hasslot (q4 j h2)) rfl rfl hdg fin'
/-- the length of an opened text is written -/
theorem gx_bput {idx h ci cap n n' : Nat} {f : Nat → Int32} (hf : gx_fp M.1.cls idx ci 1 false .int) (hdg : decode M.2.1 pc = .ok (.putfield idx, 3)) (k : gx_X F M d Q (pc + 3) L st (gx_raw w h ci cap n' f) b) : gx_X F M d Q pc L (.int (nI n') :: .ref h :: st) (gx_raw w h ci cap n f) b :=
  gx_put hf (fun h => by cases h) hdg gx_raw_h rfl rfl (Nat.lt_succ_self 1) (gx_w gx_raw_n k)
/-! reads from a text or a row that stays closed -/
theorem gx_bln {idx h ci cap : Nat} {l : List Nat} (hf : gx_fl M.1.cls idx ci 1) (hdg : decode M.2.1 pc = .ok (.getfield idx, 3)) (hb0 : w.1 h = some (gx_bx ci cap l)) (k : gx_X F M d Q (pc + 3) L (.int (nI l.length) :: st) w b) : gx_X F M d Q pc L (.ref h :: st) w b := gx_go (fun V _ hw k => by
  obtain ⟨hx, hb, hml, hr, hlk, hown, hnm, hts, hK, hfr, hlo, hA, hF⟩ := V
  obtain ⟨C, T, n, h1, h2, h3, h4⟩ := hf
  obtain ⟨f, -, -, ho, -⟩ := (hw.2.2.2.1 h _ hb0).2
  rcases h4 with h4 | ⟨host, h4⟩
  · exact va_get (ws := [(h, .inr (ci, [.ref (h + 1), .int (nI l.length)]))]) hx hb hts h3 hown hK.1 (gx_P1 ho) 0 rfl h1 1 h2 (hts _ h4) (fun _ h => h) rfl hdg k
  · exact va_getN (ws := [(h, .inr (ci, [.ref (h + 1), .int (nI l.length)]))]) hx hb hts h3 hown hK.1 (gx_P1 ho) 0 rfl h1 1 h2 (va_Nw.use rfl (hK.2.1 _ h4)) (fun _ h => h) rfl hdg k) k
theorem gx_bar {idx h ci cap : Nat} {l : List Nat} (hf : gx_fl M.1.cls idx ci 0) (hdg : decode M.2.1 pc = .ok (.getfield idx, 3)) (hb0 : w.1 h = some (gx_bx ci cap l)) (k : gx_X F M d Q (pc + 3) L (.ref (h + 1) :: st) w b) : gx_X F M d Q pc L (.ref h :: st) w b := gx_go (fun V _ hw k => by
  obtain ⟨hx, hb, hml, hr, hlk, hown, hnm, hts, hK, hfr, hlo, hA, hF⟩ := V
  obtain ⟨C, T, n, h1, h2, h3, h4⟩ := hf
  obtain ⟨f, -, -, ho, -⟩ := (hw.2.2.2.1 h _ hb0).2
  rcases h4 with h4 | ⟨host, h4⟩
  · exact va_get (ws := [(h, .inr (ci, [.ref (h + 1), .int (nI l.length)]))]) hx hb hts h3 hown hK.1 (gx_P1 ho) 0 rfl h1 0 h2 (hts _ h4) (fun _ h => h) rfl hdg k
  · exact va_getN (ws := [(h, .inr (ci, [.ref (h + 1), .int (nI l.length)]))]) hx hb hts h3 hown hK.1 (gx_P1 ho) 0 rfl h1 0 h2 (va_Nw.use rfl (hK.2.1 _ h4)) (fun _ h => h) rfl hdg k) k
theorem gx_bcal {h cap j : Nat} {l : List Nat} (hdg : decode M.2.1 pc = .ok (.caload, 1)) (hb0 : w.1 h = some (gx_bx 0 cap l)) (hj : j < l.length) (k : gx_X F M d Q (pc + 1) L (.int (nI (l.getD j 0)) :: st) w b) : gx_X F M d Q pc L (.int (nI j) :: .ref (h + 1) :: st) w b := gx_go (fun V _ hw k => by
  obtain ⟨hx, hb, hml, hr, hlk, hown, hnm, hts, hK, hfr, hlo, hA, hF⟩ := V
  obtain ⟨f, hf, hl, -, ha⟩ := (hw.2.2.2.1 h _ hb0).2
  have hj2 : j < cap := Nat.lt_of_lt_of_le hj hl.1
  have hl2 : cap < 65536 := hl.2.1
  exact va_cald (ws := [(h + 1, .inl (_, cap, .inl f))]) hx hb hK.1 (gx_P1 ha) 0 1 rfl rfl (vp_in_nI hj2 (by omega)) hdg (by rw [nI_clamp (by omega), hf j hj]; exact k)) k
theorem gx_bial {h cap j : Nat} {l : List Nat} (hdg : decode M.2.1 pc = .ok (.iaload, 1)) (hb0 : w.1 h = some (gx_bx 1 cap l)) (hj : j < l.length) (k : gx_X F M d Q (pc + 1) L (.int (nI (l.getD j 0)) :: st) w b) : gx_X F M d Q pc L (.int (nI j) :: .ref (h + 1) :: st) w b := gx_go (fun V _ hw k => by
  obtain ⟨hx, hb, hml, hr, hlk, hown, hnm, hts, hK, hfr, hlo, hA, hF⟩ := V
  obtain ⟨f, hf, hl, -, ha⟩ := (hw.2.2.2.1 h _ hb0).2
  have hj2 : j < cap := Nat.lt_of_lt_of_le hj hl.1
  have hl2 : cap < 65536 := hl.2.1
  exact va_iald (ws := [(h + 1, .inl (_, cap, .inl f))]) hx hb hK.1 (gx_P1 ha) 0 0 rfl rfl (vp_in_nI hj2 (by omega)) hdg (by rw [nI_clamp (by omega), hf j hj]; exact k)) k
/-- what is known of a text's or a row's sizes -/
theorem gx_bsz {h ci cap : Nat} {l : List Nat} (hb0 : w.1 h = some (gx_bx ci cap l)) (k : l.length ≤ cap → cap < 65536 → gx_sm l → gx_X F M d Q pc L st w b) : gx_X F M d Q pc L st w b := fun p l' e R s m args below meth c H locs cells slots ls N A V hl hw hS hd hc hs => by
  obtain ⟨f, -, h1, -⟩ := (hw.2.2.2.1 h _ hb0).2
  exact k h1.1 h1.2.1 h1.2.2 p l' e R s m args below meth c H locs cells slots ls N A V hl hw hS hd hc hs
/-! loads from arrays -/
theorem gx_iald {a n j : Nat} {f : Nat → Int32} (hdg : decode M.2.1 pc = .ok (.iaload, 1)) (hw0 : w.1 a = some (gx_ai 0 n f)) (hj : j < n) (hn : n < 2 ^ 31) (k : gx_X F M d Q (pc + 1) L (.int (f j) :: st) w b) : gx_X F M d Q pc L (.int (nI j) :: .ref a :: st) w b := gx_go (fun V _ hw k => by
  obtain ⟨hx, hb, hml, hr, hlk, hown, hnm, hts, hK, hfr, hlo, hA, hF⟩ := V
  exact va_iald (ws := [(a, .inl (_, n, .inl f))]) hx hb hK.1 (gx_P1 (hw.2.2.2.1 a _ hw0).2) 0 0 rfl rfl (vp_in_nI hj hn) hdg (by rw [nI_clamp (by omega)]; exact k)) k
theorem gx_cald {a n j : Nat} {f : Nat → Int32} (hdg : decode M.2.1 pc = .ok (.caload, 1)) (hw0 : w.1 a = some (gx_ai 1 n f)) (hj : j < n) (hn : n < 2 ^ 31) (k : gx_X F M d Q (pc + 1) L (.int (f j) :: st) w b) : gx_X F M d Q pc L (.int (nI j) :: .ref a :: st) w b := gx_go (fun V _ hw k => by
  obtain ⟨hx, hb, hml, hr, hlk, hown, hnm, hts, hK, hfr, hlo, hA, hF⟩ := V
  exact va_cald (ws := [(a, .inl (_, n, .inl f))]) hx hb hK.1 (gx_P1 (hw.2.2.2.1 a _ hw0).2) 0 1 rfl rfl (vp_in_nI hj hn) hdg (by rw [nI_clamp (by omega)]; exact k)) k
theorem gx_zald {a n j : Nat} {f : Nat → Int32} (hdg : decode M.2.1 pc = .ok (.baload, 1)) (hw0 : w.1 a = some (gx_ai 2 n f)) (hj : j < n) (hn : n < 2 ^ 31) (k : gx_X F M d Q (pc + 1) L (.int (f j) :: st) w b) : gx_X F M d Q pc L (.int (nI j) :: .ref a :: st) w b := gx_go (fun V _ hw k => by
  obtain ⟨hx, hb, hml, hr, hlk, hown, hnm, hts, hK, hfr, hlo, hA, hF⟩ := V
  exact va_zald (ws := [(a, .inl (_, n, .inl f))]) hx hb hK.1 (gx_P1 (hw.2.2.2.1 a _ hw0).2) 0 2 rfl rfl (vp_in_nI hj hn) hdg (by rw [nI_clamp (by omega)]; exact k)) k
theorem gx_lald {a n j : Nat} {f : Nat → Int64} (hdg : decode M.2.1 pc = .ok (.laload, 1)) (hw0 : w.1 a = some (gx_al8 5 n f)) (hj : j < n) (hn : n < 2 ^ 31) (k : gx_X F M d Q (pc + 1) L (.long (f j) :: st) w b) : gx_X F M d Q pc L (.int (nI j) :: .ref a :: st) w b := gx_go (fun V _ hw k => by
  obtain ⟨hx, hb, hml, hr, hlk, hown, hnm, hts, hK, hfr, hlo, hA, hF⟩ := V
  exact va_lald (ws := [(a, .inl (_, n, .inr (.inl f)))]) hx hb hK.1 (gx_P1 (hw.2.2.2.1 a _ hw0).2) 0 5 rfl rfl (vp_in_nI hj hn) hdg (by rw [nI_clamp (by omega)]; exact k)) k
theorem gx_aald3 {a n j x : Nat} {f : Nat → Option Nat} (hdg : decode M.2.1 pc = .ok (.aaload, 1)) (hw0 : w.1 a = some (gx_ar 3 n f)) (hj : j < n) (hn : n < 2 ^ 31) (hx0 : f j = some x) (k : gx_X F M d Q (pc + 1) L (.ref x :: st) w b) : gx_X F M d Q pc L (.int (nI j) :: .ref a :: st) w b := gx_go (fun V _ hw k => by
  obtain ⟨hx, hb, hml, hr, hlk, hown, hnm, hts, hK, hfr, hlo, hA, hF⟩ := V
  exact va_aldq (ws := [(a, .inl (_, n, .inr (.inr (.inr (.inr f)))))]) hx hb hK.1 (gx_P1 (hw.2.2.2.1 a _ hw0).2) 0 3 rfl rfl (vp_in_nI hj hn) hdg (by rw [nI_clamp (by omega), hx0]; exact k)) k
theorem gx_aald4 {a n j x : Nat} {f : Nat → Option Nat} (hdg : decode M.2.1 pc = .ok (.aaload, 1)) (hw0 : w.1 a = some (gx_ar 4 n f)) (hj : j < n) (hn : n < 2 ^ 31) (hx0 : f j = some x) (k : gx_X F M d Q (pc + 1) L (.ref x :: st) w b) : gx_X F M d Q pc L (.int (nI j) :: .ref a :: st) w b := gx_go (fun V _ hw k => by
  obtain ⟨hx, hb, hml, hr, hlk, hown, hnm, hts, hK, hfr, hlo, hA, hF⟩ := V
  exact va_aldq (ws := [(a, .inl (_, n, .inr (.inr (.inr (.inr f)))))]) hx hb hK.1 (gx_P1 (hw.2.2.2.1 a _ hw0).2) 0 4 rfl rfl (vp_in_nI hj hn) hdg (by rw [nI_clamp (by omega), hx0]; exact k)) k
theorem gx_alen {a kd n : Nat} {y : (Nat → Int32) ⊕ (Nat → Int64) ⊕ (Nat → UInt32) ⊕ (Nat → UInt64) ⊕ (Nat → Option Nat)} (hkd : kd < 6) (hdg : decode M.2.1 pc = .ok (.arraylength, 1)) (hw0 : w.1 a = some (.inl (kd, n, y))) (k : gx_X F M d Q (pc + 1) L (.int (nI n) :: st) w b) : gx_X F M d Q pc L (.ref a :: st) w b := gx_go (fun {_ _ _ _ _ _ _ _ _ _ _ _ _ _ _ _ N _} V _ hw k => by
  obtain ⟨hx, hb, hml, hr, hlk, hown, hnm, hts, hK, hfr, hlo, hA, hF⟩ := V
  obtain ⟨ty, hty⟩ : ∃ ty, (gx_ta N)[kd]? = some (N.2.1 kd, ty) := by
    rcases (show kd = 0 ∨ kd = 1 ∨ kd = 2 ∨ kd = 3 ∨ kd = 4 ∨ kd = 5 by omega) with rfl | rfl | rfl | rfl | rfl | rfl <;> exact ⟨_, rfl⟩
  exact va_alen (ws := [(a, .inl (_, n, y))]) hx hb hK.1 (gx_P1 (hw.2.2.2.1 a _ hw0).2) 0 kd rfl hty rfl hdg k) k
/-! stores into arrays -/
/-- what every store shares: the cell behind it -/
theorem gx_wr {pc' : Nat} {a : Nat} {x0 x1 : gx_E} (hw0 : w.1 a = some x0) (hx0 : gx_wide x0 = false) (hx1 : gx_wide x1 = false)
    (h : ∀ {p : Program} {l : Launch} {e : Env} {R : Room} {s : State} {m : MethodId} {args : Array Value} {below : List Frame} {meth : Method} {c : Code} {H : Heap} {locs : List Loc} {cells slots : Nat} {Q0 : State → Prop} {ls : Array Slot} {N : gx_N} {A : Nat → Prop},
      gx_V F M d R p l s m args meth c N A → gx_is N a x0 H → (∀ (H1 : Heap) (i : Nat), gx_is N a x1 H1 → H1.size = H.size → (∀ q : Nat, q ≠ a → H1[q]? = H[q]?) → W p l e R s m args below meth c H1 (locs ++ [⟨a, i⟩]) cells slots Q0 (F0 m pc' ls rest)) → W p l e R s m args below meth c H locs cells slots Q0 (F0 m pc ls st))
    (k : gx_X F M d Q pc' L rest (gx_st w a x1) b) : gx_X F M d Q pc L st w b :=
  fun p l e R s m args below meth c H locs cells slots ls N A V hl hw hS hd hc hs => h V (hw.2.2.2.1 a _ hw0).2 (fun H1 i hi e2 e3 =>
    k p l e R s m args below meth c H1 _ cells slots ls N A V hl (hw.put hw0 hx0 hx1 hi e2 e3) (hS.put e2 e3 (hd a (Or.inl ⟨_, hw0⟩))) (fun q hq => hd q (gx_cv.st hw0 (fun h => by rw [hx1] at h; cases h) hq)) hc hs)
theorem gx_fe {f : Nat → Int32} {x : Int32} {j : Nat} {g : Nat → Value} (h : g = updV (fun i => Value.int (f i)) j (.int x)) : g = fun i => Value.int (upd f j x i) := by
  rw [h]
  funext q
  by_cases hq : q = j
  · subst hq; simp [updV, upd]
  · simp [updV, upd, hq]
theorem gx_iast {a n j : Nat} {f : Nat → Int32} {x : Int32} (hdg : decode M.2.1 pc = .ok (.iastore, 1)) (hw0 : w.1 a = some (gx_ai 0 n f)) (hj : j < n) (hn : n < 2 ^ 31) (k : gx_X F M d Q (pc + 1) L st (gx_st w a (gx_ai 0 n (upd f j x))) b) : gx_X F M d Q pc L (.int x :: .int (nI j) :: .ref a :: st) w b := gx_wr hw0 rfl rfl (fun V hi kk => by
  obtain ⟨hx, hb, hml, hr, hlk, hown, hnm, hts, hK, hfr, hlo, hA, hF⟩ := V
  refine W.iast hx hb hi ((hK.1.2 0 _ rfl).1 n (fun j => .int (f j))) (fun q => by cases q) (by show ¬ (_ < 0 ∨ (arrV _ _ _).slots.size ≤ _); rw [arrV_size]; exact vp_in_nI hj hn) rfl rfl hdg fun H1 e1 z oq => kk H1 _ ?_ z oq
  show H1[a]? = some (vp_cell _ _)
  rw [e1, vp_cell_i, vp_cell_i, arrV_store, nI_clamp (by omega)]
  congr 2
  exact gx_fe rfl) k
theorem gx_cast {a n j : Nat} {f : Nat → Int32} {x : Int32} (hdg : decode M.2.1 pc = .ok (.castore, 1)) (hw0 : w.1 a = some (gx_ai 1 n f)) (hj : j < n) (hn : n < 2 ^ 31) (hnx : narrow .char (.int x) = .int x) (k : gx_X F M d Q (pc + 1) L st (gx_st w a (gx_ai 1 n (upd f j x))) b) : gx_X F M d Q pc L (.int x :: .int (nI j) :: .ref a :: st) w b := gx_wr hw0 rfl rfl (fun V hi kk => by
  obtain ⟨hx, hb, hml, hr, hlk, hown, hnm, hts, hK, hfr, hlo, hA, hF⟩ := V
  refine W.cast hx hb hi ((hK.1.2 1 _ rfl).1 n (fun j => .int (f j))) (fun q => by cases q) (by show ¬ (_ < 0 ∨ (arrV _ _ _).slots.size ≤ _); rw [arrV_size]; exact vp_in_nI hj hn) rfl rfl hdg fun H1 e1 z oq => kk H1 _ ?_ z oq
  show H1[a]? = some (vp_cell _ _)
  rw [e1, hnx, vp_cell_i, vp_cell_i, arrV_store, nI_clamp (by omega)]
  congr 2
  exact gx_fe rfl) k
theorem gx_zast {a n j : Nat} {f : Nat → Int32} {x : Int32} (hdg : decode M.2.1 pc = .ok (.bastore, 1)) (hw0 : w.1 a = some (gx_ai 2 n f)) (hj : j < n) (hn : n < 2 ^ 31) (hnx : narrow .boolean (.int x) = .int x) (k : gx_X F M d Q (pc + 1) L st (gx_st w a (gx_ai 2 n (upd f j x))) b) : gx_X F M d Q pc L (.int x :: .int (nI j) :: .ref a :: st) w b := gx_wr hw0 rfl rfl (fun V hi kk => by
  obtain ⟨hx, hb, hml, hr, hlk, hown, hnm, hts, hK, hfr, hlo, hA, hF⟩ := V
  refine W.zast hx hb hi ((hK.1.2 2 _ rfl).1 n (fun j => .int (f j))) (fun q => by cases q) (by show ¬ (_ < 0 ∨ (arrV _ _ _).slots.size ≤ _); rw [arrV_size]; exact vp_in_nI hj hn) rfl rfl hdg fun H1 e1 z oq => kk H1 _ ?_ z oq
  show H1[a]? = some (vp_cell _ _)
  rw [e1, hnx, vp_cell_i, vp_cell_i, arrV_store, nI_clamp (by omega)]
  congr 2
  exact gx_fe rfl) k
theorem gx_last {a n j : Nat} {f : Nat → Int64} {x : Int64} (hdg : decode M.2.1 pc = .ok (.lastore, 1)) (hw0 : w.1 a = some (gx_al8 5 n f)) (hj : j < n) (hn : n < 2 ^ 31) (k : gx_X F M d Q (pc + 1) L st (gx_st w a (gx_al8 5 n (vp_updL f j x))) b) : gx_X F M d Q pc L (.long x :: .int (nI j) :: .ref a :: st) w b := gx_wr hw0 rfl rfl (fun V hi kk => by
  obtain ⟨hx, hb, hml, hr, hlk, hown, hnm, hts, hK, hfr, hlo, hA, hF⟩ := V
  refine W.last hx hb hi ((hK.1.2 5 _ rfl).1 n (fun j => .long (f j))) (fun q => by cases q) (by show ¬ (_ < 0 ∨ (arrV _ _ _).slots.size ≤ _); rw [arrV_size]; exact vp_in_nI hj hn) rfl rfl hdg fun H1 e1 z oq => kk H1 _ ?_ z oq
  show H1[a]? = some (vp_cell _ _)
  rw [e1, vp_cell_l, vp_cell_l, arrV_store, nI_clamp (by omega)]
  congr 2
  funext q
  by_cases hq : q = j
  · subst hq; simp [updV, vp_updL]
  · simp [updV, vp_updL, hq]) k
/-- a store into an opened text, an opened row -/
theorem gx_bcast {h cap n j : Nat} {f : Nat → Int32} {x : Int32} (hdg : decode M.2.1 pc = .ok (.castore, 1)) (hj : j < cap) (hn : cap < 2 ^ 31) (hnx : narrow .char (.int x) = .int x) (k : gx_X F M d Q (pc + 1) L st (gx_raw w h 0 cap n (upd f j x)) b) : gx_X F M d Q pc L (.int x :: .int (nI j) :: .ref (h + 1) :: st) (gx_raw w h 0 cap n f) b :=
  gx_cast hdg gx_raw_h1 hj hn hnx (gx_w gx_raw_f k)
theorem gx_biast {h cap n j : Nat} {f : Nat → Int32} {x : Int32} (hdg : decode M.2.1 pc = .ok (.iastore, 1)) (hj : j < cap) (hn : cap < 2 ^ 31) (k : gx_X F M d Q (pc + 1) L st (gx_raw w h 1 cap n (upd f j x)) b) : gx_X F M d Q pc L (.int x :: .int (nI j) :: .ref (h + 1) :: st) (gx_raw w h 1 cap n f) b :=
  gx_iast hdg gx_raw_h1 hj hn (gx_w gx_raw_f k)
/-! calls -/
theorem gx_np.use {Mc : gx_M} {n : Nat} (h : gx_np Mc n) : ∀ sig, parseMethodDescriptor Mc.1.desc = some sig → n = sig.parameters.length := fun sig hs => by
  unfold gx_np at h
  rw [hs] at h
  exact (Option.some.inj h).symm
theorem gx_pay {Mc : gx_M} {s : State} {args : Array Value} (hts : ∀ w ∈ gx_T, w.before args s = true) (hs : gx_cs Mc) : ∀ w ∈ gx_ws Mc, ∀ (a' : Array Value) (U : State), s.WarmedH U.vm → w.before a' U = true := by
  intro w hw a' U hW
  rcases List.mem_cons.mp hw with h | h
  · subst h
    exact word_at hW (gx_T_good hs.1) (hts _ hs.1)
  · exact word_at hW (gx_T_good h) (hts _ h)
theorem gx_blind {N : gx_N} {as : List Value} {w : gx_W} : FrameBlind (va_Pc as (fun U => gx_Wd N w U.heap ∧ gx_Kn N U)) := fun a U g mk q => ⟨q.1, q.2.1, gx_Kn.same (u := U) (U := U.calling g mk a) rfl q.2.2⟩
/-- behind a call -/
theorem gx_back {as : List Value} {mc ms : Nat} {Q' : Option Value → gx_W → Prop}
    (h : ∀ {p : Program} {l : Launch} {e : Env} {R : Room} {s : State} {m : MethodId} {args : Array Value} {below : List Frame} {meth : Method} {c : Code} {H : Heap} {locs : List Loc} {cells slots : Nat} {ls : Array Slot} {N : gx_N} {A : Nat → Prop},
      gx_V F M d R p l s m args meth c N A → ls.size = M.2.2.1 → gx_Wd N w H → cells + mc ≤ R.cells → slots + ms ≤ R.slots → va_Run p l e R s m args below meth c H locs cells slots mc ms (F0 m pc ls st) rest (gx_Qc N (gx_A w) (gx_nt Q') as.toArray) (gx_A w))
    (hb : mc ≤ b.1 ∧ ms ≤ b.2) (k : ∀ r w', Q' r w' → gx_X F M d Q (pc + 3) L (r.toList ++ rest) w' (b.1 - mc, b.2 - ms)) : gx_X F M d Q pc L st w b :=
  fun p l e R s m args below meth c H locs cells slots ls N A V hl hw hS hd hc hs => by
  intro T hT X
  obtain ⟨v, st₀, t, T', Lc, h0, X', hL, e1, e2, ⟨hor, hz, hkeep⟩, stp⟩ := h V hl.1 hw (by omega) (by omega) T hT X
  have hor' : ∃ (r : Option Value) (w' : gx_W), Outcome.returned v = .returned r ∧ Q' r w' ∧ gx_Wd N w' t.heap ∧ ∀ q, gx_cv w' q → gx_A w q := by
    rcases hor with h1 | ⟨_, _, _, _, hF, _⟩
    · exact h1
    · exact hF.elim
  obtain ⟨r, w', hv, hq, hw', hcv⟩ := hor'
  cases hv
  have hA := V.2.2.2.2.2.2.2.2.2.2.2.1
  have hsz : H.size = w.2 := hw.1
  have hup : ∀ q, gx_A w q → A q := fun q hq => by
    rcases hq with h1 | h1
    · exact hd q h1
    · exact hA q (Nat.le_trans hS.1 (by omega))
  rw [h0] at hz hkeep
  have hS' : va_S A s.heap T'.heap (locs ++ Lc) := ⟨Nat.le_trans hS.1 (by rw [e1]; exact hz), fun q h1 h2 => by
    rw [e1, hkeep q (Nat.lt_of_lt_of_le h1 hS.1) (fun h3 => h2 (hup q h3))]
    exact hS.2.1 q h1 h2, fun q hq => by
      rcases List.mem_append.mp hq with h1 | h1
      · exact hS.2.2 q h1
      · exact hup _ (hL q h1)⟩
  obtain ⟨t2, a1, b1⟩ := k v w' hq p l e R s m args below meth c T'.heap (locs ++ Lc) (cells + mc) (slots + ms) ls N A V hl (by rw [e1]; exact hw') hS' (fun q hq2 => hup q (hcv q hq2)) (by show cells + mc + (b.1 - mc) ≤ _; omega) (by show slots + ms + (b.2 - ms) ≤ _; omega) T' rfl X'
  exact ⟨t2, stp t2 a1, b1⟩
def gx_rc (w : gx_W) (a ci : Nat) : Prop := (∃ fs, w.1 a = some (gx_ob ci fs)) ∨ ∃ cap l, w.1 a = some (gx_bx ci cap l)
theorem gx_rc.cell {N : gx_N} {w : gx_W} {H : Heap} {a ci : Nat} {q : vw_C} {s : State} (hw : gx_Wd N w H) (hK : gx_Kn N s) (h : gx_rc w a ci) (hc : gx_cl[ci]? = some q) : ∃ cell : Cell, H[a]? = some cell ∧ cell.vm.isStatics = false ∧ s.vm.findClass q.1 = some cell.cls := by
  rcases h with ⟨fs, h⟩ | ⟨cap, l, h⟩
  · exact va_recv (ws := [(a, .inr (ci, fs))]) hK.1 (gx_P1 (show va_at N.1 gx_cl (a, .inr (ci, fs)) H from (hw.2.2.2.1 a _ h).2)) hc (q0 := 0) rfl
  · obtain ⟨f, -, -, ho, -⟩ := (hw.2.2.2.1 a _ h).2
    exact va_recv hK.1 (gx_P1 ho) hc (q0 := 0) rfl
theorem gx_callV {Mc : gx_M} {idx d' mc ms n ci a : Nat} {as : List Value} {Q' : Option Value → gx_W → Prop} (hS : gx_lV M.1.cls idx Mc n ci) (hdg : decode M.2.1 pc = .ok (.invokevirtual idx, 3)) (hC : gx_Ct Mc d' mc ms (.ref a :: as) w Q') (hrc : gx_rc w a ci) (hd' : d' + 1 ≤ d) (hn : as.length = n) (hst : st = as.reverse ++ .ref a :: rest) (hrm : (rest.map fun v => v.category).sum ≤ 8) (hbb : mc ≤ b.1 ∧ ms ≤ b.2) (k : ∀ r w', Q' r w' → gx_X F M d Q (pc + 3) L (r.toList ++ rest) w' (b.1 - mc, b.2 - ms)) : gx_X F M d Q pc L st w b := gx_back (as := .ref a :: as) (fun V hl hw hc hs => by
  obtain ⟨hx, hb, hml, hr, hlk, hown, hnm, hts, hK, hfr, hlo, hA, hF⟩ := V
  obtain ⟨hcs, hln, hnp, hin, hse, T, kk, hcl⟩ := hS
  have hpre := gx_rc.cell hw hK hrc hcl
  have h40 := hcs.2.2.2
  rcases hln with hln | ⟨host, hln⟩
  · exact va_runV (C := Mc.1.cls) (bytes := Mc.2.1) (maxL := Mc.2.2.1) (ret := Mc.2.2.2) (n := n) (nL := M.2.2.1) (Ts := gx_T) ⟨hx, hb, hml, hown, hts⟩ (hC _ _ hF.2.1) ⟨⟨rfl, rfl, by show d' + 1 ≤ _; omega, by show 8 + (Mc.2.2.1 + 11) + 32 * d' ≤ _; omega, gx_pay hts hcs, List.mem_cons_self, hts _ hcs.1, hts _ hcs.2.1, hcs.2.2.1, hnp.use, hts _ hln⟩, hts _ hin, hts _ hse⟩ ⟨gx_blind, hpre, fun U hU hW => ⟨rfl, by rw [hU]; exact hw, hK.moved hW⟩⟩ rfl hn hl hst (lv_room hrm) hdg ⟨hc, hs⟩
  · exact va_runVN (C := Mc.1.cls) (bytes := Mc.2.1) (maxL := Mc.2.2.1) (ret := Mc.2.2.2) (n := n) (nL := M.2.2.1) (Ts := gx_T) ⟨hx, hb, hml, hown, hts⟩ (hC _ _ hF.2.1) ⟨⟨⟨rfl, rfl, by show d' + 1 ≤ _; omega, by show 8 + (Mc.2.2.1 + 11) + 32 * d' ≤ _; omega, gx_pay hts hcs, List.mem_cons_self⟩, hts _ hcs.1, hts _ hcs.2.1, hcs.2.2.1, hnp.use, va_Nw.use rfl (hK.2.2.1 _ hln)⟩, hts _ hin, hts _ hse⟩ ⟨gx_blind, hpre, fun U hU hW => ⟨rfl, by rw [hU]; exact hw, hK.moved hW⟩⟩ rfl hn hl hst (lv_room hrm) hdg ⟨hc, hs⟩) hbb k
theorem gx_callS {Mc : gx_M} {idx d' mc ms n : Nat} {as : List Value} {Q' : Option Value → gx_W → Prop} (hS : gx_lS M.1.cls idx Mc n) (hdg : decode M.2.1 pc = .ok (.invokestatic idx, 3)) (hC : gx_Ct Mc d' mc ms as w Q') (hd' : d' + 1 ≤ d) (hn : as.length = n) (hst : st = as.reverse ++ rest) (hrm : (rest.map fun v => v.category).sum ≤ 8) (hbb : mc ≤ b.1 ∧ ms ≤ b.2) (k : ∀ r w', Q' r w' → gx_X F M d Q (pc + 3) L (r.toList ++ rest) w' (b.1 - mc, b.2 - ms)) : gx_X F M d Q pc L st w b := gx_back (as := as) (fun V hl hw hc hs => by
  obtain ⟨hx, hb, hml, hr, hlk, hown, hnm, hts, hK, hfr, hlo, hA, hF⟩ := V
  obtain ⟨hcs, hln, hnp, hst2⟩ := hS
  have h40 := hcs.2.2.2
  rcases hln with hln | ⟨host, hln⟩
  · exact va_runS (bytes := Mc.2.1) (maxL := Mc.2.2.1) (ret := Mc.2.2.2) (n := n) (nL := M.2.2.1) (Ts := gx_T) ⟨hx, hb, hml, hown, hts⟩ (hC _ _ hF.2.1) ⟨⟨rfl, rfl, by show d' + 1 ≤ _; omega, by show 8 + (Mc.2.2.1 + 11) + 32 * d' ≤ _; omega, gx_pay hts hcs, List.mem_cons_self, hts _ hcs.1, hts _ hcs.2.1, hcs.2.2.1, hnp.use, hts _ hln⟩, hts _ hst2⟩ ⟨gx_blind, fun U hU hW => ⟨rfl, by rw [hU]; exact hw, hK.moved hW⟩⟩ rfl hn hl hst (lv_room hrm) hdg ⟨hc, hs⟩
  · exact va_runSN (bytes := Mc.2.1) (maxL := Mc.2.2.1) (ret := Mc.2.2.2) (n := n) (nL := M.2.2.1) (Ts := gx_T) ⟨hx, hb, hml, hown, hts⟩ (hC _ _ hF.2.1) ⟨⟨⟨rfl, rfl, by show d' + 1 ≤ _; omega, by show 8 + (Mc.2.2.1 + 11) + 32 * d' ≤ _; omega, gx_pay hts hcs, List.mem_cons_self⟩, hts _ hcs.1, hts _ hcs.2.1, hcs.2.2.1, hnp.use, va_Nw.use rfl (hK.2.2.1 _ hln)⟩, hts _ hst2, trivial⟩ ⟨gx_blind, fun U hU hW => ⟨rfl, by rw [hU]; exact hw, hK.moved hW⟩⟩ rfl hn hl hst (lv_room hrm) hdg ⟨hc, hs⟩) hbb k
theorem gx_callI {Mc : gx_M} {idx d' mc ms n a : Nat} {as : List Value} {Q' : Option Value → gx_W → Prop} (hS : gx_lI M.1.cls idx Mc n) (hdg : decode M.2.1 pc = .ok (.invokespecial idx, 3)) (hC : gx_Ct Mc d' mc ms (.ref a :: as) w Q') (hd' : d' + 1 ≤ d) (hn : as.length = n) (hst : st = as.reverse ++ .ref a :: rest) (hrm : (rest.map fun v => v.category).sum ≤ 8) (hbb : mc ≤ b.1 ∧ ms ≤ b.2) (k : ∀ r w', Q' r w' → gx_X F M d Q (pc + 3) L (r.toList ++ rest) w' (b.1 - mc, b.2 - ms)) : gx_X F M d Q pc L st w b := gx_back (as := .ref a :: as) (fun V hl hw hc hs => by
  obtain ⟨hx, hb, hml, hr, hlk, hown, hnm, hts, hK, hfr, hlo, hA, hF⟩ := V
  obtain ⟨hcs, hln, hnp, hin, hini, hnone⟩ := hS
  have h40 := hcs.2.2.2
  have hmem : Cond.code Mc.1 Mc.2.1 Mc.2.2.1 none ∈ gx_ws Mc := by
    rw [← hnone]; exact List.mem_cons_self
  have hcode := hts _ hcs.1
  rw [hnone] at hcode
  rcases hln with hln | ⟨host, hln⟩
  · exact va_runI (bytes := Mc.2.1) (maxL := Mc.2.2.1) (n := n) (nL := M.2.2.1) (Ts := gx_T) ⟨hx, hb, hml, hown, hts⟩ (hC _ _ hF.2.1) ⟨⟨rfl, rfl, by show d' + 1 ≤ _; omega, by show 8 + (Mc.2.2.1 + 11) + 32 * d' ≤ _; omega, gx_pay hts hcs, hmem, hcode, hts _ hcs.2.1, hcs.2.2.1, hnp.use, hts _ hln⟩, hini, hts _ hin⟩ ⟨gx_blind, fun U hU hW => ⟨rfl, by rw [hU]; exact hw, hK.moved hW⟩⟩ rfl hn hl hst (lv_room hrm) hdg ⟨hc, hs⟩
  · exact va_runIN (bytes := Mc.2.1) (maxL := Mc.2.2.1) (n := n) (nL := M.2.2.1) (Ts := gx_T) ⟨hx, hb, hml, hown, hts⟩ (hC _ _ hF.2.1) ⟨⟨⟨rfl, rfl, by show d' + 1 ≤ _; omega, by show 8 + (Mc.2.2.1 + 11) + 32 * d' ≤ _; omega, gx_pay hts hcs, hmem⟩, hcode, hts _ hcs.2.1, hcs.2.2.1, hnp.use, va_Nw.use rfl (hK.2.2.1 _ hln)⟩, hini, hts _ hin⟩ ⟨gx_blind, fun U hU hW => ⟨rfl, by rw [hU]; exact hw, hK.moved hW⟩⟩ rfl hn hl hst (lv_room hrm) hdg ⟨hc, hs⟩) hbb k
/-! new cells -/
theorem gx_new {idx ci n b1 b2 : Nat} {fs : List Value} (hf : gx_nw M.1.cls idx ci n fs) (hdg : decode M.2.1 pc = .ok (.new idx, 3)) (k : gx_X F M d Q (pc + 3) L (.ref w.2 :: st) (gx_al w (gx_ob ci fs)) (b1, b2)) : gx_X F M d Q pc L st w (b1 + 1, b2 + n) := fun p l e R s m args below meth c H locs cells slots ls N A V hl hw hS hd hc hs => by
  have V0 := V
  obtain ⟨hx, hb, hml, hr, hlk, hown, hnm, hts, hK, hfr, hlo, hA, hF⟩ := V
  obtain ⟨C, T, ty, h1, h2, h3, h4, h5, h6, h7⟩ := hf
  have hKn := hK.1.1 ci _ h1
  have hsz : H.size = w.2 := hw.1
  have hc' : cells + (b1 + 1) ≤ R.cells := hc
  have hs' : slots + (b2 + n) ≤ R.slots := hs
  refine W.newcK hx hb hown (hts _ h3) (hts _ h4) (hts _ h5) rfl hdg (by omega) (by omega) hKn.2.1 hsz fun H1 kC hkC e1 z1 o1 => ?_
  refine k p l e R s m args below meth c H1 locs (cells + 1) (slots + n) ls N A V0 hl (hw.al rfl ⟨_, h1, (u_born ty hts h2 hKn hkC e1 h6).to h7⟩ (by rw [z1, hsz]) (fun q hq => o1 q (by rw [← hsz]; exact hq))) ⟨Nat.le_trans hS.1 (by omega), fun x g1 g2 => (o1 x (by have := hS.1; omega)).trans (hS.2.1 x g1 g2), hS.2.2⟩ (fun q hq => ?_) (by show cells + 1 + b1 ≤ _; omega) (by show slots + n + b2 ≤ _; omega)
  rcases gx_cv.al rfl hq with h | h
  · exact hd q h
  · exact hA q (by have := hS.1; omega)
theorem gx_newa {atype : ArrayType} {kd n b1 b2 : Nat} {ty : FieldType} {x : vp_A} (hty : newarray.typeOf atype = ty) (hkd : ∀ N : gx_N, (gx_ta N)[kd]? = some (N.2.1 kd, ty)) (hra : ∀ (s : State) (cA : ClassId), va_RA s cA ty → s.vm.findClass ("[" ++ ty.toString) = some cA) (hxc : ∀ cA : ClassId, vp_cell cA x = arrV cA n (fun _ => defaultValue ty)) (hac : Cond.arrayClass ty ∈ gx_T) (hn : n < 2 ^ 31) (hby : n * componentBytes ty ≤ 536870912) (hdg : decode M.2.1 pc = .ok (.newarray atype, 2)) (k : gx_X F M d Q (pc + 2) L (.ref w.2 :: st) (gx_al w (.inl (kd, x))) (b1, b2)) : gx_X F M d Q pc L (.int (nI n) :: st) w (b1 + 1, b2 + n) := fun p l e R s m args below meth c H locs cells slots ls N A V hl hw hS hd hc hs => by
  subst hty
  have V0 := V
  obtain ⟨hx, hb, hml, hr, hlk, hown, hnm, hts, hK, hfr, hlo, hA, hF⟩ := V
  have hsz : H.size = w.2 := hw.1
  have hc' : cells + (b1 + 1) ≤ R.cells := hc
  have hs' : slots + (b2 + n) ≤ R.slots := hs
  refine va_newaK hx hb (hts _ hac) rfl hdg rfl (nI_pos hn) (nI_clamp hn) hby (by omega) (by omega) hsz fun H1 cA e1 z1 o1 hAr hNm => ?_
  have hcA : N.2.1 kd = cA := by
    have h1 := hra _ _ (hK.1.2 kd _ (hkd N)).2
    exact Option.some.inj (h1.symm.trans hNm)
  refine k p l e R s m args below meth c H1 locs (cells + 1) (slots + n) ls N A V0 hl (hw.al rfl (by show H1[w.2]? = some (vp_cell _ _); rw [hxc, hcA]; exact e1) (by rw [z1, hsz]) (fun q hq => o1 q (by rw [← hsz]; exact hq))) ⟨Nat.le_trans hS.1 (by omega), fun x g1 g2 => (o1 x (by have := hS.1; omega)).trans (hS.2.1 x g1 g2), hS.2.2⟩ (fun q hq => ?_) (by show cells + 1 + b1 ≤ _; omega) (by show slots + n + b2 ≤ _; omega)
  rcases gx_cv.al rfl hq with h | h
  · exact hd q h
  · exact hA q (by have := hS.1; omega)
theorem gx_anew {kd idx n b1 b2 : Nat} {C : String} (hkd : ∀ N : gx_N, (gx_ta N)[kd]? = some (N.2.1 kd, .object C)) (hcl : Cond.classLink M.1.cls idx C ∈ gx_T) (hao : ∀ (N : gx_N) (U : State), gx_Kn N U → va_AO C U) (hn : n < 2 ^ 31) (hby : n * 4 ≤ 536870912) (hdg : decode M.2.1 pc = .ok (.anewarray idx, 3)) (k : gx_X F M d Q (pc + 3) L (.ref w.2 :: st) (gx_al w (gx_ar kd n (fun _ => none))) (b1, b2)) : gx_X F M d Q pc L (.int (nI n) :: st) w (b1 + 1, b2 + n) := fun p l e R s m args below meth c H locs cells slots ls N A V hl hw hS hd hc hs => by
  have V0 := V
  obtain ⟨hx, hb, hml, hr, hlk, hown, hnm, hts, hK, hfr, hlo, hA, hF⟩ := V
  have hsz : H.size = w.2 := hw.1
  have hcn := nI_clamp hn
  have hc' : cells + (b1 + 1) ≤ R.cells := hc
  have hs' : slots + (b2 + n) ≤ R.slots := hs
  refine W.anew hx hb hown (hts _ hcl) (va_AO.use (hao N s hK)) rfl hdg rfl (nI_pos hn) (by rw [hcn]; exact hby) (by omega) (by rw [hcn]; omega) fun cA kA comp f1 f2 f3 f4 => ?_
  have hcA : N.2.1 kd = cA := by
    obtain ⟨-, -, -, -, -, h1⟩ := (hK.1.2 kd _ (hkd N)).2
    exact Option.some.inj (h1.symm.trans f1)
  rw [hcn]
  have e1 : (H.push ({ cls := cA, slots := Array.replicate n .null, vm := .none } : Cell))[w.2]? = some (arrV cA n (fun _ => .null)) := by rw [← hsz, Array.getElem?_push_size, ← arrV_new]
  have o1 : ∀ q : Nat, q < H.size → (H.push ({ cls := cA, slots := Array.replicate n .null, vm := .none } : Cell))[q]? = H[q]? := fun q hq => by rw [Array.getElem?_push, if_neg (Nat.ne_of_lt hq)]
  have z1 : (H.push ({ cls := cA, slots := Array.replicate n .null, vm := .none } : Cell)).size = H.size + 1 := Array.size_push ..
  generalize H.push ({ cls := cA, slots := Array.replicate n .null, vm := .none } : Cell) = H1 at e1 o1 z1 ⊢
  rw [hsz]
  refine k p l e R s m args below meth c H1 locs (cells + 1) (slots + n) ls N A V0 hl (hw.al rfl (by show H1[w.2]? = some (vp_cell _ _); rw [vp_cell_q, hcA]; exact e1) z1 o1) ⟨Nat.le_trans hS.1 (by omega), fun x g1 g2 => (o1 x (by have := hS.1; omega)).trans (hS.2.1 x g1 g2), hS.2.2⟩ (fun q hq => ?_) (by show cells + 1 + b1 ≤ _; omega) (by show slots + n + b2 ≤ _; omega)
  rcases gx_cv.al rfl hq with h | h
  · exact hd q h
  · exact hA q (by have := hS.1; omega)
theorem gx_aast {a n j v kd ci : Nat} {f : Nat → Option Nat} {r : vw_C} (hdg : decode M.2.1 pc = .ok (.aastore, 1)) (hkd : ∀ N : gx_N, (gx_ta N)[kd]? = some (N.2.1 kd, .object r.1)) (hcl : gx_cl[ci]? = some r) (hw0 : w.1 a = some (gx_ar kd n f)) (hv : gx_rc w v ci) (hj : j < n) (hn : n < 2 ^ 31) (k : gx_X F M d Q (pc + 1) L st (gx_st w a (gx_ar kd n (va_up f j (some v)))) b) : gx_X F M d Q pc L (.ref v :: .int (nI j) :: .ref a :: st) w b := fun p l e R s m args below meth c H locs cells slots ls N A V hl hw hS hd hc hs => by
  have V0 := V
  obtain ⟨hx, hb, hml, hr, hlk, hown, hnm, hts, hK, hfr, hlo, hA, hF⟩ := V
  have hcn := nI_clamp (show j < 2 ^ 31 by omega)
  have hcls := (hK.1.1 ci r hcl).2
  obtain ⟨cellV, g1, g3, g2⟩ := gx_rc.cell hw hK hv hcl
  have g2' : cellV.cls = N.1.1 ci := (Option.some.inj (g2.symm.trans hcls.1))
  obtain ⟨kA, comp, k1, k2, k3, -⟩ := (hK.1.2 kd _ (hkd N)).2
  have hcomp : comp = N.1.1 ci := Option.some.inj (k3.symm.trans hcls.1)
  subst hcomp
  obtain ⟨kC, hkC, -⟩ := hcls.2
  refine W.aast hx hb (hw.2.2.2.1 a _ hw0).2 (fun q h => by cases h) (fun h => by cases h) k1 k2 rfl hkC ⟨nI_pos (by omega), by show _ < (arrV _ _ _).slots.size; rw [arrV_size, hcn]; exact hj⟩ g1 (fun q h => by rw [h] at g3; cases g3) (by rw [g2']; exact hkC) (by rw [g2']; exact va_assign hcls) rfl rfl hdg fun H1 e1 z oq => ?_
  have hi : gx_is N a (gx_ar kd n (va_up f j (some v))) H1 := by
    show H1[a]? = some (vp_cell _ _)
    rw [e1, vp_cell_q, vp_cell_q, arrV_store, hcn]
    congr 2
    funext q
    by_cases hq : q = j
    · subst hq; simp [updV, va_up, va_rf]
    · simp [updV, va_up, hq]
  exact k p l e R s m args below meth c H1 _ cells slots ls N A V0 hl (hw.put hw0 rfl rfl hi z oq) (hS.put z oq (hd a (Or.inl ⟨_, hw0⟩))) (fun q hq => hd q (gx_cv.st hw0 (fun h => by cases h) hq)) hc hs
/-! calls of the library -/
theorem gx_objInit {idx a : Nat} (hf : gx_lO M.1.cls idx) (hd1 : 1 ≤ d) (hrm : (st.map fun v => v.category).sum + 12 ≤ 32 * d) (hdg : decode M.2.1 pc = .ok (.invokespecial idx, 3)) (k : gx_X F M d Q (pc + 3) L st w b) : gx_X F M d Q pc L (.ref a :: st) w b := gx_go (fun V hl _ k => by
  obtain ⟨hx, hb, hml, hr, hlk, hown, hnm, hts, hK, hfr, hlo, hA, hF⟩ := V
  exact W.objInit hx hb hown (hts _ hf.1) (hts _ hf.2.1) (hts _ hf.2.2) rfl (by rw [hml]; exact hl.1) rfl hdg (by omega) (by show 2 * 0 + _ + 12 ≤ _; omega) k) k
theorem gx_min {idx : Nat} {x y : Int32} (hf : gx_lM M.1.cls idx Lib.Math.min.name Lib.Math.min.code) (hd1 : 1 ≤ d) (hrm : (st.map fun v => v.category).sum + 13 ≤ 32 * d) (hdg : decode M.2.1 pc = .ok (.invokestatic idx, 3)) (k : gx_X F M d Q (pc + 3) L (.int (if y < x then y else x) :: st) w b) : gx_X F M d Q pc L (.int y :: .int x :: st) w b := fun p l e R s m args below meth c H locs cells slots ls N A V hl hw hS hd hc hs => by
  have V0 := V
  obtain ⟨hx, hb, hml, hr, hlk, hown, hnm, hts, hK, hfr, hlo, hA, hF⟩ := V
  exact va_mmin hx hb (by rw [hml]; exact hl.1.symm) hown (hts _ hf.1) (hts _ hf.2.1) (hts _ hf.2.2.1) (hts _ hf.2.2.2) (by omega) (by omega) (by omega) (by omega) hdg (k p l e R s m args below meth c H locs cells slots ls N A V0 hl hw hS hd hc hs)
theorem gx_max {idx : Nat} {x y : Int32} (hf : gx_lM M.1.cls idx Lib.Math.max.name Lib.Math.max.code) (hd1 : 1 ≤ d) (hrm : (st.map fun v => v.category).sum + 13 ≤ 32 * d) (hdg : decode M.2.1 pc = .ok (.invokestatic idx, 3)) (k : gx_X F M d Q (pc + 3) L (.int (if x < y then y else x) :: st) w b) : gx_X F M d Q pc L (.int y :: .int x :: st) w b := fun p l e R s m args below meth c H locs cells slots ls N A V hl hw hS hd hc hs => by
  have V0 := V
  obtain ⟨hx, hb, hml, hr, hlk, hown, hnm, hts, hK, hfr, hlo, hA, hF⟩ := V
  exact va_mmax hx hb (by rw [hml]; exact hl.1.symm) hown (hts _ hf.1) (hts _ hf.2.1) (hts _ hf.2.2.1) (hts _ hf.2.2.2) (by omega) (by omega) (by omega) (by omega) hdg (k p l e R s m args below meth c H locs cells slots ls N A V0 hl hw hS hd hc hs)
theorem gx_lcmp {x y : Int64} (hdg : decode M.2.1 pc = .ok (.lcmp, 1)) (k : gx_X F M d Q (pc + 1) L (.int (lg_cmp x y) :: st) w b) : gx_X F M d Q pc L (.long y :: .long x :: st) w b := gx_go (fun V _ _ k => W.lcmp V.1 V.2.1 hdg k) k
theorem gx_ldc2 {idx : Nat} {v : Int64} (hf : Cond.constantLong M.1.cls idx v ∈ gx_T) (hdg : decode M.2.1 pc = .ok (.ldc2_w idx, 3)) (k : gx_X F M d Q (pc + 3) L (.long v :: st) w b) : gx_X F M d Q pc L st w b := gx_go (fun V _ _ k => by
  obtain ⟨hx, hb, hml, hr, hlk, hown, hnm, hts, hK, hfr, hlo, hA, hF⟩ := V
  exact lv_ldc2 hx hb hown (hts _ hf) hdg k) k
/-! numbers that are natural -/
theorem gx_iaddN {x y : Nat} (hdg : decode M.2.1 pc = .ok (.iadd, 1)) (k : gx_X F M d Q (pc + 1) L (.int (nI (x + y)) :: st) w b) : gx_X F M d Q pc L (.int (nI y) :: .int (nI x) :: st) w b := gx_iadd hdg (gx_top (nI_add x y) k)
theorem gx_isubN {x y : Nat} (h : y ≤ x) (hdg : decode M.2.1 pc = .ok (.isub, 1)) (k : gx_X F M d Q (pc + 1) L (.int (nI (x - y)) :: st) w b) : gx_X F M d Q pc L (.int (nI y) :: .int (nI x) :: st) w b := gx_isub hdg (gx_top (pk_sub h) k)
theorem gx_imulN {x y : Nat} (hdg : decode M.2.1 pc = .ok (.imul, 1)) (k : gx_X F M d Q (pc + 1) L (.int (nI (x * y)) :: st) w b) : gx_X F M d Q pc L (.int (nI y) :: .int (nI x) :: st) w b := gx_imul hdg (gx_top (pk_mul x y) k)
theorem gx_idivN {x y : Nat} (hx : x < 2 ^ 31) (h0 : 0 < y) (hy : y < 2 ^ 31) (hdg : decode M.2.1 pc = .ok (.idiv, 1)) (k : gx_X F M d Q (pc + 1) L (.int (nI (x / y)) :: st) w b) : gx_X F M d Q pc L (.int (nI y) :: .int (nI x) :: st) w b := gx_idiv hdg (nI_ne0 h0 hy) (gx_top (pk_div hx h0 hy) k)
theorem gx_iremN {x y : Nat} (hx : x < 2 ^ 31) (h0 : 0 < y) (hy : y < 2 ^ 31) (hdg : decode M.2.1 pc = .ok (.irem, 1)) (k : gx_X F M d Q (pc + 1) L (.int (nI (x % y)) :: st) w b) : gx_X F M d Q pc L (.int (nI y) :: .int (nI x) :: st) w b := gx_irem hdg (nI_ne0 h0 hy) (gx_top (pk_rem hx h0 hy) k)
theorem gx_i2cN {x : Nat} (hx : x < 65536) (hdg : decode M.2.1 pc = .ok (.i2c, 1)) (k : gx_X F M d Q (pc + 1) L (.int (nI x) :: st) w b) : gx_X F M d Q pc L (.int (nI x) :: st) w b := gx_i2c hdg (gx_top (by rw [pk_char, pk_tn (by omega), Nat.mod_eq_of_lt hx]) k)
theorem gx_iincN {j x n : Nat} {n' : Int} (hdg : decode M.2.1 pc = .ok (.iinc j n', 3)) (hl0 : L[j]? = some (some (.int (nI x)))) (hv : Int32.ofInt n' = nI n) (hn : j < M.2.2.1) (hc1 : gx_c1 L j = true) (k : gx_X F M d Q (pc + 3) (L.set j (some (.int (nI (x + n))))) st w b) : gx_X F M d Q pc L st w b := gx_iinc hdg hl0 _ (by rw [hv]; exact nI_add x n) hn hc1 k
theorem gx_iincM {j x : Nat} {n' : Int} (hdg : decode M.2.1 pc = .ok (.iinc j n', 3)) (hl0 : L[j]? = some (some (.int (nI (x + 1))))) (hv : Int32.ofInt n' = -1) (hn : j < M.2.2.1) (hc1 : gx_c1 L j = true) (k : gx_X F M d Q (pc + 3) (L.set j (some (.int (nI x)))) st w b) : gx_X F M d Q pc L st w b := gx_iinc hdg hl0 _ (by rw [hv]; exact pk_m1 x) hn hc1 k
theorem gx_icmp_eqN {x y : Nat} {off : Int} {tgt : Nat} (hx : x < 2 ^ 31) (hy : y < 2 ^ 31) (hdg : decode M.2.1 pc = .ok (.if_icmp .eq off, 3)) (ht : (pc : Int) + off = (tgt : Int)) (kt : x = y → gx_X F M d Q tgt L st w b) (kf : ¬ x = y → gx_X F M d Q (pc + 3) L st w b) : gx_X F M d Q pc L (.int (nI y) :: .int (nI x) :: st) w b := gx_icmp_eq hdg ht (fun h => kt ((nI_eq hx hy).mp h)) (fun h => kf (fun g => h ((nI_eq hx hy).mpr g)))
theorem gx_icmp_ltN {x y : Nat} {off : Int} {tgt : Nat} (hx : x < 2 ^ 31) (hy : y < 2 ^ 31) (hdg : decode M.2.1 pc = .ok (.if_icmp .lt off, 3)) (ht : (pc : Int) + off = (tgt : Int)) (kt : x < y → gx_X F M d Q tgt L st w b) (kf : ¬ x < y → gx_X F M d Q (pc + 3) L st w b) : gx_X F M d Q pc L (.int (nI y) :: .int (nI x) :: st) w b := gx_icmp_lt hdg ht (fun h => kt ((nI_ltI hx hy).mp h)) (fun h => kf (fun g => h ((nI_ltI hx hy).mpr g)))
theorem gx_icmp_leN {x y : Nat} {off : Int} {tgt : Nat} (hx : x < 2 ^ 31) (hy : y < 2 ^ 31) (hdg : decode M.2.1 pc = .ok (.if_icmp .le off, 3)) (ht : (pc : Int) + off = (tgt : Int)) (kt : x ≤ y → gx_X F M d Q tgt L st w b) (kf : ¬ x ≤ y → gx_X F M d Q (pc + 3) L st w b) : gx_X F M d Q pc L (.int (nI y) :: .int (nI x) :: st) w b := gx_icmp_le hdg ht (fun h => kt ((nI_leI hx hy).mp h)) (fun h => kf (fun g => h ((nI_leI hx hy).mpr g)))
theorem gx_icmp_neN {x y : Nat} {off : Int} {tgt : Nat} (hx : x < 2 ^ 31) (hy : y < 2 ^ 31) (hdg : decode M.2.1 pc = .ok (.if_icmp .ne off, 3)) (ht : (pc : Int) + off = (tgt : Int)) (kt : ¬ x = y → gx_X F M d Q tgt L st w b) (kf : x = y → gx_X F M d Q (pc + 3) L st w b) : gx_X F M d Q pc L (.int (nI y) :: .int (nI x) :: st) w b := gx_icmp_ne hdg ht (fun h => kt (fun g => h ((nI_eq hx hy).mpr g))) (fun h => kf ((nI_eq hx hy).mp h))
theorem gx_icmp_geN {x y : Nat} {off : Int} {tgt : Nat} (hx : x < 2 ^ 31) (hy : y < 2 ^ 31) (hdg : decode M.2.1 pc = .ok (.if_icmp .ge off, 3)) (ht : (pc : Int) + off = (tgt : Int)) (kt : y ≤ x → gx_X F M d Q tgt L st w b) (kf : ¬ y ≤ x → gx_X F M d Q (pc + 3) L st w b) : gx_X F M d Q pc L (.int (nI y) :: .int (nI x) :: st) w b := gx_icmp_ge hdg ht (fun h => kt ((nI_leI hy hx).mp h)) (fun h => kf (fun g => h ((nI_leI hy hx).mpr g)))
theorem gx_icmp_gtN {x y : Nat} {off : Int} {tgt : Nat} (hx : x < 2 ^ 31) (hy : y < 2 ^ 31) (hdg : decode M.2.1 pc = .ok (.if_icmp .gt off, 3)) (ht : (pc : Int) + off = (tgt : Int)) (kt : y < x → gx_X F M d Q tgt L st w b) (kf : ¬ y < x → gx_X F M d Q (pc + 3) L st w b) : gx_X F M d Q pc L (.int (nI y) :: .int (nI x) :: st) w b := gx_icmp_gt hdg ht (fun h => kt ((nI_ltI hy hx).mp h)) (fun h => kf (fun g => h ((nI_ltI hy hx).mpr g)))
theorem gx_z0 {x : Nat} (hx : x < 2 ^ 31) : nI x = 0 ↔ x = 0 := by
  rw [← nI_0]; exact nI_eq hx (by omega)
theorem gx_if_eqN {x : Nat} {off : Int} {tgt : Nat} (hx : x < 2 ^ 31) (hdg : decode M.2.1 pc = .ok (.ifCond .eq off, 3)) (ht : (pc : Int) + off = (tgt : Int)) (kt : x = 0 → gx_X F M d Q tgt L st w b) (kf : ¬ x = 0 → gx_X F M d Q (pc + 3) L st w b) : gx_X F M d Q pc L (.int (nI x) :: st) w b := gx_if_eq hdg ht (fun h => kt ((gx_z0 hx).mp h)) (fun h => kf (fun g => h ((gx_z0 hx).mpr g)))
theorem gx_if_neN {x : Nat} {off : Int} {tgt : Nat} (hx : x < 2 ^ 31) (hdg : decode M.2.1 pc = .ok (.ifCond .ne off, 3)) (ht : (pc : Int) + off = (tgt : Int)) (kt : ¬ x = 0 → gx_X F M d Q tgt L st w b) (kf : x = 0 → gx_X F M d Q (pc + 3) L st w b) : gx_X F M d Q pc L (.int (nI x) :: st) w b := gx_if_ne hdg ht (fun h => kt (fun g => h ((gx_z0 hx).mpr g))) (fun h => kf ((gx_z0 hx).mp h))
theorem gx_if_ltN {x : Nat} {off : Int} (hx : x < 2 ^ 31) {tgt : Nat} (hdg : decode M.2.1 pc = .ok (.ifCond .lt off, 3)) (ht : (pc : Int) + off = (tgt : Int)) (kf : gx_X F M d Q (pc + 3) L st w b) : gx_X F M d Q pc L (.int (nI x) :: st) w b := gx_if_lt hdg ht (fun h => absurd h (nI_pos hx)) (fun _ => kf)
theorem gx_if_geN {x : Nat} {off : Int} (hx : x < 2 ^ 31) {tgt : Nat} (hdg : decode M.2.1 pc = .ok (.ifCond .ge off, 3)) (ht : (pc : Int) + off = (tgt : Int)) (kt : gx_X F M d Q tgt L st w b) : gx_X F M d Q pc L (.int (nI x) :: st) w b := gx_if_ge hdg ht (fun _ => kt) (fun h => absurd (nI_pos' hx) h)
theorem gx_if_leN {x : Nat} {off : Int} {tgt : Nat} (hx : x < 2 ^ 31) (hdg : decode M.2.1 pc = .ok (.ifCond .le off, 3)) (ht : (pc : Int) + off = (tgt : Int)) (kt : x = 0 → gx_X F M d Q tgt L st w b) (kf : 0 < x → gx_X F M d Q (pc + 3) L st w b) : gx_X F M d Q pc L (.int (nI x) :: st) w b := gx_if_le hdg ht (fun h => kt (Nat.eq_zero_of_not_pos fun g => nI_nle g hx h)) (fun h => kf (Nat.pos_of_ne_zero fun g => h (by rw [g, nI_0]; exact Int32.le_refl 0)))
theorem gx_if_gtN {x : Nat} {off : Int} {tgt : Nat} (hx : x < 2 ^ 31) (hdg : decode M.2.1 pc = .ok (.ifCond .gt off, 3)) (ht : (pc : Int) + off = (tgt : Int)) (kt : 0 < x → gx_X F M d Q tgt L st w b) (kf : x = 0 → gx_X F M d Q (pc + 3) L st w b) : gx_X F M d Q pc L (.int (nI x) :: st) w b := gx_if_gt hdg ht (fun h => kt (Nat.pos_of_ne_zero fun g => by rw [g, nI_0] at h; exact absurd h (by decide))) (fun h => kf (Nat.eq_zero_of_not_pos fun g => h (by rw [← nI_0]; exact nI_lt g hx)))
end GXA
end
section
/-! lists and functions -/
theorem gx_fn_nil {f : Nat → Int32} : gx_fn [] f := fun i h => absurd h (Nat.not_lt_zero i)
theorem gx_gd_app {l k : List Nat} {i : Nat} (h : i < l.length) : (l ++ k).getD i 0 = l.getD i 0 := by
  simp [List.getD_eq_getElem?_getD, List.getElem?_append_left h]
theorem gx_gd_mid {l k : List Nat} {c : Nat} : (l ++ c :: k).getD l.length 0 = c := by
  simp [List.getD_eq_getElem?_getD]
theorem gx_gd_app2 {l k : List Nat} {i : Nat} : (l ++ k).getD (l.length + i) 0 = k.getD i 0 := by
  rw [List.getD_eq_getElem?_getD, List.getElem?_append_right (by omega), List.getD_eq_getElem?_getD, Nat.add_sub_cancel_left]
theorem gx_fn_snoc {l : List Nat} {f : Nat → Int32} {c : Nat} (h : gx_fn l f) : gx_fn (l ++ [c]) (upd f l.length (nI c)) := by
  intro i hi
  rw [List.length_append, List.length_singleton] at hi
  by_cases e : i = l.length
  · subst e; rw [pk_us, gx_gd_mid]
  · rw [pk_un e, h i (by omega), gx_gd_app (by omega)]
theorem gx_gd_take {l : List Nat} {i n : Nat} (h : i < n) : (l.take n).getD i 0 = l.getD i 0 := by
  simp [List.getD_eq_getElem?_getD, h]
theorem gx_gd_mem {l : List Nat} {i : Nat} (h : i < l.length) : l.getD i 0 ∈ l := by
  rw [List.getD_eq_getElem?_getD, List.getElem?_eq_getElem h]
  exact List.getElem_mem h
theorem gx_take_succ {l : List Nat} {n : Nat} (h : n < l.length) : l.take (n + 1) = l.take n ++ [l.getD n 0] := by
  rw [List.take_succ, List.getD_eq_getElem?_getD, List.getElem?_eq_getElem h]
  rfl
theorem gx_ext {l k : List Nat} (h : l.length = k.length) (h2 : ∀ i, i < l.length → l.getD i 0 = k.getD i 0) : l = k := by
  apply List.ext_getElem h
  intro i h3 h4
  have := h2 i h3
  simpa [List.getD_eq_getElem?_getD, List.getElem?_eq_getElem h3, List.getElem?_eq_getElem h4] using this
theorem gx_sm_app {l k : List Nat} (h : gx_sm l) (h2 : gx_sm k) : gx_sm (l ++ k) := fun c hc => (List.mem_append.mp hc).elim (h c) (h2 c)
theorem gx_sm_1 {c : Nat} (h : c < 65536) : gx_sm [c] := fun x hx => by rw [List.mem_singleton.mp hx]; exact h
theorem gx_sm_nil : gx_sm [] := fun _ h => by cases h
theorem gx_sm_at {l : List Nat} (h : gx_sm l) (j : Nat) : l.getD j 0 < 65536 := by
  by_cases hj : j < l.length
  · exact h _ (gx_gd_mem hj)
  · rw [List.getD_eq_getElem?_getD, List.getElem?_eq_none (by omega)]; decide
theorem gx_nc {c : Nat} (h : c < 65536) : narrow .char (.int (nI c)) = .int (nI c) := (pk_charN h).1
theorem gx_gd_ge {l : List Nat} {j : Nat} (h : l.length ≤ j) : l.getD j 0 = 0 := by
  rw [List.getD_eq_getElem?_getD, List.getElem?_eq_none h]; rfl
theorem gx_upd_ge {l : List Nat} {f : Nat → Int32} {j : Nat} {x : Int32} (h : gx_fn l f) (hj : l.length ≤ j) : gx_fn l (upd f j x) := fun i hi => by rw [pk_un (by omega)]; exact h i hi
theorem gx_nz1 : narrow .boolean (.int (nI 1)) = .int (nI 1) := by decide
theorem gx_nz0 : narrow .boolean (.int (nI 0)) = .int (nI 0) := by decide
theorem gx_drop_step {l : List Nat} {i b : Nat} (h : i < b) (hb : b ≤ l.length) : (l.take b).drop i = l.getD i 0 :: (l.take b).drop (i + 1) := by
  have h1 : i < (l.take b).length := by rw [List.length_take]; omega
  rw [List.drop_eq_getElem_cons h1]
  congr 1
  rw [List.getElem_take, List.getD_eq_getElem?_getD, List.getElem?_eq_getElem (by omega)]
  rfl
theorem gx_drop_cons {l : List Nat} {i : Nat} (h : i < l.length) : l.drop i = l.getD i 0 :: l.drop (i + 1) := by
  rw [List.drop_eq_getElem_cons h, List.getD_eq_getElem?_getD, List.getElem?_eq_getElem h]
  rfl
theorem gx_drop_nil {l : List Nat} {i b : Nat} (h : b ≤ i) : (l.take b).drop i = [] := by
  apply List.drop_eq_nil_of_le
  rw [List.length_take]; omega
theorem gx_gd_er {l : List Nat} {p j : Nat} : (l.eraseIdx p).getD j 0 = if j < p then l.getD j 0 else l.getD (j + 1) 0 := by
  rw [List.getD_eq_getElem?_getD, List.getElem?_eraseIdx]
  split <;> rw [List.getD_eq_getElem?_getD]
theorem gx_sm_er {l : List Nat} {p : Nat} (h : gx_sm l) : gx_sm (l.eraseIdx p) := fun c hc => h c (List.mem_of_mem_eraseIdx hc)
theorem gx_sm_take {l : List Nat} {n : Nat} (h : gx_sm l) : gx_sm (l.take n) := fun c hc => h c (List.mem_of_mem_take hc)
def sp_ask (l : List Nat) (i : Int32) : Int32 := if i = -1 then nI l.length else if 0 ≤ i ∧ i < nI l.length then nI (l.getD i.toNatClampNeg 0) else -1
theorem sp_ask_m1 {l : List Nat} : sp_ask l (-1) = nI l.length := by simp [sp_ask]
theorem sp_ask_lt {l : List Nat} {i : Int32} (h : ¬ i = -1) (h2 : i < 0) : sp_ask l i = -1 := by
  unfold sp_ask
  rw [if_neg h, if_neg (fun g => absurd g.1 (by rw [Int32.le_iff_toInt_le]; rw [Int32.lt_iff_toInt_lt] at h2; omega))]
theorem sp_ask_ge {l : List Nat} {i : Int32} (h : ¬ i = -1) (h2 : nI l.length ≤ i) : sp_ask l i = -1 := by
  unfold sp_ask
  rw [if_neg h, if_neg (fun g => absurd g.2 (by rw [Int32.lt_iff_toInt_lt]; rw [Int32.le_iff_toInt_le] at h2; omega))]
theorem sp_ask_in {l : List Nat} {j : Nat} (hj : j < l.length) (hl : l.length < 2 ^ 31) : sp_ask l (nI j) = nI (l.getD j 0) := by
  unfold sp_ask
  have h1 : ¬ nI j = -1 := fun g => by
    have := nI_toInt (show j < 2 ^ 31 by omega)
    rw [g] at this
    have h2 : (-1 : Int32).toInt = -1 := by decide
    omega
  rw [if_neg h1, if_pos ⟨nI_pos' (by omega), nI_lt hj hl⟩, nI_clamp (by omega)]
/-- one of the two is a beginning of the other -/
def sp_agb : List Nat → List Nat → Bool
  | a :: l, b :: k => (a == b) && sp_agb l k
  | _, _ => true
theorem sp_agb_nil {k : List Nat} : sp_agb [] k = true := by unfold sp_agb; rfl
theorem sp_agb_nil2 {l : List Nat} : sp_agb l [] = true := by cases l <;> (unfold sp_agb; rfl)
theorem sp_agb_eq : ∀ {l k : List Nat}, l.length = k.length → (sp_agb l k = true ↔ l = k)
  | [], [], _ => by simp [sp_agb]
  | a :: l, b :: k, h => by
    have ih := sp_agb_eq (l := l) (k := k) (by simpa using h)
    simp [sp_agb, ih]
  | [], b :: k, h => by simp at h
  | a :: l, [], h => by simp at h
def gx_gr (w : gx_W) (n : Nat) : gx_W := (w.1, w.2 + n)
theorem gx_clz {n : Nat} (h : n < 2 ^ 31) : (nI n).toNatClampNeg = n := nI_clamp h
section GXC
variable {F : gx_N → State → Prop} {M : gx_M} {d : Nat} {Q : gx_P} {pc : Nat} {L : List (Option Value)} {st rest : List Value} {w : gx_W} {b : Nat × Nat}
theorem gx_cV1 {Mc : gx_M} {idx d' n ci a : Nat} {as : List Value} {v : Value} {w1 : gx_W} (hS : gx_lV M.1.cls idx Mc n ci) (hdg : decode M.2.1 pc = .ok (.invokevirtual idx, 3)) (hC : gx_Ct Mc d' 0 0 (.ref a :: as) w (gx_eq (some v) w1)) (hrc : gx_rc w a ci) (hd' : d' + 1 ≤ d) (hn : as.length = n) (hst : st = as.reverse ++ .ref a :: rest) (hrm : (rest.map fun v => v.category).sum ≤ 8) (k : gx_X F M d Q (pc + 3) L (v :: rest) w1 b) : gx_X F M d Q pc L st w b := gx_callV hS hdg hC hrc hd' hn hst hrm ⟨Nat.zero_le _, Nat.zero_le _⟩ (fun r w' h => by obtain ⟨rfl, rfl⟩ := h; exact k)
theorem gx_cV0 {Mc : gx_M} {idx d' n ci a : Nat} {as : List Value} {w1 : gx_W} (hS : gx_lV M.1.cls idx Mc n ci) (hdg : decode M.2.1 pc = .ok (.invokevirtual idx, 3)) (hC : gx_Ct Mc d' 0 0 (.ref a :: as) w (gx_eq none w1)) (hrc : gx_rc w a ci) (hd' : d' + 1 ≤ d) (hn : as.length = n) (hst : st = as.reverse ++ .ref a :: rest) (hrm : (rest.map fun v => v.category).sum ≤ 8) (k : gx_X F M d Q (pc + 3) L rest w1 b) : gx_X F M d Q pc L st w b := gx_callV hS hdg hC hrc hd' hn hst hrm ⟨Nat.zero_le _, Nat.zero_le _⟩ (fun r w' h => by obtain ⟨rfl, rfl⟩ := h; exact k)
theorem gx_cVr {Mc : gx_M} {idx d' n ci a : Nat} {as : List Value} {Q' : Option Value → gx_W → Prop} (hS : gx_lV M.1.cls idx Mc n ci) (hdg : decode M.2.1 pc = .ok (.invokevirtual idx, 3)) (hC : gx_Ct Mc d' 0 0 (.ref a :: as) w Q') (hrc : gx_rc w a ci) (hd' : d' + 1 ≤ d) (hn : as.length = n) (hst : st = as.reverse ++ .ref a :: rest) (hrm : (rest.map fun v => v.category).sum ≤ 8) (k : ∀ r w', Q' r w' → gx_X F M d Q (pc + 3) L (r.toList ++ rest) w' b) : gx_X F M d Q pc L st w b := gx_callV hS hdg hC hrc hd' hn hst hrm ⟨Nat.zero_le _, Nat.zero_le _⟩ k
theorem gx_cS1 {Mc : gx_M} {idx d' n : Nat} {as : List Value} {v : Value} {w1 : gx_W} (hS : gx_lS M.1.cls idx Mc n) (hdg : decode M.2.1 pc = .ok (.invokestatic idx, 3)) (hC : gx_Ct Mc d' 0 0 as w (gx_eq (some v) w1)) (hd' : d' + 1 ≤ d) (hn : as.length = n) (hst : st = as.reverse ++ rest) (hrm : (rest.map fun v => v.category).sum ≤ 8) (k : gx_X F M d Q (pc + 3) L (v :: rest) w1 b) : gx_X F M d Q pc L st w b := gx_callS hS hdg hC hd' hn hst hrm ⟨Nat.zero_le _, Nat.zero_le _⟩ (fun r w' h => by obtain ⟨rfl, rfl⟩ := h; exact k)
theorem gx_cS0 {Mc : gx_M} {idx d' n : Nat} {as : List Value} {w1 : gx_W} (hS : gx_lS M.1.cls idx Mc n) (hdg : decode M.2.1 pc = .ok (.invokestatic idx, 3)) (hC : gx_Ct Mc d' 0 0 as w (gx_eq none w1)) (hd' : d' + 1 ≤ d) (hn : as.length = n) (hst : st = as.reverse ++ rest) (hrm : (rest.map fun v => v.category).sum ≤ 8) (k : gx_X F M d Q (pc + 3) L rest w1 b) : gx_X F M d Q pc L st w b := gx_callS hS hdg hC hd' hn hst hrm ⟨Nat.zero_le _, Nat.zero_le _⟩ (fun r w' h => by obtain ⟨rfl, rfl⟩ := h; exact k)
theorem gx_cSr {Mc : gx_M} {idx d' n : Nat} {as : List Value} {Q' : Option Value → gx_W → Prop} (hS : gx_lS M.1.cls idx Mc n) (hdg : decode M.2.1 pc = .ok (.invokestatic idx, 3)) (hC : gx_Ct Mc d' 0 0 as w Q') (hd' : d' + 1 ≤ d) (hn : as.length = n) (hst : st = as.reverse ++ rest) (hrm : (rest.map fun v => v.category).sum ≤ 8) (k : ∀ r w', Q' r w' → gx_X F M d Q (pc + 3) L (r.toList ++ rest) w' b) : gx_X F M d Q pc L st w b := gx_callS hS hdg hC hd' hn hst hrm ⟨Nat.zero_le _, Nat.zero_le _⟩ k
/-- a contract says more than another -/
theorem gx_Ct.weaken {Mc : gx_M} {d' mc ms : Nat} {as : List Value} {Q1 Q2 : Option Value → gx_W → Prop} (h : gx_Ct Mc d' mc ms as w Q1) (hq : ∀ r w', Q1 r w' → Q2 r w') : gx_Ct Mc d' mc ms as w Q2 := by
  intro l N hlt p e ha hc hk s m args below hf happ hP hK
  obtain ⟨n, o, h1, h2, h3, h4, h5⟩ := h l N hlt p e ha hc hk s m args below hf happ hP hK
  refine ⟨n, o, h1, h2, h3, ⟨?_, h4.2⟩, h5⟩
  rcases h4.1 with ⟨r, w', a1, a2, a3⟩ | ⟨_, _, _, _, hF, _⟩
  · exact Or.inl ⟨r, w', a1, hq r w' a2, a3⟩
  · exact hF.elim
/-- nothing lies from the world's end on -/
theorem gx_fr (k : (∀ q, w.2 ≤ q → w.1 q = none) → gx_X F M d Q pc L st w b) : gx_X F M d Q pc L st w b := fun p l e R s m args below meth c H locs cells slots ls N A V hl hw hS hd hc hs => by
  refine k (fun q hq => ?_) p l e R s m args below meth c H locs cells slots ls N A V hl hw hS hd hc hs
  cases hx : w.1 q with
  | none => rfl
  | some x => have := hw.lt hx; omega
theorem gx_newc {n b1 b2 : Nat} (hn : n < 65536) (hdg : decode M.2.1 pc = .ok (.newarray .char, 2)) (k : gx_X F M d Q (pc + 2) L (.ref w.2 :: st) (gx_al w (gx_ai 1 n (fun _ => 0))) (b1, b2)) : gx_X F M d Q pc L (.int (nI n) :: st) w (b1 + 1, b2 + n) := gx_newa (ty := .char) rfl (fun _ => rfl) (fun _ _ h => h) (fun _ => rfl) ac_char (by omega) (by simp [componentBytes]; omega) hdg k
theorem gx_newi {n b1 b2 : Nat} (hn : n < 65536) (hdg : decode M.2.1 pc = .ok (.newarray .int, 2)) (k : gx_X F M d Q (pc + 2) L (.ref w.2 :: st) (gx_al w (gx_ai 0 n (fun _ => 0))) (b1, b2)) : gx_X F M d Q pc L (.int (nI n) :: st) w (b1 + 1, b2 + n) := gx_newa (ty := .int) rfl (fun _ => rfl) (fun _ _ h => h) (fun _ => rfl) ac_int (by omega) (by simp [componentBytes]; omega) hdg k
theorem gx_newz {n b1 b2 : Nat} (hn : n < 65536) (hdg : decode M.2.1 pc = .ok (.newarray .boolean, 2)) (k : gx_X F M d Q (pc + 2) L (.ref w.2 :: st) (gx_al w (gx_ai 2 n (fun _ => 0))) (b1, b2)) : gx_X F M d Q pc L (.int (nI n) :: st) w (b1 + 1, b2 + n) := gx_newa (ty := .boolean) rfl (fun _ => rfl) (fun _ _ h => h) (fun _ => rfl) ac_boolean (by omega) (by simp [componentBytes]; omega) hdg k
theorem gx_newl {n b1 b2 : Nat} (hn : n < 65536) (hdg : decode M.2.1 pc = .ok (.newarray .long, 2)) (k : gx_X F M d Q (pc + 2) L (.ref w.2 :: st) (gx_al w (gx_al8 5 n (fun _ => 0))) (b1, b2)) : gx_X F M d Q pc L (.int (nI n) :: st) w (b1 + 1, b2 + n) := gx_newa (ty := .long) rfl (fun _ => rfl) (fun _ _ h => h) (fun _ => rfl) ac_long (by omega) (by simp [componentBytes]; omega) hdg k
end GXC
end
section
/-! exceptions: made, thrown out of a method, caught in a method of the law -/
/-- the walk as if the method began here: the same room less what is used -/
theorem gx_rebase {p : Program} {l : Launch} {e : Env} {R : Room} {s : State} {m : MethodId} {args : Array Value} {below : List Frame} {meth : Method} {c : Code} {T : State} {locs : List Loc} {cells slots : Nat} (X : Stand p l e R s m args below meth c T locs cells slots) (hc : cells ≤ R.cells) (hs : slots ≤ R.slots) :
    Stand p l e { frames := R.frames, cells := R.cells - cells, slots := R.slots - slots, locals := R.locals } (T.setFrames (.invoking m args :: below)) m args below meth c T [] 0 0 := by
  obtain ⟨g₀, hg₀⟩ := X.frames_eq
  have hcur : T.cur < T.threads.size := State.cur_lt_of_frames hg₀
  have hf : (T.setFrames (.invoking m args :: below)).frames = .invoking m args :: below := State.frames_setFrames _ hcur
  have hm' := X.method'
  have hh := X.heapHas (a := R.cells - cells) (b := R.slots - slots) (by omega) (by omega)
  refine ⟨X.admits, X.cas, X.clock, hf, ?_, ?_, hm', X.code, X.here, X.tail, State.WarmedH.refl _, ?_, ?_, ?_⟩
  · have hr := X.room
    simp only [State.hasRoom, Bool.and_eq_true, decide_eq_true_eq] at hr ⊢
    rw [State.localsInUse_invoking X.frames X.method X.code, X.frames] at hr
    rw [State.localsInUse_invoking hf hm' X.code, hf, State.stackLimits_setFrames, State.stackBytes_setFrames, X.limits, X.bytes]
    exact ⟨⟨⟨hr.1.1.1, hh.1⟩, hh.2⟩, X.book⟩
  · have h1 := X.hears
    have hv : (T.setFrames (.invoking m args :: below)).vm = T.vm := rfl
    cases below with
    | nil => simp only [State.hears] at h1 ⊢; rw [hv, X.warmed.alike.method?]; exact h1
    | cons fr bl =>
      cases fr <;> simp only [State.hears] at h1 ⊢ <;> first
        | (rw [State.code?_eq] at h1 ⊢; rw [hv, X.warmed.alike.method?]; exact h1)
        | (rw [hv, X.warmed.alike.method?]; exact h1)
  · rw [State.stackLimits_setFrames]
  · rw [State.stackBytes_setFrames]
  · obtain ⟨th, hth, -⟩ := State.frames_cons hf
    have h := (State.sameButNew.refl (T.setFrames (.invoking m args :: below)) hth).setFrames T.frames (State.cur_lt_of_frames hf)
    rw [State.setFrames_setFrames] at h
    obtain ⟨th2, hth2, -⟩ := State.frames_cons hg₀
    rw [State.setFrames_self hth2] at h
    exact h
theorem gx_Wd.gr {N : gx_N} {w : gx_W} {H H1 : Heap} (h : gx_Wd N w H) (hz : H1.size = H.size + 1) (ho : ∀ q : Nat, q < H.size → H1[q]? = H[q]?) : gx_Wd N (gx_gr w 1) H1 := by
  obtain ⟨h1, h2, h3, h4, h5⟩ := h
  refine ⟨by rw [hz, h1]; rfl, Nat.le_succ_of_le h2, fun q hq => by rw [ho q (by omega)]; exact h3 q hq, fun q y hq => ?_, fun q y hq hy => h5 q y hq hy⟩
  have h7 := (h4 q y hq).2
  exact ⟨(h4 q y hq).1, h7.kept (ho q h7.lt) (fun hy => ho (q + 1) (h7.lt1 hy))⟩
theorem gx_cellSame {c c' : Cell} (h1 : c' = { c with slots := c'.slots }) (h2 : ∀ i : Nat, c'.slots[i]? = c.slots[i]?) : c' = c := by
  have h3 : c'.slots = c.slots := Array.ext_getElem? (fun i => h2 i)
  rw [h1, h3]
def gx_i1 : Cond := .isRef (.static Bundle.tN "UNASSIGNED_STACK" Bundle.steD)
def gx_i2 : Cond := .isRef (.static Bundle.tN "SUPPRESSED_SENTINEL" Bundle.listD)
def gx_i3 : Cond := .laysStatic Bundle.tN "UNASSIGNED_STACK" Bundle.steD
def gx_i4 : Cond := .laysStatic Bundle.tN "SUPPRESSED_SENTINEL" Bundle.listD
def gx_nms : List String := ["java/lang/RuntimeException", "java/lang/Exception"]
def gx_xa (X : String) (ic : Nat) : Prop := Bundle.fit X = true ∧ ∀ c ∈ Bundle.ownAtoms "PostChain" ic X gx_nms, c ∈ gx_T ∨ c ∈ gx_xf ∨ c = gx_i1 ∨ c = gx_i2 ∨ c = gx_i3 ∨ c = gx_i4
theorem gx_xaA : gx_xa "java/lang/IllegalArgumentException" 80 := ⟨by decide +kernel, by decide +kernel⟩
theorem gx_xaS : gx_xa "java/lang/IllegalStateException" 140 := ⟨by decide +kernel, by decide +kernel⟩
theorem gx_isRef {C n dd : String} {v : RefV} {A : Nat → Prop} {U : State} (h : va_Z C n dd v.v A U U.heap) (a : Array Value) : (Cond.isRef (.static C n dd)).before a U = true := by
  obtain ⟨cf, kf, fi, f, ad, cell, h1, h2, h3, h4, h5, h6, h7, h8⟩ := h
  obtain ⟨v, hv⟩ := v
  have he : (Term.static C n dd).eval a U none [] U = some v := by
    simp [Term.eval, State.fieldNamed?, h1, h2, h4, h5, h6, h7]
  simp only [Cond.before, Cond.holds, Cond.value, he]
  cases v <;> first | rfl | (simp [Value.isRef] at hv)
section GXT
variable {F : gx_N → State → Prop} {M : gx_M} {d : Nat} {Q : gx_P} {pc : Nat} {L : List (Option Value)} {st : List Value} {w : gx_W}
set_option maxHeartbeats 1000000 in
/-- new, dup, the text, the constructor, athrow -/
theorem gx_throw {X tx : String} {i0 ks ic b1 b2 : Nat} (hM : M.1.cls = "PostChain") (hxa : gx_xa X ic) (ht0 : gx_tab M.1 = []) (hd6 : 6 ≤ d) (hcl : Cond.classLink "PostChain" i0 X ∈ gx_T) (hit : Cond.instantiable X 6 ∈ gx_T) (hini : Cond.initialized X ∈ gx_T) (hks : (ks, tx) ∈ gx_xs) (h0 : decode M.2.1 pc = .ok (.new i0, 3)) (h1 : decode M.2.1 (pc + 3) = .ok (.dup, 1)) (h2 : decode M.2.1 (pc + 3 + 1) = .ok (.ldc ks, 2)) (h3 : decode M.2.1 (pc + 3 + 1 + 2) = .ok (.invokespecial ic, 3)) (h4 : decode M.2.1 (pc + 3 + 1 + 2 + 3) = .ok (.athrow, 1)) (hq : Q.2 X (gx_gr w 1)) : gx_X F M d Q pc L [] w (b1 + 1, b2 + 6) := fun p l e R s m args below meth c H locs cells slots ls N A V hl hw hS hd hc hs => by
  obtain ⟨hx, hb, hml, hr, hlk, hown, hnm, hts, hK, hfr, hlo, hA, hF, hlt, hxt, hAo, hso⟩ := V
  have hc' : cells + (b1 + 1) ≤ R.cells := hc
  have hs' : slots + (b2 + 6) ≤ R.slots := hs
  intro T hT Y
  have Y' := gx_rebase Y (by omega) (by omega)
  have hsv : (T.setFrames (.invoking m args :: below)).vm = T.vm := rfl
  have hsh : (T.setFrames (.invoking m args :: below)).heap = H := hT
  have hcurT : T.cur < T.threads.size := by obtain ⟨g₀, hg₀⟩ := Y.frames_eq; exact State.cur_lt_of_frames hg₀
  have hss : ∀ fs, (T.setFrames (.invoking m args :: below)).setFrames fs = T.setFrames fs := fun fs => State.setFrames_setFrames _ _ _
  generalize hs2 : T.setFrames (.invoking m args :: below) = s' at Y' hsv hsh hss
  have hW1 : s.WarmedH s'.vm := by rw [hsv]; exact Y.warmed
  have hK' := hK.moved hW1
  have hts' : ∀ x ∈ gx_T, x.before args s' = true := fun x hx => word_at hW1 (gx_T_good hx) (hts x hx)
  have hown' : s'.vm.findClass "PostChain" = some m.cls := by rw [hW1.alike.findClass, ← hM]; exact hown
  have hold : ∀ q : Nat, q < N.2.2.size → s'.heap[q]? = N.2.2[q]? := fun q hq => by rw [hsh]; exact hw.2.2.1 q hq
  obtain ⟨e1, ⟨v2, e2⟩, ⟨v3, e3⟩, e4, -, -, e8, e9⟩ := hK'.2.2.2.2.2
  have hatoms : ∀ a ∈ Bundle.ownAtoms "PostChain" ic X gx_nms, a.before args s' = true := fun a ha => by
    rcases hxa.2 a ha with g | g | g | g | g | g
    · exact hts' a g
    · exact e1 a g args
    · rw [g]; exact gx_isRef (e2.kept (fun q hq _ => hold q hq)) args
    · rw [g]; exact gx_isRef (e3.kept (fun q hq _ => hold q hq)) args
    · rw [g]; exact e8.word hold args
    · rw [g]; exact e9.word hold args
  obtain ⟨am, hZ⟩ := e4 _ hks
  have htab : c.exceptionTable.toList = [] := by
    have g : c.exceptionTable.toList.map _ = _ := hxt
    rw [ht0] at g
    exact List.map_eq_nil_iff.mp g
  have hWn : W p l e { frames := R.frames, cells := R.cells - cells, slots := R.slots - slots, locals := R.locals } s' m args below meth c H [] 0 0 (fun U => U.status = .running ∧ Ended U below (.threw H.size) ∧ s'.WarmedH U.vm ∧ s'.sameButNew ({ U with vm := s'.vm } : State) [] 1 6 ∧ ∃ ce : Cell, U.heap[H.size]? = some ce ∧ s'.vm.findClass X = some ce.cls ∧ ce.vm = .none) (F0 m pc ls []) := by
    refine W.newc hx hb hown' (hts' _ hcl) (hts' _ hit) (hts' _ hini) rfl h0 (by show 0 + 1 ≤ R.cells - cells; omega) (by show 0 + 6 ≤ R.slots - slots; omega) (fun cC kC g1 g2 g3 g4 => ?_)
    refine lv_dup hx hb h1 rfl ?_
    refine va_ldcS hx hb hown' hZ h2 ?_
    intro T2 hT2 Y2
    obtain ⟨U, st1, hrun, hend, hWU, hsame, ce, hce, hOC⟩ := Y2.ctorThrowS hx (hlt e Y.admits) (own := "PostChain") (cls := X) (names := gx_nms) (ic := ic) hown' hxa.1 (by decide) hatoms (fun x hx => by cases hx) (a := H.size) (cX := cC) (kX := kC) g1 g2 (by rw [hT2]; simp) (by rw [hsh]; exact Nat.le_refl _) (msg := .ref am) rfl (g := F0 m (pc + 3 + 1 + 2) ls [.ref am, .ref H.size, .ref H.size]) rfl (by rw [hml]; exact hl.1) rfl rfl (rest := []) rfl (by rw [hb]; exact h3) (by rw [hb]; exact h4) (by rw [htab]; intro x hx; cases hx) (by show 2 + 3 < R.frames; omega) (by show 2 * 0 + 1 + (13 * (2 + 1) + 42) ≤ R.locals; omega) hlk
    exact ⟨U, st1, hrun, hend, hWU, hsame, ce, hce, hOC.cls, hOC.vm⟩
  obtain ⟨U, st1, hrun, hend, hWU, hsame, ce, hce, hcc, hcv⟩ := hWn T hT Y'
  have hsz : U.heap.size = H.size + 1 := by
    have q1 : U.heap.size ≤ s'.heap.size + 1 := hsame.2.2.1
    have q2 := (Array.getElem?_eq_some_iff.mp hce).1
    rw [hsh] at q1
    omega
  have hkeep : ∀ q : Nat, q < H.size → U.heap[q]? = H[q]? := fun q hq => by
    obtain ⟨cl0, hcl0⟩ : ∃ cl0, s'.heap[q]? = some cl0 := ⟨_, Array.getElem?_eq_getElem (by rw [hsh]; exact hq)⟩
    obtain ⟨c', k1, k2, k3, k4⟩ := hsame.2.2.2.2.2 q cl0 hcl0
    have k5 := gx_cellSame k2 (fun i => k4 i (by simp))
    rw [← hsh, hcl0, ← k5]; exact k1
  have hWT : T.WarmedH U.vm := by
    rw [← hs2] at hWU; exact hWU
  have hsB : T.sameButNew ({ U with vm := T.vm } : State) [] 1 6 := by
    obtain ⟨k1, k2, k3, k4, k5, k6⟩ := hsame
    rw [hsv] at k1 k2 k3 k4 k5 k6
    have hu : s'.slotsUsed = T.slotsUsed := by rw [← hs2]; rfl
    rw [hss] at k1
    have hh : s'.heap = T.heap := by rw [hsh, hT]
    rw [hh] at k2 k3 k4 k5 k6
    rw [hu] at k4
    exact ⟨k1, k2, k3, k4, k5, k6⟩
  refine ⟨U, st1, .threw H.size, hrun, hend, ⟨Or.inr ⟨H.size, X, gx_gr w 1, rfl, hq, ⟨ce, hce, fun k hk => (by rw [hcv] at hk; cases hk), ?_⟩, hw.gr hsz hkeep, fun q hq2 => hd q hq2⟩, ?_⟩, locs, State.WarmedH.trans Y.warmed hWT, ?_, hS.2.2⟩
  · rw [hWT.alike.findClass, ← hsv]; exact hcc
  · refine ⟨by rw [hsz]; exact Nat.le_succ_of_le hS.1, fun q g1 g2 => ?_⟩
    rw [hkeep q (Nat.lt_of_lt_of_le g1 hS.1)]
    exact hS.2.1 q g1 g2
  · have h9 := Y.same.trans (hsB.setVm s.vm)
    rw [List.append_nil] at h9
    exact h9.mono (by omega) (by omega)
end GXT
end
section
/-! calls that are walked into: of a method that throws, of a method that catches -/
section GXK
variable {p : Program} {l : Launch} {e : Env} {R : Room} {s : State} {m : MethodId} {args : Array Value} {below : List Frame} {meth : Method} {c : Code} {T : State} {locs : List Loc} {cells slots : Nat}
/-- the one entry of the method's table takes the exception; its class may be met here for the first time -/
theorem gx_catch (X : Stand p l e R s m args below meth c T locs cells slots) {own name : String} {a : Addr} {g : JFrame} (hg : g.method = m) (hown : s.vm.findClass own = some m.cls) {x : ExceptionTableEntry} (htab : c.exceptionTable.toList = [x]) (hx : x.startPc ≤ g.pc ∧ g.pc < x.endPc) (h0 : x.catchType ≠ 0) (hlink : (Cond.classLink own x.catchType name).before args s = true) {cT : ClassId} (hcT : s.vm.findClass name = some cT) {cell : Cell} (hcell : T.heap[a]? = some cell) (hobj : ∀ k, cell.vm ≠ .statics k) (hfit : s.vm.assignable cell.cls cT = true) :
    ∃ vm', Stand p l e R s m args below meth c (T.setVm vm') locs cells slots ∧ ∀ target, Steps p.tables e below ((T.setVm vm').setTop { g with pc := x.handlerPc, stack := [.ref a] }) target → Steps p.tables e below ((T.setTop g).pushFrame (.throwing a)) target := by
  obtain ⟨c', hc', hcl⟩ := Cond.classLink_spec hown hlink e.platform (by rw [X.admits.platform])
  cases hcT.symm.trans hc'
  obtain ⟨dk, _, _, kt, hdk, _, _, _, _, hkt, _, hopen⟩ := hcl.here
  have hclT := X.warmed.classLinks hcl
  have hWn : s.WarmedH (T.vm.noted m.cls x.catchType (.cls cT)) := X.warmed.noted hdk hopen (State.rightAt_cls hcl)
  refine ⟨_, X.noted hWn, fun target hrest => ?_⟩
  subst hg
  obtain ⟨hgo, hwi⟩ := X.here.throwing a (g := g)
  obtain ⟨g₀, hr⟩ := X.frames_eq
  have hal : T.vm.Alike (T.vm.noted g.method.cls x.catchType (.cls cT)) := (Vm.Alike.refl T.vm).noted _ _ _
  have hfitT : T.vm.assignable cell.cls cT = true := by rw [X.warmed.alike.assignable]; exact hfit
  obtain ⟨kt1, hkt1, -⟩ := X.warmed.alike.2.2 _ _ hkt
  obtain ⟨kc1, hkc1⟩ := Vm.classAt_of_assignable hfitT ⟨kt1, hkt1⟩
  obtain ⟨kt2, hkt2, -⟩ := hal.2.2 _ _ hkt1
  obtain ⟨kc2, hkc2, -⟩ := hal.2.2 _ _ hkc1
  have hfit2 : (T.vm.noted g.method.cls x.catchType (.cls cT)).assignable cell.cls cT = true := by rw [hal.assignable]; exact hfitT
  have hfind : ∀ (Q : Handler → Pre) (E : CtlPost) (d : Bool) (acts : List Action), wp (findHandler g a) Q E e d acts ((T.setTop g).pushFrame (.throwing a)) ↔ Q (.found x.handlerPc) d acts (((T.setTop g).pushFrame (.throwing a)).setVm (T.vm.noted g.method.cls x.catchType (.cls cT))) := by
    intro Q E d acts
    have hv : ((T.setTop g).pushFrame (.throwing a)).vm = T.vm := Stand.throwing_vm T g a
    have hh : ((T.setTop g).pushFrame (.throwing a)).heap = T.heap := Stand.throwing_heap T g a
    generalize (T.setTop g).pushFrame (.throwing a) = S at hv hh
    rw [W.findHandler_eq (meth := meth) (code := c) (by rw [hv]; exact X.method') X.code, htab]
    have hclS : S.vm.ClassLinks e.platform g.method.cls x.catchType cT := by rw [hv]; exact hclT
    obtain ⟨ha, ht⟩ := (resolveClass_links e.toSetting hclS).op (op := VmOp.resolveClass g.method.cls x.catchType) rfl
    rw [hv] at ha ht
    rw [← hv] at ha ht hkt2 hkc2 hfit2 ⊢
    simp [findHandler.go, hx, h0, ha, ht, hh, hcell, hobj, hkt2, hkc2, hfit2, VmOp.dirties, VmOp.acts]
  have hstep : (stepThrowing e ((T.setTop g).pushFrame (.throwing a)) a (.java g :: below)).1 = (((T.setTop g).pushFrame (.throwing a)).setVm (T.vm.noted g.method.cls x.catchType (.cls cT))).setFrames (.java { g with pc := x.handlerPc, stack := [.ref a] } :: below) := by
    simp only [stepThrowing, searchFrame, vmDo]
    generalize hrs : Sem.go _ e false [] ((T.setTop g).pushFrame (.throwing a)) = res
    obtain ⟨as, rfl, -⟩ := Sem.eq_ok_of hrs (a := Handler.found x.handlerPc) (s' := ((T.setTop g).pushFrame (.throwing a)).setVm (T.vm.noted g.method.cls x.catchType (.cls cT))) (acts' := []) (by simp [hfind _ _ _ _])
    rfl
  refine Steps.head hgo hwi ?_
  rw [stepThread_throwing (frames_entered X.here.top _), X.tail, hstep]
  have hr2 : (T.setVm (T.vm.noted g.method.cls x.catchType (.cls cT))).frames = .java g₀ :: below := hr
  rw [State.setTop_of_frames _ hr2] at hrest
  have hfin : (((T.setTop g).pushFrame (.throwing a)).setVm (T.vm.noted g.method.cls x.catchType (.cls cT))).setFrames (.java { g with pc := x.handlerPc, stack := [.ref a] } :: below) = (T.setVm (T.vm.noted g.method.cls x.catchType (.cls cT))).setFrames (.java { g with pc := x.handlerPc, stack := [.ref a] } :: below) := by
    have h9 : ∀ (u : State) (fs gs : List Frame) (v : Vm), ((u.setFrames fs).setVm v).setFrames gs = (u.setVm v).setFrames gs := fun u fs gs v => State.setFrames_setFrames (u.setVm v) fs gs
    rw [State.pushFrame, h9, State.setTop_of_frames _ hr, h9]
  rw [hfin]
  exact hrest
end GXK
/-- a call walked into: the callee's walk stands for its contract -/
theorem gx_inl {M Mc : gx_M} {d d' mc ms pc : Nat} {as rest : List Value} {w : gx_W} {Q' : gx_P} {F : gx_N → State → Prop} {p : Program} {l : Launch} {e : Env} {R : Room} {s : State} {m : MethodId} {args : Array Value} {below : List Frame} {meth : Method} {c : Code} {T : State} {locs : List Loc} {cells slots : Nat} {ls : Array Slot} {N : gx_N} {A : Nat → Prop} {mk : MethodId} {methM : Method} {cM : Code} {ig : Instr}
    (V : gx_V F M d R p l s m args meth c N A) (hls : ls.size = M.2.2.1) (hw : gx_Wd N w T.heap) (X : Stand p l e R s m args below meth c T locs cells slots) (hc : cells + mc ≤ R.cells) (hs : slots + ms ≤ R.slots) (hdg : decode M.2.1 pc = .ok (ig, 3))
    (hpn : plainName Mc.1.cls = true) (hnamed : s.methodNamed? Mc.1 = some mk) (hmethM : s.vm.method? mk = some methM) (hcM : methM.code = some cM) (hbM : cM.code = Mc.2.1) (hlM : cM.maxLocals = Mc.2.2.1) (hrM : methM.sig.returnType = Mc.2.2.2) (hlkM : methM.locks = false) (hxtM : gx_xt Mc cM)
    (hC : gx_X (fun _ _ => True) Mc d' Q' 0 (gx_in Mc.2.2.1 as) [] w (mc, ms)) (hn : (lg_sl as).length ≤ Mc.2.2.1) (h40 : Mc.2.2.1 ≤ 13) (hd' : d' + 1 ≤ d) (hrm : (rest.map fun v => v.category).sum ≤ 8) :
    ∃ (T' : State) (Lc : List Loc) (w' : gx_W), Stand p l e R s m args below meth c T' (locs ++ Lc) (cells + mc) (slots + ms) ∧ (∀ q ∈ Lc, gx_A w q.base) ∧ (T.heap.size ≤ T'.heap.size ∧ ∀ q : Nat, q < T.heap.size → ¬ gx_A w q → T'.heap[q]? = T.heap[q]?) ∧ gx_Wd N w' T'.heap ∧ (∀ q, gx_cv w' q → gx_A w q) ∧
      ((∃ r, Q'.1 r w' ∧ ∀ acts, Steps p.tables e below (doInvoke e (T.setTop (F0 m pc ls rest)) acts mk as.toArray).1 (T'.setTop (F0 m (pc + 3) ls (r.toList ++ rest)))) ∨ ∃ (x : Nat) (C : String), Q'.2 C w' ∧ gx_thr x C T' ∧ ∀ acts, Steps p.tables e below (doInvoke e (T.setTop (F0 m pc ls rest)) acts mk as.toArray).1 ((T'.setTop (F0 m pc ls rest)).pushFrame (.throwing x))) := by
  obtain ⟨hx, hb, hml, hr, hlk, hown, hnm, hts, hK, hfr, hlo, hA, hF, hlt, hxt, hAo, hso⟩ := V
  have hmk : T.vm.method? mk = some methM := by rw [X.warmed.alike.method?]; exact hmethM
  have hpk : T.plainMethod mk := State.plainMethod.of_named (plainFor_of_name hpn) (X.named hnamed) hmk
  obtain ⟨Y, hin⟩ := X.into (g := F0 m pc ls rest) rfl (by rw [hml]; exact hls) (by rw [hb]; exact hdg) as.toArray (R' := gx_rm d' mc ms) hmk hcM hlkM hpk (by show d' + 1 ≤ R.frames; omega) (by show 2 * 0 + _ + (cM.maxLocals + 11) + 32 * d' ≤ R.locals; rw [hlM]; show 2 * 0 + (rest.map fun v => v.category).sum + _ + _ ≤ _; omega) hc hs
  have hW1 : s.WarmedH (T.calling (F0 m pc ls rest) mk as.toArray).vm := X.warmed
  have hh1 : (T.calling (F0 m pc ls rest) mk as.toArray).heap = T.heap := rfl
  have hl1 := lv_entry as hn
  have hen := lg_entry_eq (m := mk) as Mc.2.2.1
  rw [hlM] at Y hin
  rw [hen] at Y hin
  generalize (lg_sl as ++ List.replicate (Mc.2.2.1 - (lg_sl as).length) Slot.unset).toArray = ls1 at hl1 Y hin hen
  have hAo' : ∀ q, gx_A w q → N.2.2.size ≤ q := fun q hq => by
    rcases hq with (⟨x, hx⟩ | ⟨q', x, e, hx, -⟩) | hq
    · exact (hw.2.2.2.1 q x hx).1
    · have := (hw.2.2.2.1 q' x hx).1; omega
    · exact Nat.le_trans hw.2.1 hq
  have hsz : T.heap.size = w.2 := hw.1
  obtain ⟨t, stp, o, hrun, hend, hQ, Lc, hWt, hsm, hLc⟩ := hC p l e (gx_rm d' mc ms) (T.calling (F0 m pc ls rest) mk as.toArray) mk as.toArray (.java (F0 m pc ls rest) :: below) methM cM T.heap [] 0 0 ls1 N (gx_A w)
    ⟨hx, hbM, hlM, hrM, hlkM, by rw [hW1.alike.findClass]; exact findClass_of_methodNamed hnamed, (name_of_methodNamed hnamed hmethM).1, fun y hy => word_at hW1 (gx_T_good hy) (hts y hy), hK.moved hW1, Nat.le_refl _, Nat.le_refl _, fun q hq => Or.inr (by rw [hh1] at hq; omega), trivial, hlt, hxtM, hAo', fun q hq => hw.2.2.1 q hq⟩
    (gx_Lv.entry hl1) hw va_S.rf (fun q h => Or.inl h) (by show 0 + mc ≤ mc; omega) (by show 0 + ms ≤ ms; omega) ((T.setTop (F0 m pc ls rest)).pushFrame (.java (F0 mk 0 ls1 []))) rfl Y
  have hFt : T.heap.size ≤ t.heap.size ∧ ∀ q : Nat, q < T.heap.size → ¬ gx_A w q → t.heap[q]? = T.heap[q]? := hQ.2
  rcases hQ.1 with ⟨r, w', rfl, hq, hw', hcv⟩ | ⟨x, C, w', rfl, hq, hthr, hw', hcv⟩
  · obtain ⟨T', X', hWT, hsT, ht⟩ := X.outOf (g := F0 m pc ls rest) rfl (by rw [hb]; exact hdg) hend hWt hsm
    have hth : t.heap = T'.heap := by rw [ht]; exact State.heap_setTop _ _
    rw [hth] at hFt hw'
    refine ⟨T', Lc, w', X', hLc, hFt, hw', hcv, Or.inl ⟨r, hq, fun acts => ?_⟩⟩
    rw [hin acts]
    have h9 := Steps.weaken (mid := [.java (F0 m pc ls rest)]) stp
    rw [ht] at h9
    exact h9
  · obtain ⟨T', X', hWT, hsT, ht⟩ := X.outOfThrown (g := F0 m pc ls rest) rfl hend hWt hsm
    have hth : t.heap = T'.heap := by rw [ht]; exact Stand.throwing_heap _ _ _
    have htv : t.vm = T'.vm := by rw [ht]; exact Stand.throwing_vm _ _ _
    rw [hth] at hFt hw'
    refine ⟨T', Lc, w', X', hLc, hFt, hw', hcv, Or.inr ⟨x, C, hq, ?_, fun acts => ?_⟩⟩
    · obtain ⟨cell, k1, k2, k3⟩ := hthr
      exact ⟨cell, by rw [← hth]; exact k1, k2, by rw [← htv]; exact k3⟩
    · rw [hin acts]
      have h9 := Steps.weaken (mid := [.java (F0 m pc ls rest)]) stp
      rw [ht] at h9
      exact h9
section GXL
variable {F : gx_N → State → Prop} {M : gx_M} {d : Nat} {Q : gx_P} {pc : Nat} {L : List (Option Value)} {st rest : List Value} {w : gx_W} {b : Nat × Nat}
theorem gx_upS {N : gx_N} {A : Nat → Prop} {H H' : Heap} {s : State} {locs Lc : List Loc} (hw : gx_Wd N w H) (hS : va_S A s.heap H locs) (hd : ∀ q, gx_cv w q → A q) (hA : ∀ q, s.heap.size ≤ q → A q) (hL : ∀ q ∈ Lc, gx_A w q.base) (hF : H.size ≤ H'.size ∧ ∀ q : Nat, q < H.size → ¬ gx_A w q → H'[q]? = H[q]?) : (∀ q, gx_A w q → A q) ∧ va_S A s.heap H' (locs ++ Lc) := by
  have hsz : H.size = w.2 := hw.1
  have hup : ∀ q, gx_A w q → A q := fun q hq => by
    rcases hq with h1 | h1
    · exact hd q h1
    · exact hA q (Nat.le_trans hS.1 (by omega))
  refine ⟨hup, Nat.le_trans hS.1 hF.1, fun q h1 h2 => ?_, fun q hq => ?_⟩
  · rw [hF.2 q (Nat.lt_of_lt_of_le h1 hS.1) (fun h3 => h2 (hup q h3))]
    exact hS.2.1 q h1 h2
  · rcases List.mem_append.mp hq with h1 | h1
    · exact hS.2.2 q h1
    · exact hup _ (hL q h1)
set_option maxHeartbeats 1000000 in
/-- a virtual call that throws, in a method that catches it -/
theorem gx_callT {Mc : gx_M} {idx d' mc ms n ci a hpc ct pe : Nat} {as : List Value} {C : String} {w1 : gx_W} (hS : gx_lV M.1.cls idx Mc n ci) (hlk0 : Cond.methodLink M.1.cls idx Mc.1 ∈ gx_T) (hdg : decode M.2.1 pc = .ok (.invokevirtual idx, 3)) (hpn : plainName Mc.1.cls = true) (ht0 : gx_tab Mc.1 = []) (hC : gx_X (fun _ _ => True) Mc d' (fun _ _ => False, fun C' w' => C' = C ∧ w' = w1) 0 (gx_in Mc.2.2.1 (.ref a :: as)) [] w (mc, ms)) (hn0 : (lg_sl (.ref a :: as)).length ≤ Mc.2.2.1) (hrc : gx_rc w a ci) (hd' : d' + 1 ≤ d) (hn : as.length = n) (hst : st = as.reverse ++ .ref a :: rest) (hrm : (rest.map fun v => v.category).sum ≤ 8) (hbb : mc ≤ b.1 ∧ ms ≤ b.2)
    (htab : gx_tab M.1 = [(0, pe, hpc, ct)]) (hpe : pc < pe) (hct : ct ≠ 0) (hcl0 : Cond.classLink M.1.cls ct C ∈ gx_T) (hcast : Cond.castable C C ∈ gx_xf) (k : ∀ x, gx_X F M d Q hpc L [.ref x] w1 (b.1 - mc, b.2 - ms)) : gx_X F M d Q pc L st w b := fun p l e R s m args below meth c H locs cells slots ls N A V hl hw hSS hd hc hs => by
  have V0 := V
  obtain ⟨hx, hb, hml, hr, hlk, hown, hnm, hts, hK, hfr, hlo, hA, hF, hlt, hxt, hAo, hso⟩ := V
  intro T hT X
  obtain ⟨hcs, -, hnp, hin, hse, T0, kk, hcl⟩ := hS
  obtain ⟨cellB, hcB, hoB, hclB⟩ := gx_rc.cell hw hK hrc hcl
  obtain ⟨mk, methM, hnamed, hmethM, hstM, habM⟩ := Cond.instanceMethod_spec (hts _ hin)
  obtain ⟨methM', cM, hmethM', hcM, hbM, hlM, hrM, hlkM, hemM, hsigM⟩ := Cond.code_spec hnamed (hts _ hcs.1)
  cases hmethM.symm.trans hmethM'
  obtain ⟨c2, r2, m2, q1, q2, q3, q4, kP, hkP, hkPi⟩ := Cond.selects_spec (hts _ hse)
  cases hclB.symm.trans q1
  cases (State.methodFound?_of_named hnamed hcs.2.2.1).symm.trans q2
  cases hnamed.symm.trans q3
  obtain ⟨vm₁, X₁, hstep₁⟩ := X.invokevirtual hx hown (hts _ hlk0) hnamed hmethM hstM hkP hkPi hcs.2.2.1 (a := a) (cell := cellB) (by rw [hT]; exact hcB) (fun z h => by rw [h] at hoB; cases hoB) (by rw [Launch.admits_selectMethod X.admits]; exact q4) hmethM habM hkP hkPi (g := F0 m pc ls st) rfl (argsL := as) (rest := rest) (hn.trans (hnp.use _ hsigM)) hst (by rw [hb]; exact hdg)
  have hxtM : gx_xt Mc cM := by
    have h3 : cM.exceptionTable.size = 0 := by simpa [Array.isEmpty] using hemM
    have h2 : cM.exceptionTable.toList = [] := List.eq_nil_of_length_eq_zero (by simpa using h3)
    show cM.exceptionTable.toList.map _ = _
    rw [h2, ht0]; rfl
  have hT1 : (T.setVm vm₁).heap = H := hT
  generalize T.setVm vm₁ = T1 at X₁ hstep₁ hT1
  rw [← hT1] at hw hSS
  obtain ⟨T', Lc, w', X', hLc, hFt, hw', hcv, hor⟩ := gx_inl V0 hl.1 hw X₁ (by omega) (by omega) hdg hpn hnamed hmethM hcM hbM hlM hrM hlkM hxtM hC hn0 hcs.2.2.2 hd' hrm
  rcases hor with ⟨_, hFalse, _⟩ | ⟨x, C', ⟨rfl, rfl⟩, ⟨cellX, k1, k2, k3⟩, stp⟩
  · exact hFalse.elim
  · obtain ⟨c3, c4, g1, g2, g3⟩ := Cond.castable_spec (hK.2.2.2.2.2.1 _ hcast #[])
    cases g1.symm.trans g2
    have hcx : c3 = cellX.cls := by
      rw [X'.warmed.alike.findClass] at k3
      exact Option.some.inj (g1.symm.trans k3)
    have hx1 : ∃ xe : ExceptionTableEntry, c.exceptionTable.toList = [xe] ∧ xe.startPc = 0 ∧ xe.endPc = pe ∧ xe.handlerPc = hpc ∧ xe.catchType = ct := by
      have g : c.exceptionTable.toList.map (fun h => (h.startPc, h.endPc, h.handlerPc, h.catchType)) = [(0, pe, hpc, ct)] := by rw [← htab]; exact hxt
      obtain ⟨xe, tl, g4, g5, g6⟩ := List.map_eq_cons_iff.mp g
      simp only [Prod.mk.injEq] at g5
      exact ⟨xe, by rw [g4, List.map_eq_nil_iff.mp g6], g5.1, g5.2.1, g5.2.2.1, g5.2.2.2⟩
    obtain ⟨xe, e1, e2, e3, e4, e5⟩ := hx1
    obtain ⟨vm2, X2, st2⟩ := gx_catch X' (own := M.1.cls) (name := C') (a := x) (g := F0 m pc ls rest) rfl hown e1 ⟨by rw [e2]; exact Nat.zero_le _, by rw [e3]; exact hpe⟩ (by rw [e5]; exact hct) (by rw [e5]; exact hts _ hcl0) g1 k1 k2 (by rw [← hcx]; exact g3)
    obtain ⟨hup, hS'⟩ := gx_upS hw hSS hd hA hLc hFt
    obtain ⟨t2, a1, b1⟩ := k x p l e R s m args below meth c T'.heap (locs ++ Lc) (cells + mc) (slots + ms) ls N A V0 hl hw' hS' (fun q hq2 => hup q (hcv q hq2)) (by show cells + mc + (b.1 - mc) ≤ _; omega) (by show slots + ms + (b.2 - ms) ≤ _; omega) (T'.setVm vm2) rfl X2
    refine ⟨t2, hstep₁ t2 (fun acts => (stp acts).trans (st2 t2 ?_)), b1⟩
    rw [e4]; exact a1
set_option maxHeartbeats 1000000 in
/-- a static call of a method that has handlers of its own -/
theorem gx_callW {Mc : gx_M} {idx d' mc ms n : Nat} {as : List Value} {Q' : Option Value → gx_W → Prop} (hcw : Cond.codeWith Mc.1 Mc.2.1 Mc.2.2.1 Mc.2.2.2 (gx_tab Mc.1) ∈ gx_T) (hlk0 : Cond.methodLink M.1.cls idx Mc.1 ∈ gx_T) (hst0 : Cond.static Mc.1 ∈ gx_T) (hini : Cond.initialized Mc.1.cls ∈ gx_T) (hmh : Mc.1.cls ≠ "java/lang/invoke/MethodHandle" ∧ Mc.1.cls ≠ "java/lang/invoke/VarHandle") (h13 : Mc.2.2.1 ≤ 13) (hnp : gx_np Mc n) (hdg : decode M.2.1 pc = .ok (.invokestatic idx, 3)) (hpn : plainName Mc.1.cls = true) (hC : gx_X (fun _ _ => True) Mc d' (gx_nt Q') 0 (gx_in Mc.2.2.1 as) [] w (mc, ms)) (hn0 : (lg_sl as).length ≤ Mc.2.2.1) (hd' : d' + 1 ≤ d) (hn : as.length = n) (hst : st = as.reverse ++ rest) (hrm : (rest.map fun v => v.category).sum ≤ 8) (hbb : mc ≤ b.1 ∧ ms ≤ b.2)
    (k : ∀ r w', Q' r w' → gx_X F M d Q (pc + 3) L (r.toList ++ rest) w' (b.1 - mc, b.2 - ms)) : gx_X F M d Q pc L st w b := fun p l e R s m args below meth c H locs cells slots ls N A V hl hw hSS hd hc hs => by
  have V0 := V
  obtain ⟨hx, hb, hml, hr, hlk, hown, hnm, hts, hK, hfr, hlo, hA, hF, hlt, hxt, hAo, hso⟩ := V
  intro T hT X
  obtain ⟨mk, methM, cM, hnamed, hmethM, hcM, hbM, hlM, hxM, hrM, hlkM, hsigM⟩ := Cond.codeWith_spec (hts _ hcw)
  have hstatic : methM.isStatic = true := Cond.static_spec hnamed hmethM (hts _ hst0)
  obtain ⟨kP, hkP, -⟩ := className_of_methodNamed hnamed
  have hinitP : kP.init = .initialized := Cond.initialized_spec (findClass_of_methodNamed hnamed) hkP (hts _ hini)
  obtain ⟨vm₁, X₁, hstep₁⟩ := X.invokestatic hx hown (hts _ hlk0) hnamed hmethM hstatic hkP hinitP hmh (g := F0 m pc ls st) rfl (argsL := as) (rest := rest) (hn.trans (hnp.use _ hsigM)) hst (by rw [hb]; exact hdg)
  have hT1 : (T.setVm vm₁).heap = H := hT
  generalize T.setVm vm₁ = T1 at X₁ hstep₁ hT1
  rw [← hT1] at hw hSS
  obtain ⟨T', Lc, w', X', hLc, hFt, hw', hcv, hor⟩ := gx_inl V0 hl.1 hw X₁ (by omega) (by omega) hdg hpn hnamed hmethM hcM hbM hlM hrM hlkM hxM hC hn0 h13 hd' hrm
  rcases hor with ⟨r, hq, stp⟩ | ⟨_, _, hFalse, _⟩
  · obtain ⟨hup, hS'⟩ := gx_upS hw hSS hd hA hLc hFt
    obtain ⟨t2, a1, b1⟩ := k r w' hq p l e R s m args below meth c T'.heap (locs ++ Lc) (cells + mc) (slots + ms) ls N A V0 hl hw' hS' (fun q hq2 => hup q (hcv q hq2)) (by show cells + mc + (b.1 - mc) ≤ _; omega) (by show slots + ms + (b.2 - ms) ≤ _; omega) T' rfl X'
    exact ⟨t2, hstep₁ t2 (fun acts => (stp acts).trans a1), b1⟩
  · exact hFalse.elim
end GXL
end
