def R_Word : String := "PostChain$Word"
def T_Word : u_T := fun k => match k with
  | 0 => ("PostChain$Word", "characters", "[C", true)
  | _ => ("PostChain$Word", "length", "I", false)
def t_Word : Nat → FieldType := fun k => match k with
  | 0 => (.array .char)
  | _ => .int
theorem n_Word : ∀ a, a < 2 → ∀ b, b < 2 → a ≠ b → (T_Word a).2.1 ≠ (T_Word b).2.1 := by decide +kernel
theorem t_Word_ok : ∀ k, k < 2 → parseFieldDescriptor (T_Word k).2.2.1 = some (t_Word k) := by decide +kernel
def R_Row : String := "PostChain$Row"
def T_Row : u_T := fun k => match k with
  | 0 => ("PostChain$Row", "numbers", "[I", true)
  | _ => ("PostChain$Row", "length", "I", false)
def t_Row : Nat → FieldType := fun k => match k with
  | 0 => (.array .int)
  | _ => .int
theorem n_Row : ∀ a, a < 2 → ∀ b, b < 2 → a ≠ b → (T_Row a).2.1 ≠ (T_Row b).2.1 := by decide +kernel
theorem t_Row_ok : ∀ k, k < 2 → parseFieldDescriptor (T_Row k).2.2.1 = some (t_Row k) := by decide +kernel
def R_Machine : String := "PostChain$Machine"
def T_Machine : u_T := fun k => match k with
  | 0 => ("PostChain$Machine", "known", "[Z", true)
  | 1 => ("PostChain$Machine", "right", "[Z", true)
  | 2 => ("PostChain$Machine", "write", "[I", true)
  | 3 => ("PostChain$Machine", "next", "[I", true)
  | _ => ("PostChain$Machine", "first", "LPostChain$Word;", true)
def t_Machine : Nat → FieldType := fun k => match k with
  | 0 => (.array .boolean)
  | 1 => (.array .boolean)
  | 2 => (.array .int)
  | 3 => (.array .int)
  | _ => (.object "PostChain$Word")
theorem n_Machine : ∀ a, a < 5 → ∀ b, b < 5 → a ≠ b → (T_Machine a).2.1 ≠ (T_Machine b).2.1 := by decide +kernel
theorem t_Machine_ok : ∀ k, k < 5 → parseFieldDescriptor (T_Machine k).2.2.1 = some (t_Machine k) := by decide +kernel
def R_Run : String := "PostChain$Run"
def T_Run : u_T := fun k => match k with
  | 0 => ("PostChain$Run", "texts", "[LPostChain$Word;", true)
  | _ => ("PostChain$Run", "last", "I", false)
def t_Run : Nat → FieldType := fun k => match k with
  | 0 => (.array (.object "PostChain$Word"))
  | _ => .int
theorem n_Run : ∀ a, a < 2 → ∀ b, b < 2 → a ≠ b → (T_Run a).2.1 ≠ (T_Run b).2.1 := by decide +kernel
theorem t_Run_ok : ∀ k, k < 2 → parseFieldDescriptor (T_Run k).2.2.1 = some (t_Run k) := by decide +kernel
def R_Domino : String := "PostChain$Domino"
def T_Domino : u_T := fun k => match k with
  | 0 => ("PostChain$Domino", "upper", "LPostChain$Word;", true)
  | _ => ("PostChain$Domino", "lower", "LPostChain$Word;", true)
def t_Domino : Nat → FieldType := fun k => match k with
  | 0 => (.object "PostChain$Word")
  | _ => (.object "PostChain$Word")
theorem n_Domino : ∀ a, a < 2 → ∀ b, b < 2 → a ≠ b → (T_Domino a).2.1 ≠ (T_Domino b).2.1 := by decide +kernel
theorem t_Domino_ok : ∀ k, k < 2 → parseFieldDescriptor (T_Domino k).2.2.1 = some (t_Domino k) := by decide +kernel
def R_Box : String := "PostChain$Box"
def T_Box : u_T := fun k => match k with
  | 0 => ("PostChain$Box", "pieces", "[LPostChain$Domino;", true)
  | 1 => ("PostChain$Box", "firstOfRule", "[I", true)
  | _ => ("PostChain$Box", "count", "I", false)
def t_Box : Nat → FieldType := fun k => match k with
  | 0 => (.array (.object "PostChain$Domino"))
  | 1 => (.array .int)
  | _ => .int
theorem n_Box : ∀ a, a < 3 → ∀ b, b < 3 → a ≠ b → (T_Box a).2.1 ≠ (T_Box b).2.1 := by decide +kernel
theorem t_Box_ok : ∀ k, k < 3 → parseFieldDescriptor (T_Box k).2.2.1 = some (t_Box k) := by decide +kernel
def R_Way : String := "PostChain$Way"
def T_Way : u_T := fun k => match k with
  | 0 => ("PostChain$Way", "passes", "LPostChain$Row;", true)
  | _ => ("PostChain$Way", "rest", "LPostChain$Word;", true)
def t_Way : Nat → FieldType := fun k => match k with
  | 0 => (.object "PostChain$Row")
  | _ => (.object "PostChain$Word")
theorem n_Way : ∀ a, a < 2 → ∀ b, b < 2 → a ≠ b → (T_Way a).2.1 ≠ (T_Way b).2.1 := by decide +kernel
theorem t_Way_ok : ∀ k, k < 2 → parseFieldDescriptor (T_Way k).2.2.1 = some (t_Way k) := by decide +kernel
def R_Hunt : String := "PostChain$Hunt"
def T_Hunt : u_T := fun k => match k with
  | 0 => ("PostChain$Hunt", "from", "[I", true)
  | 1 => ("PostChain$Hunt", "last", "[I", true)
  | 2 => ("PostChain$Hunt", "size", "[I", true)
  | 3 => ("PostChain$Hunt", "ahead", "[I", true)
  | 4 => ("PostChain$Hunt", "more", "[C", true)
  | 5 => ("PostChain$Hunt", "open", "LPostChain$Word;", true)
  | 6 => ("PostChain$Hunt", "count", "I", false)
  | _ => ("PostChain$Hunt", "lookedAt", "I", false)
def t_Hunt : Nat → FieldType := fun k => match k with
  | 0 => (.array .int)
  | 1 => (.array .int)
  | 2 => (.array .int)
  | 3 => (.array .int)
  | 4 => (.array .char)
  | 5 => (.object "PostChain$Word")
  | 6 => .int
  | _ => .int
theorem n_Hunt : ∀ a, a < 8 → ∀ b, b < 8 → a ≠ b → (T_Hunt a).2.1 ≠ (T_Hunt b).2.1 := by decide +kernel
theorem t_Hunt_ok : ∀ k, k < 8 → parseFieldDescriptor (T_Hunt k).2.2.1 = some (t_Hunt k) := by decide +kernel
def R_PC : String := "PostChain"
def T_PC : u_T := fun k => match k with
  | 0 => ("PostChain", "machine", "LPostChain$Machine;", true)
  | 1 => ("PostChain", "configurations", "LPostChain$Run;", true)
  | 2 => ("PostChain", "box", "LPostChain$Box;", true)
  | 3 => ("PostChain", "wayOfRun", "LPostChain$Way;", true)
  | 4 => ("PostChain", "hunt", "LPostChain$Hunt;", true)
  | 5 => ("PostChain", "laid", "LPostChain$Row;", true)
  | 6 => ("PostChain", "typed", "LPostChain$Word;", true)
  | 7 => ("PostChain", "upperWord", "LPostChain$Word;", true)
  | _ => ("PostChain", "lowerWord", "LPostChain$Word;", true)
def t_PC : Nat → FieldType := fun k => match k with
  | 0 => (.object "PostChain$Machine")
  | 1 => (.object "PostChain$Run")
  | 2 => (.object "PostChain$Box")
  | 3 => (.object "PostChain$Way")
  | 4 => (.object "PostChain$Hunt")
  | 5 => (.object "PostChain$Row")
  | 6 => (.object "PostChain$Word")
  | 7 => (.object "PostChain$Word")
  | _ => (.object "PostChain$Word")
theorem n_PC : ∀ a, a < 9 → ∀ b, b < 9 → a ≠ b → (T_PC a).2.1 ≠ (T_PC b).2.1 := by decide +kernel
theorem t_PC_ok : ∀ k, k < 9 → parseFieldDescriptor (T_PC k).2.2.1 = some (t_PC k) := by decide +kernel
def R_Mo : String := "PostChainModel"
def T_Mo : u_T := fun k => match k with
  | 0 => ("PostChainModel", "thrown", "I", false)
  | 1 => ("PostChainModel", "has", "[Z", false)
  | 2 => ("PostChainModel", "writes", "[I", false)
  | 3 => ("PostChainModel", "right", "[Z", false)
  | 4 => ("PostChainModel", "next", "[I", false)
  | 5 => ("PostChainModel", "inputs", "I", false)
  | 6 => ("PostChainModel", "input", "[I", false)
  | 7 => ("PostChainModel", "steps", "I", false)
  | 8 => ("PostChainModel", "size", "[I", false)
  | 9 => ("PostChainModel", "text", "[I", false)
  | 10 => ("PostChainModel", "dominoes", "I", false)
  | 11 => ("PostChainModel", "upperSize", "[I", false)
  | 12 => ("PostChainModel", "upper", "[I", false)
  | 13 => ("PostChainModel", "lowerSize", "[I", false)
  | 14 => ("PostChainModel", "lower", "[I", false)
  | 15 => ("PostChainModel", "ways", "I", false)
  | 16 => ("PostChainModel", "way", "[I", false)
  | 17 => ("PostChainModel", "laid", "I", false)
  | 18 => ("PostChainModel", "tray", "[I", false)
  | 19 => ("PostChainModel", "typed", "I", false)
  | 20 => ("PostChainModel", "typing", "[I", false)
  | 21 => ("PostChainModel", "upperWord", "[I", false)
  | 22 => ("PostChainModel", "lowerWord", "[I", false)
  | 23 => ("PostChainModel", "looked", "I", false)
  | 24 => ("PostChainModel", "waiting", "I", false)
  | 25 => ("PostChainModel", "from", "[I", false)
  | 26 => ("PostChainModel", "last", "[I", false)
  | 27 => ("PostChainModel", "depth", "[I", false)
  | 28 => ("PostChainModel", "side", "[I", false)
  | 29 => ("PostChainModel", "over", "[I", false)
  | 30 => ("PostChainModel", "rest", "[I", false)
  | 31 => ("PostChainModel", "joinUpper", "[I", false)
  | _ => ("PostChainModel", "joinLower", "[I", false)
def t_Mo : Nat → FieldType := fun k => match k with
  | 0 => .int
  | 1 => (.array .boolean)
  | 2 => (.array .int)
  | 3 => (.array .boolean)
  | 4 => (.array .int)
  | 5 => .int
  | 6 => (.array .int)
  | 7 => .int
  | 8 => (.array .int)
  | 9 => (.array .int)
  | 10 => .int
  | 11 => (.array .int)
  | 12 => (.array .int)
  | 13 => (.array .int)
  | 14 => (.array .int)
  | 15 => .int
  | 16 => (.array .int)
  | 17 => .int
  | 18 => (.array .int)
  | 19 => .int
  | 20 => (.array .int)
  | 21 => (.array .int)
  | 22 => (.array .int)
  | 23 => .int
  | 24 => .int
  | 25 => (.array .int)
  | 26 => (.array .int)
  | 27 => (.array .int)
  | 28 => (.array .int)
  | 29 => (.array .int)
  | 30 => (.array .int)
  | 31 => (.array .int)
  | _ => (.array .int)
theorem n_Mo : ∀ a, a < 33 → ∀ b, b < 33 → a ≠ b → (T_Mo a).2.1 ≠ (T_Mo b).2.1 := by decide +kernel
theorem t_Mo_ok : ∀ k, k < 33 → parseFieldDescriptor (T_Mo k).2.2.1 = some (t_Mo k) := by decide +kernel
/-- the classes whose objects the worlds hold: an object names its class by its place here -/
def gx_cl : List vw_C := [(R_Word, T_Word, 2), (R_Row, T_Row, 2), (R_Machine, T_Machine, 5), (R_Run, T_Run, 2), (R_Domino, T_Domino, 2), (R_Box, T_Box, 3), (R_Way, T_Way, 2), (R_Hunt, T_Hunt, 8), (R_PC, T_PC, 9), (R_Mo, T_Mo, 33)]
def gx_nf : List (String × Nat × String × String × String × String) := [("PostChain$Box", 84, "PostChain$Machine", "known", "[Z", "PostChain"), ("PostChain$Way", 74, "PostChain$Machine", "right", "[Z", "PostChain"), ("PostChain$Box", 88, "PostChain$Machine", "right", "[Z", "PostChain"), ("PostChain$Box", 101, "PostChain$Machine", "write", "[I", "PostChain"), ("PostChain$Box", 104, "PostChain$Machine", "next", "[I", "PostChain"), ("PostChain$Run", 48, "PostChain$Machine", "first", "LPostChain$Word;", "PostChain"), ("PostChain$Box", 47, "PostChain$Machine", "first", "LPostChain$Word;", "PostChain"), ("PostChain$Box", 34, "PostChain$Domino", "upper", "LPostChain$Word;", "PostChain"), ("PostChain$Hunt", 83, "PostChain$Domino", "upper", "LPostChain$Word;", "PostChain"), ("PostChain", 128, "PostChain$Domino", "upper", "LPostChain$Word;", "PostChain"), ("PostChain$Box", 44, "PostChain$Domino", "lower", "LPostChain$Word;", "PostChain"), ("PostChain$Hunt", 89, "PostChain$Domino", "lower", "LPostChain$Word;", "PostChain"), ("PostChain", 133, "PostChain$Domino", "lower", "LPostChain$Word;", "PostChain")]
def gx_nm : List (String × Nat × MethodName × String) := [("PostChain$Machine", 34, ⟨"PostChain", "letter", "(I)C"⟩, "PostChain"), ("PostChain$Box", 21, ⟨"PostChain$Domino", "<init>", "()V"⟩, "PostChain"), ("PostChain", 32, ⟨"PostChain$Way", "<init>", "()V"⟩, "PostChain"), ("PostChain", 39, ⟨"PostChain$Hunt", "<init>", "()V"⟩, "PostChain"), ("PostChain$Machine", 64, ⟨"PostChain", "symbolOf", "(C)I"⟩, "PostChain"), ("PostChain$Machine", 68, ⟨"PostChain", "isState", "(I)Z"⟩, "PostChain"), ("PostChain$Machine", 72, ⟨"PostChain", "isSymbol", "(I)Z"⟩, "PostChain"), ("PostChain$Machine", 75, ⟨"PostChain", "ruleNumber", "(II)I"⟩, "PostChain"), ("PostChain$Machine", 45, ⟨"PostChain", "digit", "(I)C"⟩, "PostChain"), ("PostChain$Box", 64, ⟨"PostChain", "digit", "(I)C"⟩, "PostChain"), ("PostChain$Box", 98, ⟨"PostChain", "letter", "(I)C"⟩, "PostChain"), ("PostChain$Run", 45, ⟨"PostChain", "letter", "(I)C"⟩, "PostChain"), ("PostChain$Way", 82, ⟨"PostChain", "symbolOf", "(C)I"⟩, "PostChain")]
