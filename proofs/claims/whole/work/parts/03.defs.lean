/-! what the tables say of links, in words of mine -/
/-- a method: its name, its bytes, its locals, what it returns -/
abbrev gx_M : Type := MethodName × ByteArray × Nat × Option FieldType
def gx_T : List Cond := lw_tbl.filter goodWord
theorem gx_T_in {w : Cond} (h : w ∈ lw_tbl) (hg : goodWord w = true) : w ∈ gx_T := List.mem_filter.mpr ⟨h, hg⟩
theorem gx_T_good {w : Cond} (h : w ∈ gx_T) : (w.onTables && w.keeps) = true ∨ ∃ ty, w = .arrayClass ty := good_of_word (List.mem_filter.mp h).2
def gx_fl (own : String) (idx ci k : Nat) : Prop := ∃ (C : String) (T : u_T) (n : Nat), gx_cl[ci]? = some (C, T, n) ∧ k < n ∧ (∀ w ∈ u_ws C T n, w ∈ gx_T) ∧ (Cond.fieldLink own idx (T k).1 (T k).2.1 (T k).2.2.1 ∈ gx_T ∨ ∃ host, (own, idx, (T k).1, (T k).2.1, (T k).2.2.1, host) ∈ gx_nf)
def gx_fp (own : String) (idx ci k : Nat) (fin : Bool) (ty : FieldType) : Prop := ∃ (C : String) (T : u_T) (n : Nat) (ty0 : Nat → FieldType), gx_cl[ci]? = some (C, T, n) ∧ k < n ∧ (∀ w ∈ u_ws C T n, w ∈ gx_T) ∧ Cond.fieldLink own idx (T k).1 (T k).2.1 (T k).2.2.1 ∈ gx_T ∧ (∀ k, k < n → parseFieldDescriptor (T k).2.2.1 = some (ty0 k)) ∧ (∀ a, a < n → ∀ b, b < n → a ≠ b → (T a).2.1 ≠ (T b).2.1) ∧ (T k).2.2.2 = fin ∧ (T k).1 = own ∧ parseFieldDescriptor (T k).2.2.1 = some ty
def gx_cs (Mc : gx_M) : Prop := Cond.code Mc.1 Mc.2.1 Mc.2.2.1 Mc.2.2.2 ∈ gx_T ∧ Cond.initialized Mc.1.cls ∈ gx_T ∧ (Mc.1.cls ≠ "java/lang/invoke/MethodHandle" ∧ Mc.1.cls ≠ "java/lang/invoke/VarHandle") ∧ Mc.2.2.1 ≤ 13
def gx_ln (own : String) (idx : Nat) (Mc : gx_M) : Prop := Cond.methodLink own idx Mc.1 ∈ gx_T ∨ ∃ host, (own, idx, Mc.1, host) ∈ gx_nm
def gx_np (Mc : gx_M) (n : Nat) : Prop := (parseMethodDescriptor Mc.1.desc).map (fun d => d.parameters.length) = some n
def gx_lV (own : String) (idx : Nat) (Mc : gx_M) (n ci : Nat) : Prop := gx_cs Mc ∧ gx_ln own idx Mc ∧ gx_np Mc n ∧ Cond.instanceMethod Mc.1 ∈ gx_T ∧ Cond.selects Mc.1.cls Mc.1 Mc.1 ∈ gx_T ∧ ∃ T k, gx_cl[ci]? = some (Mc.1.cls, T, k)
def gx_lS (own : String) (idx : Nat) (Mc : gx_M) (n : Nat) : Prop := gx_cs Mc ∧ gx_ln own idx Mc ∧ gx_np Mc n ∧ Cond.static Mc.1 ∈ gx_T
def gx_lI (own : String) (idx : Nat) (Mc : gx_M) (n : Nat) : Prop := gx_cs Mc ∧ gx_ln own idx Mc ∧ gx_np Mc n ∧ Cond.instanceMethod Mc.1 ∈ gx_T ∧ Mc.1.name = "<init>" ∧ Mc.2.2.2 = none
def gx_nw (own : String) (idx ci n : Nat) (fs : List Value) : Prop := ∃ (C : String) (T : u_T) (ty : Nat → FieldType), gx_cl[ci]? = some (C, T, n) ∧ (∀ w ∈ u_ws C T n, w ∈ gx_T) ∧ Cond.classLink own idx C ∈ gx_T ∧ Cond.instantiable C n ∈ gx_T ∧ Cond.initialized C ∈ gx_T ∧ (∀ k, k < n → parseFieldDescriptor (T k).2.2.1 = some (ty k)) ∧ ∀ j, j < n → defaultValue (ty j) = vp_V fs j
def gx_lO (own : String) (idx : Nat) : Prop := Cond.methodLink own idx Lib.objectInit ∈ gx_T ∧ Cond.instanceMethod Lib.objectInit ∈ gx_T ∧ Cond.code Lib.objectInit ⟨#[0xb1]⟩ 1 none ∈ gx_T
def gx_lM (own : String) (idx : Nat) (y : MethodName) (cd : ByteArray) : Prop := Cond.methodLink own idx y ∈ gx_T ∧ Cond.static y ∈ gx_T ∧ Cond.initialized "java/lang/Math" ∈ gx_T ∧ Cond.code y cd 2 (some .int) ∈ gx_T
