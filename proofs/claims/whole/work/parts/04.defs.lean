/-! ===== a program logic over the kit: WP ===== -/
abbrev AE : Type := (FieldType × vp_A) ⊕ (Nat × List Value)
/-- an abstract heap: how many cells, and what is known of some of them -/
abbrev AH : Type := Nat × (Nat → Option AE)
/-- a method: its name, code, locals, return type, handlers -/
abbrev MD : Type := MethodName × ByteArray × Nat × Option FieldType × List (Nat × Nat × Nat × Nat)
/-- launch; first address of the run's own cells; heap at the law's start; numbers of classes and slots; addresses of constants -/
abbrev GE : Type := Launch × Nat × Heap × va_G × (Nat → Nat) × (Nat → Nat)
abbrev OU : Type := Option Value ⊕ String
abbrev PO : Type := OU → AH → Prop
/-- frames, locals, cells, slots that are left -/
abbrev RM : Type := Nat × Nat × Nat × Nat
def TB : List Cond := lw_tbl.filter goodWord
def ax_FL (own : String) (idx ci k : Nat) (ty : FieldType) (fin : Bool) : Prop :=
  ∃ (C : String) (T : u_T) (N : Nat) (ty0 : Nat → FieldType), vwCl[ci]? = some (C, T, N) ∧ k < N ∧ Cond.fieldLink own idx (T k).1 (T k).2.1 (T k).2.2.1 ∈ TB ∧ (∀ w ∈ u_ws C T N, w ∈ TB) ∧ (∀ k, k < N → parseFieldDescriptor (T k).2.2.1 = some (ty0 k)) ∧ (∀ a, a < N → ∀ b, b < N → a ≠ b → (T a).2.1 ≠ (T b).2.1) ∧ ty0 k = ty ∧ (T k).2.2.2 = fin ∧ (T k).1 = C
def ax_NL (own : String) (idx ci : Nat) (fs : List Value) : Prop :=
  ∃ (C : String) (T : u_T) (N : Nat) (ty0 : Nat → FieldType), vwCl[ci]? = some (C, T, N) ∧ Cond.classLink own idx C ∈ TB ∧ Cond.instantiable C N ∈ TB ∧ Cond.initialized C ∈ TB ∧ (∀ w ∈ u_ws C T N, w ∈ TB) ∧ (∀ k, k < N → parseFieldDescriptor (T k).2.2.1 = some (ty0 k)) ∧ fs.length = N ∧ ∀ j, j < N → defaultValue (ty0 j) = vp_V fs j
/-- the words of an ordinary call -/
def ax_CB (own : String) (idx : Nat) (M' : MD) (k : Nat) : Prop :=
  Cond.methodLink own idx M'.1 ∈ TB ∧ Cond.initialized M'.1.cls ∈ TB ∧ Cond.code M'.1 M'.2.1 M'.2.2.1 M'.2.2.2.1 ∈ TB ∧ (M'.1.cls ≠ "java/lang/invoke/MethodHandle" ∧ M'.1.cls ≠ "java/lang/invoke/VarHandle") ∧ (parseMethodDescriptor M'.1.desc).map (fun d => d.parameters.length) = some k ∧ plainName M'.1.cls = true ∧ M'.2.2.2.2 = []
def ax_CV (own : String) (idx : Nat) (M' : MD) (k : Nat) : Prop := ax_CB own idx M' k ∧ Cond.instanceMethod M'.1 ∈ TB ∧ Cond.selects M'.1.cls M'.1 M'.1 ∈ TB
def ax_CS (own : String) (idx : Nat) (M' : MD) (k : Nat) : Prop := ax_CB own idx M' k ∧ Cond.static M'.1 ∈ TB
def ax_CI (own : String) (idx : Nat) (M' : MD) (k : Nat) : Prop := ax_CB own idx M' k ∧ M'.1.name = "<init>" ∧ Cond.instanceMethod M'.1 ∈ TB
def ax_MB (M : MD) (k : Nat) : Prop := Cond.initialized M.1.cls ∈ TB ∧ Cond.code M.1 M.2.1 M.2.2.1 M.2.2.2.1 ∈ TB ∧ (M.1.cls ≠ "java/lang/invoke/MethodHandle" ∧ M.1.cls ≠ "java/lang/invoke/VarHandle") ∧ (parseMethodDescriptor M.1.desc).map (fun d => d.parameters.length) = some k ∧ plainName M.1.cls = true ∧ M.2.2.2.2 = []
