/-! THE CONSTANTS: where each lies (zB + ..: strings 0.., their bytes 100.., the enum 200.., arrays 300..), and what it holds; out of the Statement's given facts -/
def zB : Nat := 1000000
def kTi (l : List Int32) : List Int32 ⊕ Nat := .inl l
def kTr (b : Nat) : List Int32 ⊕ Nat := .inr b
def kTf (c : List Int32 ⊕ Nat) (j : Nat) : Value := match c with
  | .inl l => .int (l.getD j 0)
  | .inr b => .ref (b + j)
def kTo (c : List Int32 ⊕ Nat) : Bool := match c with
  | .inl _ => true
  | .inr b => decide (zB ≤ b)
def kVo (v : Value) : Bool := match v with
  | .ref k => decide (zB ≤ k)
  | _ => true
def kS_text : List String := ["there is an entry with the key", "no place for the entry", "no entry with the key", "neighbourhood out of range", "the table cannot be built anew", "multiplier out of range", "greatest multiplier out of range", "key out of range", "value out of range", "no such bucket"]
def kO : List (String × Nat) := []
def kF : List (String × String × String × Value × Nat) := []
def kT : List (FieldType × Nat × Nat × (List Int32 ⊕ Nat)) := []
def kZ : List (String × String × String × Value) := []
def kR : List (String × Nat × String × Nat) := [("NeighbourHash", 129, "there is an entry with the key", zB + 0), ("NeighbourHash", 135, "no place for the entry", zB + 1), ("NeighbourHash", 165, "no entry with the key", zB + 2), ("NeighbourHash", 171, "neighbourhood out of range", zB + 3), ("NeighbourHash", 176, "the table cannot be built anew", zB + 4), ("NeighbourHash", 184, "multiplier out of range", zB + 5), ("NeighbourHash", 263, "greatest multiplier out of range", zB + 6), ("NeighbourHash", 299, "key out of range", zB + 7), ("NeighbourHash", 304, "value out of range", zB + 8), ("NeighbourHash", 311, "no such bucket", zB + 9)]
def kE : List (Nat) := []
def kN : List Cond := [(Jvm.Cond.methodLinkNest "NeighbourHash" (9 : Nat) ({ cls := "NeighbourHash$Input", name := "<init>", desc := "()V" } : Jvm.MethodName) "NeighbourHash"), (Jvm.Cond.methodLinkNest "NeighbourHash" (51 : Nat) ({ cls := "NeighbourHash$Report", name := "<init>", desc := "()V" } : Jvm.MethodName) "NeighbourHash"), (Jvm.Cond.castable "java/lang/IllegalArgumentException" "java/lang/IllegalArgumentException"), (Jvm.Cond.castable "java/lang/IllegalStateException" "java/lang/IllegalStateException"), (Jvm.Cond.castable "java/lang/IndexOutOfBoundsException" "java/lang/IndexOutOfBoundsException"), (Jvm.Cond.castable "java/util/NoSuchElementException" "java/util/NoSuchElementException"), (Jvm.Cond.declares ({ cls := "java/lang/RuntimeException", name := "<init>", desc := "(Ljava/lang/String;)V" } : Jvm.MethodName)), (Jvm.Cond.declares ({ cls := "java/lang/Exception", name := "<init>", desc := "(Ljava/lang/String;)V" } : Jvm.MethodName)), (Jvm.Cond.declares ({ cls := "java/lang/Throwable", name := "<init>", desc := "(Ljava/lang/String;)V" } : Jvm.MethodName))]
def kX : List (String × String) := []
theorem kF_hi0 : ∀ q ∈ kF, zB ≤ q.2.2.2.2 ∧ kVo q.2.2.2.1 = true := by decide +kernel
theorem kZ_hi0 : ∀ q ∈ kZ, kVo q.2.2.2 = true := by decide +kernel
theorem kT_hi0 : ∀ q ∈ kT, zB ≤ q.2.1 ∧ kTo q.2.2.2 = true := by decide +kernel
theorem kO_hi : ∀ q ∈ kO, zB ≤ q.2 := by decide +kernel
theorem kE_hi : ∀ q ∈ kE, zB ≤ q := by decide +kernel
theorem kR_hi : ∀ q ∈ kR, zB ≤ q.2.2.2 := by decide +kernel
theorem kN_nest : ∀ w ∈ kN, (∃ a i b n d z, w = .fieldLinkNest a i b n d z) ∨ (∃ a i y z, w = .methodLinkNest a i y z) ∨ (∃ a b, w = .castable a b) ∨ ∃ y, w = .declares y := by
  intro w hw
  simp only [kN, List.mem_cons, List.not_mem_nil, or_false] at hw
  rcases hw with rfl | rfl | rfl | rfl | rfl | rfl | rfl | rfl | rfl
  · exact Or.inr (Or.inl ⟨_, _, _, _, rfl⟩)
  · exact Or.inr (Or.inl ⟨_, _, _, _, rfl⟩)
  · exact Or.inr (Or.inr (Or.inl ⟨_, _, rfl⟩))
  · exact Or.inr (Or.inr (Or.inl ⟨_, _, rfl⟩))
  · exact Or.inr (Or.inr (Or.inl ⟨_, _, rfl⟩))
  · exact Or.inr (Or.inr (Or.inl ⟨_, _, rfl⟩))
  · exact Or.inr (Or.inr (Or.inr ⟨_, rfl⟩))
  · exact Or.inr (Or.inr (Or.inr ⟨_, rfl⟩))
  · exact Or.inr (Or.inr (Or.inr ⟨_, rfl⟩))
