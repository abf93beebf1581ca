/-! WHAT THE FIXED TEXT MAKES -/
def sA (S : zS) (k v : Nat) : zS := (oAdd S k v).getD S
def sX0 : zS := sNew 8 3 1
def sX1 : zS := sA sX0 1 10
def sX2 : zS := sA sX1 9 11
def sX3 : zS := sA sX2 3 12
def sX4 : zS := sA sX3 17 13
def sX5 : zS := sA sX4 4 14
def sX6 : zS := sPull sX5 1
def sXb : Nat := (sFind sX6 9).getD 0
def sX7 : zS := sRem sX6 sXb
def sX8 : zS := sA sX7 12 15
theorem sA_some {S : zS} {k v : Nat} (h : (oAdd S k v).isSome = true) : oAdd S k v = some (sA S k v) := by
  unfold sA
  cases e : oAdd S k v with
  | none => rw [e] at h; cases h
  | some x => rfl
theorem oAdd_two {S S' : zS} {k v : Nat} (h : oAdd S k v = some S') : sFind S k = none ∧ ∃ bk, sAdd S k v = some (bk, S') := by
  unfold oAdd at h
  cases e : sFind S k with
  | some b => rw [e] at h; cases h
  | none =>
    rw [e] at h
    simp only at h
    cases e2 : sAdd S k v with
    | none => rw [e2] at h; cases h
    | some q =>
      rw [e2] at h
      obtain ⟨bk, S2⟩ := q
      cases h
      exact ⟨rfl, bk, rfl⟩
theorem sX_1 : oAdd sX0 1 10 = some sX1 := sA_some (by decide +kernel)
theorem sX_2 : oAdd sX1 9 11 = some sX2 := sA_some (by decide +kernel)
theorem sX_3 : oAdd sX2 3 12 = some sX3 := sA_some (by decide +kernel)
theorem sX_4 : oAdd sX3 17 13 = some sX4 := sA_some (by decide +kernel)
theorem sX_5 : oAdd sX4 4 14 = some sX5 := sA_some (by decide +kernel)
theorem sX_b : sFind sX6 9 = some sXb := by
  have h : (sFind sX6 9).isSome = true := by decide +kernel
  unfold sXb
  cases e : sFind sX6 9 with
  | none => rw [e] at h; cases h
  | some x => rfl
theorem sX_7 : oRem sX6 9 = some sX7 := by unfold oRem; rw [sX_b]; rfl
theorem sX_8 : oAdd sX7 12 15 = some sX8 := sA_some (by decide +kernel)