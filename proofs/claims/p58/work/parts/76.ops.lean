/-! adding and taking out, as options -/
def oAdd (S : zS) (k v : Nat) : Option zS := match sFind S k with
  | some _ => none
  | none => (sAdd S k v).map (·.2)
def oRem (S : zS) (k : Nat) : Option zS := (sFind S k).map (sRem S)
def tc (_ : Nat) : Nat := 0
theorem tc_256 (i : Nat) : tc i < 256 := by show 0 < 256; decide
