/-! SEARCHES, AND WHAT THE TABLE'S READING METHODS ANSWER -/
def fnd (p : Nat → Bool) : Nat → Nat → Option Nat
  | 0, _ => none
  | m + 1, k => if p k = true then some k else fnd p m (k + 1)
theorem fnd_yes {p : Nat → Bool} {m k : Nat} (h : p k = true) : fnd p (m + 1) k = some k := by simp [fnd, h]
theorem fnd_no {p : Nat → Bool} {m k : Nat} (h : p k = false) : fnd p (m + 1) k = fnd p m (k + 1) := by simp [fnd, h]
theorem fnd_some {p : Nat → Bool} : ∀ {m k j : Nat}, fnd p m k = some j → k ≤ j ∧ j < k + m ∧ p j = true
  | 0, _, _, h => by simp [fnd] at h
  | m + 1, k, j, h => by
    by_cases hp : p k = true
    · rw [fnd_yes hp] at h
      cases h
      exact ⟨Nat.le_refl _, by omega, hp⟩
    · have hp' : p k = false := by simpa using hp
      rw [fnd_no hp'] at h
      obtain ⟨h1, h2, h3⟩ := fnd_some h
      exact ⟨by omega, by omega, h3⟩
theorem fnd_first {p : Nat → Bool} : ∀ {m k j : Nat}, fnd p m k = some j → ∀ i, k ≤ i → i < j → p i = false
  | 0, _, _, h => by simp [fnd] at h
  | m + 1, k, j, h => by
    intro i hi hj
    by_cases hp : p k = true
    · rw [fnd_yes hp] at h
      cases h
      omega
    · have hp' : p k = false := by simpa using hp
      rw [fnd_no hp'] at h
      by_cases hik : i = k
      · subst hik; exact hp'
      · exact fnd_first h i (by omega) hj
theorem fnd_none {p : Nat → Bool} : ∀ {m k : Nat}, fnd p m k = none → ∀ i, k ≤ i → i < k + m → p i = false
  | 0, _, _ => fun i h1 h2 => by omega
  | m + 1, k, h => by
    intro i hi hj
    by_cases hp : p k = true
    · rw [fnd_yes hp] at h; cases h
    · have hp' : p k = false := by simpa using hp
      rw [fnd_no hp'] at h
      by_cases hik : i = k
      · subst hik; exact hp'
      · exact fnd_none h i (by omega) (by omega)
theorem fnd_congr {p q : Nat → Bool} : ∀ {m k : Nat}, (∀ i, k ≤ i → i < k + m → p i = q i) → fnd p m k = fnd q m k
  | 0, _, _ => rfl
  | m + 1, k, h => by
    simp only [fnd]
    rw [h k (Nat.le_refl _) (by omega), fnd_congr (fun i h1 h2 => h i (by omega) (by omega))]
def optI (o : Option Nat) : Int32 := match o with
  | none => -1
  | some k => nI k
/-- how far the next free bucket is -/
def frD (B : Nat) (K : Nat → Nat) (f : Nat) : Option Nat := fnd (fun k => decide (K ((f + k) % B) = 0)) B 0
def dst (B T : Nat) (K : Nat → Nat) (i : Nat) : Nat := (i + B - hmo B T (K i - 1)) % B
def sfh (B T : Nat) (K : Nat → Nat) (i : Nat) : Int32 := if K i = 0 then -1 else nI (dst B T K i)
/-- where the entry with a key is, in the neighbourhood of its home -/
def bwp (B T : Nat) (K : Nat → Nat) (key : Nat) : Nat → Bool := fun k => decide (K ((hmo B T key + k) % B) = key + 1)
def bw (B H T : Nat) (K : Nat → Nat) (key : Nat) : Option Nat := (fnd (bwp B T K key) H 0).map fun k => (hmo B T key + k) % B
theorem mBadd {B x y : Nat} (hB : okB B) (hx : x < 2 ^ 20) (hy : y < 2 ^ 20) : (nI x + nI y) &&& (nI B - 1) = nI ((x + y) % B) := by
  rw [nI_add, mB hB (by omega)]
theorem isO_of {B T : Nat} {K : Nat → Nat} {b key : Nat} (h : K b = key + 1) : isO B T K b (hmo B T key) = true := by
  simp [isO, h]
