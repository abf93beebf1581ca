/-! PULLING, AS NUMBERS -/
/-- the largest of lo+1 .. lo+m that has it -/
def fndD (p : Nat → Bool) (lo : Nat) : Nat → Option Nat
  | 0 => none
  | m + 1 => if p (lo + (m + 1)) = true then some (lo + (m + 1)) else fndD p lo m
theorem fndD_yes {p : Nat → Bool} {lo m : Nat} (h : p (lo + (m + 1)) = true) : fndD p lo (m + 1) = some (lo + (m + 1)) := by simp only [fndD]; rw [if_pos h]
theorem fndD_no {p : Nat → Bool} {lo m : Nat} (h : p (lo + (m + 1)) = false) : fndD p lo (m + 1) = fndD p lo m := by simp only [fndD]; rw [if_neg (by rw [h]; decide)]
theorem fndD_some {p : Nat → Bool} {lo : Nat} : ∀ {m j : Nat}, fndD p lo m = some j → lo < j ∧ j ≤ lo + m ∧ p j = true
  | 0, _, h => by simp [fndD] at h
  | m + 1, j, h => by
    by_cases hp : p (lo + (m + 1)) = true
    · rw [fndD_yes hp] at h
      cases h
      exact ⟨by omega, Nat.le_refl _, hp⟩
    · have hp' : p (lo + (m + 1)) = false := by simpa using hp
      rw [fndD_no hp'] at h
      obtain ⟨h1, h2, h3⟩ := fndD_some h
      exact ⟨h1, by omega, h3⟩
/-- which entry of one home is pulled: how far it lies -/
def pulI (B H T : Nat) (K : Nat → Nat) (free back : Nat) : Option Nat := fndD (fun k => isO B T K (((free + B - back) % B + k) % B) ((free + B - back) % B)) back (H - 1 - back)
/-- which entry is pulled into the free bucket: (how far its home lies before it, how far it lies from its home) -/
def pulS (B H T : Nat) (K : Nat → Nat) (free : Nat) : Nat → Option (Nat × Nat)
  | 0 => none
  | j + 1 => match pulI B H T K free j with
    | some k => some (j, k)
    | none => pulS B H T K free j
theorem pulS_yes {B H T : Nat} {K : Nat → Nat} {free j k : Nat} (h : pulI B H T K free j = some k) : pulS B H T K free (j + 1) = some (j, k) := by simp [pulS, h]
theorem pulS_no {B H T : Nat} {K : Nat → Nat} {free j : Nat} (h : pulI B H T K free j = none) : pulS B H T K free (j + 1) = pulS B H T K free j := by simp [pulS, h]
theorem pulS_some {B H T : Nat} {K : Nat → Nat} {free : Nat} : ∀ {m j k : Nat}, pulS B H T K free m = some (j, k) → j < m ∧ j < k ∧ k ≤ H - 1 ∧ isO B T K (((free + B - j) % B + k) % B) ((free + B - j) % B) = true
  | 0, _, _, h => by simp [pulS] at h
  | m + 1, j, k, h => by
    cases hb : pulI B H T K free m with
    | some i =>
      rw [pulS_yes hb] at h
      cases h
      obtain ⟨h1, h2, h3⟩ := fndD_some hb
      exact ⟨by omega, h1, by omega, h3⟩
    | none =>
      rw [pulS_no hb] at h
      obtain ⟨h1, h2⟩ := pulS_some h
      exact ⟨by omega, h2⟩
/-- pulls, one after the other: the buckets behind them, the count -/
def pulF (B H T : Nat) : Nat → (Nat → Nat) → (Nat → Nat) → Nat → Int32 → (Nat → Nat) × (Nat → Nat) × Int32
  | 0, K, V, _, c => (K, V, c)
  | n + 1, K, V, free, c => match pulS B H T K free H with
    | none => (K, V, c)
    | some (j, k) => pulF B H T n (mvK K (mvSrc B free j k) free) (mvK V (mvSrc B free j k) free) ((free + (k - j)) % B) (c + 1)
theorem pulF_stop {B H T n : Nat} {K V : Nat → Nat} {free : Nat} {c : Int32} (h : pulS B H T K free H = none) : pulF B H T (n + 1) K V free c = (K, V, c) := by simp [pulF, h]
theorem pulF_step {B H T n : Nat} {K V : Nat → Nat} {free j k : Nat} {c : Int32} (h : pulS B H T K free H = some (j, k)) : pulF B H T (n + 1) K V free c = pulF B H T n (mvK K (mvSrc B free j k) free) (mvK V (mvSrc B free j k) free) ((free + (k - j)) % B) (c + 1) := by simp [pulF, h]
theorem mvSrc_pull {B free j k : Nat} (hB : okB B) (hf : free < B) (hj : j ≤ 5) (hk : k ≤ 5) (hjk : j < k) : mvSrc B free j k = (free + (k - j)) % B := by
  unfold mvSrc
  rcases hB with rfl | rfl | rfl | rfl <;> omega
/-- how far back, counting down: none left is -1 -/
def bkI : Nat → Int32
  | 0 => -1
  | j + 1 => nI j
theorem bkI_dec (j : Nat) : nI j + -1 = bkI j := by
  cases j with
  | zero => decide
  | succ j => exact pk_m1 j
theorem bkI_pred {j : Nat} (h : 0 < j) : nI j - 1 = bkI j := by
  cases j with
  | zero => omega
  | succ j => exact nI_pred j
