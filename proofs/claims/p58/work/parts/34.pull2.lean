/-- an entry is taken out of its bucket: the buckets and the pulls behind it -/
def takF (B H T : Nat) (K V : Nat → Nat) (c p : Int32) (bk : Nat) : (Nat → Nat) × (Nat → Nat) × Int32 := if p = 0 then (va_up K bk 0, va_up V bk 0, c) else pulF B H T 384 (va_up K bk 0) (va_up V bk 0) bk c
theorem bw_some {B H T : Nat} {K : Nat → Nat} {key bk : Nat} (h : bw B H T K key = some bk) : ∃ t, t < H ∧ bk = (hmo B T key + t) % B ∧ K bk = key + 1 := by
  unfold bw at h
  cases hf : fnd (bwp B T K key) H 0 with
  | none => rw [hf] at h; cases h
  | some t =>
    rw [hf] at h
    cases h
    obtain ⟨-, h2, h3⟩ := fnd_some hf
    exact ⟨t, by omega, rfl, by simpa [bwp] using h3⟩
theorem mod_back {B hm t : Nat} (hB : okB B) (hh : hm < B) (ht : t < 6) : ((hm + t) % B + B - hm) % B = t := by
  rcases hB with rfl | rfl | rfl | rfl <;> omega
theorem sfh_of {B T : Nat} {K : Nat → Nat} {key t : Nat} (hB : okB B) (hh : hmo B T key < B) (ht : t < 6) (hK : K ((hmo B T key + t) % B) = key + 1) : sfh B T K ((hmo B T key + t) % B) = nI t := by
  unfold sfh dst
  rw [if_neg (by omega), hK, show key + 1 - 1 = key from rfl, mod_back hB hh ht]
theorem mvK_src {K : Nat → Nat} {x y : Nat} (h : x ≠ y) : mvK K x y x = 0 := by simp [mvK, va_up, h]
theorem pull_ne {B free j k : Nat} (hB : okB B) (hf : free < B) (hj : j ≤ 5) (hk : k ≤ 5) (hjk : j < k) : (free + (k - j)) % B ≠ free := by
  rcases hB with rfl | rfl | rfl | rfl <;> omega
