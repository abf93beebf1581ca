def bI (p : Prop) [Decidable p] : Int32 := if p then 1 else 0
theorem bI_t {p : Prop} [Decidable p] (h : p) : bI p = 1 := if_pos h
theorem bI_f {p : Prop} [Decidable p] (h : ¬ p) : bI p = 0 := if_neg h
theorem bI_0 {p : Prop} [Decidable p] : bI p = 0 ↔ ¬ p := by
  unfold bI
  by_cases h : p
  · rw [if_pos h]; exact ⟨fun e => absurd e (by decide), fun e => absurd h e⟩
  · rw [if_neg h]; exact ⟨fun _ => h, fun _ => rfl⟩
theorem bI_n {p : Prop} [Decidable p] : ¬ bI p = 0 ↔ p := by rw [bI_0]; exact Decidable.not_not
theorem key_tk (k : Nat) : nI k - 1 = tkey k := by
  cases k with
  | zero => decide
  | succ k => rw [nI_pred, tkey, if_neg (by omega)]; rfl
theorem wrap_sub (x y z : Int32) : x - y + z = (x + z) - y := by
  rw [Int32.sub_eq_add_neg, Int32.sub_eq_add_neg, Int32.add_assoc, Int32.add_comm (-y) z, ← Int32.add_assoc]
theorem wrap_neg (x y z : Int32) : x + -y + z = (x + z) - y := by
  rw [Int32.sub_eq_add_neg, Int32.add_assoc, Int32.add_comm (-y) z, ← Int32.add_assoc]
def bwS (B : Nat) (K : Nat → Nat) (key : Nat) : Option Nat := fnd (fun i => decide (K i = key + 1)) B 0
def manN (B T : Nat) (K : Nat → Nat) (hm : Nat) : Nat → Nat := sumN (fun i => if isO B T K i hm = true then 1 else 0)
theorem or_bit : ∀ k, k < 6 → ∀ x, x < 2 ^ k → nI x ||| ((1 : Int32) <<< (nI k &&& 31)) = nI (x + 2 ^ k) := by decide +kernel
theorem or_zero (x : Int32) : x ||| 0 = x := Int32.or_zero
