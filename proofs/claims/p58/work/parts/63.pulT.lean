/-- the pulls come to an end within so many -/
def pulT (B H T : Nat) : Nat → (Nat → Nat) → Nat → Prop
  | 0, _, _ => False
  | n + 1, K, free => match pulS B H T K free H with
    | none => True
    | some (j, k) => pulT B H T n (mvK K (mvSrc B free j k) free) ((free + (k - j)) % B)
theorem pulT_step {B H T n : Nat} {K : Nat → Nat} {free j k : Nat} (h : pulS B H T K free H = some (j, k)) (hp : pulT B H T (n + 1) K free) : pulT B H T n (mvK K (mvSrc B free j k) free) ((free + (k - j)) % B) := by
  simpa [pulT, h] using hp