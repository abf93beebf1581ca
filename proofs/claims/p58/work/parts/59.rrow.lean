/-- a row of keys, as the reference adds it -/
def rowR (H T step : Nat) : Nat → Nat → Nat → Nat → (Nat → Nat) → (Nat → Nat) → Int32 → Int32 → Option (Nat × Nat × (Nat → Nat) × (Nat → Nat) × Int32 × Int32)
  | 0, _, j, B, K, V, c, x => some (j, B, K, V, c, x)
  | m + 1, key, j, B, K, V, c, x => match bwS B K key with
    | some _ => rowR H T step m (key + step) j B K V c x
    | none => match insR B H T K V c key 0 with
      | none => none
      | some (_, B', K', V', c') => rowR H T step m (key + step) (j + 1) B' K' V' c' (x + nI (dbl B' 4 B))
theorem rowR_in {H T step m key j B : Nat} {K V : Nat → Nat} {c x : Int32} {bk : Nat} (h : bwS B K key = some bk) : rowR H T step (m + 1) key j B K V c x = rowR H T step m (key + step) j B K V c x := by
  simp [rowR, h]
theorem rowR_no {H T step m key j B : Nat} {K V : Nat → Nat} {c x : Int32} (h : bwS B K key = none) (h2 : insR B H T K V c key 0 = none) : rowR H T step (m + 1) key j B K V c x = none := by
  simp [rowR, h, h2]
theorem rowR_yes {H T step m key j B : Nat} {K V : Nat → Nat} {c x : Int32} {bk B' : Nat} {K' V' : Nat → Nat} {c' : Int32} (h : bwS B K key = none) (h2 : insR B H T K V c key 0 = some (bk, B', K', V', c')) : rowR H T step (m + 1) key j B K V c x = rowR H T step m (key + step) (j + 1) B' K' V' c' (x + nI (dbl B' 4 B)) := by
  simp [rowR, h, h2]
