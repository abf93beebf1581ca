/-- how often a number is doubled to come to another one -/
def dbl (B : Nat) : Nat → Nat → Nat
  | 0, _ => 0
  | m + 1, z => if z < B then dbl B m (2 * z) + 1 else 0
/-- built with 2^(7-m) buckets, or twice as many, and so on -/
def rbR (H T : Nat) (L : List (Nat × Nat)) : Nat → Option (Nat × (Nat → Nat) × (Nat → Nat) × Int32)
  | 0 => none
  | m + 1 => match bldF (2 ^ (6 - m)) H T L kz kz 0 with
    | (true, K, V, c) => some (2 ^ (6 - m), K, V, c)
    | (false, _) => rbR H T L m
def grR (H T : Nat) (L : List (Nat × Nat)) (key v : Nat) : Nat → Option (Nat × Nat × (Nat → Nat) × (Nat → Nat) × Int32)
  | 0 => none
  | m + 1 => match bldF (2 ^ (6 - m)) H T L kz kz 0 with
    | (false, _) => grR H T L key v m
    | (true, K, V, c) => match placeF (2 ^ (6 - m)) H T K V c key v with
      | (some bk, K', V', c') => some (bk, 2 ^ (6 - m), K', V', c')
      | (none, _) => grR H T L key v m
