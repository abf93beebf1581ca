/-- how many widths are larger than B -/
def wid (B : Nat) : Nat := if B = 8 then 3 else if B = 16 then 2 else if B = 32 then 1 else 0
theorem wid_2 {B : Nat} (hB : okB B) : wid B ≤ 3 ∧ 2 ^ (7 - wid B) = 2 * B := by
  rcases hB with rfl | rfl | rfl | rfl <;> decide
theorem wid_1 {B : Nat} (hB : okB B) : 2 ^ (7 - (wid B + 1)) = B := by
  rcases hB with rfl | rfl | rfl | rfl <;> decide
/-- an entry is added: its bucket, the number of buckets, the buckets, what moved -/
def insR (B H T : Nat) (K V : Nat → Nat) (c : Int32) (key v : Nat) : Option (Nat × Nat × (Nat → Nat) × (Nat → Nat) × Int32) := match placeF B H T K V c key v with
  | (some bk, K', V', c') => some (bk, B, K', V', c')
  | (none, _) => grR H T (entL K V B) key v (wid B)
theorem dbl_same (B m : Nat) : dbl B m B = 0 := by
  cases m with
  | zero => rfl
  | succ m => simp [dbl]
theorem rbR_no {H T m : Nat} {L : List (Nat × Nat)} {K V : Nat → Nat} {c : Int32} (h : bldF (2 ^ (6 - m)) H T L kz kz 0 = (false, K, V, c)) : rbR H T L (m + 1) = rbR H T L m := by simp [rbR, h]
theorem rbR_yes {H T m : Nat} {L : List (Nat × Nat)} {K V : Nat → Nat} {c : Int32} (h : bldF (2 ^ (6 - m)) H T L kz kz 0 = (true, K, V, c)) : rbR H T L (m + 1) = some (2 ^ (6 - m), K, V, c) := by simp [rbR, h]
theorem grR_no {H T m key v : Nat} {L : List (Nat × Nat)} {K V : Nat → Nat} {c : Int32} (h : bldF (2 ^ (6 - m)) H T L kz kz 0 = (false, K, V, c)) : grR H T L key v (m + 1) = grR H T L key v m := by simp [grR, h]
theorem grR_no2 {H T m key v : Nat} {L : List (Nat × Nat)} {K V K' V' : Nat → Nat} {c c' : Int32} (h : bldF (2 ^ (6 - m)) H T L kz kz 0 = (true, K, V, c)) (h2 : placeF (2 ^ (6 - m)) H T K V c key v = (none, K', V', c')) : grR H T L key v (m + 1) = grR H T L key v m := by simp [grR, h, h2]
theorem grR_yes {H T m key v bk : Nat} {L : List (Nat × Nat)} {K V K' V' : Nat → Nat} {c c' : Int32} (h : bldF (2 ^ (6 - m)) H T L kz kz 0 = (true, K, V, c)) (h2 : placeF (2 ^ (6 - m)) H T K V c key v = (some bk, K', V', c')) : grR H T L key v (m + 1) = some (bk, 2 ^ (6 - m), K', V', c') := by simp [grR, h, h2]
