/-! GROWING, AS NUMBERS -/
/-- the widths still to be tried: m of 8, 16, 32, 64 (the next is 2^(7-m)) -/
def grF (H T : Nat) (L : List (Nat × Nat)) (key v : Nat) : Nat → Nat → (Nat → Nat) → (Nat → Nat) → Int32 → Int32 → Option Nat × Nat × (Nat → Nat) × (Nat → Nat) × Int32 × Int32
  | 0, B, K, V, c, x => (none, B, K, V, c, x)
  | m + 1, B, K, V, c, x => if 2 ^ (6 - m) ≤ B then grF H T L key v m B K V c x else match bldF (2 ^ (6 - m)) H T L kz kz 0 with
    | (false, K1, V1, c1) => grF H T L key v m (2 ^ (6 - m)) K1 V1 c1 (x + 1)
    | (true, K1, V1, c1) => match placeF (2 ^ (6 - m)) H T K1 V1 c1 key v with
      | (some bk, K2, V2, c2) => (some bk, 2 ^ (6 - m), K2, V2, c2, x + 1)
      | (none, K2, V2, c2) => grF H T L key v m (2 ^ (6 - m)) K2 V2 c2 (x + 1)
def insF (B H T : Nat) (K V : Nat → Nat) (c x : Int32) (key v : Nat) : Option Nat × Nat × (Nat → Nat) × (Nat → Nat) × Int32 × Int32 := match placeF B H T K V c key v with
  | (some bk, K1, V1, c1) => (some bk, B, K1, V1, c1, x)
  | (none, K1, V1, c1) => grF H T (entL K V B) key v 4 B K1 V1 c1 x
/-- built anew with some buckets or twice as many: success, the buckets, the counts -/
def rbF (H T : Nat) (L : List (Nat × Nat)) (newB : Nat) : Nat → Nat → (Nat → Nat) → (Nat → Nat) → Int32 → Int32 → Bool × Nat × (Nat → Nat) × (Nat → Nat) × Int32 × Int32
  | 0, B, K, V, c, x => (false, B, K, V, c, x)
  | m + 1, B, K, V, c, x => if 2 ^ (6 - m) < newB then rbF H T L newB m B K V c x else match bldF (2 ^ (6 - m)) H T L kz kz 0 with
    | (true, K1, V1, c1) => (true, 2 ^ (6 - m), K1, V1, c1, if 2 ^ (6 - m) = B then x else x + 1)
    | (false, K1, V1, c1) => rbF H T L newB m (2 ^ (6 - m)) K1 V1 c1 (if 2 ^ (6 - m) = B then x else x + 1)
theorem drop_at {α : Type} {L : List α} {i : Nat} {q : α} (h : L[i]? = some q) : L.drop i = q :: L.drop (i + 1) := by
  obtain ⟨h1, h2⟩ := List.getElem?_eq_some_iff.mp h
  rw [List.drop_eq_getElem_cons h1, h2]
theorem okB_w {m : Nat} (h : m < 4) : okB (2 ^ (6 - m)) := by
  rcases (show m = 0 ∨ m = 1 ∨ m = 2 ∨ m = 3 by omega) with rfl | rfl | rfl | rfl
  · exact Or.inr (Or.inr (Or.inr rfl))
  · exact Or.inr (Or.inr (Or.inl rfl))
  · exact Or.inr (Or.inl rfl)
  · exact Or.inl rfl
theorem w_next {m : Nat} (h : m < 4) : nI (2 ^ (6 - m)) * 2 = nI (2 ^ (7 - m)) := by
  rcases (show m = 0 ∨ m = 1 ∨ m = 2 ∨ m = 3 by omega) with rfl | rfl | rfl | rfl <;> decide
theorem placeF_lt {B H T : Nat} {K V K1 V1 : Nat → Nat} {c c1 : Int32} {key v bk : Nat} (hB : okB B) (h : placeF B H T K V c key v = (some bk, K1, V1, c1)) : bk < B := by
  unfold placeF at h
  have hp : 0 < B := by rcases hB with rfl | rfl | rfl | rfl <;> decide
  split at h
  · cases h
  · split at h
    · cases h
    · cases h
      exact Nat.mod_lt _ hp
