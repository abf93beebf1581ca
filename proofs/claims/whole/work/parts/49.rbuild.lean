/-! THE REFERENCE'S ROW OF ENTRIES, AND ITS BUILDINGS -/
def qN (s : Nat → Int32) (a : Nat → Nat → Int32) (L : List (Nat × Nat)) : Prop := s 10 = nI L.length ∧ L.length ≤ 64 ∧ (∀ j k v, L[j]? = some (k, v) → a 7 j = nI k ∧ a 8 j = nI v) ∧ ∀ q ∈ L, q.1 ≤ 9999 ∧ q.2 ≤ 999
theorem qN.same {s s' : Nat → Int32} {a a' : Nat → Nat → Int32} {L : List (Nat × Nat)} (h : qN s a L) (h10 : s' 10 = s 10) (h7 : a' 7 = a 7) (h8 : a' 8 = a 8) : qN s' a' L :=
  ⟨h10.trans h.1, h.2.1, fun j k v hj => by rw [h7, h8]; exact h.2.2.1 j k v hj, h.2.2.2⟩
theorem mV_nil {B H T : Nat} {r : Nat → Int32} (okb : okB B) (h2H : 2 ≤ H) (hH6 : H ≤ 6) (h1T : 1 ≤ T) (hT99 : T ≤ 99) (e0 : r 0 = nI B) (e1 : r 1 = nI H) (e2 : r 2 = nI T) (hk : ∀ i, i < 64 → r (9 + i) = 0 ∧ r (73 + i) = 0) : mV B H T kz kz r :=
  ⟨okb, h2H, hH6, h1T, hT99, e0, e1, e2, fun i hi => (hk i hi).1, fun i hi => (hk i hi).2, fun i => ⟨by simp [kz], by simp [kz]⟩, fun i _ => rfl⟩
/-- how often a number is doubled to come to another one -/
def dbl (B : Nat) : Nat → Nat → Nat
  | 0, _ => 0
  | m + 1, z => if z < B then dbl B m (2 * z) + 1 else 0
/-- built with 2^(7-m) buckets, or twice as many, and so on -/
def rbR (H T : Nat) (L : List (Nat × Nat)) : Nat → Option (Nat × (Nat → Nat) × (Nat → Nat) × Int32)
  | 0 => none
  | m + 1 => match bldF (2 ^ (6 - m)) H T L kz kz 0 with
    | (true, K, V, c) => some (2 ^ (6 - m), K, V, c)
    | (false, _) => rbR H T L m
def grR (H T : Nat) (L : List (Nat × Nat)) (key v : Nat) : Nat → Option (Nat × Nat × (Nat → Nat) × (Nat → Nat) × Int32)
  | 0 => none
  | m + 1 => match bldF (2 ^ (6 - m)) H T L kz kz 0 with
    | (false, _) => grR H T L key v m
    | (true, K, V, c) => match placeF (2 ^ (6 - m)) H T K V c key v with
      | (some bk, K', V', c') => some (bk, 2 ^ (6 - m), K', V', c')
      | (none, _) => grR H T L key v m
