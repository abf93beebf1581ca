/-- why a key cannot be added: 1 it is there, 2 no place, 0 it can -/
def whyR (B H T : Nat) (K V : Nat → Nat) (c : Int32) (key : Nat) : Int32 := match bwS B K key with
  | some _ => 1
  | none => match insR B H T K V c key 0 with
    | none => 2
    | some _ => 0
def pulR (B H T : Nat) (K : Nat → Nat) (free m : Nat) : Option Nat := (pulS B H T K free m).map fun q => mvSrc B free q.1 q.2
theorem bwS_lt {B : Nat} {K : Nat → Nat} {key bk : Nat} (h : bwS B K key = some bk) : bk < B ∧ K bk = key + 1 := by
  obtain ⟨-, h2, h3⟩ := fnd_some h
  exact ⟨by omega, by simpa using h3⟩
theorem mV_val {B H T : Nat} {K V : Nat → Nat} {r r' : Nat → Int32} {x v : Nat} (hM : mV B H T K V r) (hv9 : v ≤ 999) (h9 : ∀ k, k < 9 → r' k = r k) (hk : ∀ i, i < 64 → r' (9 + i) = r (9 + i)) (hv : ∀ i, i < 64 → r' (73 + i) = if i = x then nI v else r (73 + i)) : mV B H T K (va_up V x v) r' := by
  obtain ⟨okb, h2H, hH6, h1T, hT99, e0, e1, e2, ek, ev, ekv, ez⟩ := hM
  refine ⟨okb, h2H, hH6, h1T, hT99, (h9 0 (by omega)).trans e0, (h9 1 (by omega)).trans e1, (h9 2 (by omega)).trans e2, fun i hi => (hk i hi).trans (ek i hi), fun i hi => ?_, fun i => ⟨(ekv i).1, ?_⟩, ez⟩
  · rw [hv i hi]
    by_cases h1 : i = x
    · subst h1; rw [if_pos rfl]; simp [va_up]
    · rw [if_neg h1, ev i hi]; simp [va_up, h1]
  · by_cases h1 : i = x
    · subst h1; simp [va_up, hv9]
    · simp [va_up, h1, (ekv i).2]
