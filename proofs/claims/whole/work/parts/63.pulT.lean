/-- the pulls come to an end within so many -/
def pulT (B H T : Nat) : Nat → (Nat → Nat) → Nat → Prop
  | 0, _, _ => False
  | n + 1, K, free => match pulS B H T K free H with
    | none => True
    | some (j, k) => pulT B H T n (mvK K (mvSrc B free j k) free) ((free + (k - j)) % B)
theorem pulT_step {B H T n : Nat} {K : Nat → Nat} {free j k : Nat} (h : pulS B H T K free H = some (j, k)) (hp : pulT B H T (n + 1) K free) : pulT B H T n (mvK K (mvSrc B free j k) free) ((free + (k - j)) % B) := by
  simpa [pulT, h] using hp
theorem mV_del {B H T : Nat} {K V : Nat → Nat} {r r' : Nat → Int32} {x : Nat} (hM : mV B H T K V r) (h3 : ∀ k, k < 3 → r' k = r k) (hk : ∀ i, i < 64 → r' (9 + i) = if i = x then 0 else r (9 + i)) (hv : ∀ i, i < 64 → r' (73 + i) = if i = x then 0 else r (73 + i)) : mV B H T (va_up K x 0) (va_up V x 0) r' := by
  obtain ⟨okb, h2H, hH6, h1T, hT99, e0, e1, e2, ek, ev, ekv, ez⟩ := hM
  refine ⟨okb, h2H, hH6, h1T, hT99, (h3 0 (by omega)).trans e0, (h3 1 (by omega)).trans e1, (h3 2 (by omega)).trans e2, fun i hi => ?_, fun i hi => ?_, fun i => ?_, fun i hi => ?_⟩
  · rw [hk i hi]
    by_cases h1 : i = x
    · subst h1; rw [if_pos rfl]; simp [va_up]; rfl
    · rw [if_neg h1, ek i hi]; simp [va_up, h1]
  · rw [hv i hi]
    by_cases h1 : i = x
    · subst h1; rw [if_pos rfl]; simp [va_up]; rfl
    · rw [if_neg h1, ev i hi]; simp [va_up, h1]
  · by_cases h1 : i = x
    · subst h1; simp [va_up]
    · simp [va_up, h1, (ekv i).1, (ekv i).2]
  · by_cases h1 : i = x
    · subst h1; simp [va_up]
    · simp [va_up, h1, ez i hi]
