/-! CHANGES OF A ROW OF THE REFERENCE -/
theorem mV_mv {B H T : Nat} {K V : Nat → Nat} {r r' : Nat → Int32} {src tgt : Nat} (hM : mV B H T K V r) (ht : tgt < B) (hst : src ≠ tgt)
    (h9 : ∀ k, k < 9 → r' k = r k) (hk : ∀ i, i < 64 → r' (9 + i) = if i = src then 0 else if i = tgt then r (9 + src) else r (9 + i)) (hv : ∀ i, i < 64 → r' (73 + i) = if i = src then 0 else if i = tgt then r (73 + src) else r (73 + i)) (hs : src < 64) :
    mV B H T (mvK K src tgt) (mvK V src tgt) r' := by
  obtain ⟨okb, h2H, hH6, h1T, hT99, e0, e1, e2, ek, ev, ekv, ez⟩ := hM
  refine ⟨okb, h2H, hH6, h1T, hT99, (h9 0 (by omega)).trans e0, (h9 1 (by omega)).trans e1, (h9 2 (by omega)).trans e2, fun i hi => ?_, fun i hi => ?_, fun i => ?_, fun i hi => ?_⟩
  · rw [hk i hi]
    unfold mvK
    by_cases h1 : i = src
    · subst h1; rw [if_pos rfl]; simp [va_up, hst]; rfl
    · by_cases h2 : i = tgt
      · subst h2; rw [if_neg h1, if_pos rfl, ek src hs]; simp [va_up]
      · rw [if_neg h1, if_neg h2, ek i hi]; simp [va_up, h1, h2]
  · rw [hv i hi]
    unfold mvK
    by_cases h1 : i = src
    · subst h1; rw [if_pos rfl]; simp [va_up, hst]; rfl
    · by_cases h2 : i = tgt
      · subst h2; rw [if_neg h1, if_pos rfl, ev src hs]; simp [va_up]
      · rw [if_neg h1, if_neg h2, ev i hi]; simp [va_up, h1, h2]
  · unfold mvK
    by_cases h2 : i = tgt
    · subst h2; simp [va_up, (ekv src).1, (ekv src).2]
    · by_cases h1 : i = src
      · subst h1; simp [va_up, h2]
      · simp [va_up, h1, h2, (ekv i).1, (ekv i).2]
  · unfold mvK
    have h2 : ¬ i = tgt := by omega
    by_cases h1 : i = src
    · subst h1; simp [va_up, h2]
    · simp [va_up, h1, h2, ez i hi]
theorem mV_put {B H T : Nat} {K V : Nat → Nat} {r r' : Nat → Int32} {x key v : Nat} (hM : mV B H T K V r) (hx : x < B) (hkey : key ≤ 9999) (hv9 : v ≤ 999)
    (h9 : ∀ k, k < 9 → r' k = r k) (hk : ∀ i, i < 64 → r' (9 + i) = if i = x then nI (key + 1) else r (9 + i)) (hv : ∀ i, i < 64 → r' (73 + i) = if i = x then nI v else r (73 + i)) :
    mV B H T (va_up K x (key + 1)) (va_up V x v) r' := by
  obtain ⟨okb, h2H, hH6, h1T, hT99, e0, e1, e2, ek, ev, ekv, ez⟩ := hM
  refine ⟨okb, h2H, hH6, h1T, hT99, (h9 0 (by omega)).trans e0, (h9 1 (by omega)).trans e1, (h9 2 (by omega)).trans e2, fun i hi => ?_, fun i hi => ?_, fun i => ?_, fun i hi => ?_⟩
  · rw [hk i hi]
    by_cases h1 : i = x
    · subst h1; rw [if_pos rfl]; simp [va_up]
    · rw [if_neg h1, ek i hi]; simp [va_up, h1]
  · rw [hv i hi]
    by_cases h1 : i = x
    · subst h1; rw [if_pos rfl]; simp [va_up]
    · rw [if_neg h1, ev i hi]; simp [va_up, h1]
  · by_cases h1 : i = x
    · subst h1; simp [va_up, hv9]; omega
    · simp [va_up, h1, (ekv i).1, (ekv i).2]
  · have h1 : ¬ i = x := by omega
    simp [va_up, h1, ez i hi]
theorem mV_same {B H T : Nat} {K V : Nat → Nat} {r r' : Nat → Int32} (hM : mV B H T K V r) (h : ∀ k, k < 137 → k ≠ 3 → k ≠ 4 → k ≠ 5 → k ≠ 6 → k ≠ 7 → k ≠ 8 → r' k = r k) : mV B H T K V r' := by
  obtain ⟨okb, h2H, hH6, h1T, hT99, e0, e1, e2, ek, ev, ekv, ez⟩ := hM
  exact ⟨okb, h2H, hH6, h1T, hT99, (h 0 (by omega) (by omega) (by omega) (by omega) (by omega) (by omega) (by omega)).trans e0, (h 1 (by omega) (by omega) (by omega) (by omega) (by omega) (by omega) (by omega)).trans e1, (h 2 (by omega) (by omega) (by omega) (by omega) (by omega) (by omega) (by omega)).trans e2, fun i hi => (h (9 + i) (by omega) (by omega) (by omega) (by omega) (by omega) (by omega) (by omega)).trans (ek i hi), fun i hi => (h (73 + i) (by omega) (by omega) (by omega) (by omega) (by omega) (by omega) (by omega)).trans (ev i hi), ekv, ez⟩
def movR (B T : Nat) (K : Nat → Nat) (free m : Nat) : Option Nat := (movS B T K free m).map fun q => mvSrc B free q.1 q.2
