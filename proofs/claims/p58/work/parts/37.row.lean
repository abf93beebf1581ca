/-! A ROW, AS NUMBERS -/
/-- the keys of a row, one after the other: how many were added, the buckets, the counts -/
def rowF (H T step : Nat) : Nat → Nat → Nat → Nat → (Nat → Nat) → (Nat → Nat) → Int32 → Int32 → Option (Nat × Nat × (Nat → Nat) × (Nat → Nat) × Int32 × Int32)
  | 0, _, j, B, K, V, c, x => some (j, B, K, V, c, x)
  | m + 1, key, j, B, K, V, c, x => match bw B H T K key with
    | some _ => rowF H T step m (key + step) j B K V c x
    | none => match insF B H T K V c x key 0 with
      | (none, _) => none
      | (some _, B', K', V', c', x') => rowF H T step m (key + step) (j + 1) B' K' V' c' x'
theorem rowF_in {H T step m key j B : Nat} {K V : Nat → Nat} {c x : Int32} {bk : Nat} (h : bw B H T K key = some bk) : rowF H T step (m + 1) key j B K V c x = rowF H T step m (key + step) j B K V c x := by
  simp [rowF, h]
theorem rowF_no {H T step m key j B : Nat} {K V : Nat → Nat} {c x : Int32} {B' : Nat} {K' V' : Nat → Nat} {c' x' : Int32} (h : bw B H T K key = none) (h2 : insF B H T K V c x key 0 = (none, B', K', V', c', x')) : rowF H T step (m + 1) key j B K V c x = none := by
  simp [rowF, h, h2]
theorem rowF_yes {H T step m key j B : Nat} {K V : Nat → Nat} {c x : Int32} {bk B' : Nat} {K' V' : Nat → Nat} {c' x' : Int32} (h : bw B H T K key = none) (h2 : insF B H T K V c x key 0 = (some bk, B', K', V', c', x')) : rowF H T step (m + 1) key j B K V c x = rowF H T step m (key + step) (j + 1) B' K' V' c' x' := by
  simp [rowF, h, h2]
theorem bw_lt {B H T : Nat} {K : Nat → Nat} {key bk : Nat} (hB : okB B) (h : bw B H T K key = some bk) : bk < B ∧ K bk = key + 1 := by
  obtain ⟨t, -, h2, h3⟩ := bw_some h
  exact ⟨by rw [h2]; exact mod_lt' hB, h3⟩
theorem tR_val {B H T : Nat} {K V : Nat → Nat} {s : Nat → Int32} {a a' : Nat → Nat → Int32} {bk v : Nat} (hR : tR B H T K V s a) (hK : K bk ≠ 0) (hv : v ≤ 999) (h0 : a' 0 = a 0) (h1 : ∀ i, i < 64 → a' 1 i = if i = bk then nI v else a 1 i) (h2 : a' 2 = a 2) : tR B H T K (va_up V bk v) s a' := by
  obtain ⟨okb, h2H, hH6, h1T, hT99, e6, e7, e8, ek, ev, eh, ekv, ez⟩ := hR
  refine ⟨okb, h2H, hH6, h1T, hT99, e6, e7, e8, by rw [h0]; exact ek, fun i hi => ?_, by rw [h2]; exact eh, fun i => ⟨(ekv i).1, ?_⟩, ez⟩
  · rw [h1 i hi]
    by_cases hi2 : i = bk
    · subst hi2
      rw [if_pos rfl, tval, if_neg hK]
      simp [va_up]
    · rw [if_neg hi2, ev i hi]
      simp [va_up, hi2]
  · by_cases hi2 : i = bk
    · subst hi2; simp [va_up, hv]
    · simp [va_up, hi2, (ekv i).2]
