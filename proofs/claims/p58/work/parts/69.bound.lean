/-! THE PULLS COME TO AN END -/
theorem sumN_two {f g : Nat → Nat} {x y : Nat} (hxy : x ≠ y) (h : ∀ i, i ≠ x → i ≠ y → g i = f i) : ∀ n, sumN g n + (if x < n then f x else 0) + (if y < n then f y else 0) = sumN f n + (if x < n then g x else 0) + (if y < n then g y else 0)
  | 0 => by simp [sumN]
  | n + 1 => by
    have ih := sumN_two hxy h n
    simp only [sumN]
    by_cases hx : n = x
    · subst hx
      rw [if_neg (Nat.lt_irrefl n), if_neg (Nat.lt_irrefl n)] at ih
      rw [if_pos (show n < n + 1 by omega), if_pos (show n < n + 1 by omega)]
      by_cases hy : y < n
      · rw [if_pos hy, if_pos hy] at ih
        rw [if_pos (show y < n + 1 by omega), if_pos (show y < n + 1 by omega)]
        omega
      · rw [if_neg hy, if_neg hy] at ih
        rw [if_neg (show ¬ y < n + 1 by omega), if_neg (show ¬ y < n + 1 by omega)]
        omega
    · by_cases hy : n = y
      · subst hy
        rw [if_neg (Nat.lt_irrefl n), if_neg (Nat.lt_irrefl n)] at ih
        rw [if_pos (show n < n + 1 by omega), if_pos (show n < n + 1 by omega)]
        by_cases hx2 : x < n
        · rw [if_pos hx2, if_pos hx2] at ih
          rw [if_pos (show x < n + 1 by omega), if_pos (show x < n + 1 by omega)]
          omega
        · rw [if_neg hx2, if_neg hx2] at ih
          rw [if_neg (show ¬ x < n + 1 by omega), if_neg (show ¬ x < n + 1 by omega)]
          omega
      · rw [h n hx hy]
        have e1 : (x < n + 1) = (x < n) := propext ⟨fun q => by omega, fun q => by omega⟩
        have e2 : (y < n + 1) = (y < n) := propext ⟨fun q => by omega, fun q => by omega⟩
        simp only [e1, e2]
        omega
theorem pulT_of {B H T : Nat} (hB : okB B) (hH : H ≤ 6) : ∀ n (K : Nat → Nat) free, free < B → K free = 0 → sumN (offN B T K) B < n → pulT B H T n K free
  | 0, K, free, _, _, h => by omega
  | n + 1, K, free, hf, h0, h => by
    have hle := hB.le
    cases hp : pulS B H T K free H with
    | none => simp [pulT, hp]
    | some q =>
      obtain ⟨j, k⟩ := q
      obtain ⟨h1, h2, h3, h4⟩ := pulS_some hp
      obtain ⟨k1, k2⟩ := isO_K h4
      have hh : (free + B - j) % B < B := mod_lt' hB
      have hbk := back_free (j := j) hB hf (by omega)
      have hsrc := mvSrc_pull hB hf (show j ≤ 5 by omega) (show k ≤ 5 by omega) h2
      have hnf := pull_ne hB hf (show j ≤ 5 by omega) (show k ≤ 5 by omega) h2
      have hsB : mvSrc B free j k < B := by rw [hsrc]; exact mod_lt' hB
      have hne : mvSrc B free j k ≠ free := by rw [hsrc]; exact hnf
      have hKs : K (mvSrc B free j k) ≠ 0 := k1
      have hhs : hmo B T (K (mvSrc B free j k) - 1) = (free + B - j) % B := k2
      have o1 : offN B T K (mvSrc B free j k) = k := by
        unfold offN dst
        rw [if_neg hKs, hhs]
        exact mod_back hB hh (by omega)
      have o2 : offN B T K free = 0 := by unfold offN; rw [if_pos h0]
      have o3 : offN B T (mvK K (mvSrc B free j k) free) (mvSrc B free j k) = 0 := by unfold offN; rw [if_pos (mvK_src hne)]
      have hKt : mvK K (mvSrc B free j k) free free = K (mvSrc B free j k) := by simp [mvK, va_up]
      have o4 : offN B T (mvK K (mvSrc B free j k) free) free = j := by
        unfold offN dst
        rw [hKt, if_neg hKs, hhs]
        have := mod_back (t := j) hB hh (by omega)
        rw [hbk] at this
        exact this
      have hs := sumN_two (f := offN B T K) (g := offN B T (mvK K (mvSrc B free j k) free)) (x := mvSrc B free j k) (y := free) hne (fun i i1 i2 => by
        have : mvK K (mvSrc B free j k) free i = K i := by simp [mvK, va_up, i1, i2]
        unfold offN dst
        rw [this]) B
      rw [if_pos hsB, if_pos hsB, if_pos hf, if_pos hf, o1, o2, o3, o4] at hs
      have ih := pulT_of (T := T) hB hH n (mvK K (mvSrc B free j k) free) ((free + (k - j)) % B) (mod_lt' hB) (by rw [← hsrc]; exact mvK_src hne) (by omega)
      simpa [pulT, hp] using ih
theorem offN_5 {B H T : Nat} {K : Nat → Nat} (hB : okB B) (hH : H ≤ 6) (hI : inH B H T K) {i : Nat} (hi : i < B) : offN B T K i ≤ 5 := by
  unfold offN dst
  by_cases hK : K i = 0
  · rw [if_pos hK]; omega
  · rw [if_neg hK]
    obtain ⟨t, h1, h2⟩ := hI i hi hK
    have hh := hmo_lt hB T (K i - 1)
    have h3 := mod_back (t := t) hB hh (by omega)
    rw [← h2] at h3
    omega
theorem sum_off {B H T : Nat} {K : Nat → Nat} (hB : okB B) (hH : H ≤ 6) (hI : inH B H T K) : sumN (offN B T K) B < 384 := by
  have h1 : sumN (offN B T K) B = sumN (fun i => if i < B then offN B T K i else 0) B := sumN_congr B (fun j hj => by rw [if_pos hj])
  have h2 := sumN_le (f := fun i => if i < B then offN B T K i else 0) (M := 5) (fun i => by
    by_cases hi : i < B
    · simp only [if_pos hi]; exact offN_5 hB hH hI hi
    · simp only [if_neg hi]; omega) B
  have hle := hB.le
  omega
theorem pulT_384 {B H T : Nat} {K : Nat → Nat} {x : Nat} (hB : okB B) (hH : H ≤ 6) (hI : inH B H T K) (hx : x < B) : pulT B H T 384 (va_up K x 0) x :=
  pulT_of hB hH 384 _ x hx (by simp [va_up]) (sum_off hB hH (inH_del hI))
