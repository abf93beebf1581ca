/-! THE INVARIANT UNDER TAKING OUT -/
theorem pulF_inv {B H T : Nat} (hB : okB B) (hH : H ≤ 6) : ∀ n (K V : Nat → Nat) free c K' V' c', inH B H T K → dis B K → free < B → K free = 0 → pulF B H T n K V free c = (K', V', c') → inH B H T K' ∧ dis B K' ∧ cnt K' B = cnt K B
  | 0, K, V, free, c, K', V', c', hI, hd, _, _, e => by
    cases e
    exact ⟨hI, hd, rfl⟩
  | n + 1, K, V, free, c, K', V', c', hI, hd, hf, h0, e => by
    have hle := hB.le
    cases hp : pulS B H T K free H with
    | none =>
      rw [pulF_stop hp] at e
      cases e
      exact ⟨hI, hd, rfl⟩
    | some q =>
      obtain ⟨j, k⟩ := q
      rw [pulF_step hp] at e
      obtain ⟨h1, h2, h3, h4⟩ := pulS_some hp
      have hh : (free + B - j) % B < B := mod_lt' hB
      have hbk := back_free (j := j) hB hf (by omega)
      have hsrc := mvSrc_pull hB hf (show j ≤ 5 by omega) (show k ≤ 5 by omega) h2
      have hnf := pull_ne hB hf (show j ≤ 5 by omega) (show k ≤ 5 by omega) h2
      have hsB : mvSrc B free j k < B := by rw [hsrc]; exact mod_lt' hB
      have hne : mvSrc B free j k ≠ free := by rw [hsrc]; exact hnf
      have hI1 := inH_mv (t := j) hB hI hh h1 h4
      rw [hbk] at hI1
      have hI2 : inH B H T (mvK K (mvSrc B free j k) free) := hI1
      obtain ⟨i1, i2, i3⟩ := pulF_inv hB hH n _ _ _ _ K' V' c' hI2 (dis_mv hd hsB hne) (mod_lt' hB) (by rw [← hsrc]; exact mvK_src hne) e
      exact ⟨i1, i2, i3.trans (cnt_mv hsB hf hne (isO_K h4).1 h0)⟩
theorem dis_del {B : Nat} {K : Nat → Nat} {x : Nat} (hd : dis B K) : dis B (va_up K x 0) := by
  intro i j hi hj hK e
  by_cases h1 : i = x
  · exact absurd (by simp [va_up, h1]) hK
  · by_cases h2 : j = x
    · exact absurd (by rw [e]; simp [va_up, h2]) hK
    · simp only [va_up, if_neg h1, if_neg h2] at e hK
      exact hd i j hi hj hK e
theorem takF_inv {B H T : Nat} {K V : Nat → Nat} {c p : Int32} {bk : Nat} {K' V' : Nat → Nat} {c' : Int32} (hB : okB B) (hH : H ≤ 6) (hI : inH B H T K) (hd : dis B K) (hb : bk < B) (hK : K bk ≠ 0) (e : takF B H T K V c p bk = (K', V', c')) : inH B H T K' ∧ dis B K' ∧ cnt K' B + 1 = cnt K B := by
  have hc := cnt_del hK B
  rw [if_pos hb] at hc
  unfold takF at e
  split at e
  · cases e
    exact ⟨inH_del hI, dis_del hd, hc⟩
  · obtain ⟨i1, i2, i3⟩ := pulF_inv hB hH 384 _ _ _ _ K' V' c' (inH_del hI) (dis_del hd) hb (by simp [va_up]) e
    exact ⟨i1, i2, by omega⟩
