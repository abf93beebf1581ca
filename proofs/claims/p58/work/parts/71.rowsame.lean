theorem insR_B {B H T : Nat} {K V : Nat → Nat} {c : Int32} {key v bk B' : Nat} {K' V' : Nat → Nat} {c' : Int32} (hB : okB B) (e : insR B H T K V c key v = some (bk, B', K', V', c')) : okB B' := by
  unfold insR at e
  split at e
  · cases e
    exact hB
  · exact (grR_B _ _ _ _ _ _ (by have := (wid_2 hB).1; omega) e).1
theorem rowF_rowR {H T step : Nat} (hH : H ≤ 6) : ∀ m key j B K V c x, okB B → inH B H T K → dis B K → rowF H T step m key j B K V c x = rowR H T step m key j B K V c x
  | 0, key, j, B, K, V, c, x, _, _, _ => rfl
  | m + 1, key, j, B, K, V, c, x, hB, hI, hd => by
    have hbs := bw_bwS (key := key) hB hI hd
    cases hb : bwS B K key with
    | some bk => rw [rowF_in (hbs.trans hb), rowR_in hb, rowF_rowR hH m _ _ _ _ _ _ _ hB hI hd]
    | none =>
      obtain ⟨h1, h2⟩ := insF_insR (H := H) (T := T) (K := K) (V := V) (c := c) (x := x) (key := key) (v := 0) hB
      cases hi : insR B H T K V c key 0 with
      | none =>
        have h3 := h1 hi
        rw [rowR_no hb hi]
        rcases hf : insF B H T K V c x key 0 with ⟨o, B1, K1, V1, c1, x1⟩
        rw [hf] at h3
        have h4 : o = none := h3
        subst h4
        exact rowF_no (hbs.trans hb) hf
      | some q =>
        obtain ⟨bk, B1, K1, V1, c1⟩ := q
        rw [rowF_yes (hbs.trans hb) (h2 _ _ _ _ _ hi), rowR_yes hb hi]
        exact rowF_rowR hH m _ _ _ _ _ _ _ (insR_B hB hi) (insR_inH hB hH hI hi) (insR_dis hB hH hd hb hi)
theorem rowR_inv {H T step : Nat} (hH : H ≤ 6) : ∀ m key j B K V c x j' B' K' V' c' x', okB B → inH B H T K → dis B K → rowR H T step m key j B K V c x = some (j', B', K', V', c', x') → okB B' ∧ inH B' H T K' ∧ dis B' K'
  | 0, key, j, B, K, V, c, x, j', B', K', V', c', x', hB, hI, hd, e => by
    cases e
    exact ⟨hB, hI, hd⟩
  | m + 1, key, j, B, K, V, c, x, j', B', K', V', c', x', hB, hI, hd, e => by
    cases hb : bwS B K key with
    | some bk =>
      rw [rowR_in hb] at e
      exact rowR_inv hH m _ _ _ _ _ _ _ _ _ _ _ _ _ hB hI hd e
    | none =>
      cases hi : insR B H T K V c key 0 with
      | none => rw [rowR_no hb hi] at e; cases e
      | some q =>
        obtain ⟨bk, B1, K1, V1, c1⟩ := q
        rw [rowR_yes hb hi] at e
        exact rowR_inv hH m _ _ _ _ _ _ _ _ _ _ _ _ _ (insR_B hB hi) (insR_inH hB hH hI hi) (insR_dis hB hH hd hb hi) e
