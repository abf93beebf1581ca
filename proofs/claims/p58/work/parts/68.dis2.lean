theorem entL_mem {K V : Nat → Nat} {q : Nat × Nat} : ∀ i, q ∈ entL K V i → ∃ j, j < i ∧ K j ≠ 0 ∧ q.1 + 1 = K j
  | 0, h => by simp [entL] at h
  | i + 1, h => by
    by_cases hK : K i = 0
    · rw [entL_free hK] at h
      obtain ⟨j, h1, h2⟩ := entL_mem i h
      exact ⟨j, by omega, h2⟩
    · rw [entL_full hK] at h
      rcases List.mem_append.mp h with h1 | h1
      · obtain ⟨j, h2, h3⟩ := entL_mem i h1
        exact ⟨j, by omega, h3⟩
      · rw [List.mem_singleton.mp h1]
        exact ⟨i, by omega, hK, by show K i - 1 + 1 = K i; omega⟩
theorem entL_nodup {B : Nat} {K V : Nat → Nat} (hd : dis B K) : ∀ i, i ≤ B → ((entL K V i).map (·.1)).Nodup
  | 0, _ => by simp [entL]
  | i + 1, hi => by
    by_cases hK : K i = 0
    · rw [entL_free hK]
      exact entL_nodup hd i (by omega)
    · rw [entL_full hK, List.map_append, List.nodup_append]
      refine ⟨entL_nodup hd i (by omega), by simp, fun x hx y hy e => ?_⟩
      obtain ⟨q, h1, h2⟩ := List.mem_map.mp hx
      obtain ⟨j, h3, h4, h5⟩ := entL_mem i h1
      simp only [List.map_cons, List.map_nil, List.mem_singleton] at hy
      have h6 : j = i := hd j i (by omega) (by omega) h4 (by
        have : q.1 = x := h2
        omega)
      omega
theorem grR_dis {H T key v : Nat} {L : List (Nat × Nat)} (hH : H ≤ 6) (hL : (L.map (·.1)).Nodup) (hk : ∀ q, q ∈ L → q.1 ≠ key) : ∀ m bk B' K' V' c', m ≤ 4 → grR H T L key v m = some (bk, B', K', V', c') → dis B' K'
  | 0, bk, B', K', V', c', _, e => by simp [grR] at e
  | m + 1, bk, B', K', V', c', hm, e => by
    have okB1 : okB (2 ^ (6 - m)) := okB_w (m := m) (by omega)
    rcases hb : bldF (2 ^ (6 - m)) H T L kz kz 0 with ⟨_ | _, K1, V1, c1⟩
    · rw [grR_no hb] at e
      exact grR_dis hH hL hk m _ _ _ _ _ (by omega) e
    · rcases hp : placeF (2 ^ (6 - m)) H T K1 V1 c1 key v with ⟨_ | bk2, K2, V2, c2⟩
      · rw [grR_no2 hb hp] at e
        exact grR_dis hH hL hk m _ _ _ _ _ (by omega) e
      · rw [grR_yes hb hp] at e
        cases e
        obtain ⟨h1, h2⟩ := bldF_dis okB1 hH hL hb
        refine (placeF_dis okB1 hH h1 (fun h3 => ?_) hp).1
        obtain ⟨q, h4, h5⟩ := h2 _ (by omega) h3
        exact hk q h4 (by omega)
theorem insR_dis {B H T : Nat} {K V : Nat → Nat} {c : Int32} {key v bk B' : Nat} {K' V' : Nat → Nat} {c' : Int32} (hB : okB B) (hH : H ≤ 6) (hd : dis B K) (hk : bwS B K key = none) (e : insR B H T K V c key v = some (bk, B', K', V', c')) : dis B' K' := by
  have hno : ¬ hasK B K (key + 1) := fun h => by
    obtain ⟨i, h1, h2⟩ := h
    have h3 := fnd_none hk i (Nat.zero_le _) (by omega)
    simp [h2] at h3
  unfold insR at e
  split at e
  · rename_i bk2 K1 V1 c1 hp
    cases e
    exact (placeF_dis hB hH hd hno hp).1
  · refine grR_dis hH (entL_nodup hd B (Nat.le_refl _)) (fun q hq e2 => ?_) _ _ _ _ _ _ (by have := (wid_2 hB).1; omega) e
    obtain ⟨j, h1, h2, h3⟩ := entL_mem B hq
    exact hno ⟨j, h1, by omega⟩
theorem rbR_dis {H T : Nat} {L : List (Nat × Nat)} (hH : H ≤ 6) (hL : (L.map (·.1)).Nodup) : ∀ m B' K' V' c', m ≤ 4 → rbR H T L m = some (B', K', V', c') → dis B' K'
  | 0, B', K', V', c', _, e => by simp [rbR] at e
  | m + 1, B', K', V', c', hm, e => by
    have okB1 : okB (2 ^ (6 - m)) := okB_w (m := m) (by omega)
    rcases hb : bldF (2 ^ (6 - m)) H T L kz kz 0 with ⟨_ | _, K1, V1, c1⟩
    · rw [rbR_no hb] at e
      exact rbR_dis hH hL m _ _ _ _ (by omega) e
    · rw [rbR_yes hb] at e
      cases e
      exact (bldF_dis okB1 hH hL hb).1
