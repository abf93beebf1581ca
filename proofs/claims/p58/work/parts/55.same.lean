/-! THE CLASS'S GROWING AND THE REFERENCE'S -/
theorem w_two {m : Nat} (h : m < 4) : 2 * 2 ^ (6 - m) = 2 ^ (7 - m) := by
  rcases (show m = 0 ∨ m = 1 ∨ m = 2 ∨ m = 3 by omega) with rfl | rfl | rfl | rfl <;> rfl
theorem dbl_step {B' B1 : Nat} (h1 : okB B1) (h2 : okB B') (h : 2 * B1 ≤ B') : dbl B' 4 B1 = dbl B' 4 (2 * B1) + 1 := by
  rcases h1 with rfl | rfl | rfl | rfl <;> rcases h2 with rfl | rfl | rfl | rfl <;> first | rfl | (exfalso; omega)
theorem x_step {x : Int32} {k : Nat} : x + 1 + nI k = x + nI (k + 1) := by
  rw [Int32.add_assoc, Int32.add_comm 1, nI_1]
theorem grR_B {H T key v : Nat} {L : List (Nat × Nat)} : ∀ m bk B' K' V' c', m ≤ 4 → grR H T L key v m = some (bk, B', K', V', c') → okB B' ∧ 2 ^ (7 - m) ≤ B'
  | 0, bk, B', K', V', c', _, e => by simp [grR] at e
  | m + 1, bk, B', K', V', c', hm, e => by
    have okB1 : okB (2 ^ (6 - m)) := okB_w (m := m) (by omega)
    have h2 := w_two (m := m) (by omega)
    rw [show 7 - (m + 1) = 6 - m by omega]
    rcases hb : bldF (2 ^ (6 - m)) H T L kz kz 0 with ⟨_ | _, K1, V1, c1⟩
    · rw [grR_no hb] at e
      obtain ⟨h3, h4⟩ := grR_B m _ _ _ _ _ (by omega) e
      exact ⟨h3, by omega⟩
    · rcases hp : placeF (2 ^ (6 - m)) H T K1 V1 c1 key v with ⟨_ | bk2, K2, V2, c2⟩
      · rw [grR_no2 hb hp] at e
        obtain ⟨h3, h4⟩ := grR_B m _ _ _ _ _ (by omega) e
        exact ⟨h3, by omega⟩
      · rw [grR_yes hb hp] at e
        cases e
        exact ⟨okB1, Nat.le_refl _⟩
theorem grF_grR {H T key v : Nat} {L : List (Nat × Nat)} : ∀ m B1 K V c x, m ≤ 4 → okB B1 → 2 * B1 = 2 ^ (7 - m) → (grR H T L key v m = none → (grF H T L key v m B1 K V c x).1 = none) ∧ ∀ bk B' K' V' c', grR H T L key v m = some (bk, B', K', V', c') → grF H T L key v m B1 K V c x = (some bk, B', K', V', c', x + nI (dbl B' 4 B1))
  | 0, B1, K, V, c, x, _, _, _ => ⟨fun _ => rfl, fun bk B' K' V' c' e => by simp [grR] at e⟩
  | m + 1, B1, K, V, c, x, hm, h1, hw => by
    have okB1 : okB (2 ^ (6 - m)) := okB_w (m := m) (by omega)
    have h2 := w_two (m := m) (by omega)
    rw [show 7 - (m + 1) = 6 - m by omega] at hw
    have hle := h1.le
    have hnot : ¬ 2 ^ (6 - m) ≤ B1 := by omega
    rcases hb : bldF (2 ^ (6 - m)) H T L kz kz 0 with ⟨_ | _, K1, V1, c1⟩
    · have hf : grF H T L key v (m + 1) B1 K V c x = grF H T L key v m (2 ^ (6 - m)) K1 V1 c1 (x + 1) := by rw [grF, if_neg hnot, hb]
      obtain ⟨i1, i2⟩ := grF_grR m (2 ^ (6 - m)) K1 V1 c1 (x + 1) (by omega) okB1 h2
      rw [hf, grR_no hb]
      refine ⟨i1, fun bk B' K' V' c' e => ?_⟩
      obtain ⟨h3, h4⟩ := grR_B m _ _ _ _ _ (by omega) e
      rw [i2 bk B' K' V' c' e, x_step, dbl_step h1 h3 (by omega), hw]
    · rcases hp : placeF (2 ^ (6 - m)) H T K1 V1 c1 key v with ⟨_ | bk2, K2, V2, c2⟩
      · have hf : grF H T L key v (m + 1) B1 K V c x = grF H T L key v m (2 ^ (6 - m)) K2 V2 c2 (x + 1) := by rw [grF, if_neg hnot, hb]; simp only [hp]
        obtain ⟨i1, i2⟩ := grF_grR m (2 ^ (6 - m)) K2 V2 c2 (x + 1) (by omega) okB1 h2
        rw [hf, grR_no2 hb hp]
        refine ⟨i1, fun bk B' K' V' c' e => ?_⟩
        obtain ⟨h3, h4⟩ := grR_B m _ _ _ _ _ (by omega) e
        rw [i2 bk B' K' V' c' e, x_step, dbl_step h1 h3 (by omega), hw]
      · have hf : grF H T L key v (m + 1) B1 K V c x = (some bk2, 2 ^ (6 - m), K2, V2, c2, x + 1) := by rw [grF, if_neg hnot, hb]; simp only [hp]
        rw [hf, grR_yes hb hp]
        refine ⟨fun e => (by cases e), fun bk B' K' V' c' e => ?_⟩
        cases e
        rw [dbl_step h1 okB1 (by omega), hw, dbl_same]
        rfl
theorem wid_skip {B m : Nat} (hB : okB B) (h : wid B < m + 1) (hm : m + 1 ≤ 4) : m + 1 = wid B + 1 ∧ 2 ^ (6 - m) = B ∨ wid B < m ∧ 2 ^ (6 - m) < B := by
  rcases hB with rfl | rfl | rfl | rfl <;> rcases (show m = 0 ∨ m = 1 ∨ m = 2 ∨ m = 3 by omega) with rfl | rfl | rfl | rfl <;> revert h <;> decide
theorem grF_skip {B H T key v : Nat} {L : List (Nat × Nat)} {K V : Nat → Nat} {c x : Int32} (hB : okB B) : ∀ m, wid B ≤ m → m ≤ 4 → grF H T L key v m B K V c x = grF H T L key v (wid B) B K V c x
  | 0, h, _ => by rw [show wid B = 0 by omega]
  | m + 1, h, hm => by
    by_cases h1 : wid B = m + 1
    · rw [h1]
    · have h2 : 2 ^ (6 - m) ≤ B := by
        rcases wid_skip (m := m) hB (by omega) hm with h3 | h3 <;> omega
      rw [grF, if_pos h2, grF_skip hB m (by omega) (by omega)]
theorem insF_insR {B H T : Nat} {K V : Nat → Nat} {c x : Int32} {key v : Nat} (hB : okB B) : (insR B H T K V c key v = none → (insF B H T K V c x key v).1 = none) ∧ ∀ bk B' K' V' c', insR B H T K V c key v = some (bk, B', K', V', c') → insF B H T K V c x key v = (some bk, B', K', V', c', x + nI (dbl B' 4 B)) := by
  unfold insR insF
  rcases hp : placeF B H T K V c key v with ⟨_ | bk, K1, V1, c1⟩
  · simp only [grF_skip hB 4 (by have := (wid_2 hB).1; omega) (by omega)]
    exact grF_grR (wid B) B K1 V1 c1 x (by have := (wid_2 hB).1; omega) hB (wid_2 hB).2.symm
  · refine ⟨fun e => (by cases e), fun bk' B' K' V' c' e => ?_⟩
    cases e
    rw [dbl_same, show nI 0 = 0 from rfl, Int32.add_zero]
theorem rbR_B {H T : Nat} {L : List (Nat × Nat)} : ∀ m B' K' V' c', m ≤ 4 → rbR H T L m = some (B', K', V', c') → okB B' ∧ 2 ^ (7 - m) ≤ B'
  | 0, B', K', V', c', _, e => by simp [rbR] at e
  | m + 1, B', K', V', c', hm, e => by
    have okB1 : okB (2 ^ (6 - m)) := okB_w (m := m) (by omega)
    have h2 := w_two (m := m) (by omega)
    rw [show 7 - (m + 1) = 6 - m by omega]
    rcases hb : bldF (2 ^ (6 - m)) H T L kz kz 0 with ⟨_ | _, K1, V1, c1⟩
    · rw [rbR_no hb] at e
      obtain ⟨h3, h4⟩ := rbR_B m _ _ _ _ (by omega) e
      exact ⟨h3, by omega⟩
    · rw [rbR_yes hb] at e
      cases e
      exact ⟨okB1, Nat.le_refl _⟩
theorem rbF_rbR {H T newB : Nat} {L : List (Nat × Nat)} : ∀ m B1 K V c x, m ≤ 4 → okB B1 → (2 * B1 = 2 ^ (7 - m) ∨ B1 = 2 ^ (7 - m)) → newB ≤ 2 ^ (7 - m) → (rbR H T L m = none → (rbF H T L newB m B1 K V c x).1 = false) ∧ ∀ B' K' V' c', rbR H T L m = some (B', K', V', c') → rbF H T L newB m B1 K V c x = (true, B', K', V', c', x + nI (dbl B' 4 B1))
  | 0, B1, K, V, c, x, _, _, _, _ => ⟨fun _ => rfl, fun B' K' V' c' e => by simp [rbR] at e⟩
  | m + 1, B1, K, V, c, x, hm, h1, hw, hn => by
    have okB1 : okB (2 ^ (6 - m)) := okB_w (m := m) (by omega)
    have h2 := w_two (m := m) (by omega)
    rw [show 7 - (m + 1) = 6 - m by omega] at hw hn
    have hle := h1.le
    have hnot : ¬ 2 ^ (6 - m) < newB := by omega
    rcases hb : bldF (2 ^ (6 - m)) H T L kz kz 0 with ⟨_ | _, K1, V1, c1⟩
    · have hf : rbF H T L newB (m + 1) B1 K V c x = rbF H T L newB m (2 ^ (6 - m)) K1 V1 c1 (if 2 ^ (6 - m) = B1 then x else x + 1) := by rw [rbF, if_neg hnot, hb]
      obtain ⟨i1, i2⟩ := rbF_rbR (newB := newB) m (2 ^ (6 - m)) K1 V1 c1 (if 2 ^ (6 - m) = B1 then x else x + 1) (by omega) okB1 (Or.inl h2) (by omega)
      rw [hf, rbR_no hb]
      refine ⟨i1, fun B' K' V' c' e => ?_⟩
      obtain ⟨h3, h4⟩ := rbR_B m _ _ _ _ (by omega) e
      rw [i2 B' K' V' c' e]
      by_cases hx : 2 ^ (6 - m) = B1
      · rw [if_pos hx, hx]
      · rw [if_neg hx, x_step, dbl_step h1 h3 (by omega), show 2 * B1 = 2 ^ (6 - m) by omega]
    · have hf : rbF H T L newB (m + 1) B1 K V c x = (true, 2 ^ (6 - m), K1, V1, c1, if 2 ^ (6 - m) = B1 then x else x + 1) := by rw [rbF, if_neg hnot, hb]
      rw [hf, rbR_yes hb]
      refine ⟨fun e => (by cases e), fun B' K' V' c' e => ?_⟩
      cases e
      by_cases hx : 2 ^ (6 - m) = B1
      · rw [if_pos hx, hx, dbl_same, show nI 0 = 0 from rfl, Int32.add_zero]
      · rw [if_neg hx, dbl_step h1 okB1 (by omega), show 2 * B1 = 2 ^ (6 - m) by omega, dbl_same]
        rfl
