/-! THE INVARIANT: every entry lies in the neighbourhood of its home, no key twice -/
def inH (B H T : Nat) (K : Nat → Nat) : Prop := ∀ i, i < B → K i ≠ 0 → ∃ t, t < H ∧ i = (hmo B T (K i - 1) + t) % B
def dis (B : Nat) (K : Nat → Nat) : Prop := ∀ i j, i < B → j < B → K i ≠ 0 → K i = K j → i = j
theorem bw_bwS {B H T : Nat} {K : Nat → Nat} {key : Nat} (hB : okB B) (hI : inH B H T K) (hd : dis B K) : bw B H T K key = bwS B K key := by
  cases hs : bwS B K key with
  | none =>
    cases hw : bw B H T K key with
    | none => rfl
    | some k =>
      obtain ⟨h1, h2⟩ := bw_lt hB hw
      have h3 := fnd_none hs k (Nat.zero_le _) (by omega)
      simp [h2] at h3
  | some i =>
    obtain ⟨h1, h2⟩ := bwS_lt hs
    obtain ⟨t, h3, h4⟩ := hI i h1 (by omega)
    rw [h2, show key + 1 - 1 = key from rfl] at h4
    cases hw : bw B H T K key with
    | some k =>
      obtain ⟨h5, h6⟩ := bw_lt hB hw
      rw [hd k i h5 h1 (by omega) (by rw [h6, h2])]
    | none =>
      exfalso
      unfold bw at hw
      cases hf : fnd (bwp B T K key) H 0 with
      | some q => rw [hf] at hw; cases hw
      | none =>
        have h7 := fnd_none hf t (Nat.zero_le _) (by omega)
        simp [bwp, ← h4, h2] at h7
theorem inH_mv {B H T : Nat} {K : Nat → Nat} {h0 f t : Nat} (hB : okB B) (hI : inH B H T K) (hh : h0 < B) (ht : t < H) (ho : isO B T K ((h0 + f) % B) h0 = true) : inH B H T (mvK K ((h0 + f) % B) ((h0 + t) % B)) := by
  intro i hi hK
  obtain ⟨k1, k2⟩ := isO_K ho
  by_cases h1 : i = (h0 + t) % B
  · refine ⟨t, ht, ?_⟩
    have : mvK K ((h0 + f) % B) ((h0 + t) % B) i = K ((h0 + f) % B) := by simp [mvK, va_up, h1]
    rw [this, k2]
    exact h1
  · by_cases h2 : i = (h0 + f) % B
    · have : mvK K ((h0 + f) % B) ((h0 + t) % B) i = 0 := by
        unfold mvK
        simp only [va_up, if_neg h1, if_pos h2]
      exact absurd this hK
    · have : mvK K ((h0 + f) % B) ((h0 + t) % B) i = K i := by
        unfold mvK
        simp only [va_up, if_neg h1, if_neg h2]
      rw [this] at hK ⊢
      exact hI i hi hK
theorem inH_put {B H T : Nat} {K : Nat → Nat} {key t : Nat} (hI : inH B H T K) (ht : t < H) : inH B H T (va_up K ((hmo B T key + t) % B) (key + 1)) := by
  intro i hi hK
  by_cases h1 : i = (hmo B T key + t) % B
  · refine ⟨t, ht, ?_⟩
    have : va_up K ((hmo B T key + t) % B) (key + 1) i = key + 1 := by simp [va_up, h1]
    rw [this, show key + 1 - 1 = key from rfl]
    exact h1
  · have : va_up K ((hmo B T key + t) % B) (key + 1) i = K i := by simp [va_up, h1]
    rw [this] at hK ⊢
    exact hI i hi hK
theorem inH_del {B H T : Nat} {K : Nat → Nat} {x : Nat} (hI : inH B H T K) : inH B H T (va_up K x 0) := by
  intro i hi hK
  by_cases h1 : i = x
  · exact absurd (by simp [va_up, h1]) hK
  · have : va_up K x 0 i = K i := by simp [va_up, h1]
    rw [this] at hK ⊢
    exact hI i hi hK
theorem inH_kz {B H T : Nat} : inH B H T kz := fun i _ h => absurd rfl h
theorem placeF_inH {B H T : Nat} {K V : Nat → Nat} {c : Int32} {key v bk : Nat} {K' V' : Nat → Nat} {c' : Int32} (hB : okB B) (hH : H ≤ 6) (hI : inH B H T K) (e : placeF B H T K V c key v = (some bk, K', V', c')) : inH B H T K' := by
  refine placeF_ind (P := fun K1 _ => inH B H T K1) (Q := fun K1 _ => inH B H T K1) hB hH ?_ ?_ hI e bk rfl
  · intro K1 V1 h0 f t hp h1 h2 h3 h4 h5 h6
    exact inH_mv hB hp h1 h3 h5
  · intro K1 V1 t hp h1 h2
    exact inH_put hp h1
theorem bldF_inH {B H T : Nat} {L : List (Nat × Nat)} {K' V' : Nat → Nat} {c c' : Int32} (hB : okB B) (hH : H ≤ 6) (e : bldF B H T L kz kz c = (true, K', V', c')) : inH B H T K' :=
  bldF_ind (P := fun _ K1 _ => inH B H T K1) (fun k v r K1 V1 c1 bk K2 V2 c2 hp e2 => placeF_inH hB hH hp e2) L kz kz c K' V' c' inH_kz e
theorem grR_inH {H T key v : Nat} {L : List (Nat × Nat)} (hH : H ≤ 6) : ∀ m bk B' K' V' c', m ≤ 4 → grR H T L key v m = some (bk, B', K', V', c') → inH B' H T K'
  | 0, bk, B', K', V', c', _, e => by simp [grR] at e
  | m + 1, bk, B', K', V', c', hm, e => by
    have okB1 : okB (2 ^ (6 - m)) := okB_w (m := m) (by omega)
    rcases hb : bldF (2 ^ (6 - m)) H T L kz kz 0 with ⟨_ | _, K1, V1, c1⟩
    · rw [grR_no hb] at e
      exact grR_inH hH m _ _ _ _ _ (by omega) e
    · rcases hp : placeF (2 ^ (6 - m)) H T K1 V1 c1 key v with ⟨_ | bk2, K2, V2, c2⟩
      · rw [grR_no2 hb hp] at e
        exact grR_inH hH m _ _ _ _ _ (by omega) e
      · rw [grR_yes hb hp] at e
        cases e
        exact placeF_inH okB1 hH (bldF_inH okB1 hH hb) hp
theorem insR_inH {B H T : Nat} {K V : Nat → Nat} {c : Int32} {key v bk B' : Nat} {K' V' : Nat → Nat} {c' : Int32} (hB : okB B) (hH : H ≤ 6) (hI : inH B H T K) (e : insR B H T K V c key v = some (bk, B', K', V', c')) : inH B' H T K' := by
  unfold insR at e
  split at e
  · rename_i bk2 K1 V1 c1 hp
    cases e
    exact placeF_inH hB hH hI hp
  · exact grR_inH hH _ _ _ _ _ _ (by have := (wid_2 hB).1; omega) e
theorem rbR_inH {H T : Nat} {L : List (Nat × Nat)} (hH : H ≤ 6) : ∀ m B' K' V' c', m ≤ 4 → rbR H T L m = some (B', K', V', c') → inH B' H T K'
  | 0, B', K', V', c', _, e => by simp [rbR] at e
  | m + 1, B', K', V', c', hm, e => by
    have okB1 : okB (2 ^ (6 - m)) := okB_w (m := m) (by omega)
    rcases hb : bldF (2 ^ (6 - m)) H T L kz kz 0 with ⟨_ | _, K1, V1, c1⟩
    · rw [rbR_no hb] at e
      exact rbR_inH hH m _ _ _ _ (by omega) e
    · rw [rbR_yes hb] at e
      cases e
      exact bldF_inH okB1 hH hb
