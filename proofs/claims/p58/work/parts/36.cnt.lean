/-! HOW MANY BUCKETS HAVE AN ENTRY -/
def cnt (K : Nat → Nat) : Nat → Nat
  | 0 => 0
  | i + 1 => cnt K i + if K i = 0 then 0 else 1
theorem entL_cnt (K V : Nat → Nat) : ∀ i, (entL K V i).length = cnt K i
  | 0 => rfl
  | i + 1 => by
    simp only [entL, List.length_append, cnt, entL_cnt K V i]
    split <;> rfl
theorem cnt_congr {K K' : Nat → Nat} : ∀ i, (∀ j, j < i → (K j = 0 ↔ K' j = 0)) → cnt K i = cnt K' i
  | 0, _ => rfl
  | i + 1, h => by
    simp only [cnt]
    rw [cnt_congr i (fun j hj => h j (by omega))]
    have := h i (by omega)
    by_cases h0 : K i = 0
    · rw [if_pos h0, if_pos (this.mp h0)]
    · rw [if_neg h0, if_neg (fun e => h0 (this.mpr e))]
theorem cnt_put {K : Nat → Nat} {x y : Nat} (hx : K x = 0) (hy : y ≠ 0) : ∀ i, cnt (va_up K x y) i = cnt K i + if x < i then 1 else 0
  | 0 => by simp [cnt]
  | i + 1 => by
    simp only [cnt]
    rw [cnt_put hx hy i]
    by_cases h : i = x
    · subst h
      simp [va_up, hx, hy]
    · have h1 : va_up K x y i = K i := by simp [va_up, h]
      rw [h1]
      by_cases h2 : x < i
      · rw [if_pos h2, if_pos (show x < i + 1 by omega)]; omega
      · rw [if_neg h2, if_neg (show ¬ x < i + 1 by omega)]; rfl
theorem cnt_del {K : Nat → Nat} {x : Nat} (hx : K x ≠ 0) : ∀ i, cnt (va_up K x 0) i + (if x < i then 1 else 0) = cnt K i
  | 0 => by simp [cnt]
  | i + 1 => by
    have ih := cnt_del hx i
    simp only [cnt]
    by_cases h : i = x
    · subst h
      simp only [Nat.lt_irrefl, if_false] at ih
      simp [va_up, hx]
      omega
    · have h1 : va_up K x 0 i = K i := by simp [va_up, h]
      rw [h1]
      by_cases h2 : x < i
      · rw [if_pos h2] at ih; rw [if_pos (show x < i + 1 by omega)]; omega
      · rw [if_neg h2] at ih; rw [if_neg (show ¬ x < i + 1 by omega)]; omega
theorem cnt_mv {K : Nat → Nat} {x y B : Nat} (hx : x < B) (hy : y < B) (hxy : x ≠ y) (hK : K x ≠ 0) (h0 : K y = 0) : cnt (mvK K x y) B = cnt K B := by
  unfold mvK
  have h1 := cnt_del hK B
  have h2 := cnt_put (K := va_up K x 0) (x := y) (y := K x) (by simp [va_up, h0]) hK B
  rw [if_pos hx] at h1
  rw [if_pos hy] at h2
  omega
theorem cnt_le (K : Nat → Nat) : ∀ i, cnt K i ≤ i
  | 0 => Nat.le_refl _
  | i + 1 => by
    have := cnt_le K i
    simp only [cnt]
    split <;> omega
theorem cnt_kz : ∀ i, cnt kz i = 0
  | 0 => rfl
  | i + 1 => by simp [cnt, cnt_kz i, kz]
theorem isO_K {B T : Nat} {K : Nat → Nat} {i hm : Nat} (h : isO B T K i hm = true) : K i ≠ 0 ∧ hmo B T (K i - 1) = hm := by
  simpa [isO] using h
/-- what every displacement keeps, finding a place keeps -/
theorem plc_ind {B H T hm : Nat} {P : (Nat → Nat) → (Nat → Nat) → Prop} (hB : okB B) (hH : H ≤ 6) (hhm : hm < B)
    (hmv : ∀ K V h0 f t, P K V → h0 < B → f < H → t < H → f ≠ t → isO B T K ((h0 + f) % B) h0 = true → K ((h0 + t) % B) = 0 → P (mvK K ((h0 + f) % B) ((h0 + t) % B)) (mvK V ((h0 + f) % B) ((h0 + t) % B))) :
    ∀ n K V st c o K' V' c', st < B → K ((hm + st) % B) = 0 → P K V → plc B H T hm n K V st c = (o, K', V', c') → P K' V' ∧ ∀ t, o = some t → t < H ∧ K' ((hm + t) % B) = 0 := by
  intro n
  induction n with
  | zero =>
    intro K V st c o K' V' c' hst hf hP e
    cases e
    exact ⟨hP, fun t ht => by cases ht⟩
  | succ n ih =>
    intro K V st c o K' V' c' hst hf hP e
    by_cases hs : st < H
    · rw [plc_near hs] at e
      cases e
      exact ⟨hP, fun t ht => by cases ht; exact ⟨hs, hf⟩⟩
    · cases hm2 : movS B T K ((hm + st) % B) (H - 1) with
      | none =>
        rw [plc_stuck hs hm2] at e
        cases e
        exact ⟨hP, fun t ht => by cases ht⟩
      | some q =>
        obtain ⟨j, k⟩ := q
        rw [plc_step hs hm2] at e
        obtain ⟨h1, h2, h3, h4⟩ := movS_some hm2
        have hle := hB.le
        have hbk := back_free (j := j) hB (mod_lt' hB (x := hm + st)) (by omega)
        have hsrc := mvSrc_step (k := k) hB hhm hst (by omega) (show k ≤ j by omega)
        have hh0 : ((hm + st) % B + B - j) % B < B := mod_lt' hB
        have hp := hmv K V _ k j hP hh0 (by omega) (by omega) (by omega) h4 (by rw [hbk]; exact hf)
        rw [hbk] at hp
        have hne : mvSrc B ((hm + st) % B) j k ≠ (hm + st) % B := by
          unfold mvSrc
          rcases hB with rfl | rfl | rfl | rfl <;> omega
        refine ih _ _ (st - (j - k)) _ o K' V' c' (by omega) ?_ hp e
        rw [← hsrc]
        exact mvK_src hne
theorem placeF_ind {B H T : Nat} {P Q : (Nat → Nat) → (Nat → Nat) → Prop} {K V : Nat → Nat} {c : Int32} {key v : Nat} {o : Option Nat} {K' V' : Nat → Nat} {c' : Int32} (hB : okB B) (hH : H ≤ 6)
    (hmv : ∀ K V h0 f t, P K V → h0 < B → f < H → t < H → f ≠ t → isO B T K ((h0 + f) % B) h0 = true → K ((h0 + t) % B) = 0 → P (mvK K ((h0 + f) % B) ((h0 + t) % B)) (mvK V ((h0 + f) % B) ((h0 + t) % B)))
    (hput : ∀ K V t, P K V → t < H → K ((hmo B T key + t) % B) = 0 → Q (va_up K ((hmo B T key + t) % B) (key + 1)) (va_up V ((hmo B T key + t) % B) v))
    (hP : P K V) (e : placeF B H T K V c key v = (o, K', V', c')) : ∀ bk, o = some bk → Q K' V' := by
  intro bk ho
  subst ho
  have hhm := hmo_lt hB T key
  unfold placeF at e
  split at e
  · cases e
  · rename_i d hd
    obtain ⟨h1, h2⟩ := frD_lt hd
    split at e
    · cases e
    · rename_i st K1 V1 c1 hpl
      obtain ⟨hp, ht⟩ := plc_ind hB hH hhm hmv 65 K V d c _ K1 V1 c1 h1 h2 hP hpl
      obtain ⟨h3, h4⟩ := ht st rfl
      cases e
      exact hput K1 V1 st hp h3 h4
/-- a success of the building keeps what placing keeps -/
theorem bldF_ind {B H T : Nat} {P : List (Nat × Nat) → (Nat → Nat) → (Nat → Nat) → Prop}
    (hpl : ∀ k v r K V c bk K' V' c', P ((k, v) :: r) K V → placeF B H T K V c k v = (some bk, K', V', c') → P r K' V') :
    ∀ L K V c K' V' c', P L K V → bldF B H T L K V c = (true, K', V', c') → P [] K' V'
  | [], K, V, c, K', V', c', hP, e => by cases e; exact hP
  | (k, v) :: r, K, V, c, K', V', c', hP, e => by
    simp only [bldF] at e
    split at e
    · cases e
    · rename_i bk K1 V1 c1 hp
      exact bldF_ind hpl r K1 V1 c1 K' V' c' (hpl k v r K V c bk K1 V1 c1 hP hp) e
theorem placeF_cnt {B H T : Nat} {K V : Nat → Nat} {c : Int32} {key v bk : Nat} {K' V' : Nat → Nat} {c' : Int32} (hB : okB B) (hH : H ≤ 6) (e : placeF B H T K V c key v = (some bk, K', V', c')) : cnt K' B = cnt K B + 1 := by
  refine placeF_ind (P := fun K1 _ => cnt K1 B = cnt K B) (Q := fun K1 _ => cnt K1 B = cnt K B + 1) hB hH ?_ ?_ rfl e bk rfl
  · intro K1 V1 h0 f t hp h1 h2 h3 h4 h5 h6
    rw [← hp]
    refine cnt_mv (mod_lt' hB) (mod_lt' hB) (fun e2 => ?_) (isO_K h5).1 h6
    exact (isO_K h5).1 (by rw [e2]; exact h6)
  · intro K1 V1 t hp h1 h2
    rw [← hp, cnt_put h2 (by omega), if_pos (mod_lt' hB)]
theorem bldF_cnt {B H T : Nat} {L : List (Nat × Nat)} {K' V' : Nat → Nat} {c c' : Int32} (hB : okB B) (hH : H ≤ 6) (e : bldF B H T L kz kz c = (true, K', V', c')) : cnt K' B = L.length := by
  have h := bldF_ind (P := fun r K1 _ => cnt K1 B + r.length = L.length) (fun k v r K1 V1 c1 bk K2 V2 c2 hp e2 => by
    have := placeF_cnt hB hH e2
    simp only [List.length_cons] at hp ⊢
    omega) L kz kz c K' V' c' (by simp [cnt_kz]) e
  simpa using h
theorem grF_cnt {H T : Nat} {L : List (Nat × Nat)} {key v : Nat} (hH : H ≤ 6) : ∀ m B K V c x bk B' K' V' c' x', m ≤ 4 → grF H T L key v m B K V c x = (some bk, B', K', V', c', x') → cnt K' B' = L.length + 1
  | 0, B, K, V, c, x, bk, B', K', V', c', x', _, e => by simp [grF] at e
  | m + 1, B, K, V, c, x, bk, B', K', V', c', x', hm, e => by
    have okB1 : okB (2 ^ (6 - m)) := okB_w (m := m) (by omega)
    simp only [grF] at e
    split at e
    · exact grF_cnt hH m _ _ _ _ _ _ _ _ _ _ _ (by omega) e
    · split at e
      · exact grF_cnt hH m _ _ _ _ _ _ _ _ _ _ _ (by omega) e
      · rename_i K1 V1 c1 hb
        split at e
        · rename_i bk2 K2 V2 c2 hp
          cases e
          rw [placeF_cnt okB1 hH hp, bldF_cnt okB1 hH hb]
        · exact grF_cnt hH m _ _ _ _ _ _ _ _ _ _ _ (by omega) e
theorem insF_cnt {B H T : Nat} {K V : Nat → Nat} {c x : Int32} {key v bk B' : Nat} {K' V' : Nat → Nat} {c' x' : Int32} (hB : okB B) (hH : H ≤ 6) (e : insF B H T K V c x key v = (some bk, B', K', V', c', x')) : cnt K' B' = cnt K B + 1 := by
  unfold insF at e
  split at e
  · rename_i bk2 K1 V1 c1 hp
    cases e
    exact placeF_cnt hB hH hp
  · rw [grF_cnt hH 4 _ _ _ _ _ _ _ _ _ _ _ (by omega) e, entL_cnt]
theorem rbF_cnt {H T : Nat} {L : List (Nat × Nat)} {newB : Nat} (hH : H ≤ 6) : ∀ m B K V c x B' K' V' c' x', m ≤ 4 → rbF H T L newB m B K V c x = (true, B', K', V', c', x') → cnt K' B' = L.length
  | 0, B, K, V, c, x, B', K', V', c', x', _, e => by simp [rbF] at e
  | m + 1, B, K, V, c, x, B', K', V', c', x', hm, e => by
    have okB1 : okB (2 ^ (6 - m)) := okB_w (m := m) (by omega)
    simp only [rbF] at e
    split at e
    · exact rbF_cnt hH m _ _ _ _ _ _ _ _ _ _ (by omega) e
    · split at e
      · rename_i K1 V1 c1 hb
        cases e
        exact bldF_cnt okB1 hH hb
      · exact rbF_cnt hH m _ _ _ _ _ _ _ _ _ _ (by omega) e
