/-! THE SHARED VALUE: buckets, neighbourhood, multiplier, keys, values, counts (3 pulling, 4 moves, 5 pulls, 6 growths, 7 added, 8 removed) -/
abbrev zS : Type := Nat × Nat × Nat × (Nat → Nat) × (Nat → Nat) × (Nat → Int32)
def okI (B H T : Nat) (K : Nat → Nat) (c : Nat → Int32) : Prop := inH B H T K ∧ dis B K ∧ (c 3 = 0 ∨ c 3 = 1)
def cT (S : zS) (s : Nat → Int32) (a : Nat → Nat → Int32) : Prop := match S with
  | (B, H, T, K, V, c) => tR B H T K V s a ∧ okI B H T K c ∧ s 9 = c 3 ∧ s 10 = nI (cnt K B) ∧ s 11 = c 4 ∧ s 12 = c 5 ∧ s 13 = c 6 ∧ s 14 = c 7 ∧ s 15 = c 8
def sAdd (S : zS) (key v : Nat) : Option (Nat × zS) := match S with
  | (B, H, T, K, V, c) => match insR B H T K V (c 4) key v with
    | none => none
    | some (bk, B', K', V', c') => some (bk, B', H, T, K', V', va_up (va_up (va_up c 4 c') 6 (c 6 + nI (dbl B' 4 B))) 7 (c 7 + 1))
def sFind (S : zS) (key : Nat) : Option Nat := bwS S.1 S.2.2.2.1 key
def sPut (S : zS) (key v : Nat) : Option (Int32 × zS) := match sFind S key with
  | some bk => some (nI (S.2.2.2.2.1 bk), S.1, S.2.1, S.2.2.1, S.2.2.2.1, va_up S.2.2.2.2.1 bk v, S.2.2.2.2.2)
  | none => match sAdd S key v with
    | none => none
    | some (_, S') => some (-1, S')
def sRow (S : zS) (key step count : Nat) : Option (Nat × zS) := match S with
  | (B, H, T, K, V, c) => match rowR H T step count key 0 B K V (c 4) (c 6) with
    | none => none
    | some (j, B', K', V', c', x') => some (j, B', H, T, K', V', va_up (va_up (va_up c 4 c') 6 x') 7 (c 7 + nI j))
def sRem (S : zS) (bk : Nat) : zS := match S with
  | (B, H, T, K, V, c) => (B, H, T, (takF B H T K V (c 5) (c 3) bk).1, (takF B H T K V (c 5) (c 3) bk).2.1, va_up (va_up c 5 (takF B H T K V (c 5) (c 3) bk).2.2) 8 (c 8 + 1))
def sSet (S : zS) (H2 T2 m : Nat) : Option zS := match S with
  | (B, _, _, K, V, c) => match rbR H2 T2 (entL K V B) m with
    | none => none
    | some (B', K', V', c') => some (B', H2, T2, K', V', va_up (va_up c 4 c') 6 (c 6 + nI (dbl B' 4 B)))
def sNear (S : zS) (H2 : Nat) : Option zS := sSet S H2 S.2.2.1 (wid S.1 + 1)
def sTimes (S : zS) (T2 : Nat) : Option zS := sSet S S.2.1 T2 (wid S.1 + 1)
def sGrow (S : zS) : Option zS := sSet S S.2.1 S.2.2.1 (wid S.1)
def sPull (S : zS) (p : Int32) : zS := match S with
  | (B, H, T, K, V, c) => (B, H, T, K, V, va_up c 3 p)
def sClear (S : zS) : zS := match S with
  | (B, H, T, K, _, c) => (B, H, T, kz, kz, va_up (va_up c 4 0) 8 (c 8 + nI (cnt K B)))
def sNew (B H T : Nat) : zS := (B, H, T, kz, kz, fun _ => 0)
-- moved to other rows
theorem cT.cp {S : zS} {s s' : Nat → Int32} {a a' : Nat → Nat → Int32} (h : cT S s a) (hs : ∀ k, 6 ≤ k → k < 16 → s' k = s k) (ha : ∀ j i, j < 3 → i < 64 → a' j i = a j i) : cT S s' a' := by
  obtain ⟨B, H, T, K, V, c⟩ := S
  obtain ⟨⟨okb, h2H, hH6, h1T, hT99, e6, e7, e8, ek, ev, eh, ekv, ez⟩, hI, e9, e10, e11, e12, e13, e14, e15⟩ := h
  have g := fun k h1 h2 => hs k h1 h2
  exact ⟨⟨okb, h2H, hH6, h1T, hT99, (hs 6 (by decide) (by decide)).trans e6, (hs 7 (by decide) (by decide)).trans e7, (hs 8 (by decide) (by decide)).trans e8, fun i hi => (ha 0 i (by decide) hi).trans (ek i hi), fun i hi => (ha 1 i (by decide) hi).trans (ev i hi), fun i hi => (ha 2 i (by decide) hi).trans (eh i hi), ekv, ez⟩, hI, (hs 9 (by decide) (by decide)).trans e9, (hs 10 (by decide) (by decide)).trans e10, (hs 11 (by decide) (by decide)).trans e11, (hs 12 (by decide) (by decide)).trans e12, (hs 13 (by decide) (by decide)).trans e13, (hs 14 (by decide) (by decide)).trans e14, (hs 15 (by decide) (by decide)).trans e15⟩
theorem cT.nine {S : zS} {s : Nat → Int32} {a : Nat → Nat → Int32} (h : cT S s a) : s 9 = 0 ∨ s 9 = 1 := by
  obtain ⟨B, H, T, K, V, c⟩ := S
  obtain ⟨hR, ⟨_, _, h3⟩, e9, -⟩ := h
  rw [e9]
  exact h3
-- adding does not look at the value
theorem placeF_v {B H T : Nat} {K V : Nat → Nat} {c : Int32} {key : Nat} (v w : Nat) : (placeF B H T K V c key v).1 = (placeF B H T K V c key w).1 ∧ (placeF B H T K V c key v).2.1 = (placeF B H T K V c key w).2.1 := by
  unfold placeF
  cases frD B K (hmo B T key) with
  | none => exact ⟨rfl, rfl⟩
  | some d =>
    simp only
    split <;> exact ⟨rfl, rfl⟩
theorem grR_v {H T key : Nat} {L : List (Nat × Nat)} (v w : Nat) : ∀ m, (grR H T L key v m = none ↔ grR H T L key w m = none)
  | 0 => Iff.rfl
  | m + 1 => by
    rcases hb : bldF (2 ^ (6 - m)) H T L kz kz 0 with ⟨_ | _, K1, V1, c1⟩
    · rw [grR_no hb, grR_no hb]
      exact grR_v v w m
    · have h := (placeF_v (B := 2 ^ (6 - m)) (H := H) (T := T) (K := K1) (V := V1) (c := c1) (key := key) v w).1
      rcases hp : placeF (2 ^ (6 - m)) H T K1 V1 c1 key v with ⟨_ | bk, K2, V2, c2⟩
      · rcases hp2 : placeF (2 ^ (6 - m)) H T K1 V1 c1 key w with ⟨_ | bk2, K3, V3, c3⟩
        · rw [grR_no2 hb hp, grR_no2 hb hp2]
          exact grR_v v w m
        · rw [hp, hp2] at h; cases h
      · rcases hp2 : placeF (2 ^ (6 - m)) H T K1 V1 c1 key w with ⟨_ | bk2, K3, V3, c3⟩
        · rw [hp, hp2] at h; cases h
        · rw [grR_yes hb hp, grR_yes hb hp2]
          exact ⟨fun e => (by cases e), fun e => (by cases e)⟩
theorem insR_v {B H T : Nat} {K V : Nat → Nat} {c : Int32} {key : Nat} (v w : Nat) : (insR B H T K V c key v = none ↔ insR B H T K V c key w = none) := by
  have h := (placeF_v (B := B) (H := H) (T := T) (K := K) (V := V) (c := c) (key := key) v w).1
  unfold insR
  rcases hp : placeF B H T K V c key v with ⟨_ | bk, K2, V2, c2⟩
  · rcases hp2 : placeF B H T K V c key w with ⟨_ | bk2, K3, V3, c3⟩
    · exact grR_v v w _
    · rw [hp, hp2] at h; cases h
  · rcases hp2 : placeF B H T K V c key w with ⟨_ | bk2, K3, V3, c3⟩
    · rw [hp, hp2] at h; cases h
    · exact ⟨fun e => (by cases e), fun e => (by cases e)⟩
theorem sAdd_none {B H T : Nat} {K V : Nat → Nat} {c : Nat → Int32} {key v : Nat} : sAdd (B, H, T, K, V, c) key v = none ↔ insR B H T K V (c 4) key v = none := by
  unfold sAdd
  simp only
  cases insR B H T K V (c 4) key v with
  | none => exact ⟨fun _ => rfl, fun _ => rfl⟩
  | some q => exact ⟨fun e => (by cases e), fun e => (by cases e)⟩
theorem sAdd_v {S : zS} {key : Nat} (v w : Nat) : (sAdd S key v = none ↔ sAdd S key w = none) := by
  obtain ⟨B, H, T, K, V, c⟩ := S
  rw [sAdd_none, sAdd_none]
  exact insR_v v w
theorem sAdd_some {B H T : Nat} {K V : Nat → Nat} {c : Nat → Int32} {key v bk B' : Nat} {K' V' : Nat → Nat} {c' : Int32} (h : insR B H T K V (c 4) key v = some (bk, B', K', V', c')) : sAdd (B, H, T, K, V, c) key v = some (bk, B', H, T, K', V', va_up (va_up (va_up c 4 c') 6 (c 6 + nI (dbl B' 4 B))) 7 (c 7 + 1)) := by
  simp only [sAdd, h]
/-! THE CLASS'S TABLE OVER THE SHARED VALUE -/
theorem c_bw {S : zS} {s : Nat → Int32} {a : Nat → Nat → Int32} (h : cT S s a) (key : Nat) : bw S.1 S.2.1 S.2.2.1 S.2.2.2.1 key = sFind S key := by
  obtain ⟨B, H, T, K, V, c⟩ := S
  obtain ⟨hR, ⟨hI, hd, h3⟩, -⟩ := h
  exact bw_bwS hR.1 hI hd
theorem c_insert {l : zL} {d kc ks n b : Nat} {h : Nat → va_E} {S : zS} {s : Nat → Int32} {a : Nat → Nat → Int32} {Q : zQ} {key v : Nat} (hb : b + 6 ≤ n) (hT : cT S s a) (hk : key ≤ 9999) (hv : v ≤ 999) (hw : sFind S key = none) (hqN : ∀ s' a', sAdd S key v = none → Q (.inl (some (.int (-1)))) n (tW h b s' a')) (hqS : ∀ bk S' s' a', sAdd S key v = some (bk, S') → cT S' s' a' → bk < S'.1 → Q (.inl (some (.int (nI bk)))) n (tW h b s' a')) : Zj l mX6_insert (d + 6) kc ks 0 [(0, .ref b), (1, .int (nI key)), (2, .int (nI v))] [] n (tW h b s a) Q := by
  obtain ⟨B, H, T, K, V, c⟩ := S
  obtain ⟨hR, ⟨hI, hd, h3⟩, e9, e10, e11, e12, e13, e14, e15⟩ := hT
  have okb := hR.1
  have hH6 : H ≤ 6 := hR.2.2.1
  obtain ⟨i1, i2⟩ := insF_insR (B := B) (H := H) (T := T) (K := K) (V := V) (c := s 11) (x := s 13) (key := key) (v := v) okb
  refine w_insert hb hR hk hv (by rw [entL_cnt]; exact e10) (fun B' K' V' c' x' s' a' e => ?_) (fun bk B' K' V' c' x' s' a' e hR' hbk h10 h11 h13 h14 hs => ?_)
  · refine hqN s' a' (sAdd_none.mpr ?_)
    rw [← e11]
    cases hi : insR B H T K V (s 11) key v with
    | none => rfl
    | some q =>
      obtain ⟨bk, B1, K1, V1, c1⟩ := q
      rw [i2 _ _ _ _ _ hi] at e
      cases e
  · cases hi : insR B H T K V (s 11) key v with
    | none =>
      have := i1 hi
      rw [e] at this
      cases this
    | some q =>
      obtain ⟨bk1, B1, K1, V1, c1⟩ := q
      rw [i2 _ _ _ _ _ hi] at e
      cases e
      have hi2 := hi
      rw [e11] at hi2
      refine hqS bk _ s' a' (sAdd_some hi2) ⟨hR', ⟨insR_inH okb hH6 hI hi, insR_dis okb hH6 hd hw hi, h3⟩, ?_, ?_, ?_, ?_, ?_, ?_, ?_⟩ hbk
      · rw [hs 9 (by decide) (by decide) (by decide) (by decide) (by decide) (by decide)]; exact e9
      · rw [h10, e10, insF_cnt okb hH6 (i2 _ _ _ _ _ hi), nI_1]
      · rw [h11]; rfl
      · rw [hs 12 (by decide) (by decide) (by decide) (by decide) (by decide) (by decide)]; exact e12
      · rw [h13, e13]; rfl
      · rw [h14, e14]; rfl
      · rw [hs 15 (by decide) (by decide) (by decide) (by decide) (by decide) (by decide)]; exact e15
theorem c_store {l : zL} {d kc ks n b : Nat} {h : Nat → va_E} {S : zS} {s : Nat → Int32} {a : Nat → Nat → Int32} {Q : zQ} {key v : Nat} (hb : b + 6 ≤ n) (hT : cT S s a) (hk : key ≤ 9999) (hv : v ≤ 999) (hqN : ∀ s' a', sPut S key v = none → Q (.inl (some (.int 0))) n (tW h b s' a')) (hqS : ∀ x S' s' a', sPut S key v = some (x, S') → cT S' s' a' → Q (.inl (some (.int 1))) n (tW h b s' a')) : Zj l mX6_store (d + 7) kc ks 0 [(0, .ref b), (1, .int (nI key)), (2, .int (nI v))] [] n (tW h b s a) Q := by
  obtain ⟨B, H, T, K, V, c⟩ := S
  have hbw : bw B H T K key = bwS B K key := c_bw hT key
  obtain ⟨hR, ⟨hI, hd, h3⟩, e9, e10, e11, e12, e13, e14, e15⟩ := hT
  have okb := hR.1
  have hH6 : H ≤ 6 := hR.2.2.1
  obtain ⟨i1, i2⟩ := insF_insR (B := B) (H := H) (T := T) (K := K) (V := V) (c := s 11) (x := s 13) (key := key) (v := v) okb
  refine w_store hb hR hk hv e10 (fun bk a' hw hR' => ?_) (fun {B' K' V' c' x'} s' a' hw e => ?_) (fun bk B' K' V' c' x' s' a' hw e hR' h10 h11 h13 h14 hs => ?_)
  · have hf : sFind (B, H, T, K, V, c) key = some bk := hbw.symm.trans hw
    exact hqS (nI (V bk)) (B, H, T, K, va_up V bk v, c) s a' (by unfold sPut; rw [hf]) ⟨hR', ⟨hI, hd, h3⟩, e9, e10, e11, e12, e13, e14, e15⟩
  · have hf : sFind (B, H, T, K, V, c) key = none := hbw.symm.trans hw
    refine hqN s' a' ?_
    have : sAdd (B, H, T, K, V, c) key v = none := by
      rw [sAdd_none, ← e11]
      cases hi : insR B H T K V (s 11) key v with
      | none => rfl
      | some q =>
        obtain ⟨bk, B1, K1, V1, c1⟩ := q
        rw [i2 _ _ _ _ _ hi] at e
        cases e
    unfold sPut
    rw [hf, this]
  · have hf : sFind (B, H, T, K, V, c) key = none := hbw.symm.trans hw
    cases hi : insR B H T K V (s 11) key v with
    | none =>
      have := i1 hi
      rw [e] at this
      cases this
    | some q =>
      obtain ⟨bk1, B1, K1, V1, c1⟩ := q
      rw [i2 _ _ _ _ _ hi] at e
      cases e
      have hi2 := hi
      rw [e11] at hi2
      refine hqS (-1) _ s' a' (by unfold sPut; rw [hf, sAdd_some hi2]) ⟨hR', ⟨insR_inH okb hH6 hI hi, insR_dis okb hH6 hd hf hi, h3⟩, ?_, h10, ?_, ?_, ?_, ?_, ?_⟩
      · rw [hs 9 (by decide) (by decide) (by decide) (by decide) (by decide) (by decide)]; exact e9
      · rw [h11]; rfl
      · rw [hs 12 (by decide) (by decide) (by decide) (by decide) (by decide) (by decide)]; exact e12
      · rw [h13, e13]; rfl
      · rw [h14, e14]; rfl
      · rw [hs 15 (by decide) (by decide) (by decide) (by decide) (by decide) (by decide)]; exact e15
theorem c_take {l : zL} {d kc ks n b : Nat} {h : Nat → va_E} {S : zS} {s : Nat → Int32} {a : Nat → Nat → Int32} {Q : zQ} {key bk : Nat} (hb : b + 6 ≤ n) (hT : cT S s a) (hk : key ≤ 9999) (hf : sFind S key = some bk) (hq : ∀ s' a', cT (sRem S bk) s' a' → Q (.inl (some (.int (nI (S.2.2.2.2.1 bk))))) n (tW h b s' a')) : Zj l mX6_take (d + 3) kc ks 0 [(0, .ref b), (1, .int (nI key))] [] n (tW h b s a) Q := by
  obtain ⟨B, H, T, K, V, c⟩ := S
  have hbw : bw B H T K key = some bk := (c_bw hT key).trans hf
  obtain ⟨hR, ⟨hI, hd, h3⟩, e9, e10, e11, e12, e13, e14, e15⟩ := hT
  have okb := hR.1
  have hH6 : H ≤ 6 := hR.2.2.1
  obtain ⟨hlt, hK⟩ := bw_lt okb hbw
  refine w_take hb hR hk hbw (fun K' V' c' s' a' e hR' h10 h12 h15 hs => ?_)
  obtain ⟨q1, q2, q3⟩ := takF_inv okb hH6 hI hd hlt (by omega) e
  rw [e12, e9] at e
  refine hq s' a' ?_
  unfold sRem
  simp only [e]
  refine ⟨hR', ⟨q1, q2, h3⟩, ?_, ?_, ?_, ?_, ?_, ?_, ?_⟩
  · rw [hs 9 (by decide) (by decide) (by decide)]; exact e9
  · rw [h10, e10, ← q3, ← nI_1, Int32.add_sub_cancel]
  · rw [hs 11 (by decide) (by decide) (by decide)]; exact e11
  · rw [h12]; rfl
  · rw [hs 13 (by decide) (by decide) (by decide)]; exact e13
  · rw [hs 14 (by decide) (by decide) (by decide)]; exact e14
  · rw [h15, e15]; rfl
theorem c_takeN {l : zL} {d kc ks n b : Nat} {h : Nat → va_E} {S : zS} {s : Nat → Int32} {a : Nat → Nat → Int32} {Q : zQ} {key : Nat} (hb : b + 6 ≤ n) (hT : cT S s a) (hk : key ≤ 9999) (hf : sFind S key = none) (hq : Q (.inl (some (.int (-1)))) n (tW h b s a)) : Zj l mX6_take (d + 3) kc ks 0 [(0, .ref b), (1, .int (nI key))] [] n (tW h b s a) Q := by
  obtain ⟨B, H, T, K, V, c⟩ := S
  exact w_takeN hb hT.1 hk ((c_bw hT key).trans hf) hq
theorem rbF_skip {H T newB w : Nat} {L : List (Nat × Nat)} {B : Nat} {K V : Nat → Nat} {c x : Int32} : ∀ m, w ≤ m → (∀ j, w ≤ j → j < m → 2 ^ (6 - j) < newB) → rbF H T L newB m B K V c x = rbF H T L newB w B K V c x
  | 0, h, _ => by rw [show w = 0 by omega]
  | m + 1, h, hj => by
    by_cases h1 : w = m + 1
    · rw [h1]
    · rw [rbF, if_pos (hj m (by omega) (by omega)), rbF_skip m (by omega) (fun j h2 h3 => hj j h2 (by omega))]
theorem rb_same {B : Nat} (hB : okB B) : ∀ j, wid B + 1 ≤ j → j < 4 → 2 ^ (6 - j) < B := by
  rcases hB with rfl | rfl | rfl | rfl <;> intro j h1 h2 <;> rcases (show j = 0 ∨ j = 1 ∨ j = 2 ∨ j = 3 by omega) with rfl | rfl | rfl | rfl <;> revert h1 <;> decide
theorem rb_two {B : Nat} (hB : okB B) : ∀ j, wid B ≤ j → j < 4 → 2 ^ (6 - j) < 2 * B := by
  rcases hB with rfl | rfl | rfl | rfl <;> intro j h1 h2 <;> rcases (show j = 0 ∨ j = 1 ∨ j = 2 ∨ j = 3 by omega) with rfl | rfl | rfl | rfl <;> revert h1 <;> decide
theorem rb_eq1 {H T B : Nat} {K V : Nat → Nat} {c x : Int32} (hB : okB B) : (rbR H T (entL K V B) (wid B + 1) = none → (rbF H T (entL K V B) B 4 B K V c x).1 = false) ∧ ∀ B' K' V' c', rbR H T (entL K V B) (wid B + 1) = some (B', K', V', c') → rbF H T (entL K V B) B 4 B K V c x = (true, B', K', V', c', x + nI (dbl B' 4 B)) := by
  rw [rbF_skip (w := wid B + 1) 4 (by have := (wid_2 hB).1; omega) (rb_same hB)]
  exact rbF_rbR _ _ _ _ _ _ (by have := (wid_2 hB).1; omega) hB (Or.inr (wid_1 hB).symm) (Nat.le_of_eq (wid_1 hB).symm)
theorem rb_eq2 {H T B : Nat} {K V : Nat → Nat} {c x : Int32} (hB : okB B) : (rbR H T (entL K V B) (wid B) = none → (rbF H T (entL K V B) (2 * B) 4 B K V c x).1 = false) ∧ ∀ B' K' V' c', rbR H T (entL K V B) (wid B) = some (B', K', V', c') → rbF H T (entL K V B) (2 * B) 4 B K V c x = (true, B', K', V', c', x + nI (dbl B' 4 B)) := by
  rw [rbF_skip (w := wid B) 4 (by have := (wid_2 hB).1; omega) (rb_two hB)]
  exact rbF_rbR _ _ _ _ _ _ (by have := (wid_2 hB).1; omega) hB (Or.inl (wid_2 hB).2.symm) (Nat.le_of_eq (wid_2 hB).2.symm)
theorem sSet_none {B H T H2 T2 m : Nat} {K V : Nat → Nat} {c : Nat → Int32} : sSet (B, H, T, K, V, c) H2 T2 m = none ↔ rbR H2 T2 (entL K V B) m = none := by
  unfold sSet
  simp only
  cases rbR H2 T2 (entL K V B) m with
  | none => exact ⟨fun _ => rfl, fun _ => rfl⟩
  | some q => exact ⟨fun e => (by cases e), fun e => (by cases e)⟩
theorem sSet_some {B H T H2 T2 m : Nat} {K V : Nat → Nat} {c : Nat → Int32} {B' : Nat} {K' V' : Nat → Nat} {c' : Int32} (h : rbR H2 T2 (entL K V B) m = some (B', K', V', c')) : sSet (B, H, T, K, V, c) H2 T2 m = some (B', H2, T2, K', V', va_up (va_up c 4 c') 6 (c 6 + nI (dbl B' 4 B))) := by
  simp only [sSet, h]
theorem cT_set {B H T H2 T2 m : Nat} {K V : Nat → Nat} {c : Nat → Int32} {s s' : Nat → Int32} {a a' : Nat → Nat → Int32} {B' : Nat} {K' V' : Nat → Nat} {c' : Int32} (hT : cT (B, H, T, K, V, c) s a) (hH2 : H2 ≤ 6) (hm : m ≤ 4) (hr : rbR H2 T2 (entL K V B) m = some (B', K', V', c')) (hR' : tR B' H2 T2 K' V' s' a') (h10 : s' 10 = nI (entL K V B).length) (h11 : s' 11 = c') (h13 : s' 13 = s 13 + nI (dbl B' 4 B)) (hs : ∀ k, k = 9 ∨ k = 12 ∨ k = 14 ∨ k = 15 → s' k = s k) (hcnt : cnt K' B' = (entL K V B).length) : cT (B', H2, T2, K', V', va_up (va_up c 4 c') 6 (c 6 + nI (dbl B' 4 B))) s' a' := by
  obtain ⟨hR, ⟨hI, hd, h3⟩, e9, e10, e11, e12, e13, e14, e15⟩ := hT
  refine ⟨hR', ⟨rbR_inH hH2 _ _ _ _ _ hm hr, rbR_dis hH2 (entL_nodup hd B (Nat.le_refl _)) _ _ _ _ _ hm hr, h3⟩, ?_, ?_, ?_, ?_, ?_, ?_, ?_⟩
  · rw [hs 9 (by decide)]; exact e9
  · rw [h10, hcnt]
  · rw [h11]; rfl
  · rw [hs 12 (by decide)]; exact e12
  · rw [h13, e13]; rfl
  · rw [hs 14 (by decide)]; exact e14
  · rw [hs 15 (by decide)]; exact e15
