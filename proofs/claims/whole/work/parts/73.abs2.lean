theorem c_near {l : zL} {d kc ks n b : Nat} {h : Nat → va_E} {S : zS} {s : Nat → Int32} {a : Nat → Nat → Int32} {Q : zQ} {H2 : Nat} (hb : b + 6 ≤ n) (hT : cT S s a) (h2N : 2 ≤ H2) (hN6 : H2 ≤ 6) (hqN : ∀ s' a', sNear S H2 = none → Q (.inl (some (.int 0))) n (tW h b s' a')) (hqS : ∀ S' s' a', sNear S H2 = some S' → cT S' s' a' → Q (.inl (some (.int 1))) n (tW h b s' a')) : Zj l mX6_changeNear (d + 7) kc ks 0 [(0, .ref b), (1, .int (nI H2))] [] n (tW h b s a) Q := by
  obtain ⟨B, H, T, K, V, c⟩ := S
  have hT0 := hT
  obtain ⟨hR, ⟨hI, hd, h3⟩, e9, e10, e11, e12, e13, e14, e15⟩ := hT0
  have okb := hR.1
  obtain ⟨i1, i2⟩ := rb_eq1 (H := H2) (T := T) (K := K) (V := V) (c := s 11) (x := s 13) okb
  refine w_changeNear hb hR h2N hN6 (fun {B' K' V' c' x'} s' a' e => ?_) (fun B' K' V' c' x' s' a' e hR' h10 h11 h13 hs => ?_)
  · refine hqN s' a' (sSet_none.mpr ?_)
    cases hr : rbR H2 T (entL K V B) (wid B + 1) with
    | none => rfl
    | some q =>
      obtain ⟨B1, K1, V1, c1⟩ := q
      rw [i2 _ _ _ _ hr] at e
      cases e
  · cases hr : rbR H2 T (entL K V B) (wid B + 1) with
    | none =>
      have := i1 hr
      rw [e] at this
      cases this
    | some q =>
      obtain ⟨B1, K1, V1, c1⟩ := q
      have hc := rbF_cnt hN6 _ _ _ _ _ _ _ _ _ _ _ (Nat.le_refl 4) e
      rw [i2 _ _ _ _ hr] at e
      cases e
      exact hqS _ s' a' (sSet_some hr) (cT_set hT hN6 (by have := (wid_2 okb).1; omega) hr hR' h10 h11 h13 (fun k hk => hs k (by omega) (by omega) (by omega) (by omega) (by omega) (by omega)) hc)
theorem c_times {l : zL} {d kc ks n b : Nat} {h : Nat → va_E} {S : zS} {s : Nat → Int32} {a : Nat → Nat → Int32} {Q : zQ} {T2 : Nat} (hb : b + 6 ≤ n) (hT : cT S s a) (h2N : 1 ≤ T2) (hN6 : T2 ≤ 99) (hqN : ∀ s' a', sTimes S T2 = none → Q (.inl (some (.int 0))) n (tW h b s' a')) (hqS : ∀ S' s' a', sTimes S T2 = some S' → cT S' s' a' → Q (.inl (some (.int 1))) n (tW h b s' a')) : Zj l mX6_changeTimes (d + 7) kc ks 0 [(0, .ref b), (1, .int (nI T2))] [] n (tW h b s a) Q := by
  obtain ⟨B, H, T, K, V, c⟩ := S
  have hT0 := hT
  obtain ⟨hR, ⟨hI, hd, h3⟩, e9, e10, e11, e12, e13, e14, e15⟩ := hT0
  have okb := hR.1
  have hH6 : H ≤ 6 := hR.2.2.1
  obtain ⟨i1, i2⟩ := rb_eq1 (H := H) (T := T2) (K := K) (V := V) (c := s 11) (x := s 13) okb
  refine w_changeTimes hb hR h2N hN6 (fun {B' K' V' c' x'} s' a' e => ?_) (fun B' K' V' c' x' s' a' e hR' h10 h11 h13 hs => ?_)
  · refine hqN s' a' (sSet_none.mpr ?_)
    cases hr : rbR H T2 (entL K V B) (wid B + 1) with
    | none => rfl
    | some q =>
      obtain ⟨B1, K1, V1, c1⟩ := q
      rw [i2 _ _ _ _ hr] at e
      cases e
  · cases hr : rbR H T2 (entL K V B) (wid B + 1) with
    | none =>
      have := i1 hr
      rw [e] at this
      cases this
    | some q =>
      obtain ⟨B1, K1, V1, c1⟩ := q
      have hc := rbF_cnt hH6 _ _ _ _ _ _ _ _ _ _ _ (Nat.le_refl 4) e
      rw [i2 _ _ _ _ hr] at e
      cases e
      exact hqS _ s' a' (sSet_some hr) (cT_set hT hH6 (by have := (wid_2 okb).1; omega) hr hR' h10 h11 h13 (fun k hk => hs k (by omega) (by omega) (by omega) (by omega) (by omega) (by omega)) hc)
theorem c_grow {l : zL} {d kc ks n b : Nat} {h : Nat → va_E} {S : zS} {s : Nat → Int32} {a : Nat → Nat → Int32} {Q : zQ} (hb : b + 6 ≤ n) (hT : cT S s a) (hqN : ∀ s' a', sGrow S = none → Q (.inl (some (.int 0))) n (tW h b s' a')) (hqS : ∀ S' s' a', sGrow S = some S' → cT S' s' a' → Q (.inl (some (.int 1))) n (tW h b s' a')) : Zj l mX6_buildAnew (d + 6) kc ks 0 [(0, .ref b), (1, .int (nI (2 * S.1)))] [] n (tW h b s a) Q := by
  obtain ⟨B, H, T, K, V, c⟩ := S
  have hT0 := hT
  obtain ⟨hR, ⟨hI, hd, h3⟩, e9, e10, e11, e12, e13, e14, e15⟩ := hT0
  have okb := hR.1
  have hH6 : H ≤ 6 := hR.2.2.1
  have hle := okb.le
  obtain ⟨i1, i2⟩ := rb_eq2 (H := H) (T := T) (K := K) (V := V) (c := s 11) (x := s 13) okb
  have hRk : tK B H T K V s a := by
    obtain ⟨okb, h2H, hH6, h1T, hT99, e6, e7, e8, ek, ev, eh, ekv, ez⟩ := hR
    exact ⟨okb, h2H, hH6, h1T, hT99, e6, e7, e8, ek, ev, trivial, ekv, ez⟩
  refine w_buildAnew (B := B) (newB := 2 * B) hb hRk (by omega) (fun B' K' V' c' x' s' a' e => ?_) (fun B' K' V' c' x' s' a' e hR' h10 h11 h13 hs => ?_)
  · refine hqN s' a' (sSet_none.mpr ?_)
    cases hr : rbR H T (entL K V B) (wid B) with
    | none => rfl
    | some q =>
      obtain ⟨B1, K1, V1, c1⟩ := q
      rw [i2 _ _ _ _ hr] at e
      cases e
  · cases hr : rbR H T (entL K V B) (wid B) with
    | none =>
      have := i1 hr
      rw [e] at this
      cases this
    | some q =>
      obtain ⟨B1, K1, V1, c1⟩ := q
      have hc := rbF_cnt hH6 _ _ _ _ _ _ _ _ _ _ _ (Nat.le_refl 4) e
      rw [i2 _ _ _ _ hr] at e
      cases e
      exact hqS _ s' a' (sSet_some hr) (cT_set hT hH6 (by have := (wid_2 okb).1; omega) hr hR' h10 h11 h13 (fun k hk => hs k (by omega) (by omega) (by omega) (by omega) (by omega)) hc)
theorem dis_kz {B : Nat} : dis B kz := fun _ _ _ _ h => absurd rfl h
theorem c_dropAll {l : zL} {d kc ks n b : Nat} {h : Nat → va_E} {S : zS} {s : Nat → Int32} {a : Nat → Nat → Int32} {Q : zQ} (hb : b + 6 ≤ n) (hT : cT S s a) (hq : ∀ s' a', cT (sClear S) s' a' → Q (.inl (some (.int (nI (cnt S.2.2.2.1 S.1))))) n (tW h b s' a')) : Zj l mX6_dropAll (d + 1) kc ks 0 [(0, .ref b)] [] n (tW h b s a) Q := by
  obtain ⟨B, H, T, K, V, c⟩ := S
  obtain ⟨hR, ⟨hI, hd, h3⟩, e9, e10, e11, e12, e13, e14, e15⟩ := hT
  refine w_dropAll hb hR (fun s' a' hR' h10 h11 h15 hs => ?_)
  rw [e10]
  refine hq s' a' ⟨hR', ⟨inH_kz, dis_kz, h3⟩, ?_, ?_, ?_, ?_, ?_, ?_, ?_⟩
  · rw [hs 9 (by decide) (by decide) (by decide) (by decide)]; exact e9
  · rw [h10, cnt_kz]; rfl
  · rw [h11]; rfl
  · rw [hs 12 (by decide) (by decide) (by decide) (by decide)]; exact e12
  · rw [hs 13 (by decide) (by decide) (by decide) (by decide)]; exact e13
  · rw [hs 14 (by decide) (by decide) (by decide) (by decide)]; exact e14
  · rw [h15, e15, e10]; rfl
theorem c_begin {l : zL} {d kc ks n b B H T : Nat} {h : Nat → va_E} {s : Nat → Int32} {a : Nat → Nat → Int32} {Q : zQ} (hb : b + 6 ≤ n) (okb : okB B) (h2H : 2 ≤ H) (hH6 : H ≤ 6) (h1T : 1 ≤ T) (hT99 : T ≤ 99) (hq : ∀ s' a', cT (sNew B H T) s' a' → Q (.inl none) n (tW h b s' a')) : Zj l mX6_begin (d + 1) kc ks 0 [(0, .ref b), (1, .int (nI B)), (2, .int (nI H)), (3, .int (nI T))] [] n (tW h b s a) Q := by
  refine w_begin hb okb h2H hH6 h1T hT99 (fun s' a' hR' h10 h11 h9 h12 h13 h14 h15 => ?_)
  exact hq s' a' ⟨hR', ⟨inH_kz, dis_kz, Or.inl rfl⟩, h9, by rw [h10, cnt_kz]; rfl, h11, h12, h13, h14, h15⟩
theorem c_copy {l : zL} {d kc ks n b b2 : Nat} {h : Nat → va_E} {S : zS} {s s2 : Nat → Int32} {a a2 : Nat → Nat → Int32} {Q : zQ} (hb : b + 6 ≤ n) (hb2 : b2 + 6 ≤ n) (hd2 : b2 + 6 ≤ b ∨ b + 6 ≤ b2) (hi : tIn h b2 s2 a2) (hT : cT S s2 a2) (hq : ∀ s' a', cT S s' a' → Q (.inl none) n (tW h b s' a')) : Zj l mX6_copyFrom d kc ks 0 [(0, .ref b), (1, .ref b2)] [] n (tW h b s a) Q :=
  w_copyFrom hb hb2 hd2 hi hT.nine (fun s' a' h1 h2 => hq s' a' (hT.cp h1 h2))
theorem cT.pull {S : zS} {s : Nat → Int32} {a : Nat → Nat → Int32} {p : Int32} (hT : cT S s a) (hp : p = 0 ∨ p = 1) : cT (sPull S p) (va_up s 9 p) a := by
  obtain ⟨B, H, T, K, V, c⟩ := S
  obtain ⟨⟨okb, h2H, hH6, h1T, hT99, e6, e7, e8, ek, ev, eh, ekv, ez⟩, ⟨hI, hd, h3⟩, e9, e10, e11, e12, e13, e14, e15⟩ := hT
  exact ⟨⟨okb, h2H, hH6, h1T, hT99, e6, e7, e8, ek, ev, eh, ekv, ez⟩, ⟨hI, hd, hp⟩, rfl, e10, e11, e12, e13, e14, e15⟩
/-! THE REFERENCE OVER THE SHARED VALUE -/
/-- what its calls leave as it was: all scalars but the length of the row of entries, all rows but w, aside, safe, held, rowKey, rowValue -/
def mF0 (s : Nat → Int32) (a : Nat → Nat → Int32) (s' : Nat → Int32) (a' : Nat → Nat → Int32) : Prop := (∀ k, k ≠ 10 → s' k = s k) ∧ ∀ q, q ≠ 0 → q ≠ 2 → q ≠ 3 → q ≠ 4 → q ≠ 7 → q ≠ 8 → a' q = a q
/-- .. and aside as well -/
def mF1 (s : Nat → Int32) (a : Nat → Nat → Int32) (s' : Nat → Int32) (a' : Nat → Nat → Int32) : Prop := (∀ k, k ≠ 10 → s' k = s k) ∧ ∀ q, q ≠ 0 → q ≠ 3 → q ≠ 4 → q ≠ 7 → q ≠ 8 → a' q = a q
theorem mF1.f0 {s s' : Nat → Int32} {a a' : Nat → Nat → Int32} (h : mF1 s a s' a') : mF0 s a s' a' := ⟨h.1, fun q g0 _ g3 g4 g7 g8 => h.2 q g0 g3 g4 g7 g8⟩
theorem m_adds {l : zL} {d kc ks n b : Nat} {h : Nat → va_E} {S : zS} {s : Nat → Int32} {a : Nat → Nat → Int32} {Q : zQ} {key v : Nat} (hb : b + 14 ≤ n) (hM : mT S (a 0)) (hk : key ≤ 9999) (hv : v ≤ 999) (hw : sFind S key = none) (hqN : ∀ s' a', sAdd S key v = none → mT S (a' 0) → mF1 s a s' a' → Q (.inl (some (.int (-1)))) n (mW h b s' a')) (hqS : ∀ bk S' s' a', sAdd S key v = some (bk, S') → mT S' (a' 0) → mF1 s a s' a' → Q (.inl (some (.int (nI bk)))) n (mW h b s' a')) : Zj l mX8_adds (d + 6) kc ks 0 [(0, .ref b), (1, .int (nI key)), (2, .int (nI v))] [] n (mW h b s a) Q := by
  obtain ⟨B, H, T, K, V, c⟩ := S
  have hM0 := hM
  obtain ⟨hV, ⟨hI, hd, h3⟩, e3⟩ := hM0
  have okb := hV.1
  have hH6 : H ≤ 6 := hV.2.2.1
  have e4 := e3 4 (by decide) (by decide)
  refine r_adds hb hV hk hv (fun s' a' e h1 h2 h4 => ?_) (fun bk B' K' V' c' s' a' e hV' hbk h4 h6 h7 hs h10 hr => ?_)
  · rw [e4] at e
    exact hqN s' a' (sAdd_none.mpr e) (hM.cp h1) ⟨h2, fun q g0 g3 g4 g7 g8 => h4 q g0 g3 g4 g7 g8⟩
  · have e2 := e
    rw [e4] at e2
    refine hqS bk _ s' a' (sAdd_some e2) ⟨hV', ⟨insR_inH okb hH6 hI e, insR_dis okb hH6 hd hw e, h3⟩, fun k k1 k2 => ?_⟩ ⟨h10, fun q g0 g3 g4 g7 g8 => hr q g0 g3 g4 g7 g8⟩
    rcases (show k = 3 ∨ k = 4 ∨ k = 5 ∨ k = 6 ∨ k = 7 ∨ k = 8 by omega) with rfl | rfl | rfl | rfl | rfl | rfl
    · rw [hs 3 (by decide) (by decide) (by decide) (by decide) (by decide), e3 3 k1 k2]; rfl
    · rw [h4]; rfl
    · rw [hs 5 (by decide) (by decide) (by decide) (by decide) (by decide), e3 5 k1 k2]; rfl
    · rw [h6, e3 6 k1 k2]; rfl
    · rw [h7, e3 7 k1 k2]; rfl
    · rw [hs 8 (by decide) (by decide) (by decide) (by decide) (by decide), e3 8 k1 k2]; rfl
/-- why a key cannot be added -/
def sWhy (S : zS) (key : Nat) : Int32 := match sFind S key with
  | some _ => 1
  | none => match sAdd S key 0 with
    | none => 2
    | some _ => 0
theorem sWhy_eq {B H T : Nat} {K V : Nat → Nat} {c : Nat → Int32} {key : Nat} : whyR B H T K V (c 4) key = sWhy (B, H, T, K, V, c) key := by
  unfold whyR sWhy
  rw [show sFind (B, H, T, K, V, c) key = bwS B K key from rfl]
  cases bwS B K key with
  | some bk => rfl
  | none =>
    simp only
    cases hi : insR B H T K V (c 4) key 0 with
    | none => rw [sAdd_none.mpr hi]
    | some q =>
      obtain ⟨bk, B', K', V', c'⟩ := q
      rw [sAdd_some hi]
theorem m_whyOut {l : zL} {d kc ks n b : Nat} {h : Nat → va_E} {S : zS} {s : Nat → Int32} {a : Nat → Nat → Int32} {Q : zQ} {key : Nat} (hb : b + 14 ≤ n) (hM : mT S (a 0)) (hk : key ≤ 9999) (hq : ∀ s' a', mT S (a' 0) → mF0 s a s' a' → Q (.inl (some (.int (sWhy S key)))) n (mW h b s' a')) : Zj l mX8_whyOut (d + 7) kc ks 0 [(0, .ref b), (1, .int (nI key))] [] n (mW h b s a) Q := by
  obtain ⟨B, H, T, K, V, c⟩ := S
  refine r_whyOut hb hM.1 hk (fun s' a' h1 h2 h4 => ?_)
  rw [hM.2.2 4 (by decide) (by decide), sWhy_eq]
  exact hq s' a' (hM.cp h1) ⟨h2, h4⟩
theorem m_puts {l : zL} {d kc ks n b : Nat} {h : Nat → va_E} {S : zS} {s : Nat → Int32} {a : Nat → Nat → Int32} {Q : zQ} {key v : Nat} (hb : b + 14 ≤ n) (hM : mT S (a 0)) (hk : key ≤ 9999) (hv : v ≤ 999) (hqN : ∀ s' a', sPut S key v = none → mT S (a' 0) → mF1 s a s' a' → Q (.inl (some (.int (-1)))) n (mW h b s' a')) (hqS : ∀ x S' s' a', sPut S key v = some (x, S') → mT S' (a' 0) → mF1 s a s' a' → Q (.inl (some (.int x))) n (mW h b s' a')) : Zj l mX8_puts (d + 7) kc ks 0 [(0, .ref b), (1, .int (nI key)), (2, .int (nI v))] [] n (mW h b s a) Q := by
  obtain ⟨B, H, T, K, V, c⟩ := S
  have hM0 := hM
  obtain ⟨hV, ⟨hI, hd, h3⟩, e3⟩ := hM0
  have okb := hV.1
  have hH6 : H ≤ 6 := hV.2.2.1
  have e4 := e3 4 (by decide) (by decide)
  refine r_puts hb hV hk hv (fun bk a' hw hV' h9 hr => ?_) (fun s' a' hw e h1 h2 h4 => ?_) (fun bk B' K' V' c' s' a' hw e hV' hbk h4 h6 h7 hs h10 hr => ?_)
  · have hf : sFind (B, H, T, K, V, c) key = some bk := hw
    exact hqS (nI (V bk)) (B, H, T, K, va_up V bk v, c) s a' (by unfold sPut; rw [hf]) ⟨hV', ⟨hI, hd, h3⟩, fun k k1 k2 => (h9 k k2).trans (e3 k k1 k2)⟩ ⟨fun _ _ => rfl, fun q g0 _ _ _ _ => hr q g0⟩
  · have hf : sFind (B, H, T, K, V, c) key = none := hw
    rw [e4] at e
    exact hqN s' a' (by unfold sPut; rw [hf, sAdd_none.mpr e]) (hM.cp h1) ⟨h2, fun q g0 g3 g4 g7 g8 => h4 q g0 g3 g4 g7 g8⟩
  · have hf : sFind (B, H, T, K, V, c) key = none := hw
    have e2 := e
    rw [e4] at e2
    refine hqS (-1) _ s' a' (by unfold sPut; rw [hf, sAdd_some e2]) ⟨hV', ⟨insR_inH okb hH6 hI e, insR_dis okb hH6 hd hw e, h3⟩, fun k k1 k2 => ?_⟩ ⟨h10, fun q g0 g3 g4 g7 g8 => hr q g0 g3 g4 g7 g8⟩
    rcases (show k = 3 ∨ k = 4 ∨ k = 5 ∨ k = 6 ∨ k = 7 ∨ k = 8 by omega) with rfl | rfl | rfl | rfl | rfl | rfl
    · rw [hs 3 (by decide) (by decide) (by decide) (by decide) (by decide), e3 3 k1 k2]; rfl
    · rw [h4]; rfl
    · rw [hs 5 (by decide) (by decide) (by decide) (by decide) (by decide), e3 5 k1 k2]; rfl
    · rw [h6, e3 6 k1 k2]; rfl
    · rw [h7, e3 7 k1 k2]; rfl
    · rw [hs 8 (by decide) (by decide) (by decide) (by decide) (by decide), e3 8 k1 k2]; rfl
theorem m_rows {l : zL} {d kc ks n b : Nat} {h : Nat → va_E} {S : zS} {s : Nat → Int32} {a : Nat → Nat → Int32} {Q : zQ} {key step count : Nat} (hb : b + 14 ≤ n) (hM : mT S (a 0)) (hks : ∀ i, i < count → key + i * step ≤ 9999) (hct : count ≤ 20) (hqN : ∀ s' a', sRow S key step count = none → mF1 s a s' a' → Q (.inl (some (.int (-1)))) n (mW h b s' a')) (hqS : ∀ j S' s' a', sRow S key step count = some (j, S') → mT S' (a' 0) → mF1 s a s' a' → Q (.inl (some (.int (nI j)))) n (mW h b s' a')) : Zj l mX8_rows (d + 7) kc ks 0 [(0, .ref b), (1, .int (nI key)), (2, .int (nI step)), (3, .int (nI count))] [] n (mW h b s a) Q := by
  obtain ⟨B, H, T, K, V, c⟩ := S
  obtain ⟨hV, ⟨hI, hd, h3⟩, e3⟩ := hM
  have okb := hV.1
  have hH6 : H ≤ 6 := hV.2.2.1
  refine r_rows hb hV hks hct (fun s' a' e h2 h4 => ?_) (fun j' B' K' V' c' x' s' a' e hV' h4 h6 h7 hs h10 hr => ?_)
  · rw [e3 4 (by decide) (by decide), e3 6 (by decide) (by decide)] at e
    exact hqN s' a' (by simp only [sRow, e]) ⟨h2, fun q g0 g3 g4 g7 g8 => h4 q g0 g3 g4 g7 g8⟩
  · rw [e3 4 (by decide) (by decide), e3 6 (by decide) (by decide)] at e
    obtain ⟨q1, q2, q3⟩ := rowR_inv hH6 _ _ _ _ _ _ _ _ _ _ _ _ _ _ okb hI hd e
    refine hqS j' _ s' a' (by simp only [sRow, e]; rfl) ⟨hV', ⟨q2, q3, h3⟩, fun k k1 k2 => ?_⟩ ⟨h10, fun q g0 g3 g4 g7 g8 => hr q g0 g3 g4 g7 g8⟩
    rcases (show k = 3 ∨ k = 4 ∨ k = 5 ∨ k = 6 ∨ k = 7 ∨ k = 8 by omega) with rfl | rfl | rfl | rfl | rfl | rfl
    · rw [hs 3 (by decide) (by decide) (by decide) (by decide) (by decide), e3 3 k1 k2]; rfl
    · rw [h4]; rfl
    · rw [hs 5 (by decide) (by decide) (by decide) (by decide) (by decide), e3 5 k1 k2]; rfl
    · rw [h6]; rfl
    · rw [h7, e3 7 k1 k2]; rfl
    · rw [hs 8 (by decide) (by decide) (by decide) (by decide) (by decide), e3 8 k1 k2]; rfl
theorem oI_row {B H T key step count : Nat} {K V : Nat → Nat} {c : Nat → Int32} : oI (rowR H T step count key 0 B K V (c 4) (c 6)) = oI (sRow (B, H, T, K, V, c) key step count) := by
  unfold sRow
  simp only
  cases rowR H T step count key 0 B K V (c 4) (c 6) <;> rfl
theorem m_canRow {l : zL} {d kc ks n b : Nat} {h : Nat → va_E} {S : zS} {s : Nat → Int32} {a : Nat → Nat → Int32} {Q : zQ} {key step count : Nat} (hb : b + 14 ≤ n) (hM : mT S (a 0)) (hks : ∀ i, i < count → key + i * step ≤ 9999) (hct : count ≤ 20) (hq : ∀ s' a', mT S (a' 0) → mF0 s a s' a' → Q (.inl (some (.int (oI (sRow S key step count))))) n (mW h b s' a')) : Zj l mX8_canRow (d + 8) kc ks 0 [(0, .ref b), (1, .int (nI key)), (2, .int (nI step)), (3, .int (nI count))] [] n (mW h b s a) Q := by
  obtain ⟨B, H, T, K, V, c⟩ := S
  refine r_canRow hb hM.1 hks hct (fun s' a' h1 h2 h4 => ?_)
  rw [hM.2.2 4 (by decide) (by decide), hM.2.2 6 (by decide) (by decide), oI_row]
  exact hq s' a' (hM.cp h1) ⟨h2, h4⟩
theorem m_takesOut {l : zL} {d kc ks n b : Nat} {h : Nat → va_E} {S : zS} {s : Nat → Int32} {a : Nat → Nat → Int32} {Q : zQ} {key bk : Nat} (hb : b + 14 ≤ n) (hM : mT S (a 0)) (hk : key ≤ 9999) (hf : sFind S key = some bk) (hq : ∀ a', mT (sRem S bk) (a' 0) → (∀ q, q ≠ 0 → a' q = a q) → Q (.inl (some (.int (nI (S.2.2.2.2.1 bk))))) n (mW h b s a')) : Zj l mX8_takesOut (d + 3) kc ks 0 [(0, .ref b), (1, .int (nI key))] [] n (mW h b s a) Q := by
  obtain ⟨B, H, T, K, V, c⟩ := S
  obtain ⟨hV, ⟨hI, hd, h3⟩, e3⟩ := hM
  have okb := hV.1
  have hH6 : H ≤ 6 := hV.2.2.1
  obtain ⟨hlt, hK⟩ := bwS_lt hf
  have hK' : K bk = key + 1 := hK
  refine r_takesOut hb hV hk hf (by rw [e3 3 (by decide) (by decide)]; exact h3) (pulT_384 okb hH6 hI hlt) (fun K' V' c' a' e hV' h5 h8 hs hr => ?_)
  obtain ⟨q1, q2, q3⟩ := takF_inv okb hH6 hI hd hlt (by omega) e
  rw [e3 5 (by decide) (by decide), e3 3 (by decide) (by decide)] at e
  refine hq a' ?_ hr
  unfold sRem
  simp only [e]
  refine ⟨hV', ⟨q1, q2, h3⟩, fun k k1 k2 => ?_⟩
  rcases (show k = 3 ∨ k = 4 ∨ k = 5 ∨ k = 6 ∨ k = 7 ∨ k = 8 by omega) with rfl | rfl | rfl | rfl | rfl | rfl
  · rw [hs 3 (by decide) (by decide) (by decide), e3 3 k1 k2]; rfl
  · rw [hs 4 (by decide) (by decide) (by decide), e3 4 k1 k2]; rfl
  · rw [h5]; rfl
  · rw [hs 6 (by decide) (by decide) (by decide), e3 6 k1 k2]; rfl
  · rw [hs 7 (by decide) (by decide) (by decide), e3 7 k1 k2]; rfl
  · rw [h8, e3 8 k1 k2]; rfl
theorem mT_set {B H T H2 T2 m : Nat} {K V : Nat → Nat} {c : Nat → Int32} {r r' : Nat → Int32} {B' : Nat} {K' V' : Nat → Nat} {c' : Int32} (hM : mT (B, H, T, K, V, c) r) (hH2 : H2 ≤ 6) (hm : m ≤ 4) (hr : rbR H2 T2 (entL K V B) m = some (B', K', V', c')) (hV' : mV B' H2 T2 K' V' r') (h4 : r' 4 = c') (h6 : r' 6 = r 6 + nI (dbl B' 4 B)) (hs : ∀ k, k = 3 ∨ k = 5 ∨ k = 7 ∨ k = 8 → r' k = r k) : mT (B', H2, T2, K', V', va_up (va_up c 4 c') 6 (c 6 + nI (dbl B' 4 B))) r' := by
  obtain ⟨hV, ⟨hI, hd, h3⟩, e3⟩ := hM
  refine ⟨hV', ⟨rbR_inH hH2 _ _ _ _ _ hm hr, rbR_dis hH2 (entL_nodup hd B (Nat.le_refl _)) _ _ _ _ _ hm hr, h3⟩, fun k k1 k2 => ?_⟩
  rcases (show k = 3 ∨ k = 4 ∨ k = 5 ∨ k = 6 ∨ k = 7 ∨ k = 8 by omega) with rfl | rfl | rfl | rfl | rfl | rfl
  · rw [hs 3 (by decide), e3 3 k1 k2]; rfl
  · rw [h4]; rfl
  · rw [hs 5 (by decide), e3 5 k1 k2]; rfl
  · rw [h6, e3 6 k1 k2]; rfl
  · rw [hs 7 (by decide), e3 7 k1 k2]; rfl
  · rw [hs 8 (by decide), e3 8 k1 k2]; rfl
theorem m_near {l : zL} {d kc ks n b : Nat} {h : Nat → va_E} {S : zS} {s : Nat → Int32} {a : Nat → Nat → Int32} {Q : zQ} {H2 : Nat} (hb : b + 14 ≤ n) (hM : mT S (a 0)) (hlo : 2 ≤ H2) (hhi : H2 ≤ 6) (hqN : ∀ s' a', sNear S H2 = none → mF1 s a s' a' → Q (.inl (some (.int 0))) n (mW h b s' a')) (hqS : ∀ S' s' a', sNear S H2 = some S' → mT S' (a' 0) → mF1 s a s' a' → Q (.inl (some (.int 1))) n (mW h b s' a')) : Zj l mX8_resets (d + 7) kc ks 0 [(0, .ref b), (1, .int 1), (2, .int (nI H2))] [] n (mW h b s a) Q := by
  obtain ⟨B, H, T, K, V, c⟩ := S
  have okb := hM.1.1
  refine r_resets1 hb hM.1 hlo hhi (fun s' a' e h2 h4 => hqN s' a' (sSet_none.mpr e) ⟨h2, fun q g0 g3 g4 g7 g8 => h4 q g0 g4 g7 g8⟩) (fun B' K' V' c' s' a' e hV' h4 h6 hs h10 hr => ?_)
  exact hqS _ s' a' (sSet_some e) (mT_set hM hhi (by have := (wid_2 okb).1; omega) e hV' h4 h6 (fun k hk => hs k (by omega) (by omega) (by omega) (by omega) (by omega))) ⟨h10, fun q g0 g3 g4 g7 g8 => hr q g0 g4 g7 g8⟩
theorem m_times {l : zL} {d kc ks n b : Nat} {h : Nat → va_E} {S : zS} {s : Nat → Int32} {a : Nat → Nat → Int32} {Q : zQ} {T2 : Nat} (hb : b + 14 ≤ n) (hM : mT S (a 0)) (hlo : 1 ≤ T2) (hhi : T2 ≤ 99) (hqN : ∀ s' a', sTimes S T2 = none → mF1 s a s' a' → Q (.inl (some (.int 0))) n (mW h b s' a')) (hqS : ∀ S' s' a', sTimes S T2 = some S' → mT S' (a' 0) → mF1 s a s' a' → Q (.inl (some (.int 1))) n (mW h b s' a')) : Zj l mX8_resets (d + 7) kc ks 0 [(0, .ref b), (1, .int 2), (2, .int (nI T2))] [] n (mW h b s a) Q := by
  obtain ⟨B, H, T, K, V, c⟩ := S
  have okb := hM.1.1
  have hH6 : H ≤ 6 := hM.1.2.2.1
  refine r_resets2 hb hM.1 hlo hhi (fun s' a' e h2 h4 => hqN s' a' (sSet_none.mpr e) ⟨h2, fun q g0 g3 g4 g7 g8 => h4 q g0 g4 g7 g8⟩) (fun B' K' V' c' s' a' e hV' h4 h6 hs h10 hr => ?_)
  exact hqS _ s' a' (sSet_some e) (mT_set hM hH6 (by have := (wid_2 okb).1; omega) e hV' h4 h6 (fun k hk => hs k (by omega) (by omega) (by omega) (by omega) (by omega))) ⟨h10, fun q g0 g3 g4 g7 g8 => hr q g0 g4 g7 g8⟩
theorem m_grows {l : zL} {d kc ks n b : Nat} {h : Nat → va_E} {S : zS} {s : Nat → Int32} {a : Nat → Nat → Int32} {Q : zQ} (hb : b + 14 ≤ n) (hM : mT S (a 0)) (hqN : ∀ r s' a', sGrow S = none → mF1 s a s' a' → Q (.inl (some (.int r))) n (mW h b s' a')) (hqS : ∀ S' s' a', sGrow S = some S' → mT S' (a' 0) → mF1 s a s' a' → Q (.inl (some (.int (nI S'.1)))) n (mW h b s' a')) : Zj l mX8_grows (d + 7) kc ks 0 [(0, .ref b)] [] n (mW h b s a) Q := by
  obtain ⟨B, H, T, K, V, c⟩ := S
  have okb := hM.1.1
  have hH6 : H ≤ 6 := hM.1.2.2.1
  refine r_grows hb hM.1 (fun r s' a' e h2 h4 => hqN r s' a' (sSet_none.mpr e) ⟨h2, fun q g0 g3 g4 g7 g8 => h4 q g0 g4 g7 g8⟩) (fun B' K' V' c' s' a' e hV' h4 h6 hs h10 hr => ?_)
  exact hqS _ s' a' (sSet_some e) (mT_set hM hH6 (by have := (wid_2 okb).1; omega) e hV' h4 h6 (fun k hk => hs k (by omega) (by omega) (by omega) (by omega))) ⟨h10, fun q g0 g3 g4 g7 g8 => hr q g0 g4 g7 g8⟩
theorem oI_set {B H T H2 T2 m : Nat} {K V : Nat → Nat} {c : Nat → Int32} : oI (rbR H2 T2 (entL K V B) m) = oI (sSet (B, H, T, K, V, c) H2 T2 m) := by
  unfold sSet
  simp only
  cases rbR H2 T2 (entL K V B) m <;> rfl
theorem m_canGrow {l : zL} {d kc ks n b : Nat} {h : Nat → va_E} {S : zS} {s : Nat → Int32} {a : Nat → Nat → Int32} {Q : zQ} (hb : b + 14 ≤ n) (hM : mT S (a 0)) (hq : ∀ s' a', mT S (a' 0) → mF0 s a s' a' → Q (.inl (some (.int (oI (sGrow S))))) n (mW h b s' a')) : Zj l mX8_canGrow (d + 7) kc ks 0 [(0, .ref b)] [] n (mW h b s a) Q := by
  obtain ⟨B, H, T, K, V, c⟩ := S
  refine r_canGrow hb hM.1 (fun s' a' h1 h2 h4 => ?_)
  rw [oI_set (H := H) (T := T) (c := c)]
  exact hq s' a' (hM.cp h1) ⟨h2, h4⟩
theorem m_canNear {l : zL} {d kc ks n b : Nat} {h : Nat → va_E} {S : zS} {s : Nat → Int32} {a : Nat → Nat → Int32} {Q : zQ} {H2 : Nat} (hb : b + 14 ≤ n) (hM : mT S (a 0)) (hlo : 2 ≤ H2) (hhi : H2 ≤ 6) (hq : ∀ s' a', mT S (a' 0) → mF0 s a s' a' → Q (.inl (some (.int (oI (sNear S H2))))) n (mW h b s' a')) : Zj l mX8_canReset (d + 8) kc ks 0 [(0, .ref b), (1, .int 1), (2, .int (nI H2))] [] n (mW h b s a) Q := by
  obtain ⟨B, H, T, K, V, c⟩ := S
  refine r_canReset1 hb hM.1 hlo hhi (fun s' a' h1 h2 h4 => ?_)
  rw [oI_set (H := H) (T := T) (c := c)]
  exact hq s' a' (hM.cp h1) ⟨h2, h4⟩
theorem m_canTimes {l : zL} {d kc ks n b : Nat} {h : Nat → va_E} {S : zS} {s : Nat → Int32} {a : Nat → Nat → Int32} {Q : zQ} {T2 : Nat} (hb : b + 14 ≤ n) (hM : mT S (a 0)) (hlo : 1 ≤ T2) (hhi : T2 ≤ 99) (hq : ∀ s' a', mT S (a' 0) → mF0 s a s' a' → Q (.inl (some (.int (oI (sTimes S T2))))) n (mW h b s' a')) : Zj l mX8_canReset (d + 8) kc ks 0 [(0, .ref b), (1, .int 2), (2, .int (nI T2))] [] n (mW h b s a) Q := by
  obtain ⟨B, H, T, K, V, c⟩ := S
  refine r_canReset2 hb hM.1 hlo hhi (fun s' a' h1 h2 h4 => ?_)
  rw [oI_set (H := H) (T := T) (c := c)]
  exact hq s' a' (hM.cp h1) ⟨h2, h4⟩
theorem m_clears {l : zL} {d kc ks n b : Nat} {h : Nat → va_E} {S : zS} {s : Nat → Int32} {a : Nat → Nat → Int32} {Q : zQ} (hb : b + 14 ≤ n) (hM : mT S (a 0)) (hq : ∀ a', mT (sClear S) (a' 0) → (∀ q, q ≠ 0 → a' q = a q) → Q (.inl (some (.int (nI (cnt S.2.2.2.1 S.1))))) n (mW h b s a')) : Zj l mX8_clears (d + 2) kc ks 0 [(0, .ref b)] [] n (mW h b s a) Q := by
  obtain ⟨B, H, T, K, V, c⟩ := S
  obtain ⟨hV, ⟨hI, hd, h3⟩, e3⟩ := hM
  refine r_clears hb hV (fun a' hV' h4 h8 hs hr => hq a' ⟨hV', ⟨inH_kz, dis_kz, h3⟩, fun k k1 k2 => ?_⟩ hr)
  rcases (show k = 3 ∨ k = 4 ∨ k = 5 ∨ k = 6 ∨ k = 7 ∨ k = 8 by omega) with rfl | rfl | rfl | rfl | rfl | rfl
  · rw [hs 3 (by decide) (by decide) (by decide), e3 3 k1 k2]; rfl
  · rw [h4]; rfl
  · rw [hs 5 (by decide) (by decide) (by decide), e3 5 k1 k2]; rfl
  · rw [hs 6 (by decide) (by decide) (by decide), e3 6 k1 k2]; rfl
  · rw [hs 7 (by decide) (by decide) (by decide), e3 7 k1 k2]; rfl
  · rw [h8, e3 8 k1 k2]; rfl
