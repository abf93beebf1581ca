theorem c_near {l : zL} {d kc ks n b : Nat} {h : Nat → va_E} {S : zS} {s : Nat → Int32} {a : Nat → Nat → Int32} {Q : zQ} {H2 : Nat} (hb : b + 6 ≤ n) (hT : cT S s a) (h2N : 2 ≤ H2) (hN6 : H2 ≤ 6) (hqN : ∀ s' a', sNear S H2 = none → Q (.inl (some (.int 0))) n (tW h b s' a')) (hqS : ∀ S' s' a', sNear S H2 = some S' → cT S' s' a' → Q (.inl (some (.int 1))) n (tW h b s' a')) : Zj l mX6_changeNear (d + 7) kc ks 0 [(0, .ref b), (1, .int (nI H2))] [] n (tW h b s a) Q := by
  obtain ⟨B, H, T, K, V, c⟩ := S
  have hT0 := hT
  obtain ⟨hR, ⟨hI, hd, h3⟩, e9, e10, e11, e12, e13, e14, e15⟩ := hT0
  have okb := hR.1
  obtain ⟨i1, i2⟩ := rb_eq1 (H := H2) (T := T) (K := K) (V := V) (c := s 11) (x := s 13) okb
  refine w_changeNear hb hR h2N hN6 (fun {B' K' V' c' x'} s' a' e => ?_) (fun B' K' V' c' x' s' a' e hR' h10 h11 h13 hs => ?_)
  · refine hqN s' a' (sSet_none.mpr ?_)
    cases hr : rbR H2 T (entL K V B) (wid B + 1) with
    | none => rfl
    | some q =>
      obtain ⟨B1, K1, V1, c1⟩ := q
      rw [i2 _ _ _ _ hr] at e
      cases e
  · cases hr : rbR H2 T (entL K V B) (wid B + 1) with
    | none =>
      have := i1 hr
      rw [e] at this
      cases this
    | some q =>
      obtain ⟨B1, K1, V1, c1⟩ := q
      have hc := rbF_cnt hN6 _ _ _ _ _ _ _ _ _ _ _ (Nat.le_refl 4) e
      rw [i2 _ _ _ _ hr] at e
      cases e
      exact hqS _ s' a' (sSet_some hr) (cT_set hT hN6 (by have := (wid_2 okb).1; omega) hr hR' h10 h11 h13 (fun k hk => hs k (by omega) (by omega) (by omega) (by omega) (by omega) (by omega)) hc)
theorem c_times {l : zL} {d kc ks n b : Nat} {h : Nat → va_E} {S : zS} {s : Nat → Int32} {a : Nat → Nat → Int32} {Q : zQ} {T2 : Nat} (hb : b + 6 ≤ n) (hT : cT S s a) (h2N : 1 ≤ T2) (hN6 : T2 ≤ 99) (hqN : ∀ s' a', sTimes S T2 = none → Q (.inl (some (.int 0))) n (tW h b s' a')) (hqS : ∀ S' s' a', sTimes S T2 = some S' → cT S' s' a' → Q (.inl (some (.int 1))) n (tW h b s' a')) : Zj l mX6_changeTimes (d + 7) kc ks 0 [(0, .ref b), (1, .int (nI T2))] [] n (tW h b s a) Q := by
  obtain ⟨B, H, T, K, V, c⟩ := S
  have hT0 := hT
  obtain ⟨hR, ⟨hI, hd, h3⟩, e9, e10, e11, e12, e13, e14, e15⟩ := hT0
  have okb := hR.1
  have hH6 : H ≤ 6 := hR.2.2.1
  obtain ⟨i1, i2⟩ := rb_eq1 (H := H) (T := T2) (K := K) (V := V) (c := s 11) (x := s 13) okb
  refine w_changeTimes hb hR h2N hN6 (fun {B' K' V' c' x'} s' a' e => ?_) (fun B' K' V' c' x' s' a' e hR' h10 h11 h13 hs => ?_)
  · refine hqN s' a' (sSet_none.mpr ?_)
    cases hr : rbR H T2 (entL K V B) (wid B + 1) with
    | none => rfl
    | some q =>
      obtain ⟨B1, K1, V1, c1⟩ := q
      rw [i2 _ _ _ _ hr] at e
      cases e
  · cases hr : rbR H T2 (entL K V B) (wid B + 1) with
    | none =>
      have := i1 hr
      rw [e] at this
      cases this
    | some q =>
      obtain ⟨B1, K1, V1, c1⟩ := q
      have hc := rbF_cnt hH6 _ _ _ _ _ _ _ _ _ _ _ (Nat.le_refl 4) e
      rw [i2 _ _ _ _ hr] at e
      cases e
      exact hqS _ s' a' (sSet_some hr) (cT_set hT hH6 (by have := (wid_2 okb).1; omega) hr hR' h10 h11 h13 (fun k hk => hs k (by omega) (by omega) (by omega) (by omega) (by omega) (by omega)) hc)
theorem c_grow {l : zL} {d kc ks n b : Nat} {h : Nat → va_E} {S : zS} {s : Nat → Int32} {a : Nat → Nat → Int32} {Q : zQ} (hb : b + 6 ≤ n) (hT : cT S s a) (hqN : ∀ s' a', sGrow S = none → Q (.inl (some (.int 0))) n (tW h b s' a')) (hqS : ∀ S' s' a', sGrow S = some S' → cT S' s' a' → Q (.inl (some (.int 1))) n (tW h b s' a')) : Zj l mX6_buildAnew (d + 6) kc ks 0 [(0, .ref b), (1, .int (nI (2 * S.1)))] [] n (tW h b s a) Q := by
  obtain ⟨B, H, T, K, V, c⟩ := S
  have hT0 := hT
  obtain ⟨hR, ⟨hI, hd, h3⟩, e9, e10, e11, e12, e13, e14, e15⟩ := hT0
  have okb := hR.1
  have hH6 : H ≤ 6 := hR.2.2.1
  have hle := okb.le
  obtain ⟨i1, i2⟩ := rb_eq2 (H := H) (T := T) (K := K) (V := V) (c := s 11) (x := s 13) okb
  have hRk : tK B H T K V s a := by
    obtain ⟨okb, h2H, hH6, h1T, hT99, e6, e7, e8, ek, ev, eh, ekv, ez⟩ := hR
    exact ⟨okb, h2H, hH6, h1T, hT99, e6, e7, e8, ek, ev, trivial, ekv, ez⟩
  refine w_buildAnew (B := B) (newB := 2 * B) hb hRk (by omega) (fun B' K' V' c' x' s' a' e => ?_) (fun B' K' V' c' x' s' a' e hR' h10 h11 h13 hs => ?_)
  · refine hqN s' a' (sSet_none.mpr ?_)
    cases hr : rbR H T (entL K V B) (wid B) with
    | none => rfl
    | some q =>
      obtain ⟨B1, K1, V1, c1⟩ := q
      rw [i2 _ _ _ _ hr] at e
      cases e
  · cases hr : rbR H T (entL K V B) (wid B) with
    | none =>
      have := i1 hr
      rw [e] at this
      cases this
    | some q =>
      obtain ⟨B1, K1, V1, c1⟩ := q
      have hc := rbF_cnt hH6 _ _ _ _ _ _ _ _ _ _ _ (Nat.le_refl 4) e
      rw [i2 _ _ _ _ hr] at e
      cases e
      exact hqS _ s' a' (sSet_some hr) (cT_set hT hH6 (by have := (wid_2 okb).1; omega) hr hR' h10 h11 h13 (fun k hk => hs k (by omega) (by omega) (by omega) (by omega) (by omega)) hc)
theorem dis_kz {B : Nat} : dis B kz := fun _ _ _ _ h => absurd rfl h
theorem c_dropAll {l : zL} {d kc ks n b : Nat} {h : Nat → va_E} {S : zS} {s : Nat → Int32} {a : Nat → Nat → Int32} {Q : zQ} (hb : b + 6 ≤ n) (hT : cT S s a) (hq : ∀ s' a', cT (sClear S) s' a' → Q (.inl (some (.int (nI (cnt S.2.2.2.1 S.1))))) n (tW h b s' a')) : Zj l mX6_dropAll (d + 1) kc ks 0 [(0, .ref b)] [] n (tW h b s a) Q := by
  obtain ⟨B, H, T, K, V, c⟩ := S
  obtain ⟨hR, ⟨hI, hd, h3⟩, e9, e10, e11, e12, e13, e14, e15⟩ := hT
  refine w_dropAll hb hR (fun s' a' hR' h10 h11 h15 hs => ?_)
  rw [e10]
  refine hq s' a' ⟨hR', ⟨inH_kz, dis_kz, h3⟩, ?_, ?_, ?_, ?_, ?_, ?_, ?_⟩
  · rw [hs 9 (by decide) (by decide) (by decide) (by decide)]; exact e9
  · rw [h10, cnt_kz]; rfl
  · rw [h11]; rfl
  · rw [hs 12 (by decide) (by decide) (by decide) (by decide)]; exact e12
  · rw [hs 13 (by decide) (by decide) (by decide) (by decide)]; exact e13
  · rw [hs 14 (by decide) (by decide) (by decide) (by decide)]; exact e14
  · rw [h15, e15, e10]; rfl
theorem c_begin {l : zL} {d kc ks n b B H T : Nat} {h : Nat → va_E} {s : Nat → Int32} {a : Nat → Nat → Int32} {Q : zQ} (hb : b + 6 ≤ n) (okb : okB B) (h2H : 2 ≤ H) (hH6 : H ≤ 6) (h1T : 1 ≤ T) (hT99 : T ≤ 99) (hq : ∀ s' a', cT (sNew B H T) s' a' → Q (.inl none) n (tW h b s' a')) : Zj l mX6_begin (d + 1) kc ks 0 [(0, .ref b), (1, .int (nI B)), (2, .int (nI H)), (3, .int (nI T))] [] n (tW h b s a) Q := by
  refine w_begin hb okb h2H hH6 h1T hT99 (fun s' a' hR' h10 h11 h9 h12 h13 h14 h15 => ?_)
  exact hq s' a' ⟨hR', ⟨inH_kz, dis_kz, Or.inl rfl⟩, h9, by rw [h10, cnt_kz]; rfl, h11, h12, h13, h14, h15⟩
theorem c_copy {l : zL} {d kc ks n b b2 : Nat} {h : Nat → va_E} {S : zS} {s s2 : Nat → Int32} {a a2 : Nat → Nat → Int32} {Q : zQ} (hb : b + 6 ≤ n) (hb2 : b2 + 6 ≤ n) (hd2 : b2 + 6 ≤ b ∨ b + 6 ≤ b2) (hi : tIn h b2 s2 a2) (hT : cT S s2 a2) (hq : ∀ s' a', cT S s' a' → Q (.inl none) n (tW h b s' a')) : Zj l mX6_copyFrom d kc ks 0 [(0, .ref b), (1, .ref b2)] [] n (tW h b s a) Q :=
  w_copyFrom hb hb2 hd2 hi hT.nine (fun s' a' h1 h2 => hq s' a' (hT.cp h1 h2))
theorem cT.pull {S : zS} {s : Nat → Int32} {a : Nat → Nat → Int32} {p : Int32} (hT : cT S s a) (hp : p = 0 ∨ p = 1) : cT (sPull S p) (va_up s 9 p) a := by
  obtain ⟨B, H, T, K, V, c⟩ := S
  obtain ⟨⟨okb, h2H, hH6, h1T, hT99, e6, e7, e8, ek, ev, eh, ekv, ez⟩, ⟨hI, hd, h3⟩, e9, e10, e11, e12, e13, e14, e15⟩ := hT
  exact ⟨⟨okb, h2H, hH6, h1T, hT99, e6, e7, e8, ek, ev, eh, ekv, ez⟩, ⟨hI, hd, hp⟩, rfl, e10, e11, e12, e13, e14, e15⟩
/-- why a key cannot be added -/
def sWhy (S : zS) (key : Nat) : Int32 := match sFind S key with
  | some _ => 1
  | none => match sAdd S key 0 with
    | none => 2
    | some _ => 0