/-! THE CLASS'S OWN METHODS, second part: what is read -/
theorem cI.cp {g : zGs} {o o' u u' : Nat → Nat → Int32} {s s' : Nat → Nat → Int32} {a a' : Nat → Nat → Nat → Int32} (h : cI g o u s a) (h05 : o' 0 5 = o 0 5) (h11 : o' 1 1 = o 1 1) (h210 : o' 2 10 = o 2 10) (h211 : o' 2 11 = o 2 11) (h31 : o' 3 1 = o 3 1) (h32 : o' 3 2 = o 3 2) (h41 : o' 4 1 = o 4 1) (hu0 : u' 0 = u 0) (hu4 : u' 4 = u 4) (hs : ∀ t, t ≠ 0 → t ≠ 2 → s' t = s t) (ha : ∀ t, t ≠ 0 → t ≠ 2 → a' t = a t) : cI g o' u' s' a' := by
  obtain ⟨S, sv, Sn, k, hi, L, x, ek, eo, rl, rb⟩ := g
  obtain ⟨hT, ho05, hsv, hsn, hk8, ho32, ⟨nx, hnx, ho31, hhi⟩, hL, ho11, hu0', hx256, ho210, ho211, hrl, ho41, hu4', hrb⟩ := h
  refine ⟨by rw [hs 1 (by decide) (by decide), ha 1 (by decide) (by decide)]; exact hT, h05.trans ho05, hsv, fun e => by rw [hs 3 (by decide) (by decide), ha 3 (by decide) (by decide)]; exact hsn e, hk8, h32.trans ho32, ⟨nx, hnx, h31.trans ho31, fun j hj => by rw [hs _ (by omega) (by omega), ha _ (by omega) (by omega)]; exact hhi j hj⟩, hL, h11.trans ho11, by rw [hu0]; exact hu0', hx256, h210.trans ho210, h211.trans ho211, hrl, h41.trans ho41, by rw [hu4]; exact hu4', hrb⟩
theorem cI.trial {g : zGs} {o u : Nat → Nat → Int32} {s : Nat → Nat → Int32} {a : Nat → Nat → Nat → Int32} {s' : Nat → Int32} {a' : Nat → Nat → Int32} (h : cI g o u s a) : cI g o u (va_up s 2 s') (va_up a 2 a') :=
  h.cp rfl rfl rfl rfl rfl rfl rfl rfl rfl (fun t _ h2 => by simp [va_up, h2]) (fun t _ h2 => by simp [va_up, h2])
theorem g_find {l : zL} {d kc ks n b : Nat} {h : Nat → va_E} {cm : Value} {o u : Nat → Nat → Int32} {s : Nat → Nat → Int32} {a : Nat → Nat → Nat → Int32} {t : Nat} {S : zS} {Q : zQ} {key : Nat} (ht : t < 13) (hbt : b = tp t) (hn : 89 ≤ n) (hT : cT S (s t) (a t)) (hk : key ≤ 9999) (hqN : sFind S key = none → Q (.inl (some (.int (-1)))) n (gW h cm o u s a)) (hqS : ∀ bk, sFind S key = some bk → bk < S.1 → S.2.2.2.1 bk = key + 1 → Q (.inl (some (.int (nI bk)))) n (gW h cm o u s a)) : Zj l mX6_bucketWith (d + 1) kc ks 0 [(0, .ref b), (1, .int (nI key))] [] n (gW h cm o u s a) Q := by
  have hb := c_bw hT key
  obtain ⟨B, H, T, K, V, c⟩ := S
  refine g_bucketWith ht hbt hn hT.1 hk ?_
  rw [hb]
  cases hf : sFind (B, H, T, K, V, c) key with
  | none => exact hqN hf
  | some bk =>
    obtain ⟨h1, h2⟩ := bwS_lt hf
    exact hqS bk hf h1 h2
theorem cntH_man {B H T : Nat} {K : Nat → Nat} {i : Nat} : cntH B H T K i = cntH B H T K i := rfl

set_option maxHeartbeats 4000000 in
set_option maxRecDepth 100000 in
theorem K_bucketCount {l : zL} {d kc ks n : Nat} {h : Nat → va_E} {cm : Value} {o u : Nat → Nat → Int32} {s : Nat → Nat → Int32} {a : Nat → Nat → Nat → Int32} {g : zGs} {Q : zQ} (hn : 89 ≤ n) (hC : cI g o u s a) (hq : ∀ t v g' cm' o' u' s' a', f_bucketCount g = (t, v, g') → cI g' o' u' s' a' → Q (oc IAE ISE t v) n (gW h cm' o' u' s' a')) : Zj l mX7_bucketCount (d + 7) kc ks 0 [(0, .ref 0)] [] n (gW h cm o u s a) Q := by
  obtain ⟨⟨B, H, T, K, V, c⟩, sv, Sn, k, hi, L, x, ek, eo, rl, rb⟩ := g
  obtain ⟨hT, ho05, hsv, hsn, hk8, ho32, ⟨nx, hnx, ho31, hhi⟩, hL, ho11, hu0, hx256, ho210, ho211, hrl, ho41, hu4, hrb⟩ := id hC
  obtain ⟨hR, ⟨hI, hd3, h3⟩, e9, e10, e11, e12, e13, e14, e15⟩ := id hT
  obtain ⟨okb, h2H, hH6, h1T, hT99, e6, e7, e8, ek_, ev_, eh_, ekv, ez⟩ := id hR
  have hle := okb.le
  refine z_aload_n (j := 0) dX7_bucketCount_0 rfl ?_
  refine z_get (v := .ref 13) (by omega) gW_0 fX7_28 rfl dX7_bucketCount_1 ?_
  refine z_get (v := .int (s 1 6)) (by omega) gW_13T fX7_178 rfl dX7_bucketCount_4 ?_
  exact z_iret rfl dX7_bucketCount_7 (by
      rw [e6]
      exact hq 0 _ _ _ _ _ _ _ rfl hC)

set_option maxHeartbeats 4000000 in
set_option maxRecDepth 100000 in
theorem K_entryCount {l : zL} {d kc ks n : Nat} {h : Nat → va_E} {cm : Value} {o u : Nat → Nat → Int32} {s : Nat → Nat → Int32} {a : Nat → Nat → Nat → Int32} {g : zGs} {Q : zQ} (hn : 89 ≤ n) (hC : cI g o u s a) (hq : ∀ t v g' cm' o' u' s' a', f_entryCount g = (t, v, g') → cI g' o' u' s' a' → Q (oc IAE ISE t v) n (gW h cm' o' u' s' a')) : Zj l mX7_entryCount (d + 7) kc ks 0 [(0, .ref 0)] [] n (gW h cm o u s a) Q := by
  obtain ⟨⟨B, H, T, K, V, c⟩, sv, Sn, k, hi, L, x, ek, eo, rl, rb⟩ := g
  obtain ⟨hT, ho05, hsv, hsn, hk8, ho32, ⟨nx, hnx, ho31, hhi⟩, hL, ho11, hu0, hx256, ho210, ho211, hrl, ho41, hu4, hrb⟩ := id hC
  obtain ⟨hR, ⟨hI, hd3, h3⟩, e9, e10, e11, e12, e13, e14, e15⟩ := id hT
  obtain ⟨okb, h2H, hH6, h1T, hT99, e6, e7, e8, ek_, ev_, eh_, ekv, ez⟩ := id hR
  have hle := okb.le
  refine z_aload_n (j := 0) dX7_entryCount_0 rfl ?_
  refine z_get (v := .ref 13) (by omega) gW_0 fX7_28 rfl dX7_entryCount_1 ?_
  refine z_get (v := .int (s 1 10)) (by omega) gW_13T fX7_115 rfl dX7_entryCount_4 ?_
  exact z_iret rfl dX7_entryCount_7 (by
      rw [e10]
      exact hq 0 _ _ _ _ _ _ _ rfl hC)

set_option maxHeartbeats 4000000 in
set_option maxRecDepth 100000 in
theorem K_neighbourhood {l : zL} {d kc ks n : Nat} {h : Nat → va_E} {cm : Value} {o u : Nat → Nat → Int32} {s : Nat → Nat → Int32} {a : Nat → Nat → Nat → Int32} {g : zGs} {Q : zQ} (hn : 89 ≤ n) (hC : cI g o u s a) (hq : ∀ t v g' cm' o' u' s' a', f_neighbourhood g = (t, v, g') → cI g' o' u' s' a' → Q (oc IAE ISE t v) n (gW h cm' o' u' s' a')) : Zj l mX7_neighbourhood (d + 7) kc ks 0 [(0, .ref 0)] [] n (gW h cm o u s a) Q := by
  obtain ⟨⟨B, H, T, K, V, c⟩, sv, Sn, k, hi, L, x, ek, eo, rl, rb⟩ := g
  obtain ⟨hT, ho05, hsv, hsn, hk8, ho32, ⟨nx, hnx, ho31, hhi⟩, hL, ho11, hu0, hx256, ho210, ho211, hrl, ho41, hu4, hrb⟩ := id hC
  obtain ⟨hR, ⟨hI, hd3, h3⟩, e9, e10, e11, e12, e13, e14, e15⟩ := id hT
  obtain ⟨okb, h2H, hH6, h1T, hT99, e6, e7, e8, ek_, ev_, eh_, ekv, ez⟩ := id hR
  have hle := okb.le
  refine z_aload_n (j := 0) dX7_neighbourhood_0 rfl ?_
  refine z_get (v := .ref 13) (by omega) gW_0 fX7_28 rfl dX7_neighbourhood_1 ?_
  refine z_get (v := .int (s 1 7)) (by omega) gW_13T fX7_207 rfl dX7_neighbourhood_4 ?_
  exact z_iret rfl dX7_neighbourhood_7 (by
      rw [e7]
      exact hq 0 _ _ _ _ _ _ _ rfl hC)

set_option maxHeartbeats 4000000 in
set_option maxRecDepth 100000 in
theorem K_multiplier {l : zL} {d kc ks n : Nat} {h : Nat → va_E} {cm : Value} {o u : Nat → Nat → Int32} {s : Nat → Nat → Int32} {a : Nat → Nat → Nat → Int32} {g : zGs} {Q : zQ} (hn : 89 ≤ n) (hC : cI g o u s a) (hq : ∀ t v g' cm' o' u' s' a', f_multiplier g = (t, v, g') → cI g' o' u' s' a' → Q (oc IAE ISE t v) n (gW h cm' o' u' s' a')) : Zj l mX7_multiplier (d + 7) kc ks 0 [(0, .ref 0)] [] n (gW h cm o u s a) Q := by
  obtain ⟨⟨B, H, T, K, V, c⟩, sv, Sn, k, hi, L, x, ek, eo, rl, rb⟩ := g
  obtain ⟨hT, ho05, hsv, hsn, hk8, ho32, ⟨nx, hnx, ho31, hhi⟩, hL, ho11, hu0, hx256, ho210, ho211, hrl, ho41, hu4, hrb⟩ := id hC
  obtain ⟨hR, ⟨hI, hd3, h3⟩, e9, e10, e11, e12, e13, e14, e15⟩ := id hT
  obtain ⟨okb, h2H, hH6, h1T, hT99, e6, e7, e8, ek_, ev_, eh_, ekv, ez⟩ := id hR
  have hle := okb.le
  refine z_aload_n (j := 0) dX7_multiplier_0 rfl ?_
  refine z_get (v := .ref 13) (by omega) gW_0 fX7_28 rfl dX7_multiplier_1 ?_
  refine z_get (v := .int (s 1 8)) (by omega) gW_13T fX7_210 rfl dX7_multiplier_4 ?_
  exact z_iret rfl dX7_multiplier_7 (by
      rw [e8]
      exact hq 0 _ _ _ _ _ _ _ rfl hC)

set_option maxHeartbeats 4000000 in
set_option maxRecDepth 100000 in
theorem K_isPulling {l : zL} {d kc ks n : Nat} {h : Nat → va_E} {cm : Value} {o u : Nat → Nat → Int32} {s : Nat → Nat → Int32} {a : Nat → Nat → Nat → Int32} {g : zGs} {Q : zQ} (hn : 89 ≤ n) (hC : cI g o u s a) (hq : ∀ t v g' cm' o' u' s' a', f_isPulling g = (t, v, g') → cI g' o' u' s' a' → Q (oc IAE ISE t v) n (gW h cm' o' u' s' a')) : Zj l mX7_isPulling (d + 7) kc ks 0 [(0, .ref 0)] [] n (gW h cm o u s a) Q := by
  obtain ⟨⟨B, H, T, K, V, c⟩, sv, Sn, k, hi, L, x, ek, eo, rl, rb⟩ := g
  obtain ⟨hT, ho05, hsv, hsn, hk8, ho32, ⟨nx, hnx, ho31, hhi⟩, hL, ho11, hu0, hx256, ho210, ho211, hrl, ho41, hu4, hrb⟩ := id hC
  obtain ⟨hR, ⟨hI, hd3, h3⟩, e9, e10, e11, e12, e13, e14, e15⟩ := id hT
  obtain ⟨okb, h2H, hH6, h1T, hT99, e6, e7, e8, ek_, ev_, eh_, ekv, ez⟩ := id hR
  have hle := okb.le
  refine z_aload_n (j := 0) dX7_isPulling_0 rfl ?_
  refine z_get (v := .ref 13) (by omega) gW_0 fX7_28 rfl dX7_isPulling_1 ?_
  refine z_get (v := .int (s 1 9)) (by omega) gW_13T fX7_64 rfl dX7_isPulling_4 ?_
  exact z_zret rfl (by rcases h3 with h | h <;> rw [e9, h] <;> rfl) dX7_isPulling_7 (by
      rw [e9]
      exact hq 0 _ _ _ _ _ _ _ rfl hC)

set_option maxHeartbeats 4000000 in
set_option maxRecDepth 100000 in
theorem K_undoCount {l : zL} {d kc ks n : Nat} {h : Nat → va_E} {cm : Value} {o u : Nat → Nat → Int32} {s : Nat → Nat → Int32} {a : Nat → Nat → Nat → Int32} {g : zGs} {Q : zQ} (hn : 89 ≤ n) (hC : cI g o u s a) (hq : ∀ t v g' cm' o' u' s' a', f_undoCount g = (t, v, g') → cI g' o' u' s' a' → Q (oc IAE ISE t v) n (gW h cm' o' u' s' a')) : Zj l mX7_undoCount (d + 7) kc ks 0 [(0, .ref 0)] [] n (gW h cm o u s a) Q := by
  obtain ⟨⟨B, H, T, K, V, c⟩, sv, Sn, k, hi, L, x, ek, eo, rl, rb⟩ := g
  obtain ⟨hT, ho05, hsv, hsn, hk8, ho32, ⟨nx, hnx, ho31, hhi⟩, hL, ho11, hu0, hx256, ho210, ho211, hrl, ho41, hu4, hrb⟩ := id hC
  obtain ⟨hR, ⟨hI, hd3, h3⟩, e9, e10, e11, e12, e13, e14, e15⟩ := id hT
  obtain ⟨okb, h2H, hH6, h1T, hT99, e6, e7, e8, ek_, ev_, eh_, ekv, ez⟩ := id hR
  have hle := okb.le
  refine z_aload_n (j := 0) dX7_undoCount_0 rfl ?_
  refine z_get (v := .ref 31) (by omega) gW_0 fX7_45 rfl dX7_undoCount_1 ?_
  refine z_get (v := .int (o 3 2)) (by omega) gW_31 fX7_196 rfl dX7_undoCount_4 ?_
  exact z_iret rfl dX7_undoCount_7 (by
      rw [ho32]
      exact hq 0 _ _ _ _ _ _ _ rfl hC)

set_option maxHeartbeats 4000000 in
set_option maxRecDepth 100000 in
theorem K_moves {l : zL} {d kc ks n : Nat} {h : Nat → va_E} {cm : Value} {o u : Nat → Nat → Int32} {s : Nat → Nat → Int32} {a : Nat → Nat → Nat → Int32} {g : zGs} {Q : zQ} (hn : 89 ≤ n) (hC : cI g o u s a) (hq : ∀ t v g' cm' o' u' s' a', f_told 4 g = (t, v, g') → cI g' o' u' s' a' → Q (oc IAE ISE t v) n (gW h cm' o' u' s' a')) : Zj l mX7_moves (d + 7) kc ks 0 [(0, .ref 0)] [] n (gW h cm o u s a) Q := by
  obtain ⟨⟨B, H, T, K, V, c⟩, sv, Sn, k, hi, L, x, ek, eo, rl, rb⟩ := g
  obtain ⟨hT, ho05, hsv, hsn, hk8, ho32, ⟨nx, hnx, ho31, hhi⟩, hL, ho11, hu0, hx256, ho210, ho211, hrl, ho41, hu4, hrb⟩ := id hC
  obtain ⟨hR, ⟨hI, hd3, h3⟩, e9, e10, e11, e12, e13, e14, e15⟩ := id hT
  obtain ⟨okb, h2H, hH6, h1T, hT99, e6, e7, e8, ek_, ev_, eh_, ekv, ez⟩ := id hR
  have hle := okb.le
  refine z_aload_n (j := 0) dX7_moves_0 rfl ?_
  refine z_get (v := .ref 13) (by omega) gW_0 fX7_28 rfl dX7_moves_1 ?_
  refine z_get (v := .int (s 1 11)) (by omega) gW_13T fX7_257 rfl dX7_moves_4 ?_
  exact z_iret rfl dX7_moves_7 (by
      rw [e11]
      exact hq 0 _ _ _ _ _ _ _ rfl hC)

set_option maxHeartbeats 4000000 in
set_option maxRecDepth 100000 in
theorem K_pulls {l : zL} {d kc ks n : Nat} {h : Nat → va_E} {cm : Value} {o u : Nat → Nat → Int32} {s : Nat → Nat → Int32} {a : Nat → Nat → Nat → Int32} {g : zGs} {Q : zQ} (hn : 89 ≤ n) (hC : cI g o u s a) (hq : ∀ t v g' cm' o' u' s' a', f_told 5 g = (t, v, g') → cI g' o' u' s' a' → Q (oc IAE ISE t v) n (gW h cm' o' u' s' a')) : Zj l mX7_pulls (d + 7) kc ks 0 [(0, .ref 0)] [] n (gW h cm o u s a) Q := by
  obtain ⟨⟨B, H, T, K, V, c⟩, sv, Sn, k, hi, L, x, ek, eo, rl, rb⟩ := g
  obtain ⟨hT, ho05, hsv, hsn, hk8, ho32, ⟨nx, hnx, ho31, hhi⟩, hL, ho11, hu0, hx256, ho210, ho211, hrl, ho41, hu4, hrb⟩ := id hC
  obtain ⟨hR, ⟨hI, hd3, h3⟩, e9, e10, e11, e12, e13, e14, e15⟩ := id hT
  obtain ⟨okb, h2H, hH6, h1T, hT99, e6, e7, e8, ek_, ev_, eh_, ekv, ez⟩ := id hR
  have hle := okb.le
  refine z_aload_n (j := 0) dX7_pulls_0 rfl ?_
  refine z_get (v := .ref 13) (by omega) gW_0 fX7_28 rfl dX7_pulls_1 ?_
  refine z_get (v := .int (s 1 12)) (by omega) gW_13T fX7_260 rfl dX7_pulls_4 ?_
  exact z_iret rfl dX7_pulls_7 (by
      rw [e12]
      exact hq 0 _ _ _ _ _ _ _ rfl hC)

set_option maxHeartbeats 4000000 in
set_option maxRecDepth 100000 in
theorem K_growths {l : zL} {d kc ks n : Nat} {h : Nat → va_E} {cm : Value} {o u : Nat → Nat → Int32} {s : Nat → Nat → Int32} {a : Nat → Nat → Nat → Int32} {g : zGs} {Q : zQ} (hn : 89 ≤ n) (hC : cI g o u s a) (hq : ∀ t v g' cm' o' u' s' a', f_told 6 g = (t, v, g') → cI g' o' u' s' a' → Q (oc IAE ISE t v) n (gW h cm' o' u' s' a')) : Zj l mX7_growths (d + 7) kc ks 0 [(0, .ref 0)] [] n (gW h cm o u s a) Q := by
  obtain ⟨⟨B, H, T, K, V, c⟩, sv, Sn, k, hi, L, x, ek, eo, rl, rb⟩ := g
  obtain ⟨hT, ho05, hsv, hsn, hk8, ho32, ⟨nx, hnx, ho31, hhi⟩, hL, ho11, hu0, hx256, ho210, ho211, hrl, ho41, hu4, hrb⟩ := id hC
  obtain ⟨hR, ⟨hI, hd3, h3⟩, e9, e10, e11, e12, e13, e14, e15⟩ := id hT
  obtain ⟨okb, h2H, hH6, h1T, hT99, e6, e7, e8, ek_, ev_, eh_, ekv, ez⟩ := id hR
  have hle := okb.le
  refine z_aload_n (j := 0) dX7_growths_0 rfl ?_
  refine z_get (v := .ref 13) (by omega) gW_0 fX7_28 rfl dX7_growths_1 ?_
  refine z_get (v := .int (s 1 13)) (by omega) gW_13T fX7_265 rfl dX7_growths_4 ?_
  exact z_iret rfl dX7_growths_7 (by
      rw [e13]
      exact hq 0 _ _ _ _ _ _ _ rfl hC)

set_option maxHeartbeats 4000000 in
set_option maxRecDepth 100000 in
theorem K_addedCount {l : zL} {d kc ks n : Nat} {h : Nat → va_E} {cm : Value} {o u : Nat → Nat → Int32} {s : Nat → Nat → Int32} {a : Nat → Nat → Nat → Int32} {g : zGs} {Q : zQ} (hn : 89 ≤ n) (hC : cI g o u s a) (hq : ∀ t v g' cm' o' u' s' a', f_told 7 g = (t, v, g') → cI g' o' u' s' a' → Q (oc IAE ISE t v) n (gW h cm' o' u' s' a')) : Zj l mX7_addedCount (d + 7) kc ks 0 [(0, .ref 0)] [] n (gW h cm o u s a) Q := by
  obtain ⟨⟨B, H, T, K, V, c⟩, sv, Sn, k, hi, L, x, ek, eo, rl, rb⟩ := g
  obtain ⟨hT, ho05, hsv, hsn, hk8, ho32, ⟨nx, hnx, ho31, hhi⟩, hL, ho11, hu0, hx256, ho210, ho211, hrl, ho41, hu4, hrb⟩ := id hC
  obtain ⟨hR, ⟨hI, hd3, h3⟩, e9, e10, e11, e12, e13, e14, e15⟩ := id hT
  obtain ⟨okb, h2H, hH6, h1T, hT99, e6, e7, e8, ek_, ev_, eh_, ekv, ez⟩ := id hR
  have hle := okb.le
  refine z_aload_n (j := 0) dX7_addedCount_0 rfl ?_
  refine z_get (v := .ref 13) (by omega) gW_0 fX7_28 rfl dX7_addedCount_1 ?_
  refine z_get (v := .int (s 1 14)) (by omega) gW_13T fX7_268 rfl dX7_addedCount_4 ?_
  exact z_iret rfl dX7_addedCount_7 (by
      rw [e14]
      exact hq 0 _ _ _ _ _ _ _ rfl hC)

set_option maxHeartbeats 4000000 in
set_option maxRecDepth 100000 in
theorem K_removedCount {l : zL} {d kc ks n : Nat} {h : Nat → va_E} {cm : Value} {o u : Nat → Nat → Int32} {s : Nat → Nat → Int32} {a : Nat → Nat → Nat → Int32} {g : zGs} {Q : zQ} (hn : 89 ≤ n) (hC : cI g o u s a) (hq : ∀ t v g' cm' o' u' s' a', f_told 8 g = (t, v, g') → cI g' o' u' s' a' → Q (oc IAE ISE t v) n (gW h cm' o' u' s' a')) : Zj l mX7_removedCount (d + 7) kc ks 0 [(0, .ref 0)] [] n (gW h cm o u s a) Q := by
  obtain ⟨⟨B, H, T, K, V, c⟩, sv, Sn, k, hi, L, x, ek, eo, rl, rb⟩ := g
  obtain ⟨hT, ho05, hsv, hsn, hk8, ho32, ⟨nx, hnx, ho31, hhi⟩, hL, ho11, hu0, hx256, ho210, ho211, hrl, ho41, hu4, hrb⟩ := id hC
  obtain ⟨hR, ⟨hI, hd3, h3⟩, e9, e10, e11, e12, e13, e14, e15⟩ := id hT
  obtain ⟨okb, h2H, hH6, h1T, hT99, e6, e7, e8, ek_, ev_, eh_, ekv, ez⟩ := id hR
  have hle := okb.le
  refine z_aload_n (j := 0) dX7_removedCount_0 rfl ?_
  refine z_get (v := .ref 13) (by omega) gW_0 fX7_28 rfl dX7_removedCount_1 ?_
  refine z_get (v := .int (s 1 15)) (by omega) gW_13T fX7_271 rfl dX7_removedCount_4 ?_
  exact z_iret rfl dX7_removedCount_7 (by
      rw [e15]
      exact hq 0 _ _ _ _ _ _ _ rfl hC)

set_option maxHeartbeats 4000000 in
set_option maxRecDepth 100000 in
theorem K_keyAt {l : zL} {d kc ks n : Nat} {h : Nat → va_E} {cm : Value} {o u : Nat → Nat → Int32} {s : Nat → Nat → Int32} {a : Nat → Nat → Nat → Int32} {g : zGs} {Q : zQ} {p : Int32} (hn : 89 ≤ n) (hno : ∀ E n' h', ¬ Q (.inr E) n' h') (hC : cI g o u s a) (hq : ∀ t v g' cm' o' u' s' a', f_keyAt g p = (t, v, g') → cI g' o' u' s' a' → Q (oc IOE ISE t v) n (gW h cm' o' u' s' a')) : Zj l mX7_keyAt (d + 7) kc ks 0 [(0, .ref 0), (1, .int p)] [] n (gW h cm o u s a) Q := by
  obtain ⟨⟨B, H, T, K, V, c⟩, sv, Sn, k, hi, L, x, ek, eo, rl, rb⟩ := g
  obtain ⟨hT, ho05, hsv, hsn, hk8, ho32, ⟨nx, hnx, ho31, hhi⟩, hL, ho11, hu0, hx256, ho210, ho211, hrl, ho41, hu4, hrb⟩ := id hC
  obtain ⟨hR, ⟨hI, hd3, h3⟩, e9, e10, e11, e12, e13, e14, e15⟩ := id hT
  obtain ⟨okb, h2H, hH6, h1T, hT99, e6, e7, e8, ek_, ev_, eh_, ekv, ez⟩ := id hR
  have hle := okb.le
  refine z_aload_n (j := 0) dX7_keyAt_0 rfl ?_
  refine z_iload_n (j := 1) dX7_keyAt_1 rfl ?_
  refine z_kV [.int p] 0 0 kc ks yoX7_needBucket yvX7_needBucket rfl (by decide) lX7_213 (by omega) gW_0 rfl rfl (Nat.le_of_ble_eq_true rfl) (Nat.le_of_ble_eq_true rfl) dX7_keyAt_2 (by omega) (by omega) (z_room (by omega) (Nat.le_refl _) (Nat.le_refl _) (w_needBucket (d := 0) (hno := zk_no hno) (by omega) hR (fun ep => ⟨rfl, ?_⟩) (fun ep => ⟨rfl, ?_⟩)))
  · obtain ⟨i, -, hi9, rfl, hix⟩ := iO_yes 0 (B - 1) (by omega) (by omega) ep
    have ep : bkO ((B, H, T, K, V, c), sv, Sn, k, hi, L, x, ek, eo, rl, rb) (nI i) = true := ep
    refine z_aload_n (j := 0) dX7_keyAt_5 rfl ?_
    refine z_get (v := .ref 13) (by omega) gW_0 fX7_28 rfl dX7_keyAt_6 ?_
    refine z_iload_n (j := 1) dX7_keyAt_9 rfl ?_
    refine z_kV [.int ((nI i))] 0 0 kc ks yoX6_keyIn yvX6_keyIn rfl (by decide) lX7_216 (by omega) gW_13T rfl rfl (Nat.le_of_ble_eq_true rfl) (Nat.le_of_ble_eq_true rfl) dX7_keyAt_10 (by omega) (by omega) (z_room (by omega) (Nat.le_refl _) (Nat.le_refl _) (g_keyIn (d := 0) (t := 1) (by decide) rfl (by omega) hR (by omega) ⟨rfl, ?_⟩))
    exact z_iret rfl dX7_keyAt_13 (by
        exact hq 0 _ _ _ _ _ _ _ (by unfold f_keyAt; rw [if_pos ep, hix]) hC)
  · exact hq 1 0 _ _ _ _ _ _ (by unfold f_keyAt; exact if_neg ep) hC

set_option maxHeartbeats 4000000 in
set_option maxRecDepth 100000 in
theorem K_valueAt {l : zL} {d kc ks n : Nat} {h : Nat → va_E} {cm : Value} {o u : Nat → Nat → Int32} {s : Nat → Nat → Int32} {a : Nat → Nat → Nat → Int32} {g : zGs} {Q : zQ} {p : Int32} (hn : 89 ≤ n) (hno : ∀ E n' h', ¬ Q (.inr E) n' h') (hC : cI g o u s a) (hq : ∀ t v g' cm' o' u' s' a', f_valueAt g p = (t, v, g') → cI g' o' u' s' a' → Q (oc IOE ISE t v) n (gW h cm' o' u' s' a')) : Zj l mX7_valueAt (d + 7) kc ks 0 [(0, .ref 0), (1, .int p)] [] n (gW h cm o u s a) Q := by
  obtain ⟨⟨B, H, T, K, V, c⟩, sv, Sn, k, hi, L, x, ek, eo, rl, rb⟩ := g
  obtain ⟨hT, ho05, hsv, hsn, hk8, ho32, ⟨nx, hnx, ho31, hhi⟩, hL, ho11, hu0, hx256, ho210, ho211, hrl, ho41, hu4, hrb⟩ := id hC
  obtain ⟨hR, ⟨hI, hd3, h3⟩, e9, e10, e11, e12, e13, e14, e15⟩ := id hT
  obtain ⟨okb, h2H, hH6, h1T, hT99, e6, e7, e8, ek_, ev_, eh_, ekv, ez⟩ := id hR
  have hle := okb.le
  refine z_aload_n (j := 0) dX7_valueAt_0 rfl ?_
  refine z_iload_n (j := 1) dX7_valueAt_1 rfl ?_
  refine z_kV [.int p] 0 0 kc ks yoX7_needBucket yvX7_needBucket rfl (by decide) lX7_213 (by omega) gW_0 rfl rfl (Nat.le_of_ble_eq_true rfl) (Nat.le_of_ble_eq_true rfl) dX7_valueAt_2 (by omega) (by omega) (z_room (by omega) (Nat.le_refl _) (Nat.le_refl _) (w_needBucket (d := 0) (hno := zk_no hno) (by omega) hR (fun ep => ⟨rfl, ?_⟩) (fun ep => ⟨rfl, ?_⟩)))
  · obtain ⟨i, -, hi9, rfl, hix⟩ := iO_yes 0 (B - 1) (by omega) (by omega) ep
    have ep : bkO ((B, H, T, K, V, c), sv, Sn, k, hi, L, x, ek, eo, rl, rb) (nI i) = true := ep
    refine z_aload_n (j := 0) dX7_valueAt_5 rfl ?_
    refine z_get (v := .ref 13) (by omega) gW_0 fX7_28 rfl dX7_valueAt_6 ?_
    refine z_iload_n (j := 1) dX7_valueAt_9 rfl ?_
    refine z_kV [.int ((nI i))] 0 0 kc ks yoX6_valueIn yvX6_valueIn rfl (by decide) lX7_137 (by omega) gW_13T rfl rfl (Nat.le_of_ble_eq_true rfl) (Nat.le_of_ble_eq_true rfl) dX7_valueAt_10 (by omega) (by omega) (z_room (by omega) (Nat.le_refl _) (Nat.le_refl _) (g_valueIn (d := 0) (t := 1) (by decide) rfl (by omega) hR (by omega) ⟨rfl, ?_⟩))
    exact z_iret rfl dX7_valueAt_13 (by
        exact hq 0 _ _ _ _ _ _ _ (by unfold f_valueAt; rw [if_pos ep, hix]) hC)
  · exact hq 1 0 _ _ _ _ _ _ (by unfold f_valueAt; exact if_neg ep) hC

set_option maxHeartbeats 4000000 in
set_option maxRecDepth 100000 in
theorem K_hopBits {l : zL} {d kc ks n : Nat} {h : Nat → va_E} {cm : Value} {o u : Nat → Nat → Int32} {s : Nat → Nat → Int32} {a : Nat → Nat → Nat → Int32} {g : zGs} {Q : zQ} {p : Int32} (hn : 89 ≤ n) (hno : ∀ E n' h', ¬ Q (.inr E) n' h') (hC : cI g o u s a) (hq : ∀ t v g' cm' o' u' s' a', f_hopBits g p = (t, v, g') → cI g' o' u' s' a' → Q (oc IOE ISE t v) n (gW h cm' o' u' s' a')) : Zj l mX7_hopBits (d + 7) kc ks 0 [(0, .ref 0), (1, .int p)] [] n (gW h cm o u s a) Q := by
  obtain ⟨⟨B, H, T, K, V, c⟩, sv, Sn, k, hi, L, x, ek, eo, rl, rb⟩ := g
  obtain ⟨hT, ho05, hsv, hsn, hk8, ho32, ⟨nx, hnx, ho31, hhi⟩, hL, ho11, hu0, hx256, ho210, ho211, hrl, ho41, hu4, hrb⟩ := id hC
  obtain ⟨hR, ⟨hI, hd3, h3⟩, e9, e10, e11, e12, e13, e14, e15⟩ := id hT
  obtain ⟨okb, h2H, hH6, h1T, hT99, e6, e7, e8, ek_, ev_, eh_, ekv, ez⟩ := id hR
  have hle := okb.le
  refine z_aload_n (j := 0) dX7_hopBits_0 rfl ?_
  refine z_iload_n (j := 1) dX7_hopBits_1 rfl ?_
  refine z_kV [.int p] 0 0 kc ks yoX7_needBucket yvX7_needBucket rfl (by decide) lX7_213 (by omega) gW_0 rfl rfl (Nat.le_of_ble_eq_true rfl) (Nat.le_of_ble_eq_true rfl) dX7_hopBits_2 (by omega) (by omega) (z_room (by omega) (Nat.le_refl _) (Nat.le_refl _) (w_needBucket (d := 0) (hno := zk_no hno) (by omega) hR (fun ep => ⟨rfl, ?_⟩) (fun ep => ⟨rfl, ?_⟩)))
  · obtain ⟨i, -, hi9, rfl, hix⟩ := iO_yes 0 (B - 1) (by omega) (by omega) ep
    have ep : bkO ((B, H, T, K, V, c), sv, Sn, k, hi, L, x, ek, eo, rl, rb) (nI i) = true := ep
    refine z_aload_n (j := 0) dX7_hopBits_5 rfl ?_
    refine z_get (v := .ref 13) (by omega) gW_0 fX7_28 rfl dX7_hopBits_6 ?_
    refine z_iload_n (j := 1) dX7_hopBits_9 rfl ?_
    refine z_kV [.int ((nI i))] 0 0 kc ks yoX6_hopsIn yvX6_hopsIn rfl (by decide) lX7_219 (by omega) gW_13T rfl rfl (Nat.le_of_ble_eq_true rfl) (Nat.le_of_ble_eq_true rfl) dX7_hopBits_10 (by omega) (by omega) (z_room (by omega) (Nat.le_refl _) (Nat.le_refl _) (g_hopsIn (d := 0) (t := 1) (by decide) rfl (by omega) hR (by omega) ⟨rfl, ?_⟩))
    exact z_iret rfl dX7_hopBits_13 (by
        exact hq 0 _ _ _ _ _ _ _ (by unfold f_hopBits; rw [if_pos ep, hix]) hC)
  · exact hq 1 0 _ _ _ _ _ _ (by unfold f_hopBits; exact if_neg ep) hC

set_option maxHeartbeats 4000000 in
set_option maxRecDepth 100000 in
theorem K_entriesOf {l : zL} {d kc ks n : Nat} {h : Nat → va_E} {cm : Value} {o u : Nat → Nat → Int32} {s : Nat → Nat → Int32} {a : Nat → Nat → Nat → Int32} {g : zGs} {Q : zQ} {p : Int32} (hn : 89 ≤ n) (hno : ∀ E n' h', ¬ Q (.inr E) n' h') (hC : cI g o u s a) (hq : ∀ t v g' cm' o' u' s' a', f_entriesOf g p = (t, v, g') → cI g' o' u' s' a' → Q (oc IOE ISE t v) n (gW h cm' o' u' s' a')) : Zj l mX7_entriesOf (d + 7) kc ks 0 [(0, .ref 0), (1, .int p)] [] n (gW h cm o u s a) Q := by
  obtain ⟨⟨B, H, T, K, V, c⟩, sv, Sn, k, hi, L, x, ek, eo, rl, rb⟩ := g
  obtain ⟨hT, ho05, hsv, hsn, hk8, ho32, ⟨nx, hnx, ho31, hhi⟩, hL, ho11, hu0, hx256, ho210, ho211, hrl, ho41, hu4, hrb⟩ := id hC
  obtain ⟨hR, ⟨hI, hd3, h3⟩, e9, e10, e11, e12, e13, e14, e15⟩ := id hT
  obtain ⟨okb, h2H, hH6, h1T, hT99, e6, e7, e8, ek_, ev_, eh_, ekv, ez⟩ := id hR
  have hle := okb.le
  refine z_aload_n (j := 0) dX7_entriesOf_0 rfl ?_
  refine z_iload_n (j := 1) dX7_entriesOf_1 rfl ?_
  refine z_kV [.int p] 0 0 kc ks yoX7_needBucket yvX7_needBucket rfl (by decide) lX7_213 (by omega) gW_0 rfl rfl (Nat.le_of_ble_eq_true rfl) (Nat.le_of_ble_eq_true rfl) dX7_entriesOf_2 (by omega) (by omega) (z_room (by omega) (Nat.le_refl _) (Nat.le_refl _) (w_needBucket (d := 0) (hno := zk_no hno) (by omega) hR (fun ep => ⟨rfl, ?_⟩) (fun ep => ⟨rfl, ?_⟩)))
  · obtain ⟨i, -, hi9, rfl, hix⟩ := iO_yes 0 (B - 1) (by omega) (by omega) ep
    have ep : bkO ((B, H, T, K, V, c), sv, Sn, k, hi, L, x, ek, eo, rl, rb) (nI i) = true := ep
    refine z_aload_n (j := 0) dX7_entriesOf_5 rfl ?_
    refine z_get (v := .ref 13) (by omega) gW_0 fX7_28 rfl dX7_entriesOf_6 ?_
    refine z_iload_n (j := 1) dX7_entriesOf_9 rfl ?_
    refine z_kV [.int ((nI i))] 0 0 kc ks yoX6_hopsIn yvX6_hopsIn rfl (by decide) lX7_219 (by omega) gW_13T rfl rfl (Nat.le_of_ble_eq_true rfl) (Nat.le_of_ble_eq_true rfl) dX7_entriesOf_10 (by omega) (by omega) (z_room (by omega) (Nat.le_refl _) (Nat.le_refl _) (g_hopsIn (d := 0) (t := 1) (by decide) rfl (by omega) hR (by omega) ⟨rfl, ?_⟩))
    refine z_kS [.int ((nI (hop B H T K i)))] 0 0 kc ks yoJ6_bitCount_0f7a4 ysJ6_bitCount_0f7a4 rfl (by decide) lX7_222 rfl (Nat.le_of_ble_eq_true rfl) (Nat.le_of_ble_eq_true rfl) dX7_entriesOf_13 (by omega) (by omega) (z_room (by omega) (Nat.le_refl _) (Nat.le_refl _) (w_bitCount (d := 0)  ⟨rfl, ?_⟩))
    exact z_iret rfl dX7_entriesOf_16 (by
        rw [pop_hop hH6]
        exact hq 0 _ _ _ _ _ _ _ (by unfold f_entriesOf; rw [if_pos ep, hix]) hC)
  · exact hq 1 0 _ _ _ _ _ _ (by unfold f_entriesOf; exact if_neg ep) hC

set_option maxHeartbeats 4000000 in
set_option maxRecDepth 100000 in
theorem K_longestDistance {l : zL} {d kc ks n : Nat} {h : Nat → va_E} {cm : Value} {o u : Nat → Nat → Int32} {s : Nat → Nat → Int32} {a : Nat → Nat → Nat → Int32} {g : zGs} {Q : zQ} (hn : 89 ≤ n) (hC : cI g o u s a) (hq : ∀ t v g' cm' o' u' s' a', f_longestDistance g = (t, v, g') → cI g' o' u' s' a' → Q (oc IAE ISE t v) n (gW h cm' o' u' s' a')) : Zj l mX7_longestDistance (d + 7) kc ks 0 [(0, .ref 0)] [] n (gW h cm o u s a) Q := by
  obtain ⟨⟨B, H, T, K, V, c⟩, sv, Sn, k, hi, L, x, ek, eo, rl, rb⟩ := g
  obtain ⟨hT, ho05, hsv, hsn, hk8, ho32, ⟨nx, hnx, ho31, hhi⟩, hL, ho11, hu0, hx256, ho210, ho211, hrl, ho41, hu4, hrb⟩ := id hC
  obtain ⟨hR, ⟨hI, hd3, h3⟩, e9, e10, e11, e12, e13, e14, e15⟩ := id hT
  obtain ⟨okb, h2H, hH6, h1T, hT99, e6, e7, e8, ek_, ev_, eh_, ekv, ez⟩ := id hR
  have hle := okb.le
  refine z_aload_n (j := 0) dX7_longestDistance_0 rfl ?_
  refine z_get (v := .ref 13) (by omega) gW_0 fX7_28 rfl dX7_longestDistance_1 ?_
  refine z_kV [] 0 0 kc ks yoX6_mostSteps yvX6_mostSteps rfl (by decide) lX7_245 (by omega) gW_13T rfl rfl (Nat.le_of_ble_eq_true rfl) (Nat.le_of_ble_eq_true rfl) dX7_longestDistance_4 (by omega) (by omega) (z_room (by omega) (Nat.le_refl _) (Nat.le_refl _) (g_mostSteps (d := 0) (t := 1) (by decide) rfl (by omega) hR ⟨rfl, ?_⟩))
  exact z_iret rfl dX7_longestDistance_7 (hq 0 _ _ _ _ _ _ _ rfl hC)

set_option maxHeartbeats 4000000 in
set_option maxRecDepth 100000 in
theorem K_sumOfDistances {l : zL} {d kc ks n : Nat} {h : Nat → va_E} {cm : Value} {o u : Nat → Nat → Int32} {s : Nat → Nat → Int32} {a : Nat → Nat → Nat → Int32} {g : zGs} {Q : zQ} (hn : 89 ≤ n) (hC : cI g o u s a) (hq : ∀ t v g' cm' o' u' s' a', f_sumOfDistances g = (t, v, g') → cI g' o' u' s' a' → Q (oc IAE ISE t v) n (gW h cm' o' u' s' a')) : Zj l mX7_sumOfDistances (d + 7) kc ks 0 [(0, .ref 0)] [] n (gW h cm o u s a) Q := by
  obtain ⟨⟨B, H, T, K, V, c⟩, sv, Sn, k, hi, L, x, ek, eo, rl, rb⟩ := g
  obtain ⟨hT, ho05, hsv, hsn, hk8, ho32, ⟨nx, hnx, ho31, hhi⟩, hL, ho11, hu0, hx256, ho210, ho211, hrl, ho41, hu4, hrb⟩ := id hC
  obtain ⟨hR, ⟨hI, hd3, h3⟩, e9, e10, e11, e12, e13, e14, e15⟩ := id hT
  obtain ⟨okb, h2H, hH6, h1T, hT99, e6, e7, e8, ek_, ev_, eh_, ekv, ez⟩ := id hR
  have hle := okb.le
  refine z_aload_n (j := 0) dX7_sumOfDistances_0 rfl ?_
  refine z_get (v := .ref 13) (by omega) gW_0 fX7_28 rfl dX7_sumOfDistances_1 ?_
  refine z_kV [] 0 0 kc ks yoX6_sumOfSteps yvX6_sumOfSteps rfl (by decide) lX7_248 (by omega) gW_13T rfl rfl (Nat.le_of_ble_eq_true rfl) (Nat.le_of_ble_eq_true rfl) dX7_sumOfDistances_4 (by omega) (by omega) (z_room (by omega) (Nat.le_refl _) (Nat.le_refl _) (g_sumOfSteps (d := 0) (t := 1) (by decide) rfl (by omega) hR ⟨rfl, ?_⟩))
  exact z_iret rfl dX7_sumOfDistances_7 (hq 0 _ _ _ _ _ _ _ rfl hC)

set_option maxHeartbeats 4000000 in
set_option maxRecDepth 100000 in
theorem K_homeOf {l : zL} {d kc ks n : Nat} {h : Nat → va_E} {cm : Value} {o u : Nat → Nat → Int32} {s : Nat → Nat → Int32} {a : Nat → Nat → Nat → Int32} {g : zGs} {Q : zQ} {p : Int32} (hn : 89 ≤ n) (hno : ∀ E n' h', ¬ Q (.inr E) n' h') (hC : cI g o u s a) (hq : ∀ t v g' cm' o' u' s' a', f_homeOf g p = (t, v, g') → cI g' o' u' s' a' → Q (oc IAE ISE t v) n (gW h cm' o' u' s' a')) : Zj l mX7_homeOf (d + 7) kc ks 0 [(0, .ref 0), (1, .int p)] [] n (gW h cm o u s a) Q := by
  obtain ⟨⟨B, H, T, K, V, c⟩, sv, Sn, k, hi, L, x, ek, eo, rl, rb⟩ := g
  obtain ⟨hT, ho05, hsv, hsn, hk8, ho32, ⟨nx, hnx, ho31, hhi⟩, hL, ho11, hu0, hx256, ho210, ho211, hrl, ho41, hu4, hrb⟩ := id hC
  obtain ⟨hR, ⟨hI, hd3, h3⟩, e9, e10, e11, e12, e13, e14, e15⟩ := id hT
  obtain ⟨okb, h2H, hH6, h1T, hT99, e6, e7, e8, ek_, ev_, eh_, ekv, ez⟩ := id hR
  have hle := okb.le
  refine z_iload_n (j := 1) dX7_homeOf_0 rfl ?_
  refine z_kS [.int p] 0 0 kc ks yoX7_needKey ysX7_needKey rfl (by decide) lX7_118 rfl (Nat.le_of_ble_eq_true rfl) (Nat.le_of_ble_eq_true rfl) dX7_homeOf_1 (by omega) (by omega) (z_room (by omega) (Nat.le_refl _) (Nat.le_refl _) (w_needKey (d := 0) (hno := zk_no hno)  (fun ep => ⟨rfl, ?_⟩) (fun ep => ⟨rfl, ?_⟩)))
  · obtain ⟨key, -, hkey, rfl, hkx⟩ := iO_yes 0 9999 (by decide) (by decide) ep
    refine z_aload_n (j := 0) dX7_homeOf_4 rfl ?_
    refine z_get (v := .ref 13) (by omega) gW_0 fX7_28 rfl dX7_homeOf_5 ?_
    refine z_iload_n (j := 1) dX7_homeOf_8 rfl ?_
    refine z_kV [.int ((nI key))] 0 0 kc ks yoX6_homeFor yvX6_homeFor rfl (by decide) lX7_236 (by omega) gW_13T rfl rfl (Nat.le_of_ble_eq_true rfl) (Nat.le_of_ble_eq_true rfl) dX7_homeOf_9 (by omega) (by omega) (z_room (by omega) (Nat.le_refl _) (Nat.le_refl _) (g_homeFor (d := 0) (t := 1) (by decide) rfl (by omega) hR hkey ⟨rfl, ?_⟩))
    exact z_iret rfl dX7_homeOf_12 (by
        exact hq 0 _ _ _ _ _ _ _ (by unfold f_homeOf; rw [if_pos ep, hkx]) hC)
  · exact hq 1 0 _ _ _ _ _ _ (by unfold f_homeOf; rw [if_neg ep]) hC

set_option maxHeartbeats 4000000 in
set_option maxRecDepth 100000 in
theorem K_bucketOf {l : zL} {d kc ks n : Nat} {h : Nat → va_E} {cm : Value} {o u : Nat → Nat → Int32} {s : Nat → Nat → Int32} {a : Nat → Nat → Nat → Int32} {g : zGs} {Q : zQ} {p : Int32} (hn : 89 ≤ n) (hno : ∀ E n' h', ¬ Q (.inr E) n' h') (hC : cI g o u s a) (hq : ∀ t v g' cm' o' u' s' a', f_bucketOf g p = (t, v, g') → cI g' o' u' s' a' → Q (oc IAE ISE t v) n (gW h cm' o' u' s' a')) : Zj l mX7_bucketOf (d + 7) kc ks 0 [(0, .ref 0), (1, .int p)] [] n (gW h cm o u s a) Q := by
  obtain ⟨⟨B, H, T, K, V, c⟩, sv, Sn, k, hi, L, x, ek, eo, rl, rb⟩ := g
  obtain ⟨hT, ho05, hsv, hsn, hk8, ho32, ⟨nx, hnx, ho31, hhi⟩, hL, ho11, hu0, hx256, ho210, ho211, hrl, ho41, hu4, hrb⟩ := id hC
  obtain ⟨hR, ⟨hI, hd3, h3⟩, e9, e10, e11, e12, e13, e14, e15⟩ := id hT
  obtain ⟨okb, h2H, hH6, h1T, hT99, e6, e7, e8, ek_, ev_, eh_, ekv, ez⟩ := id hR
  have hle := okb.le
  refine z_iload_n (j := 1) dX7_bucketOf_0 rfl ?_
  refine z_kS [.int p] 0 0 kc ks yoX7_needKey ysX7_needKey rfl (by decide) lX7_118 rfl (Nat.le_of_ble_eq_true rfl) (Nat.le_of_ble_eq_true rfl) dX7_bucketOf_1 (by omega) (by omega) (z_room (by omega) (Nat.le_refl _) (Nat.le_refl _) (w_needKey (d := 0) (hno := zk_no hno)  (fun ep => ⟨rfl, ?_⟩) (fun ep => ⟨rfl, ?_⟩)))
  · obtain ⟨key, -, hkey, rfl, hkx⟩ := iO_yes 0 9999 (by decide) (by decide) ep
    refine z_aload_n (j := 0) dX7_bucketOf_4 rfl ?_
    refine z_get (v := .ref 13) (by omega) gW_0 fX7_28 rfl dX7_bucketOf_5 ?_
    refine z_iload_n (j := 1) dX7_bucketOf_8 rfl ?_
    refine z_kV [.int ((nI key))] 0 0 kc ks yoX6_bucketWith yvX6_bucketWith rfl (by decide) lX7_124 (by omega) gW_13T rfl rfl (Nat.le_of_ble_eq_true rfl) (Nat.le_of_ble_eq_true rfl) dX7_bucketOf_9 (by omega) (by omega) (z_room (by omega) (Nat.le_refl _) (Nat.le_refl _) (g_find (d := 0) (t := 1) (S := (B, H, T, K, V, c)) (by decide) rfl (by omega) hT hkey (fun hf => ⟨rfl, ?_⟩) (fun bk hf hbk hKb => ⟨rfl, ?_⟩)))
    · exact z_iret rfl dX7_bucketOf_12 (by
          exact hq 0 _ _ _ _ _ _ _ (by unfold f_bucketOf; rw [if_pos ep, hkx]; simp only [hf]; rfl) hC)
    · exact z_iret rfl dX7_bucketOf_12 (by
          exact hq 0 _ _ _ _ _ _ _ (by unfold f_bucketOf; rw [if_pos ep, hkx]; simp only [hf]; rfl) hC)
  · exact hq 1 0 _ _ _ _ _ _ (by unfold f_bucketOf; rw [if_neg ep]) hC

set_option maxHeartbeats 4000000 in
set_option maxRecDepth 100000 in
theorem K_valueOf {l : zL} {d kc ks n : Nat} {h : Nat → va_E} {cm : Value} {o u : Nat → Nat → Int32} {s : Nat → Nat → Int32} {a : Nat → Nat → Nat → Int32} {g : zGs} {Q : zQ} {p : Int32} (hn : 89 ≤ n) (hno : ∀ E n' h', ¬ Q (.inr E) n' h') (hC : cI g o u s a) (hq : ∀ t v g' cm' o' u' s' a', f_valueOf g p = (t, v, g') → cI g' o' u' s' a' → Q (oc IAE ISE t v) n (gW h cm' o' u' s' a')) : Zj l mX7_valueOf (d + 7) kc ks 0 [(0, .ref 0), (1, .int p)] [] n (gW h cm o u s a) Q := by
  obtain ⟨⟨B, H, T, K, V, c⟩, sv, Sn, k, hi, L, x, ek, eo, rl, rb⟩ := g
  obtain ⟨hT, ho05, hsv, hsn, hk8, ho32, ⟨nx, hnx, ho31, hhi⟩, hL, ho11, hu0, hx256, ho210, ho211, hrl, ho41, hu4, hrb⟩ := id hC
  obtain ⟨hR, ⟨hI, hd3, h3⟩, e9, e10, e11, e12, e13, e14, e15⟩ := id hT
  obtain ⟨okb, h2H, hH6, h1T, hT99, e6, e7, e8, ek_, ev_, eh_, ekv, ez⟩ := id hR
  have hle := okb.le
  refine z_iload_n (j := 1) dX7_valueOf_0 rfl ?_
  refine z_kS [.int p] 0 0 kc ks yoX7_needKey ysX7_needKey rfl (by decide) lX7_118 rfl (Nat.le_of_ble_eq_true rfl) (Nat.le_of_ble_eq_true rfl) dX7_valueOf_1 (by omega) (by omega) (z_room (by omega) (Nat.le_refl _) (Nat.le_refl _) (w_needKey (d := 0) (hno := zk_no hno)  (fun ep => ⟨rfl, ?_⟩) (fun ep => ⟨rfl, ?_⟩)))
  · obtain ⟨key, -, hkey, rfl, hkx⟩ := iO_yes 0 9999 (by decide) (by decide) ep
    refine z_aload_n (j := 0) dX7_valueOf_4 rfl ?_
    refine z_get (v := .ref 13) (by omega) gW_0 fX7_28 rfl dX7_valueOf_5 ?_
    refine z_aload_n (j := 0) dX7_valueOf_8 rfl ?_
    refine z_get (v := .ref 13) (by omega) gW_0 fX7_28 rfl dX7_valueOf_9 ?_
    refine z_iload_n (j := 1) dX7_valueOf_12 rfl ?_
    refine z_kV [.int ((nI key))] 0 0 kc ks yoX6_bucketWith yvX6_bucketWith rfl (by decide) lX7_124 (by omega) gW_13T rfl rfl (Nat.le_of_ble_eq_true rfl) (Nat.le_of_ble_eq_true rfl) dX7_valueOf_13 (by omega) (by omega) (z_room (by omega) (Nat.le_refl _) (Nat.le_refl _) (g_find (d := 0) (t := 1) (S := (B, H, T, K, V, c)) (by decide) rfl (by omega) hT hkey (fun hf => ⟨rfl, ?_⟩) (fun bk hf hbk hKb => ⟨rfl, ?_⟩)))
    · refine z_kV [.int ((-1))] 0 0 kc ks yoX6_valueIn yvX6_valueIn rfl (by decide) lX7_137 (by omega) gW_13T rfl rfl (Nat.le_of_ble_eq_true rfl) (Nat.le_of_ble_eq_true rfl) dX7_valueOf_16 (by omega) (by omega) (z_room (by omega) (Nat.le_refl _) (Nat.le_refl _) (g_valueInN (d := 0) (t := 1) (by decide) rfl (by omega) ⟨rfl, ?_⟩))
      exact z_iret rfl dX7_valueOf_19 (by
          exact hq 0 _ _ _ _ _ _ _ (by unfold f_valueOf; rw [if_pos ep, hkx]; simp only [hf] <;> rfl) hC)
    · refine z_kV [.int ((nI bk))] 0 0 kc ks yoX6_valueIn yvX6_valueIn rfl (by decide) lX7_137 (by omega) gW_13T rfl rfl (Nat.le_of_ble_eq_true rfl) (Nat.le_of_ble_eq_true rfl) dX7_valueOf_16 (by omega) (by omega) (z_room (by omega) (Nat.le_refl _) (Nat.le_refl _) (g_valueIn (d := 0) (t := 1) (by decide) rfl (by omega) hR hbk ⟨rfl, ?_⟩))
      exact z_iret rfl dX7_valueOf_19 (by
          rw [tval, if_neg (show ¬ K bk = 0 from by have := hKb; simp only at this; omega)]
          exact hq 0 _ _ _ _ _ _ _ (by unfold f_valueOf; rw [if_pos ep, hkx]; simp only [hf] <;> rfl) hC)
  · exact hq 1 0 _ _ _ _ _ _ (by unfold f_valueOf; rw [if_neg ep]) hC

set_option maxHeartbeats 4000000 in
set_option maxRecDepth 100000 in
theorem K_distanceOf {l : zL} {d kc ks n : Nat} {h : Nat → va_E} {cm : Value} {o u : Nat → Nat → Int32} {s : Nat → Nat → Int32} {a : Nat → Nat → Nat → Int32} {g : zGs} {Q : zQ} {p : Int32} (hn : 89 ≤ n) (hno : ∀ E n' h', ¬ Q (.inr E) n' h') (hC : cI g o u s a) (hq : ∀ t v g' cm' o' u' s' a', f_distanceOf g p = (t, v, g') → cI g' o' u' s' a' → Q (oc IAE ISE t v) n (gW h cm' o' u' s' a')) : Zj l mX7_distanceOf (d + 7) kc ks 0 [(0, .ref 0), (1, .int p)] [] n (gW h cm o u s a) Q := by
  obtain ⟨⟨B, H, T, K, V, c⟩, sv, Sn, k, hi, L, x, ek, eo, rl, rb⟩ := g
  obtain ⟨hT, ho05, hsv, hsn, hk8, ho32, ⟨nx, hnx, ho31, hhi⟩, hL, ho11, hu0, hx256, ho210, ho211, hrl, ho41, hu4, hrb⟩ := id hC
  obtain ⟨hR, ⟨hI, hd3, h3⟩, e9, e10, e11, e12, e13, e14, e15⟩ := id hT
  obtain ⟨okb, h2H, hH6, h1T, hT99, e6, e7, e8, ek_, ev_, eh_, ekv, ez⟩ := id hR
  have hle := okb.le
  refine z_iload_n (j := 1) dX7_distanceOf_0 rfl ?_
  refine z_kS [.int p] 0 0 kc ks yoX7_needKey ysX7_needKey rfl (by decide) lX7_118 rfl (Nat.le_of_ble_eq_true rfl) (Nat.le_of_ble_eq_true rfl) dX7_distanceOf_1 (by omega) (by omega) (z_room (by omega) (Nat.le_refl _) (Nat.le_refl _) (w_needKey (d := 0) (hno := zk_no hno)  (fun ep => ⟨rfl, ?_⟩) (fun ep => ⟨rfl, ?_⟩)))
  · obtain ⟨key, -, hkey, rfl, hkx⟩ := iO_yes 0 9999 (by decide) (by decide) ep
    refine z_aload_n (j := 0) dX7_distanceOf_4 rfl ?_
    refine z_get (v := .ref 13) (by omega) gW_0 fX7_28 rfl dX7_distanceOf_5 ?_
    refine z_aload_n (j := 0) dX7_distanceOf_8 rfl ?_
    refine z_get (v := .ref 13) (by omega) gW_0 fX7_28 rfl dX7_distanceOf_9 ?_
    refine z_iload_n (j := 1) dX7_distanceOf_12 rfl ?_
    refine z_kV [.int ((nI key))] 0 0 kc ks yoX6_bucketWith yvX6_bucketWith rfl (by decide) lX7_124 (by omega) gW_13T rfl rfl (Nat.le_of_ble_eq_true rfl) (Nat.le_of_ble_eq_true rfl) dX7_distanceOf_13 (by omega) (by omega) (z_room (by omega) (Nat.le_refl _) (Nat.le_refl _) (g_find (d := 0) (t := 1) (S := (B, H, T, K, V, c)) (by decide) rfl (by omega) hT hkey (fun hf => ⟨rfl, ?_⟩) (fun bk hf hbk hKb => ⟨rfl, ?_⟩)))
    · refine z_kV [.int ((-1))] 0 0 kc ks yoX6_stepsFromHome yvX6_stepsFromHome rfl (by decide) lX7_239 (by omega) gW_13T rfl rfl (Nat.le_of_ble_eq_true rfl) (Nat.le_of_ble_eq_true rfl) dX7_distanceOf_16 (by omega) (by omega) (z_room (by omega) (Nat.le_refl _) (Nat.le_refl _) (g_stepsFromHomeN (d := 0) (t := 1) (by decide) rfl (by omega) ⟨rfl, ?_⟩))
      exact z_iret rfl dX7_distanceOf_19 (by
          exact hq 0 _ _ _ _ _ _ _ (by unfold f_distanceOf; rw [if_pos ep, hkx]; simp only [hf] <;> rfl) hC)
    · refine z_kV [.int ((nI bk))] 0 0 kc ks yoX6_stepsFromHome yvX6_stepsFromHome rfl (by decide) lX7_239 (by omega) gW_13T rfl rfl (Nat.le_of_ble_eq_true rfl) (Nat.le_of_ble_eq_true rfl) dX7_distanceOf_16 (by omega) (by omega) (z_room (by omega) (Nat.le_refl _) (Nat.le_refl _) (g_stepsFromHome (d := 0) (t := 1) (by decide) rfl (by omega) hR hbk ⟨rfl, ?_⟩))
      exact z_iret rfl dX7_distanceOf_19 (by
          rw [sfh, if_neg (show ¬ K bk = 0 from by have := hKb; simp only at this; omega)]
          exact hq 0 _ _ _ _ _ _ _ (by unfold f_distanceOf; rw [if_pos ep, hkx]; simp only [hf] <;> rfl) hC)
  · exact hq 1 0 _ _ _ _ _ _ (by unfold f_distanceOf; rw [if_neg ep]) hC
