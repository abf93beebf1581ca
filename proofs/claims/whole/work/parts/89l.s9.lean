/-! THE CLASS'S SCRIPT: repeats and their ends, a turn each -/

theorem t_rep {l : zL} {d kc ks n : Nat} {h : Nat → va_E} {Q : zQ} {L : Nat} {x : Nat → Nat} {o0 u0 : Nat → Nat → Int32} {s0 : Nat → Nat → Int32} {a0 : Nat → Nat → Nat → Int32} {p ex dep i : Nat} {S : zS} {cm : Value} {o u : Nat → Nat → Int32} {s : Nat → Nat → Int32} {a : Nat → Nat → Nat → Int32} {bs rs : Nat → Nat} (hn : 104 ≤ n) (hL : L ≤ 600) (hx : ∀ i, x i < 256) (hs : sR L x p ex dep S o u s a) (hf : sF o0 u0 s0 a0 o u s a) (hK : sK dep bs rs u) (hdep : dep ≤ 2) (hi : i + 1 < 1000000) (hw : wIs L x (tS L x p) 10 = true) (hD : dep = 2 → ∀ cm' o' u' s' a', eS L 4 (tS L x p) o' → sF o0 u0 s0 a0 o' u' s' a' → hZ l d kc ks n h Q (i + 1) cm' o' u' s' a') (herr : dep < 2 → ∀ k off, rpo L x (tE L x (tS L x p)) = .inl (k, off) → ∀ cm' o' u' s' a', eS L k off o' → sF o0 u0 s0 a0 o' u' s' a' → hZ l d kc ks n h Q (i + 1) cm' o' u' s' a') (hok : dep < 2 → ∀ t p2, rpo L x (tE L x (tS L x p)) = .inr (t, p2) → 1 ≤ t → t ≤ 20 → p2 ≤ L → ∀ cm' o' u' s' a', sR L x p2 ex (dep + 1) S o' u' s' a' → sF o0 u0 s0 a0 o' u' s' a' → u' 2 dep = nI p2 → u' 3 dep = nI t → sK dep bs rs u' → hZ l d kc ks n h Q (i + 1) cm' o' u' s' a') : hZ l d kc ks n h Q i cm o u s a := by
  obtain ⟨h11, h12, hp, h5, h6, hex, h8, h9, h10, hm1, hu, hT⟩ := hs
  have hst := (tS_le (x := x) hp).2
  refine k_turn (P1 := fun cm1 o1 u1 s1 a1 => ∀ {Q' : zQ}, (∀ cm' o' u' s' a', hZ l d kc ks n h Q (i + 1) cm' o' u' s' a' → Q' (.inl none) n (gW h cm' o' u' s' a')) → Zj l mX5_perform (d + 8) 0 0 0 [(0, .ref 3)] [] n (gW h cm1 o1 u1 s1 a1) Q') (P2 := fun cm2 o2 u2 s2 a2 => hZ l d kc ks n h Q (i + 1) cm2 o2 u2 s2 a2) hn (by omega) h9 h10 ?_ (fun h1 => h1) (fun h2 => h2)
  intro Q' hQ
  refine z_room (d' := d + 6) (by omega) (Nat.le_refl _) (Nat.le_refl _) (w_rs_rep (dep := dep) (P := _) (by omega) hL h11 hu hx hp h12 h8 h5 hdep hw ?_ hQ)
  intro Q1 o1 q2 q3 q4 hf1 hQ1
  have hF1 : ∀ {o2 u2 : Nat → Nat → Int32} {k off : Nat}, er o1 o2 k off → u2 4 = u 4 → sF o0 u0 s0 a0 o2 u2 s a := fun he hu4 => ⟨fun c g1 g2 => ((he.fp hf1).1 c g1 g2).trans (hf.1 c g1 g2), hu4.trans hf.2.1, hf.2.2.1, hf.2.2.2⟩
  refine w_readRepeat (d := d) (dep := dep) (by omega) hL ((hf1.2 1 (by decide)).trans h11) hu hx hst q2 q3 (by rw [hf1.1 2 (by decide)]; exact h10) hdep (by rw [hf1.1 2 (by decide)]; exact h5) ?_ ?_ ?_
  · intro hd2 o2 he
    refine hQ1 _ _ _ _ _ ?_
    intro Q2 hQ2
    exact w_perfN (by omega) (hQ2 _ _ _ _ _ (hD hd2 _ _ _ _ _ (eS.of (he.fp hf1) h11 (by decide)) (hF1 he rfl)))
  · intro hd2 k off hk hk9 o2 u2 he hu4
    refine hQ1 _ _ _ _ _ ?_
    intro Q2 hQ2
    exact w_perfN (by omega) (hQ2 _ _ _ _ _ (herr hd2 k off hk _ _ _ _ _ (eS.of (he.fp hf1) h11 hk9) (hF1 he hu4)))
  · intro hd2 t p2 hr ht1 ht20 o2 u2 g2 g5 gc g11 gj gb gr gu gb' gr'
    refine hQ1 _ _ _ _ _ ?_
    intro Q2 hQ2
    have hp2 : p2 ≤ L := by
      have h1 := nx_le (x := x) (tE_le' (x := x) hst).2
      unfold rpo at hr
      cases hd : rdN L x (oIn 1 20) (tE L x (tS L x p)) with
      | inl e => rw [hd] at hr; cases hr
      | inr q =>
        obtain ⟨v, p1⟩ := q
        rw [hd] at hr
        obtain ⟨-, -, -, e1, -, -⟩ := rdN_ok hd
        cases hd3 : rdT L x 3 p1 with
        | inl e => simp only [hd3] at hr; cases hr
        | inr p3 =>
          simp only [hd3] at hr
          cases hr
          rw [(rdT_ok hd3).2, e1]
          exact (nx_le (x := x) h1.2).2
    have ho1 : o1 2 = o 2 := hf1.1 2 (by decide)
    refine w_perfN (by omega) (hQ2 _ _ _ _ _ (hok hd2 t p2 hr ht1 ht20 hp2 _ _ _ _ _ ?_ ?_ gb gr ?_))
    · exact ⟨g11, g2, hp2, g5, by rw [gj 6 (by decide), ho1]; exact h6, hex, by rw [gj 8 (by decide), ho1]; exact h8, by rw [gj 9 (by decide), ho1]; exact h9, by rw [gj 10 (by decide), ho1]; exact h10, by rw [gj 11 (by decide), ho1]; exact hm1, by rw [gu 0 (by decide) (by decide)]; exact hu, hT⟩
    · exact ⟨fun c c1 c2 => (gc c c1 c2).trans ((hf1.1 c c1).trans (hf.1 c c1 c2)), by rw [gu 4 (by decide) (by decide)]; exact hf.2.1, hf.2.2.1, hf.2.2.2⟩
    · intro j hj
      rw [gb' j (by omega), gr' j (by omega)]
      exact hK j hj

theorem t_close {l : zL} {d kc ks n : Nat} {h : Nat → va_E} {Q : zQ} {L : Nat} {x : Nat → Nat} {o0 u0 : Nat → Nat → Int32} {s0 : Nat → Nat → Int32} {a0 : Nat → Nat → Nat → Int32} {p ex i m r b0 : Nat} {S : zS} {cm : Value} {o u : Nat → Nat → Int32} {s : Nat → Nat → Int32} {a : Nat → Nat → Nat → Int32} {bs rs : Nat → Nat} (hn : 104 ≤ n) (hL : L ≤ 600) (hx : ∀ i, x i < 256) (hs : sR L x p ex (m + 1) S o u s a) (hf : sF o0 u0 s0 a0 o u s a) (hK : sK m bs rs u) (hi : i + 1 < 1000000) (hm : m < 2) (hk : tKd L x (tS L x p) = 4) (hr : u 3 m = nI r) (hr1 : 1 ≤ r) (hr20 : r ≤ 20) (hb0 : u 2 m = nI b0) (hbL : b0 ≤ L) (herr : r = 1 → ∀ k off, rdT L x 5 (nx L x p) = .inl (k, off) → ∀ cm' o' u' s' a', eS L k off o' → sF o0 u0 s0 a0 o' u' s' a' → hZ l d kc ks n h Q (i + 1) cm' o' u' s' a') (hagain : 1 < r → ∀ cm' o' u' s' a', sR L x b0 ex (m + 1) S o' u' s' a' → sF o0 u0 s0 a0 o' u' s' a' → u' 2 m = nI b0 → u' 3 m = nI (r - 1) → sK m bs rs u' → hZ l d kc ks n h Q (i + 1) cm' o' u' s' a') (hok : r = 1 → ∀ q, rdT L x 5 (nx L x p) = .inr q → ∀ cm' o' u' s' a', sR L x q ex m S o' u' s' a' → sF o0 u0 s0 a0 o' u' s' a' → sK m bs rs u' → hZ l d kc ks n h Q (i + 1) cm' o' u' s' a') : hZ l d kc ks n h Q i cm o u s a := by
  obtain ⟨h11, h12, hp, h5, h6, hex, h8, h9, h10, hm1, hu, hT⟩ := hs
  have hst := (tS_le (x := x) hp).2
  refine k_turn (P1 := fun cm1 o1 u1 s1 a1 => ∀ {Q' : zQ}, (∀ cm' o' u' s' a', hZ l d kc ks n h Q (i + 1) cm' o' u' s' a' → Q' (.inl none) n (gW h cm' o' u' s' a')) → Zj l mX5_perform (d + 8) 0 0 0 [(0, .ref 3)] [] n (gW h cm1 o1 u1 s1 a1) Q') (P2 := fun cm2 o2 u2 s2 a2 => hZ l d kc ks n h Q (i + 1) cm2 o2 u2 s2 a2) hn (by omega) h9 h10 ?_ (fun h1 => h1) (fun h2 => h2)
  intro Q' hQ
  have hnx := nx_le (x := x) hp
  refine z_room (d' := d + 6) (by omega) (Nat.le_refl _) (Nat.le_refl _) (w_rs_close (dep := m + 1) (P := _) (by omega) hL h11 hu hx hp h12 h8 h5 (by omega) (by omega) hk ?_ hQ)
  intro Q1 o1 q2 q3 q4 hf1 hQ1
  have ho1 : o1 2 = o 2 := hf1.1 2 (by decide)
  refine z_room (d' := d + 4) (by omega) (Nat.le_refl _) (Nat.le_refl _) (w_endBody (d := d) (m := m) (r := r) (b0 := b0) (by omega) hL ((hf1.2 1 (by decide)).trans h11) hu hx hnx.2 q2 (by rw [ho1]; exact h10) hm (by rw [ho1]; exact h5) hr hr1 hr20 hb0 ?_ ?_ ?_)
  · intro hr2 o2 u2 g2 hf2 gr gu gr'
    refine hQ1 _ _ _ _ _ ?_
    intro Q2 hQ2
    have ho2 : o2 2 = o 2 := (hf2.1 2 (by decide)).trans ho1
    refine w_perfN (by omega) (hQ2 _ _ _ _ _ (hagain hr2 _ _ _ _ _ ?_ ?_ (by rw [gu 2 (by decide)]; exact hb0) gr ?_))
    · exact ⟨(hf2.2 1 (by decide)).trans ((hf1.2 1 (by decide)).trans h11), g2, hbL, by rw [ho2]; exact h5, by rw [ho2]; exact h6, hex, by rw [ho2]; exact h8, by rw [ho2]; exact h9, by rw [ho2]; exact h10, by rw [ho2]; exact hm1, by rw [gu 0 (by decide)]; exact hu, hT⟩
    · exact ⟨fun c c1 c2 => (hf2.1 c c1).trans ((hf1.1 c c1).trans (hf.1 c c1 c2)), by rw [gu 4 (by decide)]; exact hf.2.1, hf.2.2.1, hf.2.2.2⟩
    · intro j hj
      rw [gu 2 (by decide), gr' j (by omega)]
      exact hK j hj
  · intro hr2 hk5 o2 u2 g2 g5 gc g11 gj gu gr'
    refine hQ1 _ _ _ _ _ ?_
    intro Q2 hQ2
    refine w_perfN (by omega) (hQ2 _ _ _ _ _ (hok hr2 _ (rdT_2 hk5) _ _ _ _ _ ?_ ?_ ?_))
    · exact ⟨g11, g2, (nx_le (x := x) hnx.2).2, g5, by rw [gj 6 (by decide), ho1]; exact h6, hex, by rw [gj 8 (by decide), ho1]; exact h8, by rw [gj 9 (by decide), ho1]; exact h9, by rw [gj 10 (by decide), ho1]; exact h10, by rw [gj 11 (by decide), ho1]; exact hm1, by rw [gu 0 (by decide)]; exact hu, hT⟩
    · exact ⟨fun c c1 c2 => (gc c c1 c2).trans ((hf1.1 c c1).trans (hf.1 c c1 c2)), by rw [gu 4 (by decide)]; exact hf.2.1, hf.2.2.1, hf.2.2.2⟩
    · intro j hj
      rw [gu 2 (by decide), gr' j (by omega)]
      exact hK j hj
  · intro hr2 hk5 o2 u2 he hu4
    refine hQ1 _ _ _ _ _ ?_
    intro Q2 hQ2
    exact w_perfN (by omega) (hQ2 _ _ _ _ _ (herr hr2 1 (tS L x (nx L x p)) (rdT_1 hk5) _ _ _ _ _ (eS.of (he.fp hf1) h11 (by decide)) ⟨fun c g1 g2 => ((he.fp hf1).1 c g1 g2).trans (hf.1 c g1 g2), hu4.trans hf.2.1, hf.2.2.1, hf.2.2.2⟩))
