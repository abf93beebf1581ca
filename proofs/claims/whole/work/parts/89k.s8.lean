/-! THE CLASS'S SCRIPT: one turn for each command -/
def sR (L : Nat) (x : Nat → Nat) (p ex dep : Nat) (S : zS) (o u : Nat → Nat → Int32) (s : Nat → Nat → Int32) (a : Nat → Nat → Nat → Int32) : Prop := o 1 1 = nI L ∧ o 1 2 = nI p ∧ p ≤ L ∧ o 2 5 = nI dep ∧ o 2 6 = nI ex ∧ ex ≤ 200 ∧ o 2 8 = 1 ∧ o 2 9 = 0 ∧ o 2 10 = 0 ∧ o 2 11 = -1 ∧ (∀ i, i < L → u 0 i = nI (x i)) ∧ cT S (s 0) (a 0)
def sF (o0 u0 : Nat → Nat → Int32) (s0 : Nat → Nat → Int32) (a0 : Nat → Nat → Nat → Int32) (o u : Nat → Nat → Int32) (s : Nat → Nat → Int32) (a : Nat → Nat → Nat → Int32) : Prop := (∀ c, c ≠ 1 → c ≠ 2 → o c = o0 c) ∧ u 4 = u0 4 ∧ (∀ t, t ≠ 0 → s t = s0 t) ∧ ∀ t, t ≠ 0 → a t = a0 t
def sK (dep : Nat) (bs rs : Nat → Nat) (u : Nat → Nat → Int32) : Prop := ∀ j, j < dep → u 2 j = nI (bs j) ∧ u 3 j = nI (rs j)
def eS (L k off : Nat) (o : Nat → Nat → Int32) : Prop := o 1 1 = nI L ∧ o 2 10 = nI k ∧ o 2 11 = nI off ∧ k ≠ 0 ∧ k < 10
abbrev hZ (l : zL) (d kc ks n : Nat) (h : Nat → va_E) (Q : zQ) (i : Nat) (cm : Value) (o u : Nat → Nat → Int32) (s : Nat → Nat → Int32) (a : Nat → Nat → Nat → Int32) : Prop := Zj l mX7_runScript (d + 9) kc ks 9 [(0, .ref 0), (1, .int (nI i))] [] n (gW h cm o u s a) Q
theorem eS.of {L k off : Nat} {o o' : Nat → Nat → Int32} (h : er o o' k off) (h11 : o 1 1 = nI L) (hk : k ≠ 0 ∧ k < 10) : eS L k off o' := ⟨h.2.1.trans h11, h.2.2.1, h.2.2.2, hk.1, hk.2⟩
theorem oCnt_ks {k st c : Nat} (h : oCnt k st c = true) : (∀ i, i < c → k + i * st ≤ 9999) ∧ c ≤ 20 := by
  simp only [oCnt, oIn, Bool.and_eq_true, decide_eq_true_eq] at h
  refine ⟨fun i hi => ?_, h.1.2⟩
  have h1 := Nat.mul_le_mul_right st (show i ≤ c - 1 by omega)
  rw [Nat.mul_comm (c - 1) st] at h1
  omega

theorem t_cmd0 {l : zL} {d kc ks n : Nat} {h : Nat → va_E} {Q : zQ} {L : Nat} {x : Nat → Nat} {o0 u0 : Nat → Nat → Int32} {s0 : Nat → Nat → Int32} {a0 : Nat → Nat → Nat → Int32} {p ex dep i : Nat} {S : zS} {cm : Value} {o u : Nat → Nat → Int32} {s : Nat → Nat → Int32} {a : Nat → Nat → Nat → Int32} {bs rs : Nat → Nat} (hn : 104 ≤ n) (hL : L ≤ 600) (hx : ∀ i, x i < 256) (hs : sR L x p ex dep S o u s a) (hf : sF o0 u0 s0 a0 o u s a) (hK : sK dep bs rs u) (hdep : dep ≤ 2) (hi : i + 1 < 1000000) (h0 : dep = 0 → tKd L x (tS L x p) ≠ 0) (h4 : 0 < dep → tKd L x (tS L x p) ≠ 4) (hw : wIs L x (tS L x p) 0 = true) (herr : ∀ k off, cS L x 0 (tS L x p) ex S = .inl (k, off) → ∀ cm' o' u' s' a', eS L k off o' → sF o0 u0 s0 a0 o' u' s' a' → hZ l d kc ks n h Q (i + 1) cm' o' u' s' a') (hok : ∀ p' S', cS L x 0 (tS L x p) ex S = .inr (p', ex + 1, S') → ∀ cm' o' u' s' a', sR L x p' (ex + 1) dep S' o' u' s' a' → sF o0 u0 s0 a0 o' u' s' a' → sK dep bs rs u' → hZ l d kc ks n h Q (i + 1) cm' o' u' s' a') : hZ l d kc ks n h Q i cm o u s a := by
  obtain ⟨h11, h12, hp, h5, h6, hex, h8, h9, h10, hm1, hu, hT⟩ := hs
  have hst := (tS_le (x := x) hp).2
  refine k_turn (P1 := fun cm1 o1 u1 s1 a1 => ∀ {Q' : zQ}, (∀ cm' o' u' s' a', hZ l d kc ks n h Q (i + 1) cm' o' u' s' a' → Q' (.inl none) n (gW h cm' o' u' s' a')) → Zj l mX5_perform (d + 8) 0 0 0 [(0, .ref 3)] [] n (gW h cm1 o1 u1 s1 a1) Q') (P2 := fun cm2 o2 u2 s2 a2 => hZ l d kc ks n h Q (i + 1) cm2 o2 u2 s2 a2) hn (by omega) h9 h10 ?_ (fun h1 => h1) (fun h2 => h2)
  intro Q' hQ
  refine z_room (d' := d + 6) (by omega) (Nat.le_refl _) (Nat.le_refl _) (w_rs_cmd (dep := dep) (P := _) (by omega) hL h11 hu hx hp h12 h8 h5 hdep h0 h4 (fun z => absurd (wIs_one (i := 10) (j := 0) (by decide) (by decide) z hw) (by decide)) ?_ hQ)
  intro Q1 o1 q2 q3 q4 hf1 hQ1
  refine w_read0 (d := d) (ex := ex) (S := S) (by omega) hL ((hf1.2 1 (by decide)).trans h11) hu hx hst q2 q3 q4 (by rw [hf1.1 2 (by decide)]; exact h10) (by rw [hf1.1 2 (by decide)]; exact h6) hex hT hw ?_ ?_
  · intro v0 v1 ps hps hexn hsm hk5 o2 u2 g2 g3 hf2 g11 ok0 r0 e0 ok1 r1 e1 huf
    refine hQ1 _ _ _ _ _ ?_
    intro Q2 hQ2
    have ho2 : o2 2 = o 2 := (hf2.1 2 (by decide)).trans (hf1.1 2 (by decide))
    have hc2 : ∀ c, c ≠ 1 → c ≠ 2 → o2 c = o0 c := fun c c1 c2 => (hf2.1 c c1).trans ((hf1.1 c c1).trans (hf.1 c c1 c2))
    have hps' := nx_le (x := x) hps
    refine w_perf0 (d := d) (ex := ex) (off := tS L x ps) (S := S) (by omega) (by rw [ho2]; exact h10) (by rw [ho2]; exact h6) g3 hT e0 e1 r0 (by simpa [oVal] using ok1) ?_ ?_
    · intro S' hop o3 s3 a3 g6 gc gj hT' gs ga
      refine hQ2 _ _ _ _ _ (hok (nx L x ps) S' (by unfold cS; rw [if_neg hexn, hsm]; simp only [fin, rdT_2 hk5, hop]) _ _ _ _ _ ?_ ?_ ?_)
      · exact ⟨by rw [gc 1 (by decide)]; exact g11, by rw [gc 1 (by decide)]; exact g2, hps'.2, by rw [gj 5 (by decide), ho2]; exact h5, g6, by omega, by rw [gj 8 (by decide), ho2]; exact h8, by rw [gj 9 (by decide), ho2]; exact h9, by rw [gj 10 (by decide), ho2]; exact h10, by rw [gj 11 (by decide), ho2]; exact hm1, by rw [huf 0 (by decide)]; exact hu, hT'⟩
      · exact ⟨fun c c1 c2 => (gc c c2).trans (hc2 c c1 c2), by rw [huf 4 (by decide)]; exact hf.2.1, fun t ht => (gs t ht).trans (hf.2.2.1 t ht), fun t ht => (ga t ht).trans (hf.2.2.2 t ht)⟩
      · intro j hj
        rw [huf 2 (by decide), huf 3 (by decide)]
        exact hK j hj
    · intro hop o3 s3 a3 he gs ga
      refine hQ2 _ _ _ _ _ (herr 3 (tS L x ps) (by unfold cS; rw [if_neg hexn, hsm]; simp only [fin, rdT_2 hk5, hop]) _ _ _ _ _ ?_ ?_)
      · exact eS.of he g11 (by decide)
      · exact ⟨fun c c1 c2 => (he.1 c c1 c2).trans (hc2 c c1 c2), by rw [huf 4 (by decide)]; exact hf.2.1, fun t ht => (gs t ht).trans (hf.2.2.1 t ht), fun t ht => (ga t ht).trans (hf.2.2.2 t ht)⟩
  · intro k off hcs hk9 cm' hcm o2 u2 hu4 he
    refine hQ1 _ _ _ _ _ ?_
    intro Q2 hQ2
    have hne : ¬ o2 2 10 = 0 := he.ne hk9.1 hk9.2
    have hE : eS L k off o2 := eS.of (he.fp hf1) h11 hk9
    have hF : sF o0 u0 s0 a0 o2 u2 s a := ⟨fun c g1 g2 => ((he.fp hf1).1 c g1 g2).trans (hf.1 c g1 g2), hu4.trans hf.2.1, hf.2.2.1, hf.2.2.2⟩
    rcases hcm with rfl | ⟨q, rfl⟩
    · exact w_perfN (by omega) (hQ2 _ _ _ _ _ (herr k off hcs _ _ _ _ _ hE hF))
    · exact w_perfE (by omega) hne (hQ2 _ _ _ _ _ (herr k off hcs _ _ _ _ _ hE hF))

theorem t_cmd1 {l : zL} {d kc ks n : Nat} {h : Nat → va_E} {Q : zQ} {L : Nat} {x : Nat → Nat} {o0 u0 : Nat → Nat → Int32} {s0 : Nat → Nat → Int32} {a0 : Nat → Nat → Nat → Int32} {p ex dep i : Nat} {S : zS} {cm : Value} {o u : Nat → Nat → Int32} {s : Nat → Nat → Int32} {a : Nat → Nat → Nat → Int32} {bs rs : Nat → Nat} (hn : 104 ≤ n) (hL : L ≤ 600) (hx : ∀ i, x i < 256) (hs : sR L x p ex dep S o u s a) (hf : sF o0 u0 s0 a0 o u s a) (hK : sK dep bs rs u) (hdep : dep ≤ 2) (hi : i + 1 < 1000000) (h0 : dep = 0 → tKd L x (tS L x p) ≠ 0) (h4 : 0 < dep → tKd L x (tS L x p) ≠ 4) (hw : wIs L x (tS L x p) 1 = true) (herr : ∀ k off, cS L x 1 (tS L x p) ex S = .inl (k, off) → ∀ cm' o' u' s' a', eS L k off o' → sF o0 u0 s0 a0 o' u' s' a' → hZ l d kc ks n h Q (i + 1) cm' o' u' s' a') (hok : ∀ p' S', cS L x 1 (tS L x p) ex S = .inr (p', ex + 1, S') → ∀ cm' o' u' s' a', sR L x p' (ex + 1) dep S' o' u' s' a' → sF o0 u0 s0 a0 o' u' s' a' → sK dep bs rs u' → hZ l d kc ks n h Q (i + 1) cm' o' u' s' a') : hZ l d kc ks n h Q i cm o u s a := by
  obtain ⟨h11, h12, hp, h5, h6, hex, h8, h9, h10, hm1, hu, hT⟩ := hs
  have hst := (tS_le (x := x) hp).2
  refine k_turn (P1 := fun cm1 o1 u1 s1 a1 => ∀ {Q' : zQ}, (∀ cm' o' u' s' a', hZ l d kc ks n h Q (i + 1) cm' o' u' s' a' → Q' (.inl none) n (gW h cm' o' u' s' a')) → Zj l mX5_perform (d + 8) 0 0 0 [(0, .ref 3)] [] n (gW h cm1 o1 u1 s1 a1) Q') (P2 := fun cm2 o2 u2 s2 a2 => hZ l d kc ks n h Q (i + 1) cm2 o2 u2 s2 a2) hn (by omega) h9 h10 ?_ (fun h1 => h1) (fun h2 => h2)
  intro Q' hQ
  refine z_room (d' := d + 6) (by omega) (Nat.le_refl _) (Nat.le_refl _) (w_rs_cmd (dep := dep) (P := _) (by omega) hL h11 hu hx hp h12 h8 h5 hdep h0 h4 (fun z => absurd (wIs_one (i := 10) (j := 1) (by decide) (by decide) z hw) (by decide)) ?_ hQ)
  intro Q1 o1 q2 q3 q4 hf1 hQ1
  refine w_read1 (d := d) (ex := ex) (S := S) (by omega) hL ((hf1.2 1 (by decide)).trans h11) hu hx hst q2 q3 q4 (by rw [hf1.1 2 (by decide)]; exact h10) (by rw [hf1.1 2 (by decide)]; exact h6) hex hT hw ?_ ?_
  · intro v0 v1 ps hps hexn hsm hk5 o2 u2 g2 g3 hf2 g11 ok0 r0 e0 ok1 r1 e1 huf
    refine hQ1 _ _ _ _ _ ?_
    intro Q2 hQ2
    have ho2 : o2 2 = o 2 := (hf2.1 2 (by decide)).trans (hf1.1 2 (by decide))
    have hc2 : ∀ c, c ≠ 1 → c ≠ 2 → o2 c = o0 c := fun c c1 c2 => (hf2.1 c c1).trans ((hf1.1 c c1).trans (hf.1 c c1 c2))
    have hps' := nx_le (x := x) hps
    refine w_perf1 (d := d) (ex := ex) (off := tS L x ps) (S := S) (by omega) (by rw [ho2]; exact h10) (by rw [ho2]; exact h6) g3 hT e0 e1 r0 (by simpa [oVal] using ok1) ?_ ?_
    · intro S' hop o3 s3 a3 g6 gc gj hT' gs ga
      refine hQ2 _ _ _ _ _ (hok (nx L x ps) S' (by unfold cS; rw [if_neg hexn, hsm]; simp only [fin, rdT_2 hk5, hop]) _ _ _ _ _ ?_ ?_ ?_)
      · exact ⟨by rw [gc 1 (by decide)]; exact g11, by rw [gc 1 (by decide)]; exact g2, hps'.2, by rw [gj 5 (by decide), ho2]; exact h5, g6, by omega, by rw [gj 8 (by decide), ho2]; exact h8, by rw [gj 9 (by decide), ho2]; exact h9, by rw [gj 10 (by decide), ho2]; exact h10, by rw [gj 11 (by decide), ho2]; exact hm1, by rw [huf 0 (by decide)]; exact hu, hT'⟩
      · exact ⟨fun c c1 c2 => (gc c c2).trans (hc2 c c1 c2), by rw [huf 4 (by decide)]; exact hf.2.1, fun t ht => (gs t ht).trans (hf.2.2.1 t ht), fun t ht => (ga t ht).trans (hf.2.2.2 t ht)⟩
      · intro j hj
        rw [huf 2 (by decide), huf 3 (by decide)]
        exact hK j hj
    · intro hop o3 s3 a3 he gs ga
      refine hQ2 _ _ _ _ _ (herr 3 (tS L x ps) (by unfold cS; rw [if_neg hexn, hsm]; simp only [fin, rdT_2 hk5, hop]) _ _ _ _ _ ?_ ?_)
      · exact eS.of he g11 (by decide)
      · exact ⟨fun c c1 c2 => (he.1 c c1 c2).trans (hc2 c c1 c2), by rw [huf 4 (by decide)]; exact hf.2.1, fun t ht => (gs t ht).trans (hf.2.2.1 t ht), fun t ht => (ga t ht).trans (hf.2.2.2 t ht)⟩
  · intro k off hcs hk9 cm' hcm o2 u2 hu4 he
    refine hQ1 _ _ _ _ _ ?_
    intro Q2 hQ2
    have hne : ¬ o2 2 10 = 0 := he.ne hk9.1 hk9.2
    have hE : eS L k off o2 := eS.of (he.fp hf1) h11 hk9
    have hF : sF o0 u0 s0 a0 o2 u2 s a := ⟨fun c g1 g2 => ((he.fp hf1).1 c g1 g2).trans (hf.1 c g1 g2), hu4.trans hf.2.1, hf.2.2.1, hf.2.2.2⟩
    rcases hcm with rfl | ⟨q, rfl⟩
    · exact w_perfN (by omega) (hQ2 _ _ _ _ _ (herr k off hcs _ _ _ _ _ hE hF))
    · exact w_perfE (by omega) hne (hQ2 _ _ _ _ _ (herr k off hcs _ _ _ _ _ hE hF))

theorem t_cmd2 {l : zL} {d kc ks n : Nat} {h : Nat → va_E} {Q : zQ} {L : Nat} {x : Nat → Nat} {o0 u0 : Nat → Nat → Int32} {s0 : Nat → Nat → Int32} {a0 : Nat → Nat → Nat → Int32} {p ex dep i : Nat} {S : zS} {cm : Value} {o u : Nat → Nat → Int32} {s : Nat → Nat → Int32} {a : Nat → Nat → Nat → Int32} {bs rs : Nat → Nat} (hn : 104 ≤ n) (hL : L ≤ 600) (hx : ∀ i, x i < 256) (hs : sR L x p ex dep S o u s a) (hf : sF o0 u0 s0 a0 o u s a) (hK : sK dep bs rs u) (hdep : dep ≤ 2) (hi : i + 1 < 1000000) (h0 : dep = 0 → tKd L x (tS L x p) ≠ 0) (h4 : 0 < dep → tKd L x (tS L x p) ≠ 4) (hw : wIs L x (tS L x p) 2 = true) (herr : ∀ k off, cS L x 2 (tS L x p) ex S = .inl (k, off) → ∀ cm' o' u' s' a', eS L k off o' → sF o0 u0 s0 a0 o' u' s' a' → hZ l d kc ks n h Q (i + 1) cm' o' u' s' a') (hok : ∀ p' S', cS L x 2 (tS L x p) ex S = .inr (p', ex + 1, S') → ∀ cm' o' u' s' a', sR L x p' (ex + 1) dep S' o' u' s' a' → sF o0 u0 s0 a0 o' u' s' a' → sK dep bs rs u' → hZ l d kc ks n h Q (i + 1) cm' o' u' s' a') : hZ l d kc ks n h Q i cm o u s a := by
  obtain ⟨h11, h12, hp, h5, h6, hex, h8, h9, h10, hm1, hu, hT⟩ := hs
  have hst := (tS_le (x := x) hp).2
  refine k_turn (P1 := fun cm1 o1 u1 s1 a1 => ∀ {Q' : zQ}, (∀ cm' o' u' s' a', hZ l d kc ks n h Q (i + 1) cm' o' u' s' a' → Q' (.inl none) n (gW h cm' o' u' s' a')) → Zj l mX5_perform (d + 8) 0 0 0 [(0, .ref 3)] [] n (gW h cm1 o1 u1 s1 a1) Q') (P2 := fun cm2 o2 u2 s2 a2 => hZ l d kc ks n h Q (i + 1) cm2 o2 u2 s2 a2) hn (by omega) h9 h10 ?_ (fun h1 => h1) (fun h2 => h2)
  intro Q' hQ
  refine z_room (d' := d + 6) (by omega) (Nat.le_refl _) (Nat.le_refl _) (w_rs_cmd (dep := dep) (P := _) (by omega) hL h11 hu hx hp h12 h8 h5 hdep h0 h4 (fun z => absurd (wIs_one (i := 10) (j := 2) (by decide) (by decide) z hw) (by decide)) ?_ hQ)
  intro Q1 o1 q2 q3 q4 hf1 hQ1
  refine w_read2 (d := d) (ex := ex) (S := S) (by omega) hL ((hf1.2 1 (by decide)).trans h11) hu hx hst q2 q3 q4 (by rw [hf1.1 2 (by decide)]; exact h10) (by rw [hf1.1 2 (by decide)]; exact h6) hex hT hw ?_ ?_
  · intro v0 v1 v2 ps hps hexn hsm hk5 o2 u2 g2 g3 hf2 g11 ok0 r0 e0 ok1 r1 e1 ok2 r2 e2 huf
    refine hQ1 _ _ _ _ _ ?_
    intro Q2 hQ2
    have ho2 : o2 2 = o 2 := (hf2.1 2 (by decide)).trans (hf1.1 2 (by decide))
    have hc2 : ∀ c, c ≠ 1 → c ≠ 2 → o2 c = o0 c := fun c c1 c2 => (hf2.1 c c1).trans ((hf1.1 c c1).trans (hf.1 c c1 c2))
    have hps' := nx_le (x := x) hps
    refine w_perf2 (d := d) (ex := ex) (off := tS L x ps) (S := S) (by omega) (by rw [ho2]; exact h10) (by rw [ho2]; exact h6) g3 hT e0 e1 e2 (oCnt_ks ok2).1 (oCnt_ks ok2).2 ?_ ?_
    · intro S' hop o3 s3 a3 g6 gc gj hT' gs ga
      refine hQ2 _ _ _ _ _ (hok (nx L x ps) S' (by unfold cS; rw [if_neg hexn, hsm]; simp only [fin, rdT_2 hk5, hop]) _ _ _ _ _ ?_ ?_ ?_)
      · exact ⟨by rw [gc 1 (by decide)]; exact g11, by rw [gc 1 (by decide)]; exact g2, hps'.2, by rw [gj 5 (by decide), ho2]; exact h5, g6, by omega, by rw [gj 8 (by decide), ho2]; exact h8, by rw [gj 9 (by decide), ho2]; exact h9, by rw [gj 10 (by decide), ho2]; exact h10, by rw [gj 11 (by decide), ho2]; exact hm1, by rw [huf 0 (by decide)]; exact hu, hT'⟩
      · exact ⟨fun c c1 c2 => (gc c c2).trans (hc2 c c1 c2), by rw [huf 4 (by decide)]; exact hf.2.1, fun t ht => (gs t ht).trans (hf.2.2.1 t ht), fun t ht => (ga t ht).trans (hf.2.2.2 t ht)⟩
      · intro j hj
        rw [huf 2 (by decide), huf 3 (by decide)]
        exact hK j hj
    · intro hop o3 s3 a3 he gs ga
      refine hQ2 _ _ _ _ _ (herr 3 (tS L x ps) (by unfold cS; rw [if_neg hexn, hsm]; simp only [fin, rdT_2 hk5, hop]) _ _ _ _ _ ?_ ?_)
      · exact eS.of he g11 (by decide)
      · exact ⟨fun c c1 c2 => (he.1 c c1 c2).trans (hc2 c c1 c2), by rw [huf 4 (by decide)]; exact hf.2.1, fun t ht => (gs t ht).trans (hf.2.2.1 t ht), fun t ht => (ga t ht).trans (hf.2.2.2 t ht)⟩
  · intro k off hcs hk9 cm' hcm o2 u2 hu4 he
    refine hQ1 _ _ _ _ _ ?_
    intro Q2 hQ2
    have hne : ¬ o2 2 10 = 0 := he.ne hk9.1 hk9.2
    have hE : eS L k off o2 := eS.of (he.fp hf1) h11 hk9
    have hF : sF o0 u0 s0 a0 o2 u2 s a := ⟨fun c g1 g2 => ((he.fp hf1).1 c g1 g2).trans (hf.1 c g1 g2), hu4.trans hf.2.1, hf.2.2.1, hf.2.2.2⟩
    rcases hcm with rfl | ⟨q, rfl⟩
    · exact w_perfN (by omega) (hQ2 _ _ _ _ _ (herr k off hcs _ _ _ _ _ hE hF))
    · exact w_perfE (by omega) hne (hQ2 _ _ _ _ _ (herr k off hcs _ _ _ _ _ hE hF))

theorem t_cmd3 {l : zL} {d kc ks n : Nat} {h : Nat → va_E} {Q : zQ} {L : Nat} {x : Nat → Nat} {o0 u0 : Nat → Nat → Int32} {s0 : Nat → Nat → Int32} {a0 : Nat → Nat → Nat → Int32} {p ex dep i : Nat} {S : zS} {cm : Value} {o u : Nat → Nat → Int32} {s : Nat → Nat → Int32} {a : Nat → Nat → Nat → Int32} {bs rs : Nat → Nat} (hn : 104 ≤ n) (hL : L ≤ 600) (hx : ∀ i, x i < 256) (hs : sR L x p ex dep S o u s a) (hf : sF o0 u0 s0 a0 o u s a) (hK : sK dep bs rs u) (hdep : dep ≤ 2) (hi : i + 1 < 1000000) (h0 : dep = 0 → tKd L x (tS L x p) ≠ 0) (h4 : 0 < dep → tKd L x (tS L x p) ≠ 4) (hw : wIs L x (tS L x p) 3 = true) (herr : ∀ k off, cS L x 3 (tS L x p) ex S = .inl (k, off) → ∀ cm' o' u' s' a', eS L k off o' → sF o0 u0 s0 a0 o' u' s' a' → hZ l d kc ks n h Q (i + 1) cm' o' u' s' a') (hok : ∀ p' S', cS L x 3 (tS L x p) ex S = .inr (p', ex + 1, S') → ∀ cm' o' u' s' a', sR L x p' (ex + 1) dep S' o' u' s' a' → sF o0 u0 s0 a0 o' u' s' a' → sK dep bs rs u' → hZ l d kc ks n h Q (i + 1) cm' o' u' s' a') : hZ l d kc ks n h Q i cm o u s a := by
  obtain ⟨h11, h12, hp, h5, h6, hex, h8, h9, h10, hm1, hu, hT⟩ := hs
  have hst := (tS_le (x := x) hp).2
  refine k_turn (P1 := fun cm1 o1 u1 s1 a1 => ∀ {Q' : zQ}, (∀ cm' o' u' s' a', hZ l d kc ks n h Q (i + 1) cm' o' u' s' a' → Q' (.inl none) n (gW h cm' o' u' s' a')) → Zj l mX5_perform (d + 8) 0 0 0 [(0, .ref 3)] [] n (gW h cm1 o1 u1 s1 a1) Q') (P2 := fun cm2 o2 u2 s2 a2 => hZ l d kc ks n h Q (i + 1) cm2 o2 u2 s2 a2) hn (by omega) h9 h10 ?_ (fun h1 => h1) (fun h2 => h2)
  intro Q' hQ
  refine z_room (d' := d + 6) (by omega) (Nat.le_refl _) (Nat.le_refl _) (w_rs_cmd (dep := dep) (P := _) (by omega) hL h11 hu hx hp h12 h8 h5 hdep h0 h4 (fun z => absurd (wIs_one (i := 10) (j := 3) (by decide) (by decide) z hw) (by decide)) ?_ hQ)
  intro Q1 o1 q2 q3 q4 hf1 hQ1
  refine w_read3 (d := d) (ex := ex) (S := S) (by omega) hL ((hf1.2 1 (by decide)).trans h11) hu hx hst q2 q3 q4 (by rw [hf1.1 2 (by decide)]; exact h10) (by rw [hf1.1 2 (by decide)]; exact h6) hex hT hw ?_ ?_
  · intro v0 ps hps hexn hsm hk5 o2 u2 g2 g3 hf2 g11 ok0 r0 e0 huf
    refine hQ1 _ _ _ _ _ ?_
    intro Q2 hQ2
    have ho2 : o2 2 = o 2 := (hf2.1 2 (by decide)).trans (hf1.1 2 (by decide))
    have hc2 : ∀ c, c ≠ 1 → c ≠ 2 → o2 c = o0 c := fun c c1 c2 => (hf2.1 c c1).trans ((hf1.1 c c1).trans (hf.1 c c1 c2))
    have hps' := nx_le (x := x) hps
    refine w_perf3 (d := d) (ex := ex) (off := tS L x ps) (S := S) (by omega) (by rw [ho2]; exact h10) (by rw [ho2]; exact h6) g3 hT e0 r0 ok0 ?_ ?_
    · intro S' hop o3 s3 a3 g6 gc gj hT' gs ga
      refine hQ2 _ _ _ _ _ (hok (nx L x ps) S' (by unfold cS; rw [if_neg hexn, hsm]; simp only [fin, rdT_2 hk5, hop]) _ _ _ _ _ ?_ ?_ ?_)
      · exact ⟨by rw [gc 1 (by decide)]; exact g11, by rw [gc 1 (by decide)]; exact g2, hps'.2, by rw [gj 5 (by decide), ho2]; exact h5, g6, by omega, by rw [gj 8 (by decide), ho2]; exact h8, by rw [gj 9 (by decide), ho2]; exact h9, by rw [gj 10 (by decide), ho2]; exact h10, by rw [gj 11 (by decide), ho2]; exact hm1, by rw [huf 0 (by decide)]; exact hu, hT'⟩
      · exact ⟨fun c c1 c2 => (gc c c2).trans (hc2 c c1 c2), by rw [huf 4 (by decide)]; exact hf.2.1, fun t ht => (gs t ht).trans (hf.2.2.1 t ht), fun t ht => (ga t ht).trans (hf.2.2.2 t ht)⟩
      · intro j hj
        rw [huf 2 (by decide), huf 3 (by decide)]
        exact hK j hj
    · intro hop o3 s3 a3 he gs ga
      refine hQ2 _ _ _ _ _ (herr 3 (tS L x ps) (by unfold cS; rw [if_neg hexn, hsm]; simp only [fin, rdT_2 hk5, hop]) _ _ _ _ _ ?_ ?_)
      · exact eS.of he g11 (by decide)
      · exact ⟨fun c c1 c2 => (he.1 c c1 c2).trans (hc2 c c1 c2), by rw [huf 4 (by decide)]; exact hf.2.1, fun t ht => (gs t ht).trans (hf.2.2.1 t ht), fun t ht => (ga t ht).trans (hf.2.2.2 t ht)⟩
  · intro k off hcs hk9 cm' hcm o2 u2 hu4 he
    refine hQ1 _ _ _ _ _ ?_
    intro Q2 hQ2
    have hne : ¬ o2 2 10 = 0 := he.ne hk9.1 hk9.2
    have hE : eS L k off o2 := eS.of (he.fp hf1) h11 hk9
    have hF : sF o0 u0 s0 a0 o2 u2 s a := ⟨fun c g1 g2 => ((he.fp hf1).1 c g1 g2).trans (hf.1 c g1 g2), hu4.trans hf.2.1, hf.2.2.1, hf.2.2.2⟩
    rcases hcm with rfl | ⟨q, rfl⟩
    · exact w_perfN (by omega) (hQ2 _ _ _ _ _ (herr k off hcs _ _ _ _ _ hE hF))
    · exact w_perfE (by omega) hne (hQ2 _ _ _ _ _ (herr k off hcs _ _ _ _ _ hE hF))

theorem t_cmd4 {l : zL} {d kc ks n : Nat} {h : Nat → va_E} {Q : zQ} {L : Nat} {x : Nat → Nat} {o0 u0 : Nat → Nat → Int32} {s0 : Nat → Nat → Int32} {a0 : Nat → Nat → Nat → Int32} {p ex dep i : Nat} {S : zS} {cm : Value} {o u : Nat → Nat → Int32} {s : Nat → Nat → Int32} {a : Nat → Nat → Nat → Int32} {bs rs : Nat → Nat} (hn : 104 ≤ n) (hL : L ≤ 600) (hx : ∀ i, x i < 256) (hs : sR L x p ex dep S o u s a) (hf : sF o0 u0 s0 a0 o u s a) (hK : sK dep bs rs u) (hdep : dep ≤ 2) (hi : i + 1 < 1000000) (h0 : dep = 0 → tKd L x (tS L x p) ≠ 0) (h4 : 0 < dep → tKd L x (tS L x p) ≠ 4) (hw : wIs L x (tS L x p) 4 = true) (herr : ∀ k off, cS L x 4 (tS L x p) ex S = .inl (k, off) → ∀ cm' o' u' s' a', eS L k off o' → sF o0 u0 s0 a0 o' u' s' a' → hZ l d kc ks n h Q (i + 1) cm' o' u' s' a') (hok : ∀ p' S', cS L x 4 (tS L x p) ex S = .inr (p', ex + 1, S') → ∀ cm' o' u' s' a', sR L x p' (ex + 1) dep S' o' u' s' a' → sF o0 u0 s0 a0 o' u' s' a' → sK dep bs rs u' → hZ l d kc ks n h Q (i + 1) cm' o' u' s' a') : hZ l d kc ks n h Q i cm o u s a := by
  obtain ⟨h11, h12, hp, h5, h6, hex, h8, h9, h10, hm1, hu, hT⟩ := hs
  have hst := (tS_le (x := x) hp).2
  refine k_turn (P1 := fun cm1 o1 u1 s1 a1 => ∀ {Q' : zQ}, (∀ cm' o' u' s' a', hZ l d kc ks n h Q (i + 1) cm' o' u' s' a' → Q' (.inl none) n (gW h cm' o' u' s' a')) → Zj l mX5_perform (d + 8) 0 0 0 [(0, .ref 3)] [] n (gW h cm1 o1 u1 s1 a1) Q') (P2 := fun cm2 o2 u2 s2 a2 => hZ l d kc ks n h Q (i + 1) cm2 o2 u2 s2 a2) hn (by omega) h9 h10 ?_ (fun h1 => h1) (fun h2 => h2)
  intro Q' hQ
  refine z_room (d' := d + 6) (by omega) (Nat.le_refl _) (Nat.le_refl _) (w_rs_cmd (dep := dep) (P := _) (by omega) hL h11 hu hx hp h12 h8 h5 hdep h0 h4 (fun z => absurd (wIs_one (i := 10) (j := 4) (by decide) (by decide) z hw) (by decide)) ?_ hQ)
  intro Q1 o1 q2 q3 q4 hf1 hQ1
  refine w_read4 (d := d) (ex := ex) (S := S) (by omega) hL ((hf1.2 1 (by decide)).trans h11) hu hx hst q2 q3 q4 (by rw [hf1.1 2 (by decide)]; exact h10) (by rw [hf1.1 2 (by decide)]; exact h6) hex hT hw ?_ ?_
  · intro v0 ps hps hexn hsm hk5 o2 u2 g2 g3 hf2 g11 ok0 r0 e0 huf
    refine hQ1 _ _ _ _ _ ?_
    intro Q2 hQ2
    have ho2 : o2 2 = o 2 := (hf2.1 2 (by decide)).trans (hf1.1 2 (by decide))
    have hc2 : ∀ c, c ≠ 1 → c ≠ 2 → o2 c = o0 c := fun c c1 c2 => (hf2.1 c c1).trans ((hf1.1 c c1).trans (hf.1 c c1 c2))
    have hps' := nx_le (x := x) hps
    refine w_perf4 (d := d) (ex := ex) (off := tS L x ps) (S := S) (by omega) (by rw [ho2]; exact h10) (by rw [ho2]; exact h6) g3 hT e0 (by simp only [oIn, Bool.and_eq_true, decide_eq_true_eq] at ok0; exact ok0.1) (by simp only [oIn, Bool.and_eq_true, decide_eq_true_eq] at ok0; exact ok0.2) ?_ ?_
    · intro S' hop o3 s3 a3 g6 gc gj hT' gs ga
      refine hQ2 _ _ _ _ _ (hok (nx L x ps) S' (by unfold cS; rw [if_neg hexn, hsm]; simp only [fin, rdT_2 hk5, hop]) _ _ _ _ _ ?_ ?_ ?_)
      · exact ⟨by rw [gc 1 (by decide)]; exact g11, by rw [gc 1 (by decide)]; exact g2, hps'.2, by rw [gj 5 (by decide), ho2]; exact h5, g6, by omega, by rw [gj 8 (by decide), ho2]; exact h8, by rw [gj 9 (by decide), ho2]; exact h9, by rw [gj 10 (by decide), ho2]; exact h10, by rw [gj 11 (by decide), ho2]; exact hm1, by rw [huf 0 (by decide)]; exact hu, hT'⟩
      · exact ⟨fun c c1 c2 => (gc c c2).trans (hc2 c c1 c2), by rw [huf 4 (by decide)]; exact hf.2.1, fun t ht => (gs t ht).trans (hf.2.2.1 t ht), fun t ht => (ga t ht).trans (hf.2.2.2 t ht)⟩
      · intro j hj
        rw [huf 2 (by decide), huf 3 (by decide)]
        exact hK j hj
    · intro hop o3 s3 a3 he gs ga
      refine hQ2 _ _ _ _ _ (herr 3 (tS L x ps) (by unfold cS; rw [if_neg hexn, hsm]; simp only [fin, rdT_2 hk5, hop]) _ _ _ _ _ ?_ ?_)
      · exact eS.of he g11 (by decide)
      · exact ⟨fun c c1 c2 => (he.1 c c1 c2).trans (hc2 c c1 c2), by rw [huf 4 (by decide)]; exact hf.2.1, fun t ht => (gs t ht).trans (hf.2.2.1 t ht), fun t ht => (ga t ht).trans (hf.2.2.2 t ht)⟩
  · intro k off hcs hk9 cm' hcm o2 u2 hu4 he
    refine hQ1 _ _ _ _ _ ?_
    intro Q2 hQ2
    have hne : ¬ o2 2 10 = 0 := he.ne hk9.1 hk9.2
    have hE : eS L k off o2 := eS.of (he.fp hf1) h11 hk9
    have hF : sF o0 u0 s0 a0 o2 u2 s a := ⟨fun c g1 g2 => ((he.fp hf1).1 c g1 g2).trans (hf.1 c g1 g2), hu4.trans hf.2.1, hf.2.2.1, hf.2.2.2⟩
    rcases hcm with rfl | ⟨q, rfl⟩
    · exact w_perfN (by omega) (hQ2 _ _ _ _ _ (herr k off hcs _ _ _ _ _ hE hF))
    · exact w_perfE (by omega) hne (hQ2 _ _ _ _ _ (herr k off hcs _ _ _ _ _ hE hF))

theorem t_cmd5 {l : zL} {d kc ks n : Nat} {h : Nat → va_E} {Q : zQ} {L : Nat} {x : Nat → Nat} {o0 u0 : Nat → Nat → Int32} {s0 : Nat → Nat → Int32} {a0 : Nat → Nat → Nat → Int32} {p ex dep i : Nat} {S : zS} {cm : Value} {o u : Nat → Nat → Int32} {s : Nat → Nat → Int32} {a : Nat → Nat → Nat → Int32} {bs rs : Nat → Nat} (hn : 104 ≤ n) (hL : L ≤ 600) (hx : ∀ i, x i < 256) (hs : sR L x p ex dep S o u s a) (hf : sF o0 u0 s0 a0 o u s a) (hK : sK dep bs rs u) (hdep : dep ≤ 2) (hi : i + 1 < 1000000) (h0 : dep = 0 → tKd L x (tS L x p) ≠ 0) (h4 : 0 < dep → tKd L x (tS L x p) ≠ 4) (hw : wIs L x (tS L x p) 5 = true) (herr : ∀ k off, cS L x 5 (tS L x p) ex S = .inl (k, off) → ∀ cm' o' u' s' a', eS L k off o' → sF o0 u0 s0 a0 o' u' s' a' → hZ l d kc ks n h Q (i + 1) cm' o' u' s' a') (hok : ∀ p' S', cS L x 5 (tS L x p) ex S = .inr (p', ex + 1, S') → ∀ cm' o' u' s' a', sR L x p' (ex + 1) dep S' o' u' s' a' → sF o0 u0 s0 a0 o' u' s' a' → sK dep bs rs u' → hZ l d kc ks n h Q (i + 1) cm' o' u' s' a') : hZ l d kc ks n h Q i cm o u s a := by
  obtain ⟨h11, h12, hp, h5, h6, hex, h8, h9, h10, hm1, hu, hT⟩ := hs
  have hst := (tS_le (x := x) hp).2
  refine k_turn (P1 := fun cm1 o1 u1 s1 a1 => ∀ {Q' : zQ}, (∀ cm' o' u' s' a', hZ l d kc ks n h Q (i + 1) cm' o' u' s' a' → Q' (.inl none) n (gW h cm' o' u' s' a')) → Zj l mX5_perform (d + 8) 0 0 0 [(0, .ref 3)] [] n (gW h cm1 o1 u1 s1 a1) Q') (P2 := fun cm2 o2 u2 s2 a2 => hZ l d kc ks n h Q (i + 1) cm2 o2 u2 s2 a2) hn (by omega) h9 h10 ?_ (fun h1 => h1) (fun h2 => h2)
  intro Q' hQ
  refine z_room (d' := d + 6) (by omega) (Nat.le_refl _) (Nat.le_refl _) (w_rs_cmd (dep := dep) (P := _) (by omega) hL h11 hu hx hp h12 h8 h5 hdep h0 h4 (fun z => absurd (wIs_one (i := 10) (j := 5) (by decide) (by decide) z hw) (by decide)) ?_ hQ)
  intro Q1 o1 q2 q3 q4 hf1 hQ1
  refine w_read5 (d := d) (ex := ex) (S := S) (by omega) hL ((hf1.2 1 (by decide)).trans h11) hu hx hst q2 q3 q4 (by rw [hf1.1 2 (by decide)]; exact h10) (by rw [hf1.1 2 (by decide)]; exact h6) hex hT hw ?_ ?_
  · intro v0 ps hps hexn hsm hk5 o2 u2 g2 g3 hf2 g11 ok0 r0 e0 huf
    refine hQ1 _ _ _ _ _ ?_
    intro Q2 hQ2
    have ho2 : o2 2 = o 2 := (hf2.1 2 (by decide)).trans (hf1.1 2 (by decide))
    have hc2 : ∀ c, c ≠ 1 → c ≠ 2 → o2 c = o0 c := fun c c1 c2 => (hf2.1 c c1).trans ((hf1.1 c c1).trans (hf.1 c c1 c2))
    have hps' := nx_le (x := x) hps
    refine w_perf5 (d := d) (ex := ex) (off := tS L x ps) (S := S) (by omega) (by rw [ho2]; exact h10) (by rw [ho2]; exact h6) g3 hT e0 (by simp only [oIn, Bool.and_eq_true, decide_eq_true_eq] at ok0; exact ok0.1) (by simp only [oIn, Bool.and_eq_true, decide_eq_true_eq] at ok0; exact ok0.2) ?_ ?_
    · intro S' hop o3 s3 a3 g6 gc gj hT' gs ga
      refine hQ2 _ _ _ _ _ (hok (nx L x ps) S' (by unfold cS; rw [if_neg hexn, hsm]; simp only [fin, rdT_2 hk5, hop]) _ _ _ _ _ ?_ ?_ ?_)
      · exact ⟨by rw [gc 1 (by decide)]; exact g11, by rw [gc 1 (by decide)]; exact g2, hps'.2, by rw [gj 5 (by decide), ho2]; exact h5, g6, by omega, by rw [gj 8 (by decide), ho2]; exact h8, by rw [gj 9 (by decide), ho2]; exact h9, by rw [gj 10 (by decide), ho2]; exact h10, by rw [gj 11 (by decide), ho2]; exact hm1, by rw [huf 0 (by decide)]; exact hu, hT'⟩
      · exact ⟨fun c c1 c2 => (gc c c2).trans (hc2 c c1 c2), by rw [huf 4 (by decide)]; exact hf.2.1, fun t ht => (gs t ht).trans (hf.2.2.1 t ht), fun t ht => (ga t ht).trans (hf.2.2.2 t ht)⟩
      · intro j hj
        rw [huf 2 (by decide), huf 3 (by decide)]
        exact hK j hj
    · intro hop o3 s3 a3 he gs ga
      refine hQ2 _ _ _ _ _ (herr 3 (tS L x ps) (by unfold cS; rw [if_neg hexn, hsm]; simp only [fin, rdT_2 hk5, hop]) _ _ _ _ _ ?_ ?_)
      · exact eS.of he g11 (by decide)
      · exact ⟨fun c c1 c2 => (he.1 c c1 c2).trans (hc2 c c1 c2), by rw [huf 4 (by decide)]; exact hf.2.1, fun t ht => (gs t ht).trans (hf.2.2.1 t ht), fun t ht => (ga t ht).trans (hf.2.2.2 t ht)⟩
  · intro k off hcs hk9 cm' hcm o2 u2 hu4 he
    refine hQ1 _ _ _ _ _ ?_
    intro Q2 hQ2
    have hne : ¬ o2 2 10 = 0 := he.ne hk9.1 hk9.2
    have hE : eS L k off o2 := eS.of (he.fp hf1) h11 hk9
    have hF : sF o0 u0 s0 a0 o2 u2 s a := ⟨fun c g1 g2 => ((he.fp hf1).1 c g1 g2).trans (hf.1 c g1 g2), hu4.trans hf.2.1, hf.2.2.1, hf.2.2.2⟩
    rcases hcm with rfl | ⟨q, rfl⟩
    · exact w_perfN (by omega) (hQ2 _ _ _ _ _ (herr k off hcs _ _ _ _ _ hE hF))
    · exact w_perfE (by omega) hne (hQ2 _ _ _ _ _ (herr k off hcs _ _ _ _ _ hE hF))

theorem t_cmd6 {l : zL} {d kc ks n : Nat} {h : Nat → va_E} {Q : zQ} {L : Nat} {x : Nat → Nat} {o0 u0 : Nat → Nat → Int32} {s0 : Nat → Nat → Int32} {a0 : Nat → Nat → Nat → Int32} {p ex dep i : Nat} {S : zS} {cm : Value} {o u : Nat → Nat → Int32} {s : Nat → Nat → Int32} {a : Nat → Nat → Nat → Int32} {bs rs : Nat → Nat} (hn : 104 ≤ n) (hL : L ≤ 600) (hx : ∀ i, x i < 256) (hs : sR L x p ex dep S o u s a) (hf : sF o0 u0 s0 a0 o u s a) (hK : sK dep bs rs u) (hdep : dep ≤ 2) (hi : i + 1 < 1000000) (h0 : dep = 0 → tKd L x (tS L x p) ≠ 0) (h4 : 0 < dep → tKd L x (tS L x p) ≠ 4) (hw : wIs L x (tS L x p) 6 = true) (herr : ∀ k off, cS L x 6 (tS L x p) ex S = .inl (k, off) → ∀ cm' o' u' s' a', eS L k off o' → sF o0 u0 s0 a0 o' u' s' a' → hZ l d kc ks n h Q (i + 1) cm' o' u' s' a') (hok : ∀ p' S', cS L x 6 (tS L x p) ex S = .inr (p', ex + 1, S') → ∀ cm' o' u' s' a', sR L x p' (ex + 1) dep S' o' u' s' a' → sF o0 u0 s0 a0 o' u' s' a' → sK dep bs rs u' → hZ l d kc ks n h Q (i + 1) cm' o' u' s' a') : hZ l d kc ks n h Q i cm o u s a := by
  obtain ⟨h11, h12, hp, h5, h6, hex, h8, h9, h10, hm1, hu, hT⟩ := hs
  have hst := (tS_le (x := x) hp).2
  refine k_turn (P1 := fun cm1 o1 u1 s1 a1 => ∀ {Q' : zQ}, (∀ cm' o' u' s' a', hZ l d kc ks n h Q (i + 1) cm' o' u' s' a' → Q' (.inl none) n (gW h cm' o' u' s' a')) → Zj l mX5_perform (d + 8) 0 0 0 [(0, .ref 3)] [] n (gW h cm1 o1 u1 s1 a1) Q') (P2 := fun cm2 o2 u2 s2 a2 => hZ l d kc ks n h Q (i + 1) cm2 o2 u2 s2 a2) hn (by omega) h9 h10 ?_ (fun h1 => h1) (fun h2 => h2)
  intro Q' hQ
  refine z_room (d' := d + 6) (by omega) (Nat.le_refl _) (Nat.le_refl _) (w_rs_cmd (dep := dep) (P := _) (by omega) hL h11 hu hx hp h12 h8 h5 hdep h0 h4 (fun z => absurd (wIs_one (i := 10) (j := 6) (by decide) (by decide) z hw) (by decide)) ?_ hQ)
  intro Q1 o1 q2 q3 q4 hf1 hQ1
  refine w_read6 (d := d) (ex := ex) (S := S) (by omega) hL ((hf1.2 1 (by decide)).trans h11) hu hx hst q2 q3 q4 (by rw [hf1.1 2 (by decide)]; exact h10) (by rw [hf1.1 2 (by decide)]; exact h6) hex hT hw ?_ ?_
  · intro  ps hps hexn hsm hk5 o2 u2 g2 g3 hf2 g11  huf
    refine hQ1 _ _ _ _ _ ?_
    intro Q2 hQ2
    have ho2 : o2 2 = o 2 := (hf2.1 2 (by decide)).trans (hf1.1 2 (by decide))
    have hc2 : ∀ c, c ≠ 1 → c ≠ 2 → o2 c = o0 c := fun c c1 c2 => (hf2.1 c c1).trans ((hf1.1 c c1).trans (hf.1 c c1 c2))
    have hps' := nx_le (x := x) hps
    refine w_perf6 (d := d) (ex := ex) (off := tS L x ps) (S := S) (by omega) (by rw [ho2]; exact h10) (by rw [ho2]; exact h6) g3 hT   ?_ ?_
    · intro S' hop o3 s3 a3 g6 gc gj hT' gs ga
      cases hop
      refine hQ2 _ _ _ _ _ (hok (nx L x ps) _ (by unfold cS; rw [if_neg hexn, hsm]; simp only [fin, rdT_2 hk5] <;> rfl) _ _ _ _ _ ?_ ?_ ?_)
      · exact ⟨by rw [gc 1 (by decide)]; exact g11, by rw [gc 1 (by decide)]; exact g2, hps'.2, by rw [gj 5 (by decide), ho2]; exact h5, g6, by omega, by rw [gj 8 (by decide), ho2]; exact h8, by rw [gj 9 (by decide), ho2]; exact h9, by rw [gj 10 (by decide), ho2]; exact h10, by rw [gj 11 (by decide), ho2]; exact hm1, by rw [huf 0 (by decide)]; exact hu, hT'⟩
      · exact ⟨fun c c1 c2 => (gc c c2).trans (hc2 c c1 c2), by rw [huf 4 (by decide)]; exact hf.2.1, fun t ht => (gs t ht).trans (hf.2.2.1 t ht), fun t ht => (ga t ht).trans (hf.2.2.2 t ht)⟩
      · intro j hj
        rw [huf 2 (by decide), huf 3 (by decide)]
        exact hK j hj
    · intro hop
      cases hop
  · intro k off hcs hk9 cm' hcm o2 u2 hu4 he
    refine hQ1 _ _ _ _ _ ?_
    intro Q2 hQ2
    have hne : ¬ o2 2 10 = 0 := he.ne hk9.1 hk9.2
    have hE : eS L k off o2 := eS.of (he.fp hf1) h11 hk9
    have hF : sF o0 u0 s0 a0 o2 u2 s a := ⟨fun c g1 g2 => ((he.fp hf1).1 c g1 g2).trans (hf.1 c g1 g2), hu4.trans hf.2.1, hf.2.2.1, hf.2.2.2⟩
    rcases hcm with rfl | ⟨q, rfl⟩
    · exact w_perfN (by omega) (hQ2 _ _ _ _ _ (herr k off hcs _ _ _ _ _ hE hF))
    · exact w_perfE (by omega) hne (hQ2 _ _ _ _ _ (herr k off hcs _ _ _ _ _ hE hF))

theorem t_cmd7 {l : zL} {d kc ks n : Nat} {h : Nat → va_E} {Q : zQ} {L : Nat} {x : Nat → Nat} {o0 u0 : Nat → Nat → Int32} {s0 : Nat → Nat → Int32} {a0 : Nat → Nat → Nat → Int32} {p ex dep i : Nat} {S : zS} {cm : Value} {o u : Nat → Nat → Int32} {s : Nat → Nat → Int32} {a : Nat → Nat → Nat → Int32} {bs rs : Nat → Nat} (hn : 104 ≤ n) (hL : L ≤ 600) (hx : ∀ i, x i < 256) (hs : sR L x p ex dep S o u s a) (hf : sF o0 u0 s0 a0 o u s a) (hK : sK dep bs rs u) (hdep : dep ≤ 2) (hi : i + 1 < 1000000) (h0 : dep = 0 → tKd L x (tS L x p) ≠ 0) (h4 : 0 < dep → tKd L x (tS L x p) ≠ 4) (hw : wIs L x (tS L x p) 7 = true) (herr : ∀ k off, cS L x 7 (tS L x p) ex S = .inl (k, off) → ∀ cm' o' u' s' a', eS L k off o' → sF o0 u0 s0 a0 o' u' s' a' → hZ l d kc ks n h Q (i + 1) cm' o' u' s' a') (hok : ∀ p' S', cS L x 7 (tS L x p) ex S = .inr (p', ex + 1, S') → ∀ cm' o' u' s' a', sR L x p' (ex + 1) dep S' o' u' s' a' → sF o0 u0 s0 a0 o' u' s' a' → sK dep bs rs u' → hZ l d kc ks n h Q (i + 1) cm' o' u' s' a') : hZ l d kc ks n h Q i cm o u s a := by
  obtain ⟨h11, h12, hp, h5, h6, hex, h8, h9, h10, hm1, hu, hT⟩ := hs
  have hst := (tS_le (x := x) hp).2
  refine k_turn (P1 := fun cm1 o1 u1 s1 a1 => ∀ {Q' : zQ}, (∀ cm' o' u' s' a', hZ l d kc ks n h Q (i + 1) cm' o' u' s' a' → Q' (.inl none) n (gW h cm' o' u' s' a')) → Zj l mX5_perform (d + 8) 0 0 0 [(0, .ref 3)] [] n (gW h cm1 o1 u1 s1 a1) Q') (P2 := fun cm2 o2 u2 s2 a2 => hZ l d kc ks n h Q (i + 1) cm2 o2 u2 s2 a2) hn (by omega) h9 h10 ?_ (fun h1 => h1) (fun h2 => h2)
  intro Q' hQ
  refine z_room (d' := d + 6) (by omega) (Nat.le_refl _) (Nat.le_refl _) (w_rs_cmd (dep := dep) (P := _) (by omega) hL h11 hu hx hp h12 h8 h5 hdep h0 h4 (fun z => absurd (wIs_one (i := 10) (j := 7) (by decide) (by decide) z hw) (by decide)) ?_ hQ)
  intro Q1 o1 q2 q3 q4 hf1 hQ1
  refine w_read7 (d := d) (ex := ex) (S := S) (by omega) hL ((hf1.2 1 (by decide)).trans h11) hu hx hst q2 q3 q4 (by rw [hf1.1 2 (by decide)]; exact h10) (by rw [hf1.1 2 (by decide)]; exact h6) hex hT hw ?_ ?_
  · intro  ps hps hexn hsm hk5 o2 u2 g2 g3 hf2 g11  huf
    refine hQ1 _ _ _ _ _ ?_
    intro Q2 hQ2
    have ho2 : o2 2 = o 2 := (hf2.1 2 (by decide)).trans (hf1.1 2 (by decide))
    have hc2 : ∀ c, c ≠ 1 → c ≠ 2 → o2 c = o0 c := fun c c1 c2 => (hf2.1 c c1).trans ((hf1.1 c c1).trans (hf.1 c c1 c2))
    have hps' := nx_le (x := x) hps
    refine w_perf7 (d := d) (ex := ex) (off := tS L x ps) (S := S) (by omega) (by rw [ho2]; exact h10) (by rw [ho2]; exact h6) g3 hT   ?_ ?_
    · intro S' hop o3 s3 a3 g6 gc gj hT' gs ga
      cases hop
      refine hQ2 _ _ _ _ _ (hok (nx L x ps) _ (by unfold cS; rw [if_neg hexn, hsm]; simp only [fin, rdT_2 hk5] <;> rfl) _ _ _ _ _ ?_ ?_ ?_)
      · exact ⟨by rw [gc 1 (by decide)]; exact g11, by rw [gc 1 (by decide)]; exact g2, hps'.2, by rw [gj 5 (by decide), ho2]; exact h5, g6, by omega, by rw [gj 8 (by decide), ho2]; exact h8, by rw [gj 9 (by decide), ho2]; exact h9, by rw [gj 10 (by decide), ho2]; exact h10, by rw [gj 11 (by decide), ho2]; exact hm1, by rw [huf 0 (by decide)]; exact hu, hT'⟩
      · exact ⟨fun c c1 c2 => (gc c c2).trans (hc2 c c1 c2), by rw [huf 4 (by decide)]; exact hf.2.1, fun t ht => (gs t ht).trans (hf.2.2.1 t ht), fun t ht => (ga t ht).trans (hf.2.2.2 t ht)⟩
      · intro j hj
        rw [huf 2 (by decide), huf 3 (by decide)]
        exact hK j hj
    · intro hop
      cases hop
  · intro k off hcs hk9 cm' hcm o2 u2 hu4 he
    refine hQ1 _ _ _ _ _ ?_
    intro Q2 hQ2
    have hne : ¬ o2 2 10 = 0 := he.ne hk9.1 hk9.2
    have hE : eS L k off o2 := eS.of (he.fp hf1) h11 hk9
    have hF : sF o0 u0 s0 a0 o2 u2 s a := ⟨fun c g1 g2 => ((he.fp hf1).1 c g1 g2).trans (hf.1 c g1 g2), hu4.trans hf.2.1, hf.2.2.1, hf.2.2.2⟩
    rcases hcm with rfl | ⟨q, rfl⟩
    · exact w_perfN (by omega) (hQ2 _ _ _ _ _ (herr k off hcs _ _ _ _ _ hE hF))
    · exact w_perfE (by omega) hne (hQ2 _ _ _ _ _ (herr k off hcs _ _ _ _ _ hE hF))

theorem t_cmd8 {l : zL} {d kc ks n : Nat} {h : Nat → va_E} {Q : zQ} {L : Nat} {x : Nat → Nat} {o0 u0 : Nat → Nat → Int32} {s0 : Nat → Nat → Int32} {a0 : Nat → Nat → Nat → Int32} {p ex dep i : Nat} {S : zS} {cm : Value} {o u : Nat → Nat → Int32} {s : Nat → Nat → Int32} {a : Nat → Nat → Nat → Int32} {bs rs : Nat → Nat} (hn : 104 ≤ n) (hL : L ≤ 600) (hx : ∀ i, x i < 256) (hs : sR L x p ex dep S o u s a) (hf : sF o0 u0 s0 a0 o u s a) (hK : sK dep bs rs u) (hdep : dep ≤ 2) (hi : i + 1 < 1000000) (h0 : dep = 0 → tKd L x (tS L x p) ≠ 0) (h4 : 0 < dep → tKd L x (tS L x p) ≠ 4) (hw : wIs L x (tS L x p) 8 = true) (herr : ∀ k off, cS L x 8 (tS L x p) ex S = .inl (k, off) → ∀ cm' o' u' s' a', eS L k off o' → sF o0 u0 s0 a0 o' u' s' a' → hZ l d kc ks n h Q (i + 1) cm' o' u' s' a') (hok : ∀ p' S', cS L x 8 (tS L x p) ex S = .inr (p', ex + 1, S') → ∀ cm' o' u' s' a', sR L x p' (ex + 1) dep S' o' u' s' a' → sF o0 u0 s0 a0 o' u' s' a' → sK dep bs rs u' → hZ l d kc ks n h Q (i + 1) cm' o' u' s' a') : hZ l d kc ks n h Q i cm o u s a := by
  obtain ⟨h11, h12, hp, h5, h6, hex, h8, h9, h10, hm1, hu, hT⟩ := hs
  have hst := (tS_le (x := x) hp).2
  refine k_turn (P1 := fun cm1 o1 u1 s1 a1 => ∀ {Q' : zQ}, (∀ cm' o' u' s' a', hZ l d kc ks n h Q (i + 1) cm' o' u' s' a' → Q' (.inl none) n (gW h cm' o' u' s' a')) → Zj l mX5_perform (d + 8) 0 0 0 [(0, .ref 3)] [] n (gW h cm1 o1 u1 s1 a1) Q') (P2 := fun cm2 o2 u2 s2 a2 => hZ l d kc ks n h Q (i + 1) cm2 o2 u2 s2 a2) hn (by omega) h9 h10 ?_ (fun h1 => h1) (fun h2 => h2)
  intro Q' hQ
  refine z_room (d' := d + 6) (by omega) (Nat.le_refl _) (Nat.le_refl _) (w_rs_cmd (dep := dep) (P := _) (by omega) hL h11 hu hx hp h12 h8 h5 hdep h0 h4 (fun z => absurd (wIs_one (i := 10) (j := 8) (by decide) (by decide) z hw) (by decide)) ?_ hQ)
  intro Q1 o1 q2 q3 q4 hf1 hQ1
  refine w_read8 (d := d) (ex := ex) (S := S) (by omega) hL ((hf1.2 1 (by decide)).trans h11) hu hx hst q2 q3 q4 (by rw [hf1.1 2 (by decide)]; exact h10) (by rw [hf1.1 2 (by decide)]; exact h6) hex hT hw ?_ ?_
  · intro  ps hps hexn hsm hk5 o2 u2 g2 g3 hf2 g11  huf
    refine hQ1 _ _ _ _ _ ?_
    intro Q2 hQ2
    have ho2 : o2 2 = o 2 := (hf2.1 2 (by decide)).trans (hf1.1 2 (by decide))
    have hc2 : ∀ c, c ≠ 1 → c ≠ 2 → o2 c = o0 c := fun c c1 c2 => (hf2.1 c c1).trans ((hf1.1 c c1).trans (hf.1 c c1 c2))
    have hps' := nx_le (x := x) hps
    refine w_perf8 (d := d) (ex := ex) (off := tS L x ps) (S := S) (by omega) (by rw [ho2]; exact h10) (by rw [ho2]; exact h6) g3 hT   ?_ ?_
    · intro S' hop o3 s3 a3 g6 gc gj hT' gs ga
      refine hQ2 _ _ _ _ _ (hok (nx L x ps) S' (by unfold cS; rw [if_neg hexn, hsm]; simp only [fin, rdT_2 hk5, hop]) _ _ _ _ _ ?_ ?_ ?_)
      · exact ⟨by rw [gc 1 (by decide)]; exact g11, by rw [gc 1 (by decide)]; exact g2, hps'.2, by rw [gj 5 (by decide), ho2]; exact h5, g6, by omega, by rw [gj 8 (by decide), ho2]; exact h8, by rw [gj 9 (by decide), ho2]; exact h9, by rw [gj 10 (by decide), ho2]; exact h10, by rw [gj 11 (by decide), ho2]; exact hm1, by rw [huf 0 (by decide)]; exact hu, hT'⟩
      · exact ⟨fun c c1 c2 => (gc c c2).trans (hc2 c c1 c2), by rw [huf 4 (by decide)]; exact hf.2.1, fun t ht => (gs t ht).trans (hf.2.2.1 t ht), fun t ht => (ga t ht).trans (hf.2.2.2 t ht)⟩
      · intro j hj
        rw [huf 2 (by decide), huf 3 (by decide)]
        exact hK j hj
    · intro hop o3 s3 a3 he gs ga
      refine hQ2 _ _ _ _ _ (herr 3 (tS L x ps) (by unfold cS; rw [if_neg hexn, hsm]; simp only [fin, rdT_2 hk5, hop]) _ _ _ _ _ ?_ ?_)
      · exact eS.of he g11 (by decide)
      · exact ⟨fun c c1 c2 => (he.1 c c1 c2).trans (hc2 c c1 c2), by rw [huf 4 (by decide)]; exact hf.2.1, fun t ht => (gs t ht).trans (hf.2.2.1 t ht), fun t ht => (ga t ht).trans (hf.2.2.2 t ht)⟩
  · intro k off hcs hk9 cm' hcm o2 u2 hu4 he
    refine hQ1 _ _ _ _ _ ?_
    intro Q2 hQ2
    have hne : ¬ o2 2 10 = 0 := he.ne hk9.1 hk9.2
    have hE : eS L k off o2 := eS.of (he.fp hf1) h11 hk9
    have hF : sF o0 u0 s0 a0 o2 u2 s a := ⟨fun c g1 g2 => ((he.fp hf1).1 c g1 g2).trans (hf.1 c g1 g2), hu4.trans hf.2.1, hf.2.2.1, hf.2.2.2⟩
    rcases hcm with rfl | ⟨q, rfl⟩
    · exact w_perfN (by omega) (hQ2 _ _ _ _ _ (herr k off hcs _ _ _ _ _ hE hF))
    · exact w_perfE (by omega) hne (hQ2 _ _ _ _ _ (herr k off hcs _ _ _ _ _ hE hF))

theorem t_cmd9 {l : zL} {d kc ks n : Nat} {h : Nat → va_E} {Q : zQ} {L : Nat} {x : Nat → Nat} {o0 u0 : Nat → Nat → Int32} {s0 : Nat → Nat → Int32} {a0 : Nat → Nat → Nat → Int32} {p ex dep i : Nat} {S : zS} {cm : Value} {o u : Nat → Nat → Int32} {s : Nat → Nat → Int32} {a : Nat → Nat → Nat → Int32} {bs rs : Nat → Nat} (hn : 104 ≤ n) (hL : L ≤ 600) (hx : ∀ i, x i < 256) (hs : sR L x p ex dep S o u s a) (hf : sF o0 u0 s0 a0 o u s a) (hK : sK dep bs rs u) (hdep : dep ≤ 2) (hi : i + 1 < 1000000) (h0 : dep = 0 → tKd L x (tS L x p) ≠ 0) (h4 : 0 < dep → tKd L x (tS L x p) ≠ 4) (hw : wIs L x (tS L x p) 9 = true) (herr : ∀ k off, cS L x 9 (tS L x p) ex S = .inl (k, off) → ∀ cm' o' u' s' a', eS L k off o' → sF o0 u0 s0 a0 o' u' s' a' → hZ l d kc ks n h Q (i + 1) cm' o' u' s' a') (hok : ∀ p' S', cS L x 9 (tS L x p) ex S = .inr (p', ex + 1, S') → ∀ cm' o' u' s' a', sR L x p' (ex + 1) dep S' o' u' s' a' → sF o0 u0 s0 a0 o' u' s' a' → sK dep bs rs u' → hZ l d kc ks n h Q (i + 1) cm' o' u' s' a') : hZ l d kc ks n h Q i cm o u s a := by
  obtain ⟨h11, h12, hp, h5, h6, hex, h8, h9, h10, hm1, hu, hT⟩ := hs
  have hst := (tS_le (x := x) hp).2
  refine k_turn (P1 := fun cm1 o1 u1 s1 a1 => ∀ {Q' : zQ}, (∀ cm' o' u' s' a', hZ l d kc ks n h Q (i + 1) cm' o' u' s' a' → Q' (.inl none) n (gW h cm' o' u' s' a')) → Zj l mX5_perform (d + 8) 0 0 0 [(0, .ref 3)] [] n (gW h cm1 o1 u1 s1 a1) Q') (P2 := fun cm2 o2 u2 s2 a2 => hZ l d kc ks n h Q (i + 1) cm2 o2 u2 s2 a2) hn (by omega) h9 h10 ?_ (fun h1 => h1) (fun h2 => h2)
  intro Q' hQ
  refine z_room (d' := d + 6) (by omega) (Nat.le_refl _) (Nat.le_refl _) (w_rs_cmd (dep := dep) (P := _) (by omega) hL h11 hu hx hp h12 h8 h5 hdep h0 h4 (fun z => absurd (wIs_one (i := 10) (j := 9) (by decide) (by decide) z hw) (by decide)) ?_ hQ)
  intro Q1 o1 q2 q3 q4 hf1 hQ1
  refine w_read9 (d := d) (ex := ex) (S := S) (by omega) hL ((hf1.2 1 (by decide)).trans h11) hu hx hst q2 q3 q4 (by rw [hf1.1 2 (by decide)]; exact h10) (by rw [hf1.1 2 (by decide)]; exact h6) hex hT hw ?_ ?_
  · intro  ps hps hexn hsm hk5 o2 u2 g2 g3 hf2 g11  huf
    refine hQ1 _ _ _ _ _ ?_
    intro Q2 hQ2
    have ho2 : o2 2 = o 2 := (hf2.1 2 (by decide)).trans (hf1.1 2 (by decide))
    have hc2 : ∀ c, c ≠ 1 → c ≠ 2 → o2 c = o0 c := fun c c1 c2 => (hf2.1 c c1).trans ((hf1.1 c c1).trans (hf.1 c c1 c2))
    have hps' := nx_le (x := x) hps
    refine w_perf9 (d := d) (ex := ex) (off := tS L x ps) (S := S) (by omega) (by rw [ho2]; exact h10) (by rw [ho2]; exact h6) g3 hT   ?_ ?_
    · intro S' hop o3 s3 a3 g6 gc gj hT' gs ga
      cases hop
      refine hQ2 _ _ _ _ _ (hok (nx L x ps) _ (by unfold cS; rw [if_neg hexn, hsm]; simp only [fin, rdT_2 hk5] <;> rfl) _ _ _ _ _ ?_ ?_ ?_)
      · exact ⟨by rw [gc 1 (by decide)]; exact g11, by rw [gc 1 (by decide)]; exact g2, hps'.2, by rw [gj 5 (by decide), ho2]; exact h5, g6, by omega, by rw [gj 8 (by decide), ho2]; exact h8, by rw [gj 9 (by decide), ho2]; exact h9, by rw [gj 10 (by decide), ho2]; exact h10, by rw [gj 11 (by decide), ho2]; exact hm1, by rw [huf 0 (by decide)]; exact hu, hT'⟩
      · exact ⟨fun c c1 c2 => (gc c c2).trans (hc2 c c1 c2), by rw [huf 4 (by decide)]; exact hf.2.1, fun t ht => (gs t ht).trans (hf.2.2.1 t ht), fun t ht => (ga t ht).trans (hf.2.2.2 t ht)⟩
      · intro j hj
        rw [huf 2 (by decide), huf 3 (by decide)]
        exact hK j hj
    · intro hop
      cases hop
  · intro k off hcs hk9 cm' hcm o2 u2 hu4 he
    refine hQ1 _ _ _ _ _ ?_
    intro Q2 hQ2
    have hne : ¬ o2 2 10 = 0 := he.ne hk9.1 hk9.2
    have hE : eS L k off o2 := eS.of (he.fp hf1) h11 hk9
    have hF : sF o0 u0 s0 a0 o2 u2 s a := ⟨fun c g1 g2 => ((he.fp hf1).1 c g1 g2).trans (hf.1 c g1 g2), hu4.trans hf.2.1, hf.2.2.1, hf.2.2.2⟩
    rcases hcm with rfl | ⟨q, rfl⟩
    · exact w_perfN (by omega) (hQ2 _ _ _ _ _ (herr k off hcs _ _ _ _ _ hE hF))
    · exact w_perfE (by omega) hne (hQ2 _ _ _ _ _ (herr k off hcs _ _ _ _ _ hE hF))

theorem t_no {l : zL} {d kc ks n : Nat} {h : Nat → va_E} {Q : zQ} {L : Nat} {x : Nat → Nat} {o0 u0 : Nat → Nat → Int32} {s0 : Nat → Nat → Int32} {a0 : Nat → Nat → Nat → Int32} {p ex dep i : Nat} {S : zS} {cm : Value} {o u : Nat → Nat → Int32} {s : Nat → Nat → Int32} {a : Nat → Nat → Nat → Int32} {bs rs : Nat → Nat} (hn : 104 ≤ n) (hL : L ≤ 600) (hx : ∀ i, x i < 256) (hs : sR L x p ex dep S o u s a) (hf : sF o0 u0 s0 a0 o u s a) (hK : sK dep bs rs u) (hdep : dep ≤ 2) (hi : i + 1 < 1000000) (h0 : dep = 0 → tKd L x (tS L x p) ≠ 0) (h4 : 0 < dep → tKd L x (tS L x p) ≠ 4) (hw : wId L x (tS L x p) = none) (herr : ∀ cm' o' u' s' a', eS L 1 (tS L x p) o' → sF o0 u0 s0 a0 o' u' s' a' → hZ l d kc ks n h Q (i + 1) cm' o' u' s' a') : hZ l d kc ks n h Q i cm o u s a := by
  have hno : ∀ j, j < 11 → ¬ wIs L x (tS L x p) j = true := fun j hj z => by
    rw [wId_of hj z] at hw
    cases hw
  obtain ⟨h11, h12, hp, h5, h6, hex, h8, h9, h10, hm1, hu, hT⟩ := hs
  have hst := (tS_le (x := x) hp).2
  refine k_turn (P1 := fun cm1 o1 u1 s1 a1 => ∀ {Q' : zQ}, (∀ cm' o' u' s' a', hZ l d kc ks n h Q (i + 1) cm' o' u' s' a' → Q' (.inl none) n (gW h cm' o' u' s' a')) → Zj l mX5_perform (d + 8) 0 0 0 [(0, .ref 3)] [] n (gW h cm1 o1 u1 s1 a1) Q') (P2 := fun cm2 o2 u2 s2 a2 => hZ l d kc ks n h Q (i + 1) cm2 o2 u2 s2 a2) hn (by omega) h9 h10 ?_ (fun h1 => h1) (fun h2 => h2)
  intro Q' hQ
  refine z_room (d' := d + 6) (by omega) (Nat.le_refl _) (Nat.le_refl _) (w_rs_cmd (dep := dep) (P := _) (by omega) hL h11 hu hx hp h12 h8 h5 hdep h0 h4 (hno 10 (by decide)) ?_ hQ)
  intro Q1 o1 q2 q3 q4 hf1 hQ1
  refine w_readNo (d := d) (ex := ex) (S := S) (by omega) hL ((hf1.2 1 (by decide)).trans h11) hu hx hst q2 q3 q4 (by rw [hf1.1 2 (by decide)]; exact h10) (fun j hj => hno j (by omega)) ?_
  intro cm' hcm o2 u2 hu4 he
  refine hQ1 _ _ _ _ _ ?_
  intro Q2 hQ2
  have hk9 : (1 : Nat) ≠ 0 ∧ (1 : Nat) < 10 := by decide
  have hne : ¬ o2 2 10 = 0 := he.ne hk9.1 hk9.2
  have hE : eS L 1 (tS L x p) o2 := eS.of (he.fp hf1) h11 hk9
  have hF : sF o0 u0 s0 a0 o2 u2 s a := ⟨fun c g1 g2 => ((he.fp hf1).1 c g1 g2).trans (hf.1 c g1 g2), hu4.trans hf.2.1, hf.2.2.1, hf.2.2.2⟩
  rcases hcm with rfl | ⟨q, rfl⟩
  · exact w_perfN (by omega) (hQ2 _ _ _ _ _ (herr _ _ _ _ _ hE hF))
  · exact w_perfE (by omega) hne (hQ2 _ _ _ _ _ (herr _ _ _ _ _ hE hF))
