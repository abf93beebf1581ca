/-! A RUN OF A SCRIPT -/
theorem prs_opn {L : Nat} {x : Nat → Nat} : prs L x = (match opn L x (tS L x 0) with
  | .inl e => .inl e
  | .inr (p, B, H, T) => lp L x (cmd L x 2) 0 (L + 1) p 0 (sNew B H T)) := by
  unfold prs opn
  by_cases hw : wIs L x (tS L x 0) 11 = true
  · rw [if_pos hw, if_pos hw]
    cases h1 : rdN L x oB (tE L x (tS L x 0)) with
    | inl e => rfl
    | inr q1 =>
      obtain ⟨B, p1⟩ := q1
      simp only
      cases h2 : rdN L x (oIn 2 6) p1 with
      | inl e => rfl
      | inr q2 =>
        obtain ⟨H, p2⟩ := q2
        simp only
        cases h3 : rdN L x (oIn 1 99) p2 with
        | inl e => rfl
        | inr q3 =>
          obtain ⟨T, p3⟩ := q3
          simp only
          cases h4 : rdT L x 5 p3 with
          | inl e => rfl
          | inr p4 => rfl
  · rw [if_neg hw, if_neg hw]
theorem opn_le {L : Nat} {x : Nat → Nat} {st p B H T : Nat} (hst : st ≤ L) (h : opn L x st = .inr (p, B, H, T)) : p ≤ L := by
  unfold opn at h
  by_cases hw : wIs L x st 11 = true
  · rw [if_pos hw] at h
    cases h1 : rdN L x oB (tE L x st) with
    | inl e => rw [h1] at h; cases h
    | inr q1 =>
      obtain ⟨B', p1⟩ := q1
      rw [h1] at h
      simp only at h
      cases h2 : rdN L x (oIn 2 6) p1 with
      | inl e => rw [h2] at h; cases h
      | inr q2 =>
        obtain ⟨H', p2⟩ := q2
        rw [h2] at h
        simp only at h
        cases h3 : rdN L x (oIn 1 99) p2 with
        | inl e => rw [h3] at h; cases h
        | inr q3 =>
          obtain ⟨T', p3⟩ := q3
          rw [h3] at h
          simp only at h
          cases h4 : rdT L x 5 p3 with
          | inl e => rw [h4] at h; cases h
          | inr p4 =>
            rw [h4] at h
            cases h
            obtain ⟨-, -, -, e1, -, -⟩ := rdN_ok h1
            obtain ⟨-, -, -, e2, -, -⟩ := rdN_ok h2
            obtain ⟨-, -, -, e3, -, -⟩ := rdN_ok h3
            obtain ⟨-, e4⟩ := rdT_ok h4
            rw [e4, e3, e2, e1]
            exact (nx_le (x := x) (nx_le (x := x) (nx_le (x := x) (nx_le (x := x) (tE_le' (x := x) hst).2).2).2).2).2
  · rw [if_neg hw] at h; cases h

theorem t_end {l : zL} {d kc ks n : Nat} {h : Nat → va_E} {Q : zQ} {L : Nat} {x : Nat → Nat} {o0 u0 : Nat → Nat → Int32} {s0 : Nat → Nat → Int32} {a0 : Nat → Nat → Nat → Int32} {p ex i : Nat} {S : zS} {cm : Value} {o u : Nat → Nat → Int32} {s : Nat → Nat → Int32} {a : Nat → Nat → Nat → Int32} (hn : 104 ≤ n) (hL : L ≤ 600) (hx : ∀ i, x i < 256) (hs : sR L x p ex 0 S o u s a) (hf : sF o0 u0 s0 a0 o u s a) (hi : i + 1 < 1000000) (hk : tKd L x (tS L x p) = 0) (hend : ∀ cm' o' u' s' a', o' 1 1 = nI L → o' 2 9 = 1 → o' 2 10 = 0 → o' 2 11 = -1 → cT S (s' 0) (a' 0) → sF o0 u0 s0 a0 o' u' s' a' → hZ l d kc ks n h Q (i + 1) cm' o' u' s' a') : hZ l d kc ks n h Q i cm o u s a := by
  obtain ⟨h11, h12, hp, h5, h6, hex, h8, h9, h10, hm1, hu, hT⟩ := hs
  have hst := (tS_le (x := x) hp).2
  refine k_turn (P1 := fun cm1 o1 u1 s1 a1 => ∀ {Q' : zQ}, (∀ cm' o' u' s' a', hZ l d kc ks n h Q (i + 1) cm' o' u' s' a' → Q' (.inl none) n (gW h cm' o' u' s' a')) → Zj l mX5_perform (d + 8) 0 0 0 [(0, .ref 3)] [] n (gW h cm1 o1 u1 s1 a1) Q') (P2 := fun cm2 o2 u2 s2 a2 => hZ l d kc ks n h Q (i + 1) cm2 o2 u2 s2 a2) hn (by omega) h9 h10 ?_ (fun h1 => h1) (fun h2 => h2)
  intro Q' hQ
  refine z_room (d' := d + 6) (by omega) (Nat.le_refl _) (Nat.le_refl _) (w_rs_end (d := d) (by omega) hL h11 hu hx hp h12 h8 h5 rfl hk ?_)
  intro o1 q2 q3 hf1
  refine hQ _ _ _ _ _ ?_
  intro Q2 hQ2
  have ho1 : o1 2 = o 2 := hf1.1 2 (by decide)
  refine w_perfN (by omega) (hQ2 _ _ _ _ _ (hend _ _ _ _ _ (by rw [up_ne (by decide)]; exact (hf1.2 1 (by decide)).trans h11) (by rw [up_eq, up_eq]) (by rw [up_eq, up_ne (by decide), ho1]; exact h10) (by rw [up_eq, up_ne (by decide), ho1]; exact hm1) hT ⟨fun c c1 c2 => by rw [up_ne c2]; exact (hf1.1 c c1).trans (hf.1 c c1 c2), hf.2.1, hf.2.2.1, hf.2.2.2⟩))

theorem run_all {l : zL} {d kc ks n : Nat} {h : Nat → va_E} {Q : zQ} {L : Nat} {x : Nat → Nat} {cm : Value} {o u : Nat → Nat → Int32} {s : Nat → Nat → Int32} {a : Nat → Nat → Nat → Int32} (hn : 104 ≤ n) (hL : L ≤ 600) (hx : ∀ i, x i < 256) (h11 : o 1 1 = nI L) (h12 : o 1 2 = 0) (h5 : o 2 5 = 0) (h6 : o 2 6 = 0) (h8 : o 2 8 = 0) (h9 : o 2 9 = 0) (h10 : o 2 10 = 0) (hm1 : o 2 11 = -1) (hu : ∀ i, i < L → u 0 i = nI (x i)) (herr : ∀ k off, prs L x = .inl (k, off) → hER l d kc ks n h Q L o u s a k off) (hend : ∀ q ex S, prs L x = .inr (q, ex, S) → ∀ i' cm' o' u' s' a', i' < 1000000 → o' 1 1 = nI L → o' 2 9 = 1 → o' 2 10 = 0 → o' 2 11 = -1 → cT S (s' 0) (a' 0) → sF o u s a o' u' s' a' → hZ l d kc ks n h Q i' cm' o' u' s' a') : hZ l d kc ks n h Q 0 cm o u s a := by
  have hst := (tS_le (x := x) (Nat.zero_le L)).2
  have hpo := prs_opn (L := L) (x := x)
  refine k_turn (P1 := fun cm1 o1 u1 s1 a1 => ∀ {Q' : zQ}, (∀ cm' o' u' s' a', hZ l d kc ks n h Q (0 + 1) cm' o' u' s' a' → Q' (.inl none) n (gW h cm' o' u' s' a')) → Zj l mX5_perform (d + 8) 0 0 0 [(0, .ref 3)] [] n (gW h cm1 o1 u1 s1 a1) Q') (P2 := fun cm2 o2 u2 s2 a2 => hZ l d kc ks n h Q (0 + 1) cm2 o2 u2 s2 a2) hn (by decide) h9 h10 ?_ (fun h1 => h1) (fun h2 => h2)
  intro Q' hQ
  refine z_room (d' := d + 6) (by omega) (Nat.le_refl _) (Nat.le_refl _) (w_rs_open (d := d) (p := 0) (P := _) (by omega) hL h11 hu hx (Nat.zero_le _) h12 h8 ?_ hQ)
  intro Q1 o1 q2 q3 q4 hf1 hQ1
  have ho1 : o1 2 = o 2 := hf1.1 2 (by decide)
  refine w_readOpening (d := d) (by omega) hL ((hf1.2 1 (by decide)).trans h11) hu hx hst q2 q3 q4 (by rw [ho1]; exact h10) ?_ ?_
  · intro p B H T hop o2 u2 s2 a2 g2 g8 gc g11 gj gu hT' gs ga
    refine hQ1 _ _ _ _ _ ?_
    intro Q2 hQ2
    have hpL := opn_le hst hop
    rw [hop] at hpo
    simp only at hpo
    have hF : sF o u s a o2 u2 s2 a2 := ⟨fun c c1 c2 => (gc c c1 c2).trans (hf1.1 c c1), gu 4 (by decide), gs, ga⟩
    have hS : sR L x p 0 0 (sNew B H T) o2 u2 s2 a2 := ⟨g11, g2, hpL, by rw [gj 5 (by decide), ho1]; exact h5, by rw [gj 6 (by decide), ho1]; exact h6, by omega, g8, by rw [gj 9 (by decide), ho1]; exact h9, by rw [gj 10 (by decide), ho1]; exact h10, by rw [gj 11 (by decide), ho1]; exact hm1, by rw [gu 0 (by decide)]; exact hu, hT'⟩
    have hB : 20 ^ 2 * (L + 1 - p) ≤ 20 ^ 2 * 601 := Nat.mul_le_mul_left _ (by omega)
    refine w_perfN (by omega) (hQ2 _ _ _ _ _ (lp_run (stop := 0) (bs := fun _ => 0) (rs := fun _ => 0) (cM_2 (o0 := o) (u0 := u) (s0 := s) (a0 := a) hn hL hx) (fun _ => rfl) (fun e => absurd e (by decide)) (L + 1) p 0 1 (sNew B H T) _ _ _ _ _ (by omega) hS hF (fun j hj => absurd hj (Nat.not_lt_zero j)) (by omega) (fun k off hl => herr k off (hpo.trans hl)) ?_))
    intro q ex' S' hl hk0 hpq hqL i' cm' o' u' s' a' f1 f2 f3 f4
    exact t_end hn hL hx f1 f2 (by omega) hk0 (fun cm2 o2' u2' s2' a2' e1 e2 e3 e4 e5 e6 => hend _ _ _ (hpo.trans hl) (i' + 1) cm2 o2' u2' s2' a2' (by omega) e1 e2 e3 e4 e5 e6)
  · intro k off hop hk9 o2 u2 hu4 he
    refine hQ1 _ _ _ _ _ ?_
    intro Q2 hQ2
    rw [hop] at hpo
    exact w_perfN (by omega) (hQ2 _ _ _ _ _ (herr k off hpo _ _ _ _ _ _ (by decide) (eS.of (he.fp hf1) h11 hk9) ⟨fun c g1 g2 => (he.fp hf1).1 c g1 g2, hu4, fun _ _ => rfl, fun _ _ => rfl⟩))

set_option maxHeartbeats 4000000 in
set_option maxRecDepth 100000 in
theorem K_runScript {l : zL} {d kc ks n : Nat} {h : Nat → va_E} {cm : Value} {o u : Nat → Nat → Int32} {s : Nat → Nat → Int32} {a : Nat → Nat → Nat → Int32} {g : zGs} {Q : zQ} (hn : 104 ≤ n) (hC : cI g o u s a) (hq : ∀ t v g' cm' o' u' s' a', f_runScript g = (t, v, g') → cI g' o' u' s' a' → Q (oc IAE ISE t v) n (gW h cm' o' u' s' a')) : Zj l mX7_runScript (d + 12) (kc + 3) (ks + 18) 0 [(0, .ref 0)] [] n (gW h cm o u s a) Q := by
  obtain ⟨⟨B, H, T, K, V, c⟩, sv, Sn, k, hi, L, x, ek, eo, rl, rb⟩ := g
  obtain ⟨hT, ho05, hsv, hsn, hk8, ho32, ⟨nx, hnx, ho31, hhi⟩, hL, ho11, hu0, hx256, ho210, ho211, hrl, ho41, hu4, hrb⟩ := id hC
  obtain ⟨hR, ⟨hI, hd3, h3⟩, e9, e10, e11, e12, e13, e14, e15⟩ := id hT
  obtain ⟨okb, h2H, hH6, h1T, hT99, e6, e7, e8, ek_, ev_, eh_, ekv, ez⟩ := id hR
  have hle := okb.le
  refine z_aload_n (j := 0) dX7_runScript_0 rfl ?_
  refine z_get (v := .ref 3) (by omega) gW_0 fX7_21 rfl dX7_runScript_1 ?_
  refine z_kV [] 0 0 (kc + 3) (ks + 18) yoX5_begin yvX5_begin rfl (by decide) lX7_86 (by omega) gW_3 rfl rfl (Nat.le_of_ble_eq_true rfl) (Nat.le_of_ble_eq_true rfl) dX7_runScript_4 (by omega) (by omega) (z_room (by omega) (Nat.le_refl _) (Nat.le_refl _) (w_scBegin (d := 0) (by omega) (fun o1 b12 b11 b5 b6 b8 b9 b10 bm1 bc => ⟨rfl, ?_⟩)))
  refine z_iconst (v := 0) dX7_runScript_7 (by decide) ?_
  refine z_istore_n [1, 0] [(0, .ref 0), (1, .int 0)] dX7_runScript_8 (by decide) rfl ?_
  refine z_room (d' := d + 9) (by omega) (Nat.le_refl _) (Nat.le_refl _) (run_all (d := d) (L := L) (x := x) hn hL hx256 (b11.trans ho11) b12 b5 b6 b8 b9 b10 bm1 hu0 ?_ ?_)
  · intro k9 off hp i' cm' o' u' s' a' hi9 hE hF
    obtain ⟨e11, e10, e11b, hk0, hk10⟩ := hE
    refine k_err hn hi9 (by rw [e10]; exact nI_ne0 (by omega) (by omega)) ?_
    have kf : ∀ c, c ≠ 1 → c ≠ 2 → (va_up o' 1 (va_up (o' 1) 1 0)) c = o c := fun c c1 c2 => by rw [up_ne c1]; exact (hF.1 c c1 c2).trans (bc c c1 c2)
    refine hq 0 (-1) (gErr (gInp ((B, H, T, K, V, c), sv, Sn, k, hi, L, x, ek, eo, rl, rb) 0 x) (nI k9) (nI off)) _ _ _ _ _ ?_ ?_
    · unfold f_runScript
      rw [show prs (gL ((B, H, T, K, V, c), sv, Sn, k, hi, L, x, ek, eo, rl, rb)) (gX ((B, H, T, K, V, c), sv, Sn, k, hi, L, x, ek, eo, rl, rb)) = .inl (k9, off) from hp]
      rfl
    · exact ⟨by rw [hF.2.2.1 1 (by decide), hF.2.2.2 1 (by decide)]; exact hT, by rw [kf 0 (by decide) (by decide)]; exact ho05, hsv, fun e => by rw [hF.2.2.1 3 (by decide), hF.2.2.2 3 (by decide)]; exact hsn e, hk8, by rw [kf 3 (by decide) (by decide)]; exact ho32, ⟨nx, hnx, by rw [kf 3 (by decide) (by decide)]; exact ho31, fun j hj => by rw [hF.2.2.1 _ (by omega), hF.2.2.2 _ (by omega)]; exact hhi j hj⟩, Nat.zero_le _, by rw [up_eq, up_eq]; rfl, fun i hi => absurd hi (Nat.not_lt_zero i), hx256, by rw [up_ne (by decide)]; exact e10, by rw [up_ne (by decide)]; exact e11b, hrl, by rw [kf 4 (by decide) (by decide)]; exact ho41, by rw [hF.2.1]; exact hu4, hrb⟩
  · intro q ex S9 hp i' cm' o' u' s' a' hi9 e11 e9b e10 em1 hT0 hF
    have kf : ∀ c, c ≠ 1 → c ≠ 2 → o' c = o c := fun c c1 c2 => (hF.1 c c1 c2).trans (bc c c1 c2)
    refine k_end (nx9 := nx) (k := k) (S1 := (B, H, T, K, V, c)) (S2 := S9) hn hi9 e9b e10 hnx (by rw [kf 3 (by decide) (by decide)]; exact ho31) hk8 (by rw [kf 3 (by decide) (by decide)]; exact ho32) (by rw [hF.2.2.1 1 (by decide), hF.2.2.2 1 (by decide)]; exact hT) hT0 (fun o2 s1 a1 s2 a2 hM1 hM2 k31 k32 ko => ?_)
    refine hq 0 (nI (sCnt S9)) (gErr (gInp (gPush ((B, H, T, K, V, c), sv, Sn, k, hi, L, x, ek, eo, rl, rb) S9) 0 x) 0 (-1)) _ _ _ _ _ ?_ ?_
    · unfold f_runScript
      rw [show prs (gL ((B, H, T, K, V, c), sv, Sn, k, hi, L, x, ek, eo, rl, rb)) (gX ((B, H, T, K, V, c), sv, Sn, k, hi, L, x, ek, eo, rl, rb)) = .inr (q, ex, S9) from hp]
      rfl
    · have hP := cI.push (S' := S9) (o' := fun c => if c = 3 then o2 3 else o c) (s' := fun t => if t = 1 then s2 else if t = 4 + nx then s1 else s t) (a' := fun t => if t = 1 then a2 else if t = 4 + nx then a1 else a t) hC hnx ho31 (by simp only [if_true]; exact hM2) (by simp only [if_neg (show ¬ 4 + nx = 1 by omega), if_true]; exact hM1) (fun t h1 h2 => by simp only [if_neg h1, if_neg h2]) (fun t h1 h2 => by simp only [if_neg h1, if_neg h2]) (by simp only [if_true]; exact k31) (by simp only [if_true]; exact k32) (fun c hc => by simp only [if_neg hc])
      obtain ⟨c1, c2, c3, c4, c5, c6, ⟨ny, c7, c8, c9⟩, -, -, -, -, -, -, c10, c11, c12, c13⟩ := hP
      have ks : ∀ t, t ≠ 0 → va_up (va_up s' (4 + nx) s1) 1 s2 t = (if t = 1 then s2 else if t = 4 + nx then s1 else s t) := fun t t0 => by
        by_cases h1 : t = 1
        · rw [if_pos h1, h1, up_eq]
        · rw [if_neg h1, up_ne h1]
          by_cases h2 : t = 4 + nx
          · rw [if_pos h2, h2, up_eq]
          · rw [if_neg h2, up_ne h2]; exact hF.2.2.1 t t0
      have ka : ∀ t, t ≠ 0 → va_up (va_up a' (4 + nx) a1) 1 a2 t = (if t = 1 then a2 else if t = 4 + nx then a1 else a t) := fun t t0 => by
        by_cases h1 : t = 1
        · rw [if_pos h1, h1, up_eq]
        · rw [if_neg h1, up_ne h1]
          by_cases h2 : t = 4 + nx
          · rw [if_pos h2, h2, up_eq]
          · rw [if_neg h2, up_ne h2]; exact hF.2.2.2 t t0
      have k2 : ∀ c, c ≠ 1 → c ≠ 2 → c ≠ 3 → o2 c = o c := fun c d1 d2 d3 => by rw [ko c d3, up_ne d1]; exact kf c d1 d2
      refine ⟨by rw [ks 1 (by decide), ka 1 (by decide)]; exact c1, by rw [k2 0 (by decide) (by decide) (by decide)]; exact ho05, hsv, fun e => by rw [ks 3 (by decide), ka 3 (by decide)]; exact c4 e, c5, k32, ⟨ny, c7, by simpa using c8, fun j hj => by rw [ks _ (by omega), ka _ (by omega)]; exact c9 j hj⟩, Nat.zero_le _, by rw [ko 1 (by decide), up_eq, up_eq]; rfl, fun i hi => absurd hi (Nat.not_lt_zero i), hx256, by rw [ko 2 (by decide), up_ne (by decide)]; exact e10, by rw [ko 2 (by decide), up_ne (by decide)]; exact em1, hrl, by rw [k2 4 (by decide) (by decide) (by decide)]; exact ho41, by rw [hF.2.1]; exact hu4, hrb⟩
