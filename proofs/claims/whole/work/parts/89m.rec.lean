/-! THE CLASS'S SCRIPT: all its turns, by the depth of the repeats -/
theorem cmd_s {L : Nat} {x : Nat → Nat} {st w : Nat} (hw : wId L x st = some w) (h10 : w ≠ 10) (r ex : Nat) (S : zS) : cmd L x r st ex S = cS L x w st ex S := by
  cases r with
  | zero => rw [cmd_0, hw]; simp only [if_neg h10]
  | succ r => rw [cmd_1, hw]; simp only [if_neg h10]
theorem cmd_n {L : Nat} {x : Nat → Nat} {st : Nat} (hw : wId L x st = none) (r ex : Nat) (S : zS) : cmd L x r st ex S = .inl (1, st) := by
  cases r with
  | zero => rw [cmd_0, hw]
  | succ r => rw [cmd_1, hw]
theorem cmd_d {L : Nat} {x : Nat → Nat} {st : Nat} (hw : wId L x st = some 10) (ex : Nat) (S : zS) : cmd L x 0 st ex S = .inl (4, st) := by
  rw [cmd_0, hw]; simp only [if_true]
theorem cmd_r {L : Nat} {x : Nat → Nat} {st : Nat} (hw : wId L x st = some 10) (r ex : Nat) (S : zS) : cmd L x (r + 1) st ex S = cRp L x (cmd L x r) st ex S := by
  rw [cmd_1, hw]; simp only [if_true]
theorem rpo_i {L : Nat} {x : Nat → Nat} {C : Nat → Nat → zS → zO} {st ex : Nat} {S : zS} {e : zE2} (h : rpo L x (tE L x st) = .inl e) : cRp L x C st ex S = .inl e := by
  unfold rpo at h
  unfold cRp
  cases hd : rdN L x (oIn 1 20) (tE L x st) with
  | inl e2 => rw [hd] at h; simp only at h ⊢; exact congrArg Sum.inl (Sum.inl.inj h)
  | inr q =>
    obtain ⟨v, p1⟩ := q
    rw [hd] at h
    simp only at h ⊢
    cases hd3 : rdT L x 3 p1 with
    | inl e2 => rw [hd3] at h; simp only at h ⊢; exact congrArg Sum.inl (Sum.inl.inj h)
    | inr p3 => rw [hd3] at h; cases h
theorem rpo_o {L : Nat} {x : Nat → Nat} {C : Nat → Nat → zS → zO} {st ex t p2 : Nat} {S : zS} (h : rpo L x (tE L x st) = .inr (t, p2)) : cRp L x C st ex S = (match rp L x C p2 t p2 ex S with
  | .inl e => .inl e
  | .inr (p3, ex', S') => match rdT L x 5 p3 with
    | .inl e => .inl e
    | .inr p4 => .inr (p4, ex', S')) := by
  unfold rpo at h
  unfold cRp
  cases hd : rdN L x (oIn 1 20) (tE L x st) with
  | inl e2 => rw [hd] at h; cases h
  | inr q =>
    obtain ⟨v, p1⟩ := q
    rw [hd] at h
    simp only at h ⊢
    cases hd3 : rdT L x 3 p1 with
    | inl e2 => rw [hd3] at h; cases h
    | inr p3 => rw [hd3] at h; cases h; rfl
theorem rpo_ge {L : Nat} {x : Nat → Nat} {p t p2 : Nat} (hp : p ≤ L) (h : rpo L x p = .inr (t, p2)) : p ≤ p2 := by
  unfold rpo at h
  cases hd : rdN L x (oIn 1 20) p with
  | inl e2 => rw [hd] at h; cases h
  | inr q =>
    obtain ⟨v, p1⟩ := q
    rw [hd] at h
    simp only at h
    obtain ⟨-, -, -, e1, -, -⟩ := rdN_ok hd
    have h1 := nx_le (x := x) hp
    cases hd3 : rdT L x 3 p1 with
    | inl e2 => rw [hd3] at h; cases h
    | inr p3 =>
      rw [hd3] at h
      cases h
      rw [(rdT_ok hd3).2, e1]
      exact Nat.le_trans h1.1 (nx_le (x := x) h1.2).1
/-- less text ahead, fewer turns -/
theorem turns_1 {c L p q : Nat} (hc : 1 ≤ c) (h1 : p < q) (h2 : q ≤ L) : 1 + c * (L + 1 - q) ≤ c * (L + 1 - p) := by
  have h3 : c * (L + 1 - q + 1) ≤ c * (L + 1 - p) := Nat.mul_le_mul_left c (by omega)
  rw [Nat.mul_add] at h3
  omega
section REC
variable {l : zL} {d kc ks n : Nat} {h : Nat → va_E} {Q : zQ} {L : Nat} {x : Nat → Nat} {o0 u0 : Nat → Nat → Int32} {s0 : Nat → Nat → Int32} {a0 : Nat → Nat → Nat → Int32}
/-- where an error leads -/
def hER (l : zL) (d kc ks n : Nat) (h : Nat → va_E) (Q : zQ) (L : Nat) (o0 u0 : Nat → Nat → Int32) (s0 : Nat → Nat → Int32) (a0 : Nat → Nat → Nat → Int32) (k off : Nat) : Prop := ∀ i' cm' o' u' s' a', i' < 1000000 → eS L k off o' → sF o0 u0 s0 a0 o' u' s' a' → hZ l d kc ks n h Q i' cm' o' u' s' a'
/-- a command, with its turns -/
def cM (l : zL) (d kc ks n : Nat) (h : Nat → va_E) (Q : zQ) (L : Nat) (x : Nat → Nat) (o0 u0 : Nat → Nat → Int32) (s0 : Nat → Nat → Int32) (a0 : Nat → Nat → Nat → Int32) (r : Nat) : Prop :=
  ∀ p ex i S cm o u s a bs rs, sR L x p ex (2 - r) S o u s a → sF o0 u0 s0 a0 o u s a → sK (2 - r) bs rs u → (2 - r = 0 → tKd L x (tS L x p) ≠ 0) → (0 < 2 - r → tKd L x (tS L x p) ≠ 4) → i + 20 ^ r * (L + 1 - p) + 1 < 1000000 →
    (∀ k off, cmd L x r (tS L x p) ex S = .inl (k, off) → hER l d kc ks n h Q L o0 u0 s0 a0 k off) →
    (∀ p' ex' S', cmd L x r (tS L x p) ex S = .inr (p', ex', S') → ∀ i' cm' o' u' s' a', sR L x p' ex' (2 - r) S' o' u' s' a' → sF o0 u0 s0 a0 o' u' s' a' → sK (2 - r) bs rs u' → i' + 20 ^ r * (L + 1 - p') ≤ i + 20 ^ r * (L + 1 - p) → hZ l d kc ks n h Q i' cm' o' u' s' a') → hZ l d kc ks n h Q i cm o u s a
theorem c_pos : ∀ r : Nat, 1 ≤ 20 ^ r
  | 0 => by decide
  | r + 1 => by
    have := c_pos r
    rw [Nat.pow_succ]
    omega
/-- a command that is no repeat -/
theorem cm_simple (hn : 104 ≤ n) (hL : L ≤ 600) (hx : ∀ i, x i < 256) {r w : Nat} (hr : r ≤ 2) {p ex i : Nat} {S : zS} {cm : Value} {o u : Nat → Nat → Int32} {s : Nat → Nat → Int32} {a : Nat → Nat → Nat → Int32} {bs rs : Nat → Nat} (hs : sR L x p ex (2 - r) S o u s a) (hf : sF o0 u0 s0 a0 o u s a) (hK : sK (2 - r) bs rs u) (h0 : 2 - r = 0 → tKd L x (tS L x p) ≠ 0) (h4 : 0 < 2 - r → tKd L x (tS L x p) ≠ 4) (hi : i + 20 ^ r * (L + 1 - p) + 1 < 1000000) (hw : wId L x (tS L x p) = some w) (h10 : w ≠ 10)
    (herr : ∀ k off, cmd L x r (tS L x p) ex S = .inl (k, off) → hER l d kc ks n h Q L o0 u0 s0 a0 k off)
    (hok : ∀ p' ex' S', cmd L x r (tS L x p) ex S = .inr (p', ex', S') → ∀ i' cm' o' u' s' a', sR L x p' ex' (2 - r) S' o' u' s' a' → sF o0 u0 s0 a0 o' u' s' a' → sK (2 - r) bs rs u' → i' + 20 ^ r * (L + 1 - p') ≤ i + 20 ^ r * (L + 1 - p) → hZ l d kc ks n h Q i' cm' o' u' s' a') : hZ l d kc ks n h Q i cm o u s a := by
  have hpL := hs.2.2.1
  obtain ⟨hw11, hwis, hstL⟩ := wId_some hw
  have hpos : 1 ≤ 20 ^ r * (L + 1 - p) := Nat.mul_pos (c_pos r) (by omega)
  have e : ∀ w', w' = w → cmd L x r (tS L x p) ex S = cS L x w' (tS L x p) ex S := fun w' e9 => by rw [e9]; exact cmd_s hw h10 r ex S
  have hE : ∀ w', w' = w → ∀ k off, cS L x w' (tS L x p) ex S = .inl (k, off) → ∀ cm' o' u' s' a', eS L k off o' → sF o0 u0 s0 a0 o' u' s' a' → hZ l d kc ks n h Q (i + 1) cm' o' u' s' a' := fun w' e9 k off hc cm' o' u' s' a' g1 g2 => herr k off ((e w' e9).trans hc) _ _ _ _ _ _ (by omega) g1 g2
  have hO : ∀ w', w' = w → ∀ p' S', cS L x w' (tS L x p) ex S = .inr (p', ex + 1, S') → ∀ cm' o' u' s' a', sR L x p' (ex + 1) (2 - r) S' o' u' s' a' → sF o0 u0 s0 a0 o' u' s' a' → sK (2 - r) bs rs u' → hZ l d kc ks n h Q (i + 1) cm' o' u' s' a' := fun w' e9 p' S' hc cm' o' u' s' a' g1 g2 g3 => by
    have hc' := (e w' e9).trans hc
    have hfr := cmd_fr r _ _ _ _ _ _ hc'
    have h9 := turns_1 (c_pos r) (show p < p' from by have := tS_le (x := x) hpL; omega) hfr.2
    exact hok p' (ex + 1) S' hc' (i + 1) cm' o' u' s' a' g1 g2 g3 (by omega)
  have h2r : 2 - r ≤ 2 := Nat.sub_le _ _
  rcases (show w = 0 ∨ w = 1 ∨ w = 2 ∨ w = 3 ∨ w = 4 ∨ w = 5 ∨ w = 6 ∨ w = 7 ∨ w = 8 ∨ w = 9 by omega) with g | g | g | g | g | g | g | g | g | g
  · subst g; exact t_cmd0 hn hL hx hs hf hK h2r (by omega) h0 h4 hwis (hE _ rfl) (hO _ rfl)
  · subst g; exact t_cmd1 hn hL hx hs hf hK h2r (by omega) h0 h4 hwis (hE _ rfl) (hO _ rfl)
  · subst g; exact t_cmd2 hn hL hx hs hf hK h2r (by omega) h0 h4 hwis (hE _ rfl) (hO _ rfl)
  · subst g; exact t_cmd3 hn hL hx hs hf hK h2r (by omega) h0 h4 hwis (hE _ rfl) (hO _ rfl)
  · subst g; exact t_cmd4 hn hL hx hs hf hK h2r (by omega) h0 h4 hwis (hE _ rfl) (hO _ rfl)
  · subst g; exact t_cmd5 hn hL hx hs hf hK h2r (by omega) h0 h4 hwis (hE _ rfl) (hO _ rfl)
  · subst g; exact t_cmd6 hn hL hx hs hf hK h2r (by omega) h0 h4 hwis (hE _ rfl) (hO _ rfl)
  · subst g; exact t_cmd7 hn hL hx hs hf hK h2r (by omega) h0 h4 hwis (hE _ rfl) (hO _ rfl)
  · subst g; exact t_cmd8 hn hL hx hs hf hK h2r (by omega) h0 h4 hwis (hE _ rfl) (hO _ rfl)
  · subst g; exact t_cmd9 hn hL hx hs hf hK h2r (by omega) h0 h4 hwis (hE _ rfl) (hO _ rfl)
theorem cM_0 (hn : 104 ≤ n) (hL : L ≤ 600) (hx : ∀ i, x i < 256) : cM l d kc ks n h Q L x o0 u0 s0 a0 0 := by
  intro p ex i S cm o u s a bs rs hs hf hK h0 h4 hi herr hok
  have hpL := hs.2.2.1
  cases hw : wId L x (tS L x p) with
  | none => exact t_no hn hL hx hs hf hK (by decide) (by omega) h0 h4 hw (fun cm' o' u' s' a' g1 g2 => herr 1 _ (cmd_n hw 0 ex S) _ _ _ _ _ _ (by omega) g1 g2)
  | some w =>
    by_cases h10 : w = 10
    · subst h10
      exact t_rep hn hL hx hs hf hK (by decide) (by omega) (wId_some hw).2.1 (fun _ cm' o' u' s' a' g1 g2 => herr 4 _ (cmd_d hw ex S) _ _ _ _ _ _ (by omega) g1 g2) (fun h9 => absurd h9 (by decide)) (fun h9 => absurd h9 (by decide))
    · exact cm_simple hn hL hx (by decide) hs hf hK h0 h4 hi hw h10 herr hok
theorem lp_run {r stop : Nat} (hC : cM l d kc ks n h Q L x o0 u0 s0 a0 r) (hst0 : 2 - r = 0 → stop = 0) (hst4 : 0 < 2 - r → stop = 4) {bs rs : Nat → Nat} : ∀ f p ex i S cm o u s a, L + 1 ≤ f + p → sR L x p ex (2 - r) S o u s a → sF o0 u0 s0 a0 o u s a → sK (2 - r) bs rs u → i + 20 ^ r * (L + 1 - p) + 1 < 1000000 →
    (∀ k off, lp L x (cmd L x r) stop f p ex S = .inl (k, off) → hER l d kc ks n h Q L o0 u0 s0 a0 k off) →
    (∀ q ex' S', lp L x (cmd L x r) stop f p ex S = .inr (nx L x q, ex', S') → tKd L x (tS L x q) = stop → p ≤ q → q ≤ L → ∀ i' cm' o' u' s' a', sR L x q ex' (2 - r) S' o' u' s' a' → sF o0 u0 s0 a0 o' u' s' a' → sK (2 - r) bs rs u' → i' + 20 ^ r * (L + 1 - q) ≤ i + 20 ^ r * (L + 1 - p) → hZ l d kc ks n h Q i' cm' o' u' s' a') → hZ l d kc ks n h Q i cm o u s a := by
  intro f
  induction f with
  | zero =>
    intro p ex i S cm o u s a hfp hs
    have := hs.2.2.1
    omega
  | succ f ih =>
    intro p ex i S cm o u s a hfp hs hf hK hi herr hdone
    have hpL := hs.2.2.1
    by_cases hk : tKd L x (tS L x p) = stop
    · exact hdone p ex S (by rw [lp, if_pos hk]; rfl) hk (Nat.le_refl _) hpL i cm o u s a hs hf hK (Nat.le_refl _)
    · refine hC p ex i S cm o u s a bs rs hs hf hK (fun e z => hk (by rw [z, hst0 e])) (fun e z => hk (by rw [z, hst4 e])) hi (fun k off hc => herr k off (by rw [lp, if_neg hk, hc])) (fun p' ex' S' hc i' cm' o' u' s' a' g1 g2 g3 g4 => ?_)
      have hfr := cmd_fr r _ _ _ _ _ _ hc
      have hlt : p < p' := by have := tS_le (x := x) hpL; omega
      refine ih p' ex' i' S' cm' o' u' s' a' (by omega) g1 g2 g3 (by omega) (fun k off hl => herr k off (by rw [lp, if_neg hk, hc]; exact hl)) (fun q ex2 S2 hl hk2 hpq hqL i2 cm2 o2 u2 s2 a2 g5 g6 g7 g8 => ?_)
      exact hdone q ex2 S2 (by rw [lp, if_neg hk, hc]; exact hl) hk2 (by omega) hqL i2 cm2 o2 u2 s2 a2 g5 g6 g7 (by omega)
/-- the rounds of a repeat's body -/
theorem rp_run (hn : 104 ≤ n) (hL : L ≤ 600) (hx : ∀ i, x i < 256) {r p2 qe : Nat} (hr : r ≤ 1) (hp2 : p2 ≤ L) (hC : cM l d kc ks n h Q L x o0 u0 s0 a0 r) (hqe : ∀ ex S q e S', lp L x (cmd L x r) 4 (L + 1) p2 ex S = .inr (q, e, S') → q = qe) {bs rs : Nat → Nat} : ∀ k ex i S cm o u s a, 1 ≤ k → k ≤ 20 → sR L x p2 ex (2 - r) S o u s a → sF o0 u0 s0 a0 o u s a → sK (1 - r) bs rs u → u 2 (1 - r) = nI p2 → u 3 (1 - r) = nI k → i + k * (20 ^ r * (L + 1 - p2)) + 1 < 1000000 →
    (∀ e off, (rp L x (cmd L x r) p2 k p2 ex S = .inl (e, off) ∨ ∃ ex' S', rp L x (cmd L x r) p2 k p2 ex S = .inr (qe, ex', S') ∧ rdT L x 5 qe = .inl (e, off)) → hER l d kc ks n h Q L o0 u0 s0 a0 e off) →
    (∀ ex' S' q, rp L x (cmd L x r) p2 k p2 ex S = .inr (qe, ex', S') → rdT L x 5 qe = .inr q → p2 ≤ qe → qe ≤ L → ∀ i' cm' o' u' s' a', sR L x q ex' (1 - r) S' o' u' s' a' → sF o0 u0 s0 a0 o' u' s' a' → sK (1 - r) bs rs u' → i' + k * (20 ^ r * (L + 1 - qe)) ≤ i + k * (20 ^ r * (L + 1 - p2)) → hZ l d kc ks n h Q i' cm' o' u' s' a') → hZ l d kc ks n h Q i cm o u s a := by
  have e2r : 2 - r = (1 - r) + 1 := by omega
  intro k
  induction k with
  | zero => intro ex i S cm o u s a h1; omega
  | succ k ih =>
    intro ex i S cm o u s a _ hk20 hs hf hK hb hr3 hi herr hok
    have hX : (k + 1) * (20 ^ r * (L + 1 - p2)) = k * (20 ^ r * (L + 1 - p2)) + 20 ^ r * (L + 1 - p2) := Nat.succ_mul _ _
    have hY : (k + 1) * (20 ^ r * (L + 1 - qe)) = k * (20 ^ r * (L + 1 - qe)) + 20 ^ r * (L + 1 - qe) := Nat.succ_mul _ _
    refine lp_run (stop := 4) (bs := fun j => if j = 1 - r then p2 else bs j) (rs := fun j => if j = 1 - r then k + 1 else rs j) hC (fun e => by omega) (fun _ => rfl) (L + 1) p2 ex i S cm o u s a (by omega) hs hf ?_ (by omega) ?_ ?_
    · intro j hj
      by_cases hj1 : j = 1 - r
      · subst hj1
        simp only [if_true]
        exact ⟨hb, hr3⟩
      · simp only [if_neg hj1]
        exact hK j (by omega)
    · intro e off hl
      exact herr e off (Or.inl (by rw [rp, hl]))
    · intro q ex1 S1 hl hk4 hpq hqL i1 cm1 o1 u1 s1 a1 g1 g2 g3 g4
      have hqe1 : nx L x q = qe := hqe _ _ _ _ _ hl
      have hq4 := tKd_lt (L := L) (x := x) (st := tS L x q) (by rw [hk4]; decide)
      have hqn : q < nx L x q ∧ nx L x q ≤ L := by
        have h1 := tS_le (x := x) hqL
        have h2 := tE_le (x := x) hq4
        unfold nx
        omega
      have hturn := turns_1 (c_pos r) hqn.1 hqn.2
      rw [hqe1] at hturn hqn
      have hK1 : sK (1 - r) bs rs u1 := fun j hj => by
        have h9 := g3 j (by omega)
        simp only [if_neg (show ¬ j = 1 - r by omega)] at h9
        exact h9
      have h9 := g3 (1 - r) (by omega)
      simp only [if_true] at h9
      rw [e2r] at g1
      have hrp : ∀ k' p', rp L x (cmd L x r) p2 (k' + 1) p' ex1 S1 = rp L x (cmd L x r) p2 (k' + 1) p2 ex1 S1 := fun k' p' => rfl
      have hone : rp L x (cmd L x r) p2 (k + 1) p2 ex S = rp L x (cmd L x r) p2 k qe ex1 S1 := by rw [rp, hl]; simp only [hqe1]
      refine t_close hn hL hx g1 g2 hK1 (by omega) (by omega) hk4 h9.2 (by omega) hk20 h9.1 hp2 ?_ ?_ ?_
      · intro hk1 e off hd cm' o' u' s' a' g5 g6
        have hk0 : k = 0 := by omega
        subst hk0
        rw [hqe1] at hd
        exact herr e off (Or.inr ⟨ex1, S1, by rw [hone, rp], hd⟩) _ _ _ _ _ _ (by omega) g5 g6
      · intro hk1 cm' o' u' s' a' g5 g6 g7 g8 g9
        obtain ⟨k', rfl⟩ : ∃ k', k = k' + 1 := ⟨k - 1, by omega⟩
        rw [← e2r] at g5
        rw [hrp] at hone
        refine ih ex1 (i1 + 1) S1 cm' o' u' s' a' (by omega) (by omega) g5 g6 g9 g7 (by simpa using g8) (by omega) (fun e off hd => herr e off (by rw [hone]; exact hd)) (fun ex2 S2 q2 hd hd5 hpq2 hqL2 i2 cm2 o2 u2 s2 a2 f1 f2 f3 f4 => ?_)
        exact hok ex2 S2 q2 (hone.trans hd) hd5 hpq2 hqL2 i2 cm2 o2 u2 s2 a2 f1 f2 f3 (by omega)
      · intro hk1 q2 hd cm' o' u' s' a' g5 g6 g7
        have hk0 : k = 0 := by omega
        subst hk0
        rw [hqe1] at hd
        exact hok ex1 S1 q2 (by rw [hone, rp]) hd (by omega) hqn.2 _ _ _ _ _ _ g5 g6 g7 (by omega)
theorem cM_s (hn : 104 ≤ n) (hL : L ≤ 600) (hx : ∀ i, x i < 256) {r : Nat} (hr : r ≤ 1) (hC : cM l d kc ks n h Q L x o0 u0 s0 a0 r) : cM l d kc ks n h Q L x o0 u0 s0 a0 (r + 1) := by
  intro p ex i S cm o u s a bs rs hs hf hK h0 h4 hi herr hok
  have hpL := hs.2.2.1
  have hpos : 1 ≤ 20 ^ (r + 1) * (L + 1 - p) := Nat.mul_pos (c_pos (r + 1)) (by omega)
  have e2 : 2 - (r + 1) = 1 - r := by omega
  cases hw : wId L x (tS L x p) with
  | none => exact t_no hn hL hx hs hf hK (by omega) (by omega) h0 h4 hw (fun cm' o' u' s' a' g1 g2 => herr 1 _ (cmd_n hw (r + 1) ex S) _ _ _ _ _ _ (by omega) g1 g2)
  | some w =>
    by_cases h10 : w = 10
    · subst h10
      obtain ⟨-, hwis, hstL⟩ := wId_some hw
      have hst := tS_le (x := x) hpL
      have hte := tE_le (x := x) hstL
      refine t_rep hn hL hx hs hf hK (by omega) (by omega) hwis (fun h9 => by omega) ?_ ?_
      · intro _ k off hd cm' o' u' s' a' g1 g2
        exact herr k off (by rw [cmd_r hw]; exact rpo_i hd) _ _ _ _ _ _ (by omega) g1 g2
      · intro _ t p2 hd ht1 ht20 hp2 cm' o' u' s' a' g1 g2 g3 g4 g5
        have hge := rpo_ge hte.2 hd
        have hcm : cmd L x (r + 1) (tS L x p) ex S = _ := (cmd_r hw r ex S).trans (rpo_o hd)
        have hZ1 : 20 ^ (r + 1) = 20 * 20 ^ r := by rw [Nat.pow_succ, Nat.mul_comm]
        have hP : 20 ^ r * (L + 1 - p2) + 20 ^ r ≤ 20 ^ r * (L + 1 - p) := by
          have h3 : 20 ^ r * (L + 1 - p2 + 1) ≤ 20 ^ r * (L + 1 - p) := Nat.mul_le_mul_left _ (by omega)
          rw [Nat.mul_add, Nat.mul_one] at h3
          exact h3
        have hc1 := c_pos r
        have ht9 : t * (20 ^ r * (L + 1 - p2)) ≤ 20 * (20 ^ r * (L + 1 - p2)) := Nat.mul_le_mul_right _ ht20
        have h20 : 20 ^ (r + 1) * (L + 1 - p) = 20 * (20 ^ r * (L + 1 - p)) := by rw [hZ1, Nat.mul_assoc]
        have e3 : (2 - (r + 1)) + 1 = 2 - r := by omega
        rw [e3] at g1
        rw [e2] at g3 g4 g5
        have hgo : ∀ qe, (∀ ex S q e S', lp L x (cmd L x r) 4 (L + 1) p2 ex S = .inr (q, e, S') → q = qe) → hZ l d kc ks n h Q (i + 1) cm' o' u' s' a' := fun qe hqe => by
          refine rp_run hn hL hx hr hp2 hC hqe t ex (i + 1) S cm' o' u' s' a' ht1 ht20 g1 g2 g5 g3 g4 (by omega) (fun e off hd9 => ?_) (fun ex' S' q hd9 hd5 hpq hqL i' cm2 o2 u2 s2 a2 f1 f2 f3 f4 => ?_)
          · refine herr e off ?_
            rw [hcm]
            rcases hd9 with hd9 | ⟨ex', S', hd9, hd5⟩
            · rw [hd9]
            · rw [hd9]; simp only [hd5]
          · rw [← e2] at f1 f3
            obtain ⟨-, e5⟩ := rdT_ok hd5
            have hq5 := nx_le (x := x) hqL
            rw [← e5] at hq5
            refine hok q ex' S' (by rw [hcm, hd9]; simp only [hd5]) i' cm2 o2 u2 s2 a2 f1 f2 f3 ?_
            have hW : 20 ^ r * (L + 1 - p2) = 20 ^ r * (L + 1 - qe) + 20 ^ r * (qe - p2) := by rw [← Nat.mul_add]; congr 1; omega
            have hW2 : t * (20 ^ r * (L + 1 - p2)) = t * (20 ^ r * (L + 1 - qe)) + t * (20 ^ r * (qe - p2)) := by rw [hW, Nat.mul_add]
            have hW3 : t * (20 ^ r * (qe - p2)) ≤ 20 * (20 ^ r * (qe - p2)) := Nat.mul_le_mul_right _ ht20
            have hA : 20 ^ (r + 1) * (L + 1 - q) = 20 * (20 ^ r * (L + 1 - q)) := by rw [hZ1, Nat.mul_assoc]
            have hA2 : 20 ^ r * (L + 1 - q) ≤ 20 ^ r * (L + 1 - qe) := Nat.mul_le_mul_left _ (by omega)
            omega
        by_cases hex : ∃ ex0 S0 q e S', lp L x (cmd L x r) 4 (L + 1) p2 ex0 S0 = .inr (q, e, S')
        · obtain ⟨ex0, S0, q, e, S', hl⟩ := hex
          exact hgo q (fun ex1 S1 q1 e1 S1' hl1 => lp_end (cmd_end r) _ _ _ _ _ _ _ _ _ _ _ _ hl1 hl)
        · exact hgo 0 (fun ex1 S1 q1 e1 S1' hl1 => absurd ⟨ex1, S1, q1, e1, S1', hl1⟩ hex)
    · exact cm_simple hn hL hx (by omega) hs hf hK h0 h4 hi hw h10 herr hok
theorem cM_2 (hn : 104 ≤ n) (hL : L ≤ 600) (hx : ∀ i, x i < 256) : cM l d kc ks n h Q L x o0 u0 s0 a0 2 := cM_s hn hL hx (by decide) (cM_s hn hL hx (by decide) (cM_0 hn hL hx))
end REC
