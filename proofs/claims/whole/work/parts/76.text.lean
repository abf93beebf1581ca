/-! A TEXT AND ITS TOKENS, AS NUMBERS. Kinds: 0 end, 1 word, 2 number, 3 (, 4 ), 5 ;, 6 wrong -/
def tBl (c : Nat) : Bool := decide (c = 32) || decide (c = 10)
def tLe (c : Nat) : Bool := decide (97 ≤ c) && decide (c ≤ 122)
def tDi (c : Nat) : Bool := decide (48 ≤ c) && decide (c ≤ 57)
def rn (p : Nat → Bool) (x : Nat → Nat) : Nat → Nat → Nat
  | 0, i => i
  | m + 1, i => if p (x i) = true then rn p x m (i + 1) else i
theorem rn_yes {p : Nat → Bool} {x : Nat → Nat} {m i : Nat} (h : p (x i) = true) : rn p x (m + 1) i = rn p x m (i + 1) := by rw [rn, if_pos h]
theorem rn_no {p : Nat → Bool} {x : Nat → Nat} {m i : Nat} (h : ¬ p (x i) = true) : rn p x (m + 1) i = i := by rw [rn, if_neg h]
theorem rn_le {p : Nat → Bool} {x : Nat → Nat} : ∀ m i, i ≤ rn p x m i ∧ rn p x m i ≤ i + m
  | 0, i => ⟨Nat.le_refl _, Nat.le_refl _⟩
  | m + 1, i => by
    by_cases h : p (x i) = true
    · rw [rn_yes h]
      have := rn_le (p := p) (x := x) m (i + 1)
      omega
    · rw [rn_no h]
      omega
def tS (L : Nat) (x : Nat → Nat) (p : Nat) : Nat := rn tBl x (L - p) p
def tE (L : Nat) (x : Nat → Nat) (st : Nat) : Nat := if L ≤ st then st else if tLe (x st) = true then rn tLe x (L - (st + 1)) (st + 1) else if tDi (x st) = true then rn tDi x (L - (st + 1)) (st + 1) else st + 1
def tKd (L : Nat) (x : Nat → Nat) (st : Nat) : Nat := if L ≤ st then 0 else if tLe (x st) = true then 1 else if tDi (x st) = true then (if tE L x st - st ≤ 4 then 2 else 6) else if x st = 40 then 3 else if x st = 41 then 4 else if x st = 59 then 5 else 6
def vN (x : Nat → Nat) (st : Nat) : Nat → Nat
  | 0 => 0
  | m + 1 => vN x st m * 10 + (x (st + m) - 48)
def tV (L : Nat) (x : Nat → Nat) (st : Nat) : Nat := vN x st (tE L x st - st)
theorem tS_le {L : Nat} {x : Nat → Nat} {p : Nat} (h : p ≤ L) : p ≤ tS L x p ∧ tS L x p ≤ L := by
  have := rn_le (p := tBl) (x := x) (L - p) p
  unfold tS
  omega
theorem tE_le {L : Nat} {x : Nat → Nat} {st : Nat} (h : st < L) : st < tE L x st ∧ tE L x st ≤ L := by
  unfold tE
  rw [if_neg (by omega)]
  have h1 := rn_le (p := tLe) (x := x) (L - (st + 1)) (st + 1)
  have h2 := rn_le (p := tDi) (x := x) (L - (st + 1)) (st + 1)
  split
  · omega
  · split <;> omega
theorem tE_le' {L : Nat} {x : Nat → Nat} {st : Nat} (h : st ≤ L) : st ≤ tE L x st ∧ tE L x st ≤ L := by
  by_cases h1 : st < L
  · have := tE_le (x := x) h1
    omega
  · unfold tE
    rw [if_pos (by omega)]
    omega
theorem tKd_lt {L : Nat} {x : Nat → Nat} {st : Nat} (h : tKd L x st ≠ 0) : st < L := by
  by_cases h1 : L ≤ st
  · unfold tKd at h
    rw [if_pos h1] at h
    exact absurd rfl h
  · omega
theorem tKd_end {L : Nat} {x : Nat → Nat} {st : Nat} (h : st < L) : tKd L x st ≠ 0 := by
  unfold tKd
  rw [if_neg (by omega)]
  split
  · decide
  · split
    · split <;> decide
    · split
      · decide
      · split
        · decide
        · split <;> decide
theorem tKd_num {L : Nat} {x : Nat → Nat} {st : Nat} (h : tKd L x st = 2) : st < L ∧ tDi (x st) = true ∧ tE L x st - st ≤ 4 ∧ tE L x st = rn tDi x (L - (st + 1)) (st + 1) := by
  have hl : st < L := tKd_lt (x := x) (by rw [h]; decide)
  unfold tKd at h
  rw [if_neg (by omega)] at h
  by_cases h1 : tLe (x st) = true
  · rw [if_pos h1] at h; cases h
  · rw [if_neg h1] at h
    by_cases h2 : tDi (x st) = true
    · rw [if_pos h2] at h
      by_cases h3 : tE L x st - st ≤ 4
      · refine ⟨hl, h2, h3, ?_⟩
        unfold tE
        rw [if_neg (by omega), if_neg h1, if_pos h2]
      · rw [if_neg h3] at h; cases h
    · rw [if_neg h2] at h
      by_cases h4 : x st = 40
      · rw [if_pos h4] at h; cases h
      · rw [if_neg h4] at h
        by_cases h5 : x st = 41
        · rw [if_pos h5] at h; cases h
        · rw [if_neg h5] at h
          by_cases h6 : x st = 59
          · rw [if_pos h6] at h; cases h
          · rw [if_neg h6] at h; cases h
theorem rn_all {p : Nat → Bool} {x : Nat → Nat} : ∀ m i j, i ≤ j → j < rn p x m i → p (x j) = true
  | 0, i, j, h1, h2 => by rw [rn] at h2; omega
  | m + 1, i, j, h1, h2 => by
    by_cases h : p (x i) = true
    · rw [rn_yes h] at h2
      by_cases h3 : i = j
      · subst h3; exact h
      · exact rn_all m (i + 1) j (by omega) h2
    · rw [rn_no h] at h2
      omega
theorem vN_lt {x : Nat → Nat} {st : Nat} : ∀ m, (∀ j, j < m → tDi (x (st + j)) = true) → vN x st m < 10 ^ m
  | 0, _ => by simp [vN]
  | m + 1, h => by
    have h1 := vN_lt (x := x) (st := st) m (fun j hj => h j (by omega))
    have h2 := h m (by omega)
    simp only [tDi, Bool.and_eq_true, decide_eq_true_eq] at h2
    rw [vN, Nat.pow_succ]
    omega
theorem tV_lt {L : Nat} {x : Nat → Nat} {st : Nat} (h : tKd L x st = 2) : tV L x st ≤ 9999 := by
  obtain ⟨h1, h2, h3, h4⟩ := tKd_num h
  have h5 := vN_lt (x := x) (st := st) (tE L x st - st) (fun j hj => by
    by_cases hj0 : j = 0
    · subst hj0; exact h2
    · exact rn_all _ _ _ (by omega) (show st + j < rn tDi x (L - (st + 1)) (st + 1) by rw [← h4]; omega))
  unfold tV
  have h6 : 10 ^ (tE L x st - st) ≤ 10 ^ 4 := Nat.pow_le_pow_right (by decide) h3
  have h7 : 10 ^ 4 = 10000 := by decide
  omega
-- words
def sg (x : Nat → Nat) (st m : Nat) : List Nat := (List.range m).map fun i => x (st + i)
def wds : List (List Nat) := [[97, 100, 100], [112, 117, 116], [114, 111, 119], [114, 101, 109, 111, 118, 101], [110, 101, 97, 114], [116, 105, 109, 101, 115], [112, 117, 108, 108], [108, 105, 101], [103, 114, 111, 119], [99, 108, 101, 97, 114], [114, 101, 112, 101, 97, 116], [116, 97, 98, 108, 101]]
def wd (j : Nat) : List Nat := (wds[j]?).getD []
def wIs (L : Nat) (x : Nat → Nat) (st j : Nat) : Bool := decide (tKd L x st = 1) && decide (sg x st (tE L x st - st) = wd j)
def wId (L : Nat) (x : Nat → Nat) (st : Nat) : Option Nat := fnd (wIs L x st) 11 0
theorem wd_inj : ∀ i, i < 12 → ∀ j, j < 12 → wd i = wd j → i = j := by decide
theorem wIs_one {L : Nat} {x : Nat → Nat} {st i j : Nat} (hi : i < 12) (hj : j < 12) (h1 : wIs L x st i = true) (h2 : wIs L x st j = true) : i = j := by
  simp only [wIs, Bool.and_eq_true, decide_eq_true_eq] at h1 h2
  exact wd_inj i hi j hj (h1.2.symm.trans h2.2)
theorem wId_of {L : Nat} {x : Nat → Nat} {st j : Nat} (hj : j < 11) (h : wIs L x st j = true) : wId L x st = some j := by
  unfold wId
  cases hf : fnd (wIs L x st) 11 0 with
  | none => have := fnd_none hf j (by omega) (by omega); rw [h] at this; cases this
  | some i =>
    obtain ⟨-, h2, h3⟩ := fnd_some hf
    rw [wIs_one (by omega) (by omega) h3 h]
theorem wId_none {L : Nat} {x : Nat → Nat} {st : Nat} (h : ∀ j, j < 11 → wIs L x st j = false) : wId L x st = none := by
  unfold wId
  cases hf : fnd (wIs L x st) 11 0 with
  | none => rfl
  | some i =>
    obtain ⟨-, h2, h3⟩ := fnd_some hf
    rw [h i (by omega)] at h3
    cases h3
theorem wId_some {L : Nat} {x : Nat → Nat} {st j : Nat} (h : wId L x st = some j) : j < 11 ∧ wIs L x st j = true ∧ st < L := by
  obtain ⟨-, h2, h3⟩ := fnd_some h
  refine ⟨by omega, h3, ?_⟩
  simp only [wIs, Bool.and_eq_true, decide_eq_true_eq] at h3
  exact tKd_lt (x := x) (by rw [h3.1]; decide)
/-! WHAT A SCRIPT DOES: an error (kind, offset), or the place behind, the commands executed, the table -/
abbrev zE2 : Type := Nat × Nat
abbrev zO : Type := zE2 ⊕ (Nat × Nat × zS)
def rdN (L : Nat) (x : Nat → Nat) (ok : Nat → Bool) (p : Nat) : zE2 ⊕ (Nat × Nat) := if tKd L x (tS L x p) = 2 then (if ok (tV L x (tS L x p)) = true then .inr (tV L x (tS L x p), tE L x (tS L x p)) else .inl (2, tS L x p)) else .inl (1, tS L x p)
def rdT (L : Nat) (x : Nat → Nat) (k p : Nat) : zE2 ⊕ Nat := if tKd L x (tS L x p) = k then .inr (tE L x (tS L x p)) else .inl (1, tS L x p)
def fin (L : Nat) (x : Nat → Nat) (p : Nat) (o : Option zS) : zE2 ⊕ (Nat × zS) := match rdT L x 5 p with
  | .inl e => .inl e
  | .inr q => match o with
    | none => .inl (3, tS L x p)
    | some S => .inr (q, S)
def oKey (k : Nat) : Bool := decide (k ≤ 9999)
def oVal (v : Nat) : Bool := decide (v ≤ 999)
def oIn (a b v : Nat) : Bool := decide (a ≤ v) && decide (v ≤ b)
def oCnt (k st c : Nat) : Bool := oIn 1 20 c && decide (k + st * (c - 1) ≤ 9999)
def oB (v : Nat) : Bool := decide (v = 8) || decide (v = 16) || decide (v = 32) || decide (v = 64)
def oAdd (S : zS) (k v : Nat) : Option zS := match sFind S k with
  | some _ => none
  | none => (sAdd S k v).map (·.2)
def oRem (S : zS) (k : Nat) : Option zS := (sFind S k).map (sRem S)
def smp (L : Nat) (x : Nat → Nat) (w p : Nat) (S : zS) : zE2 ⊕ (Nat × zS) := match w with
  | 0 => match rdN L x oKey p with
    | .inl e => .inl e
    | .inr (k, p1) => match rdN L x oVal p1 with
      | .inl e => .inl e
      | .inr (v, p2) => fin L x p2 (oAdd S k v)
  | 1 => match rdN L x oKey p with
    | .inl e => .inl e
    | .inr (k, p1) => match rdN L x oVal p1 with
      | .inl e => .inl e
      | .inr (v, p2) => fin L x p2 ((sPut S k v).map (·.2))
  | 2 => match rdN L x oKey p with
    | .inl e => .inl e
    | .inr (k, p1) => match rdN L x (oIn 1 999) p1 with
      | .inl e => .inl e
      | .inr (v, p2) => match rdN L x (oCnt k v) p2 with
        | .inl e => .inl e
        | .inr (c, p3) => fin L x p3 ((sRow S k v c).map (·.2))
  | 3 => match rdN L x (fun k => (sFind S k).isSome) p with
    | .inl e => .inl e
    | .inr (k, p1) => fin L x p1 (oRem S k)
  | 4 => match rdN L x (oIn 2 6) p with
    | .inl e => .inl e
    | .inr (v, p1) => fin L x p1 (sNear S v)
  | 5 => match rdN L x (oIn 1 99) p with
    | .inl e => .inl e
    | .inr (v, p1) => fin L x p1 (sTimes S v)
  | 6 => fin L x p (some (sPull S 1))
  | 7 => fin L x p (some (sPull S 0))
  | 8 => fin L x p (sGrow S)
  | _ => fin L x p (some (sClear S))
def lp (L : Nat) (x : Nat → Nat) (C : Nat → Nat → zS → zO) (stop : Nat) : Nat → Nat → Nat → zS → zO
  | 0, p, _, _ => .inl (9, p)
  | f + 1, p, ex, S => if tKd L x (tS L x p) = stop then .inr (tE L x (tS L x p), ex, S) else match C (tS L x p) ex S with
    | .inl e => .inl e
    | .inr (p', ex', S') => lp L x C stop f p' ex' S'
def rp (L : Nat) (x : Nat → Nat) (C : Nat → Nat → zS → zO) (begins : Nat) : Nat → Nat → Nat → zS → zO
  | 0, p, ex, S => .inr (p, ex, S)
  | k + 1, _, ex, S => match lp L x C 4 (L + 1) begins ex S with
    | .inl e => .inl e
    | .inr (p', ex', S') => rp L x C begins k p' ex' S'
def cS (L : Nat) (x : Nat → Nat) (w st ex : Nat) (S : zS) : zO := if ex = 200 then .inl (5, st) else match smp L x w (tE L x st) S with
  | .inl e => .inl e
  | .inr (p, S') => .inr (p, ex + 1, S')
def cRp (L : Nat) (x : Nat → Nat) (C : Nat → Nat → zS → zO) (st ex : Nat) (S : zS) : zO := match rdN L x (oIn 1 20) (tE L x st) with
  | .inl e => .inl e
  | .inr (t, p1) => match rdT L x 3 p1 with
    | .inl e => .inl e
    | .inr p2 => match rp L x C p2 t p2 ex S with
      | .inl e => .inl e
      | .inr (p3, ex', S') => match rdT L x 5 p3 with
        | .inl e => .inl e
        | .inr p4 => .inr (p4, ex', S')
/-- a command, or a repeat that may hold r more -/
def cmd (L : Nat) (x : Nat → Nat) : Nat → Nat → Nat → zS → zO
  | 0 => fun st ex S => match wId L x st with
    | none => .inl (1, st)
    | some w => if w = 10 then .inl (4, st) else cS L x w st ex S
  | r + 1 => fun st ex S => match wId L x st with
    | none => .inl (1, st)
    | some w => if w = 10 then cRp L x (cmd L x r) st ex S else cS L x w st ex S
def prs (L : Nat) (x : Nat → Nat) : zO := if wIs L x (tS L x 0) 11 = true then (match rdN L x oB (tE L x (tS L x 0)) with
  | .inl e => .inl e
  | .inr (B, p1) => match rdN L x (oIn 2 6) p1 with
    | .inl e => .inl e
    | .inr (H, p2) => match rdN L x (oIn 1 99) p2 with
      | .inl e => .inl e
      | .inr (T, p3) => match rdT L x 5 p3 with
        | .inl e => .inl e
        | .inr p4 => lp L x (cmd L x 2) 0 (L + 1) p4 0 (sNew B H T)) else .inl (1, tS L x 0)
-- where things end
def nx (L : Nat) (x : Nat → Nat) (p : Nat) : Nat := tE L x (tS L x p)
theorem nx_le {L : Nat} {x : Nat → Nat} {p : Nat} (h : p ≤ L) : p ≤ nx L x p ∧ nx L x p ≤ L := by
  have h1 := tS_le (x := x) h
  have h2 := tE_le' (x := x) h1.2
  unfold nx
  omega
theorem rdN_ok {L : Nat} {x : Nat → Nat} {ok : Nat → Bool} {p v q : Nat} (h : rdN L x ok p = .inr (v, q)) : tKd L x (tS L x p) = 2 ∧ v = tV L x (tS L x p) ∧ ok v = true ∧ q = nx L x p ∧ tS L x p < L ∧ v ≤ 9999 := by
  unfold rdN at h
  by_cases h1 : tKd L x (tS L x p) = 2
  · rw [if_pos h1] at h
    by_cases h2 : ok (tV L x (tS L x p)) = true
    · rw [if_pos h2] at h
      cases h
      exact ⟨h1, rfl, h2, rfl, (tKd_num h1).1, tV_lt h1⟩
    · rw [if_neg h2] at h; cases h
  · rw [if_neg h1] at h; cases h
theorem rdT_ok {L : Nat} {x : Nat → Nat} {k p q : Nat} (h : rdT L x k p = .inr q) : tKd L x (tS L x p) = k ∧ q = nx L x p := by
  unfold rdT at h
  by_cases h1 : tKd L x (tS L x p) = k
  · rw [if_pos h1] at h
    cases h
    exact ⟨h1, rfl⟩
  · rw [if_neg h1] at h; cases h
theorem fin_ok {L : Nat} {x : Nat → Nat} {p q : Nat} {o : Option zS} {S : zS} (h : fin L x p o = .inr (q, S)) : q = nx L x p ∧ tS L x p < L ∧ o = some S := by
  unfold fin at h
  cases h1 : rdT L x 5 p with
  | inl e => rw [h1] at h; cases h
  | inr q1 =>
    obtain ⟨h2, h3⟩ := rdT_ok h1
    rw [h1] at h
    cases o with
    | none => cases h
    | some S1 =>
      cases h
      exact ⟨h3, tKd_lt (x := x) (by rw [h2]; decide), rfl⟩
/-- how many numbers a command has -/
def nrs (w : Nat) : Nat := match w with
  | 0 => 2
  | 1 => 2
  | 2 => 3
  | 3 => 1
  | 4 => 1
  | 5 => 1
  | _ => 0
def nxs (L : Nat) (x : Nat → Nat) : Nat → Nat → Nat
  | 0, p => p
  | m + 1, p => nxs L x m (nx L x p)
theorem smp_end {L : Nat} {x : Nat → Nat} {w p q : Nat} {S S' : zS} (h : smp L x w p S = .inr (q, S')) : q = nxs L x (nrs w + 1) p := by
  unfold smp at h
  split at h
  · cases h1 : rdN L x oKey p with
    | inl e => rw [h1] at h; cases h
    | inr r1 =>
      obtain ⟨k, p1⟩ := r1
      rw [h1] at h
      simp only at h
      cases h2 : rdN L x oVal p1 with
      | inl e => rw [h2] at h; cases h
      | inr r2 =>
        obtain ⟨v, p2⟩ := r2
        rw [h2] at h
        simp only at h
        rw [(fin_ok h).1, (rdN_ok h2).2.2.2.1, (rdN_ok h1).2.2.2.1]
        rfl
  · cases h1 : rdN L x oKey p with
    | inl e => rw [h1] at h; cases h
    | inr r1 =>
      obtain ⟨k, p1⟩ := r1
      rw [h1] at h
      simp only at h
      cases h2 : rdN L x oVal p1 with
      | inl e => rw [h2] at h; cases h
      | inr r2 =>
        obtain ⟨v, p2⟩ := r2
        rw [h2] at h
        simp only at h
        rw [(fin_ok h).1, (rdN_ok h2).2.2.2.1, (rdN_ok h1).2.2.2.1]
        rfl
  · cases h1 : rdN L x oKey p with
    | inl e => rw [h1] at h; cases h
    | inr r1 =>
      obtain ⟨k, p1⟩ := r1
      rw [h1] at h
      simp only at h
      cases h2 : rdN L x (oIn 1 999) p1 with
      | inl e => rw [h2] at h; cases h
      | inr r2 =>
        obtain ⟨v, p2⟩ := r2
        rw [h2] at h
        simp only at h
        cases h3 : rdN L x (oCnt k v) p2 with
        | inl e => rw [h3] at h; cases h
        | inr r3 =>
          obtain ⟨c, p3⟩ := r3
          rw [h3] at h
          simp only at h
          rw [(fin_ok h).1, (rdN_ok h3).2.2.2.1, (rdN_ok h2).2.2.2.1, (rdN_ok h1).2.2.2.1]
          rfl
  · cases h1 : rdN L x (fun k => (sFind S k).isSome) p with
    | inl e => rw [h1] at h; cases h
    | inr r1 =>
      obtain ⟨k, p1⟩ := r1
      rw [h1] at h
      simp only at h
      rw [(fin_ok h).1, (rdN_ok h1).2.2.2.1]
      rfl
  · cases h1 : rdN L x (oIn 2 6) p with
    | inl e => rw [h1] at h; cases h
    | inr r1 =>
      obtain ⟨k, p1⟩ := r1
      rw [h1] at h
      simp only at h
      rw [(fin_ok h).1, (rdN_ok h1).2.2.2.1]
      rfl
  · cases h1 : rdN L x (oIn 1 99) p with
    | inl e => rw [h1] at h; cases h
    | inr r1 =>
      obtain ⟨k, p1⟩ := r1
      rw [h1] at h
      simp only at h
      rw [(fin_ok h).1, (rdN_ok h1).2.2.2.1]
      rfl
  · rw [(fin_ok h).1]; rfl
  · rw [(fin_ok h).1]; rfl
  · rw [(fin_ok h).1]; rfl
  · rename_i n1 n2 n3 n4 n5 n6 n7 n8 n9
    rw [(fin_ok h).1]
    have : nrs w = 0 := by
      unfold nrs
      split <;> first | rfl | (exfalso; first | exact n1 rfl | exact n2 rfl | exact n3 rfl | exact n4 rfl | exact n5 rfl | exact n6 rfl)
    rw [this]
    rfl
theorem nxs_le {L : Nat} {x : Nat → Nat} : ∀ m p, p ≤ L → p ≤ nxs L x m p ∧ nxs L x m p ≤ L
  | 0, p, h => ⟨Nat.le_refl _, h⟩
  | m + 1, p, h => by
    have h1 := nx_le (x := x) h
    have h2 := nxs_le (x := x) m _ h1.2
    rw [nxs]
    omega
/-- two runs of the same text end at the same place -/
def eqE (C : Nat → Nat → zS → zO) : Prop := ∀ st ex S p e S' ex2 S2 p2 e2 S2', C st ex S = .inr (p, e, S') → C st ex2 S2 = .inr (p2, e2, S2') → p = p2
theorem lp_end {L : Nat} {x : Nat → Nat} {C : Nat → Nat → zS → zO} {stop : Nat} (hC : eqE C) : ∀ f p ex S q e S' ex2 S2 q2 e2 S2', lp L x C stop f p ex S = .inr (q, e, S') → lp L x C stop f p ex2 S2 = .inr (q2, e2, S2') → q = q2
  | 0, p, ex, S, q, e, S', ex2, S2, q2, e2, S2', h1, _ => by cases h1
  | f + 1, p, ex, S, q, e, S', ex2, S2, q2, e2, S2', h1, h2 => by
    rw [lp] at h1 h2
    by_cases hs : tKd L x (tS L x p) = stop
    · rw [if_pos hs] at h1 h2
      cases h1
      cases h2
      rfl
    · rw [if_neg hs] at h1 h2
      cases c1 : C (tS L x p) ex S with
      | inl _ => rw [c1] at h1; cases h1
      | inr r1 =>
        cases c2 : C (tS L x p) ex2 S2 with
        | inl _ => rw [c2] at h2; cases h2
        | inr r2 =>
          obtain ⟨p1, e1, S1⟩ := r1
          obtain ⟨p3, e3, S3⟩ := r2
          rw [c1] at h1
          rw [c2] at h2
          have := hC _ _ _ _ _ _ _ _ _ _ _ c1 c2
          subst this
          exact lp_end hC f p1 _ _ _ _ _ _ _ _ _ _ h1 h2
theorem rp_end {L : Nat} {x : Nat → Nat} {C : Nat → Nat → zS → zO} {begins : Nat} (hC : eqE C) : ∀ k p ex S q e S' ex2 S2 q2 e2 S2', rp L x C begins k p ex S = .inr (q, e, S') → rp L x C begins k p ex2 S2 = .inr (q2, e2, S2') → q = q2
  | 0, p, ex, S, q, e, S', ex2, S2, q2, e2, S2', h1, h2 => by cases h1; cases h2; rfl
  | k + 1, p, ex, S, q, e, S', ex2, S2, q2, e2, S2', h1, h2 => by
    rw [rp] at h1 h2
    cases c1 : lp L x C 4 (L + 1) begins ex S with
    | inl _ => rw [c1] at h1; cases h1
    | inr r1 =>
      cases c2 : lp L x C 4 (L + 1) begins ex2 S2 with
      | inl _ => rw [c2] at h2; cases h2
      | inr r2 =>
        obtain ⟨p1, e1, S1⟩ := r1
        obtain ⟨p3, e3, S3⟩ := r2
        rw [c1] at h1
        rw [c2] at h2
        have := lp_end hC _ _ _ _ _ _ _ _ _ _ _ _ c1 c2
        subst this
        exact rp_end hC k p1 _ _ _ _ _ _ _ _ _ _ h1 h2
theorem cS_ok {L : Nat} {x : Nat → Nat} {w st ex : Nat} {S : zS} {p e : Nat} {S' : zS} (h : cS L x w st ex S = .inr (p, e, S')) : ex ≠ 200 ∧ smp L x w (tE L x st) S = .inr (p, S') ∧ e = ex + 1 := by
  unfold cS at h
  by_cases h1 : ex = 200
  · rw [if_pos h1] at h; cases h
  · rw [if_neg h1] at h
    cases h2 : smp L x w (tE L x st) S with
    | inl _ => rw [h2] at h; cases h
    | inr r =>
      obtain ⟨p1, S1⟩ := r
      rw [h2] at h
      cases h
      exact ⟨h1, rfl, rfl⟩
theorem cRp_ok {L : Nat} {x : Nat → Nat} {C : Nat → Nat → zS → zO} {st ex : Nat} {S : zS} {p e : Nat} {S' : zS} (h : cRp L x C st ex S = .inr (p, e, S')) : ∃ t p3, rdN L x (oIn 1 20) (tE L x st) = .inr (t, nx L x (tE L x st)) ∧ rdT L x 3 (nx L x (tE L x st)) = .inr (nx L x (nx L x (tE L x st))) ∧ rp L x C (nx L x (nx L x (tE L x st))) t (nx L x (nx L x (tE L x st))) ex S = .inr (p3, e, S') ∧ rdT L x 5 p3 = .inr p ∧ p = nx L x p3 := by
  unfold cRp at h
  cases h1 : rdN L x (oIn 1 20) (tE L x st) with
  | inl _ => rw [h1] at h; cases h
  | inr r1 =>
    obtain ⟨t, p1⟩ := r1
    rw [h1] at h
    simp only at h
    have e1 := (rdN_ok h1).2.2.2.1
    subst e1
    cases h2 : rdT L x 3 (nx L x (tE L x st)) with
    | inl _ => rw [h2] at h; cases h
    | inr p2 =>
      rw [h2] at h
      simp only at h
      have e2 := (rdT_ok h2).2
      subst e2
      cases h3 : rp L x C (nx L x (nx L x (tE L x st))) t (nx L x (nx L x (tE L x st))) ex S with
      | inl _ => rw [h3] at h; cases h
      | inr r3 =>
        obtain ⟨p3, e3, S3⟩ := r3
        rw [h3] at h
        simp only at h
        cases h4 : rdT L x 5 p3 with
        | inl _ => rw [h4] at h; cases h
        | inr p4 =>
          rw [h4] at h
          cases h
          exact ⟨t, p3, rfl, rfl, h3, h4, (rdT_ok h4).2⟩
theorem cmd_0 {L : Nat} {x : Nat → Nat} {st ex : Nat} {S : zS} : cmd L x 0 st ex S = (match wId L x st with
    | none => .inl (1, st)
    | some w => if w = 10 then .inl (4, st) else cS L x w st ex S) := rfl
theorem cmd_1 {L : Nat} {x : Nat → Nat} {r st ex : Nat} {S : zS} : cmd L x (r + 1) st ex S = (match wId L x st with
    | none => .inl (1, st)
    | some w => if w = 10 then cRp L x (cmd L x r) st ex S else cS L x w st ex S) := rfl
theorem cmd_end {L : Nat} {x : Nat → Nat} : ∀ r, eqE (cmd L x r)
  | 0 => by
    intro st ex S p e S' ex2 S2 p2 e2 S2' h1 h2
    rw [cmd_0] at h1 h2
    cases hw : wId L x st with
    | none => rw [hw] at h1; cases h1
    | some w =>
      rw [hw] at h1 h2
      simp only at h1 h2
      by_cases h10 : w = 10
      · rw [if_pos h10] at h1; cases h1
      · rw [if_neg h10] at h1 h2
        rw [smp_end (cS_ok h1).2.1, smp_end (cS_ok h2).2.1]
  | r + 1 => by
    intro st ex S p e S' ex2 S2 p2 e2 S2' h1 h2
    rw [cmd_1] at h1 h2
    cases hw : wId L x st with
    | none => rw [hw] at h1; cases h1
    | some w =>
      rw [hw] at h1 h2
      simp only at h1 h2
      by_cases h10 : w = 10
      · rw [if_pos h10] at h1 h2
        obtain ⟨t, p3, a1, a2, a3, a4, a5⟩ := cRp_ok h1
        obtain ⟨t', p3', b1, b2, b3, b4, b5⟩ := cRp_ok h2
        have ht : t = t' := by rw [a1] at b1; cases b1; rfl
        subst ht
        have := rp_end (cmd_end r) _ _ _ _ _ _ _ _ _ _ _ _ a3 b3
        rw [a5, b5, this]
      · rw [if_neg h10] at h1 h2
        rw [smp_end (cS_ok h1).2.1, smp_end (cS_ok h2).2.1]
/-- a command ends behind its beginning, within the text -/
def frE (L : Nat) (C : Nat → Nat → zS → zO) : Prop := ∀ st ex S p e S', C st ex S = .inr (p, e, S') → st < p ∧ p ≤ L
theorem lp_fr {L : Nat} {x : Nat → Nat} {C : Nat → Nat → zS → zO} {stop : Nat} (hC : frE L C) : ∀ f p ex S q e S', p ≤ L → lp L x C stop f p ex S = .inr (q, e, S') → p ≤ q ∧ q ≤ L
  | 0, p, ex, S, q, e, S', hp, h1 => by cases h1
  | f + 1, p, ex, S, q, e, S', hp, h1 => by
    have h9 := tS_le (x := x) hp
    rw [lp] at h1
    by_cases hs : tKd L x (tS L x p) = stop
    · rw [if_pos hs] at h1
      cases h1
      exact nx_le hp
    · rw [if_neg hs] at h1
      cases c1 : C (tS L x p) ex S with
      | inl _ => rw [c1] at h1; cases h1
      | inr r1 =>
        obtain ⟨p1, e1, S1⟩ := r1
        rw [c1] at h1
        have h2 := hC _ _ _ _ _ _ c1
        have h3 := lp_fr hC f p1 _ _ _ _ _ h2.2 h1
        omega
theorem rp_fr {L : Nat} {x : Nat → Nat} {C : Nat → Nat → zS → zO} {begins : Nat} (hC : frE L C) (hb : begins ≤ L) : ∀ k p ex S q e S', begins ≤ p → p ≤ L → rp L x C begins k p ex S = .inr (q, e, S') → begins ≤ q ∧ q ≤ L
  | 0, p, ex, S, q, e, S', h0, hp, h1 => by cases h1; exact ⟨h0, hp⟩
  | k + 1, p, ex, S, q, e, S', h0, hp, h1 => by
    rw [rp] at h1
    cases c1 : lp L x C 4 (L + 1) begins ex S with
    | inl _ => rw [c1] at h1; cases h1
    | inr r1 =>
      obtain ⟨p1, e1, S1⟩ := r1
      rw [c1] at h1
      have h2 := lp_fr hC _ _ _ _ _ _ _ hb c1
      exact rp_fr hC hb k p1 _ _ _ _ _ h2.1 h2.2 h1
theorem smp_fr {L : Nat} {x : Nat → Nat} {w st p : Nat} {S S' : zS} (hs : st < L) (h : smp L x w (tE L x st) S = .inr (p, S')) : st < p ∧ p ≤ L := by
  have h1 := tE_le (x := x) hs
  have h2 := nxs_le (x := x) (nrs w + 1) _ h1.2
  rw [smp_end h]
  omega
theorem cmd_fr {L : Nat} {x : Nat → Nat} : ∀ r, frE L (cmd L x r)
  | 0 => by
    intro st ex S p e S' h1
    rw [cmd_0] at h1
    cases hw : wId L x st with
    | none => rw [hw] at h1; cases h1
    | some w =>
      rw [hw] at h1
      simp only at h1
      by_cases h10 : w = 10
      · rw [if_pos h10] at h1; cases h1
      · rw [if_neg h10] at h1
        exact smp_fr (wId_some hw).2.2 (cS_ok h1).2.1
  | r + 1 => by
    intro st ex S p e S' h1
    rw [cmd_1] at h1
    cases hw : wId L x st with
    | none => rw [hw] at h1; cases h1
    | some w =>
      rw [hw] at h1
      simp only at h1
      have hst := (wId_some hw).2.2
      by_cases h10 : w = 10
      · rw [if_pos h10] at h1
        obtain ⟨t, p3, a1, a2, a3, a4, a5⟩ := cRp_ok h1
        have q1 := tE_le (x := x) hst
        have q2 := nx_le (x := x) q1.2
        have q3 := nx_le (x := x) q2.2
        have q4 := rp_fr (cmd_fr r) q3.2 _ _ _ _ _ _ _ (Nat.le_refl _) q3.2 a3
        have q5 := nx_le (x := x) q4.2
        omega
      · rw [if_neg h10] at h1
        exact smp_fr hst (cS_ok h1).2.1
