/-! WHAT THE FIXED TEXT MAKES -/
def sA (S : zS) (k v : Nat) : zS := (oAdd S k v).getD S
def sX0 : zS := sNew 8 3 1
def sX1 : zS := sA sX0 1 10
def sX2 : zS := sA sX1 9 11
def sX3 : zS := sA sX2 3 12
def sX4 : zS := sA sX3 17 13
def sX5 : zS := sA sX4 4 14
def sX6 : zS := sPull sX5 1
def sXb : Nat := (sFind sX6 9).getD 0
def sX7 : zS := sRem sX6 sXb
def sX8 : zS := sA sX7 12 15
theorem sA_some {S : zS} {k v : Nat} (h : (oAdd S k v).isSome = true) : oAdd S k v = some (sA S k v) := by
  unfold sA
  cases e : oAdd S k v with
  | none => rw [e] at h; cases h
  | some x => rfl
theorem oAdd_two {S S' : zS} {k v : Nat} (h : oAdd S k v = some S') : sFind S k = none ∧ ∃ bk, sAdd S k v = some (bk, S') := by
  unfold oAdd at h
  cases e : sFind S k with
  | some b => rw [e] at h; cases h
  | none =>
    rw [e] at h
    simp only at h
    cases e2 : sAdd S k v with
    | none => rw [e2] at h; cases h
    | some q =>
      rw [e2] at h
      obtain ⟨bk, S2⟩ := q
      cases h
      exact ⟨rfl, bk, rfl⟩
theorem sX_1 : oAdd sX0 1 10 = some sX1 := sA_some (by decide +kernel)
theorem sX_2 : oAdd sX1 9 11 = some sX2 := sA_some (by decide +kernel)
theorem sX_3 : oAdd sX2 3 12 = some sX3 := sA_some (by decide +kernel)
theorem sX_4 : oAdd sX3 17 13 = some sX4 := sA_some (by decide +kernel)
theorem sX_5 : oAdd sX4 4 14 = some sX5 := sA_some (by decide +kernel)
theorem sX_b : sFind sX6 9 = some sXb := by
  have h : (sFind sX6 9).isSome = true := by decide +kernel
  unfold sXb
  cases e : sFind sX6 9 with
  | none => rw [e] at h; cases h
  | some x => rfl
theorem sX_7 : oRem sX6 9 = some sX7 := by unfold oRem; rw [sX_b]; rfl
theorem sX_8 : oAdd sX7 12 15 = some sX8 := sA_some (by decide +kernel)
/-- a command of the fixed text -/
theorem lp_1 {L : Nat} {x : Nat → Nat} {r f p ex w p2 : Nat} {S S' : zS} (hk : ¬ tKd L x (tS L x p) = 0) (hw : wId L x (tS L x p) = some w) (h10 : ¬ w = 10) (hex : ¬ ex = 200) (hs : smp L x w (tE L x (tS L x p)) S = .inr (p2, S')) : lp L x (cmd L x r) 0 (f + 1) p ex S = lp L x (cmd L x r) 0 f p2 (ex + 1) S' := by
  rw [lp, if_neg hk, cmd_s hw h10]
  unfold cS
  rw [if_neg hex, hs]
theorem smp_0 {L : Nat} {x : Nat → Nat} {p k v p1 p2 p3 : Nat} {S S' : zS} (h1 : rdN L x oKey p = .inr (k, p1)) (h2 : rdN L x oVal p1 = .inr (v, p2)) (h3 : rdT L x 5 p2 = .inr p3) (hS : oAdd S k v = some S') : smp L x 0 p S = .inr (p3, S') := by
  unfold smp
  simp only [h1, h2, hS, fin, h3]
theorem smp_6 {L : Nat} {x : Nat → Nat} {p p3 : Nat} {S : zS} (h3 : rdT L x 5 p = .inr p3) : smp L x 6 p S = .inr (p3, sPull S 1) := by
  unfold smp
  simp only [fin, h3]
theorem smp_3 {L : Nat} {x : Nat → Nat} {p k p1 p3 : Nat} {S S' : zS} (h1 : rdN L x (fun k => (sFind S k).isSome) p = .inr (k, p1)) (h3 : rdT L x 5 p1 = .inr p3) (hS : oRem S k = some S') : smp L x 3 p S = .inr (p3, S') := by
  unfold smp
  simp only [h1, hS, fin, h3]

theorem px_0 : opn 90 tc (tS 90 tc 0) = .inr (12, 8, 3, 1) := by decide +kernel

theorem px_1 : lp 90 tc (cmd 90 tc 2) 0 (90 + 1) 12 0 sX0 = lp 90 tc (cmd 90 tc 2) 0 90 22 1 sX1 := lp_1 (w := 0) (p2 := 22) (by decide +kernel) (by decide +kernel) (by decide) (by decide) (smp_0 (k := 1) (v := 10) (p1 := 18) (p2 := 21) (p3 := 22) (by decide +kernel) (by decide +kernel) (by decide +kernel) sX_1)

theorem px_2 : lp 90 tc (cmd 90 tc 2) 0 (89 + 1) 22 1 sX1 = lp 90 tc (cmd 90 tc 2) 0 89 32 2 sX2 := lp_1 (w := 0) (p2 := 32) (by decide +kernel) (by decide +kernel) (by decide) (by decide) (smp_0 (k := 9) (v := 11) (p1 := 28) (p2 := 31) (p3 := 32) (by decide +kernel) (by decide +kernel) (by decide +kernel) sX_2)

theorem px_3 : lp 90 tc (cmd 90 tc 2) 0 (88 + 1) 32 2 sX2 = lp 90 tc (cmd 90 tc 2) 0 88 42 3 sX3 := lp_1 (w := 0) (p2 := 42) (by decide +kernel) (by decide +kernel) (by decide) (by decide) (smp_0 (k := 3) (v := 12) (p1 := 38) (p2 := 41) (p3 := 42) (by decide +kernel) (by decide +kernel) (by decide +kernel) sX_3)

theorem px_4 : lp 90 tc (cmd 90 tc 2) 0 (87 + 1) 42 3 sX3 = lp 90 tc (cmd 90 tc 2) 0 87 53 4 sX4 := lp_1 (w := 0) (p2 := 53) (by decide +kernel) (by decide +kernel) (by decide) (by decide) (smp_0 (k := 17) (v := 13) (p1 := 49) (p2 := 52) (p3 := 53) (by decide +kernel) (by decide +kernel) (by decide +kernel) sX_4)

theorem px_5 : lp 90 tc (cmd 90 tc 2) 0 (86 + 1) 53 4 sX4 = lp 90 tc (cmd 90 tc 2) 0 86 63 5 sX5 := lp_1 (w := 0) (p2 := 63) (by decide +kernel) (by decide +kernel) (by decide) (by decide) (smp_0 (k := 4) (v := 14) (p1 := 59) (p2 := 62) (p3 := 63) (by decide +kernel) (by decide +kernel) (by decide +kernel) sX_5)

theorem px_6 : lp 90 tc (cmd 90 tc 2) 0 (85 + 1) 63 5 sX5 = lp 90 tc (cmd 90 tc 2) 0 85 69 6 sX6 := lp_1 (w := 6) (p2 := 69) (by decide +kernel) (by decide +kernel) (by decide) (by decide) (smp_6 (p3 := 69) (by decide +kernel))

theorem px_7 : lp 90 tc (cmd 90 tc 2) 0 (84 + 1) 69 6 sX6 = lp 90 tc (cmd 90 tc 2) 0 84 79 7 sX7 := lp_1 (w := 3) (p2 := 79) (by decide +kernel) (by decide +kernel) (by decide) (by decide) (smp_3 (k := 9) (p1 := 78) (p3 := 79) (by
    unfold rdN
    rw [if_pos (by decide +kernel), if_pos (by show (sFind sX6 (tV 90 tc (tS 90 tc (tE 90 tc (tS 90 tc 69))))).isSome = true; rw [show tV 90 tc (tS 90 tc (tE 90 tc (tS 90 tc 69))) = 9 from by decide +kernel, sX_b]; rfl)]
    exact congrArg Sum.inr (by decide +kernel)) (by decide +kernel) sX_7)

theorem px_8 : lp 90 tc (cmd 90 tc 2) 0 (83 + 1) 79 7 sX7 = lp 90 tc (cmd 90 tc 2) 0 83 90 8 sX8 := lp_1 (w := 0) (p2 := 90) (by decide +kernel) (by decide +kernel) (by decide) (by decide) (smp_0 (k := 12) (v := 15) (p1 := 86) (p2 := 89) (p3 := 90) (by decide +kernel) (by decide +kernel) (by decide +kernel) sX_8)

theorem px_9 : lp 90 tc (cmd 90 tc 2) 0 (82 + 1) 90 8 sX8 = .inr (90, 8, sX8) := by
  rw [lp, if_pos (by decide +kernel), show tE 90 tc (tS 90 tc 90) = 90 from by decide +kernel]

theorem prs_x : prs 90 tc = .inr (90, 8, sX8) := by
  rw [prs_opn, px_0]
  show lp 90 tc (cmd 90 tc 2) 0 (90 + 1) 12 0 sX0 = _
  exact (px_1.trans (px_2.trans (px_3.trans (px_4.trans (px_5.trans (px_6.trans (px_7.trans (px_8.trans px_9))))))))
