/-! WHAT THE CLASS AND THE REFERENCE SHARE: table, snapshot saved, snapshot, changes kept, the states before them (0 the latest), input's length, input's bytes, error kind, error offset, report's length, report's bytes -/
abbrev zGs : Type := zS × Int32 × zS × Nat × (Nat → zS) × Nat × (Nat → Nat) × Int32 × Int32 × Nat × (Nat → Nat)
def cI (g : zGs) (o u : Nat → Nat → Int32) (s : Nat → Nat → Int32) (a : Nat → Nat → Nat → Int32) : Prop := match g with
  | (S, sv, Sn, k, hi, L, x, ek, eo, rl, rb) => cT S (s 1) (a 1) ∧ o 0 5 = sv ∧ (sv = 0 ∨ sv = 1) ∧ (sv = 1 → cT Sn (s 3) (a 3)) ∧ k ≤ 8 ∧ o 3 2 = nI k ∧ (∃ nx, nx < 9 ∧ o 3 1 = nI nx ∧ ∀ j, j < k → cT (hi j) (s (4 + (nx + 8 - j) % 9)) (a (4 + (nx + 8 - j) % 9))) ∧
    L ≤ 600 ∧ o 1 1 = nI L ∧ (∀ i, i < L → u 0 i = nI (x i)) ∧ (∀ i, x i < 256) ∧ o 2 10 = ek ∧ o 2 11 = eo ∧ rl ≤ 447 ∧ o 4 1 = nI rl ∧ (∀ i, i < rl → u 4 i = nI (rb i)) ∧ ∀ i, rb i < 256
def gS0 (g : zGs) : zS := g.1
def gB (g : zGs) : Nat := g.1.1
def gPush (g : zGs) (S' : zS) : zGs := match g with
  | (S, sv, Sn, k, hi, r) => (S', sv, Sn, (if k < 8 then k + 1 else 8), (fun j => if j = 0 then S else hi (j - 1)), r)
def gInp (g : zGs) (L' : Nat) (x' : Nat → Nat) : zGs := match g with
  | (S, sv, Sn, k, hi, _, _, r) => (S, sv, Sn, k, hi, L', x', r)
def gErr (g : zGs) (ek' eo' : Int32) : zGs := match g with
  | (S, sv, Sn, k, hi, L, x, _, _, r) => (S, sv, Sn, k, hi, L, x, ek', eo', r)
def gRep (g : zGs) (rl' : Nat) (rb' : Nat → Nat) : zGs := match g with
  | (S, sv, Sn, k, hi, L, x, ek, eo, _, _) => (S, sv, Sn, k, hi, L, x, ek, eo, rl', rb')
abbrev zA : Type := Int32 × Int32 × zGs
def iO (a b : Int32) (x : Int32) : Bool := decide (a ≤ x) && decide (x ≤ b)
def xN (x : Int32) : Nat := x.toNatClampNeg
def oN (o : Option Nat) : Int32 := optI o
-- bytes
def by4 (p : Int32) (j : Nat) : Nat := p.toBitVec.toNat / 2 ^ (24 - 8 * j) % 256
def inx (L : Nat) (x : Nat → Nat) (p : Nat → Int32) : Nat → Nat := fun i => if i < L then x i else by4 (p ((i - L) / 4)) ((i - L) % 4)
def p5 (a b c d e : Int32) : Nat → Int32 := fun j => match j with
  | 0 => a
  | 1 => b
  | 2 => c
  | 3 => d
  | _ => e
def gL (g : zGs) : Nat := g.2.2.2.2.2.1
def gX (g : zGs) : Nat → Nat := g.2.2.2.2.2.2.1
def f_append (g : zGs) (a b c d e : Int32) : zA := if 600 < gL g + 20 then (0, -1, g) else (0, nI (gL g + 20), gInp g (gL g + 20) (inx (gL g) (gX g) (p5 a b c d e)))
def f_truncateInput (g : zGs) (p : Int32) : zA := if iO 0 (nI (gL g)) p = true then (0, p, gInp g (xN p) (gX g)) else (1, 0, g)
def sCnt (S : zS) : Nat := cnt S.2.2.2.1 S.1
def f_add (g : zGs) (p q : Int32) : zA := if iO 0 9999 p = true ∧ iO 0 999 q = true then (match sFind g.1 (xN p) with
  | some _ => (2, 0, g)
  | none => match sAdd g.1 (xN p) (xN q) with
    | none => (2, 0, g)
    | some (bk, S') => (0, nI bk, gPush g S')) else (1, 0, g)
def f_put (g : zGs) (p q : Int32) : zA := if iO 0 9999 p = true ∧ iO 0 999 q = true then (match sPut g.1 (xN p) (xN q) with
  | none => (2, 0, g)
  | some (v, S') => (0, v, gPush g S')) else (1, 0, g)
def rowO (p q r : Int32) : Bool := iO 0 9999 p && iO 1 999 q && iO 1 20 r && decide (xN p + xN q * (xN r - 1) ≤ 9999)
def f_addRow (g : zGs) (p q r : Int32) : zA := if rowO p q r = true then (match sRow g.1 (xN p) (xN q) (xN r) with
  | none => (2, 0, g)
  | some (j, S') => (0, nI j, gPush g S')) else (1, 0, g)
def f_remove (g : zGs) (p : Int32) : zA := if iO 0 9999 p = true then (match sFind g.1 (xN p) with
  | none => (1, 0, g)
  | some bk => (0, nI (g.1.2.2.2.2.1 bk), gPush g (sRem g.1 bk))) else (1, 0, g)
def f_setNeighbourhood (g : zGs) (p : Int32) : zA := if iO 2 6 p = true then (match sNear g.1 (xN p) with
  | none => (2, 0, g)
  | some S' => (0, nI S'.1, gPush g S')) else (1, 0, g)
def f_setMultiplier (g : zGs) (p : Int32) : zA := if iO 1 99 p = true then (match sTimes g.1 (xN p) with
  | none => (2, 0, g)
  | some S' => (0, nI S'.1, gPush g S')) else (1, 0, g)
def f_setPulling (g : zGs) (p : Int32) : zA := (0, g.1.2.2.2.2.2 3, gPush g (sPull g.1 p))
def f_grow (g : zGs) : zA := match sGrow g.1 with
  | none => (1, 0, g)
  | some S' => (0, nI S'.1, gPush g S')
def f_clear (g : zGs) : zA := (0, nI (sCnt g.1), gPush g (sClear g.1))
def f_undo (g : zGs) : zA := match g with
  | (S, sv, Sn, k, hi, r) => if k = 0 then (0, -1, g) else (0, nI (k - 1), hi 0, sv, Sn, k - 1, (fun j => hi (j + 1)), r)
def f_undoCount (g : zGs) : zA := (0, nI g.2.2.2.1, g)
def f_saveSnapshot (g : zGs) : zA := match g with
  | (S, _, _, r) => (0, nI (sCnt S), S, 1, S, r)
def f_restoreSnapshot (g : zGs) : zA := match g with
  | (S, sv, Sn, k, hi, r) => if sv = 1 then (0, nI (sCnt Sn), Sn, sv, Sn, 0, hi, r) else (1, 0, g)
def f_scriptErrorKind (g : zGs) : zA := (0, g.2.2.2.2.2.2.2.1, g)
def f_scriptErrorOffset (g : zGs) : zA := (0, g.2.2.2.2.2.2.2.2.1, g)
def f_bucketCount (g : zGs) : zA := (0, nI g.1.1, g)
def f_entryCount (g : zGs) : zA := (0, nI (sCnt g.1), g)
def f_neighbourhood (g : zGs) : zA := (0, nI g.1.2.1, g)
def f_multiplier (g : zGs) : zA := (0, nI g.1.2.2.1, g)
def f_isPulling (g : zGs) : zA := (0, g.1.2.2.2.2.2 3, g)
def bkO (g : zGs) (p : Int32) : Bool := iO 0 (nI (g.1.1 - 1)) p
def f_keyAt (g : zGs) (p : Int32) : zA := if bkO g p = true then (0, tkey (g.1.2.2.2.1 (xN p)), g) else (1, 0, g)
def f_valueAt (g : zGs) (p : Int32) : zA := if bkO g p = true then (0, tval (g.1.2.2.2.1 (xN p)) (g.1.2.2.2.2.1 (xN p)), g) else (1, 0, g)
def f_hopBits (g : zGs) (p : Int32) : zA := if bkO g p = true then (0, nI (hop g.1.1 g.1.2.1 g.1.2.2.1 g.1.2.2.2.1 (xN p)), g) else (1, 0, g)
def f_entriesOf (g : zGs) (p : Int32) : zA := if bkO g p = true then (0, nI (cntH g.1.1 g.1.2.1 g.1.2.2.1 g.1.2.2.2.1 (xN p)), g) else (1, 0, g)
def f_freeDistance (g : zGs) (p : Int32) : zA := if bkO g p = true then (0, optI (frD g.1.1 g.1.2.2.2.1 (xN p)), g) else (1, 0, g)
def sRun (S : zS) : Nat := if S.1 < maxN (fun j => runN S.1 S.2.2.2.1 (j + 1)) (2 * S.1) then S.1 else maxN (fun j => runN S.1 S.2.2.2.1 (j + 1)) (2 * S.1)
def f_longestRun (g : zGs) : zA := (0, nI (sRun g.1), g)
def f_fullestHome (g : zGs) : zA := (0, optI (fulF (cntH g.1.1 g.1.2.1 g.1.2.2.1 g.1.2.2.2.1) g.1.1 0 none 0), g)
def f_homeOf (g : zGs) (p : Int32) : zA := if iO 0 9999 p = true then (0, nI (hmo g.1.1 g.1.2.2.1 (xN p)), g) else (1, 0, g)
def f_bucketOf (g : zGs) (p : Int32) : zA := if iO 0 9999 p = true then (0, optI (sFind g.1 (xN p)), g) else (1, 0, g)
def f_valueOf (g : zGs) (p : Int32) : zA := if iO 0 9999 p = true then (0, (match sFind g.1 (xN p) with
  | none => -1
  | some b => nI (g.1.2.2.2.2.1 b)), g) else (1, 0, g)
def f_distanceOf (g : zGs) (p : Int32) : zA := if iO 0 9999 p = true then (0, (match sFind g.1 (xN p) with
  | none => -1
  | some b => nI (dst g.1.1 g.1.2.2.1 g.1.2.2.2.1 b)), g) else (1, 0, g)
def f_looksFor (g : zGs) (p : Int32) : zA := if iO 0 9999 p = true then (0, nI (lokF g.1.1 g.1.2.1 g.1.2.2.1 g.1.2.2.2.1 (xN p) g.1.2.1 0 0), g) else (1, 0, g)
def f_longestDistance (g : zGs) : zA := (0, nI (maxN (offN g.1.1 g.1.2.2.1 g.1.2.2.2.1) g.1.1), g)
def sSum (S : zS) : Nat := sumN (offN S.1 S.2.2.1 S.2.2.2.1) S.1
def f_sumOfDistances (g : zGs) : zA := (0, nI (sSum g.1), g)
def f_rank (g : zGs) (p : Int32) : zA := if iO 0 9999 p = true then (0, nI (sumN (belN g.1.2.2.2.1 (xN p)) g.1.1), g) else (1, 0, g)
def f_whyNoAdd (g : zGs) (p : Int32) : zA := if iO 0 9999 p = true then (0, sWhy g.1 (xN p), g) else (1, 0, g)
/-- what adding a key would come to -/
def sTry (S : zS) (k : Nat) : Option (Nat × zS) := match sFind S k with
  | some _ => none
  | none => sAdd S k 0
def f_placeFor (g : zGs) (p : Int32) : zA := if iO 0 9999 p = true then (0, (match sTry g.1 (xN p) with
  | none => -1
  | some (bk, _) => nI bk), g) else (1, 0, g)
def f_movesFor (g : zGs) (p : Int32) : zA := if iO 0 9999 p = true then (0, (match sTry g.1 (xN p) with
  | none => -1
  | some (_, S') => if S'.1 = g.1.1 then S'.2.2.2.2.2 4 - g.1.2.2.2.2.2 4 else 0), g) else (1, 0, g)
def f_bucketsAfter (g : zGs) (p : Int32) : zA := if iO 0 9999 p = true then (0, (match sTry g.1 (xN p) with
  | none => -1
  | some (_, S') => nI S'.1), g) else (1, 0, g)
def f_pullsFor (g : zGs) (p : Int32) : zA := if iO 0 9999 p = true then (0, (match sFind g.1 (xN p) with
  | none => -1
  | some b => (sRem g.1 b).2.2.2.2.2 5 - g.1.2.2.2.2.2 5), g) else (1, 0, g)
def f_bucketsWith (g : zGs) (p : Int32) : zA := if iO 2 6 p = true then (0, (match sNear g.1 (xN p) with
  | none => -1
  | some S' => nI S'.1), g) else (1, 0, g)
/-- the sum of distances with another multiplier -/
def sWith (S : zS) (m : Nat) : Option Nat := match sTimes S m with
  | none => none
  | some S' => if S'.1 = S.1 then some (sSum S') else none
def bstF (S : zS) : Nat → Nat → Option Nat → Nat → Option Nat
  | 0, _, f, _ => f
  | n + 1, m, f, least => match sWith S m with
    | none => bstF S n (m + 1) f least
    | some z => if f = none ∨ z < least then bstF S n (m + 1) (some m) z else bstF S n (m + 1) f least
def f_bestMultiplier (g : zGs) (p : Int32) : zA := if iO 1 30 p = true then (0, optI (bstF g.1 (xN p) 1 none 0), g) else (1, 0, g)
def f_told (k : Nat) (g : zGs) : zA := (0, g.1.2.2.2.2.2 k, g)
def sGap (S : zS) : Int32 := S.2.2.2.2.2 7 - (S.2.2.2.2.2 8 + nI (sCnt S))
def f_violations (g : zGs) : zA := (0, nI (sumN (strN g.1.1 g.1.2.1 g.1.2.2.1 g.1.2.2.2.1) g.1.1) + nI (sumN (fun i => sumN (twN g.1.2.2.2.1 i) i) g.1.1) + (if 0 ≤ sGap g.1 then sGap g.1 else 0 - sGap g.1), g)
def dgs (v : Nat) : List Nat := if v < 10 then [48 + v] else if v < 100 then [48 + v / 10, 48 + v % 10] else if v < 1000 then [48 + v / 100, 48 + v / 10 % 10, 48 + v % 10] else [48 + v / 1000, 48 + v / 100 % 10, 48 + v / 10 % 10, 48 + v % 10]
def rpB (S : zS) (i : Nat) : List Nat := if S.2.2.2.1 i = 0 then [46] else dgs (S.2.2.2.1 i - 1) ++ (if dst S.1 S.2.2.1 S.2.2.2.1 i = 0 then [] else 43 :: dgs (dst S.1 S.2.2.1 S.2.2.2.1 i))
def rpL (S : zS) : Nat → List Nat
  | 0 => []
  | i + 1 => rpL S i ++ (if i = 0 then [] else [32]) ++ rpB S i
def lG (l : List Nat) (i : Nat) : Nat := (l[i]?).getD 0
def f_writeTable (g : zGs) : zA := (0, nI (rpL g.1 g.1.1).length, gRep g (rpL g.1 g.1.1).length (lG (rpL g.1 g.1.1)))
def f_reportByte (g : zGs) (p : Int32) : zA := match g with
  | (_, _, _, _, _, _, _, _, _, rl, rb) => (0, (if 0 ≤ p ∧ p < nI rl then nI (rb (xN p)) else -1), g)
/-- the end of a call of the class: an answer, or what is thrown -/
def oc (E1 E2 : String) (t v : Int32) : Option Value ⊕ String := if t = 0 then .inl (some (.int v)) else if t = 1 then .inr E1 else .inr E2
theorem oc_0 {E1 E2 : String} {v : Int32} : oc E1 E2 0 v = .inl (some (.int v)) := rfl
theorem oc_1 {E1 E2 : String} {v : Int32} : oc E1 E2 1 v = .inr E1 := rfl
theorem oc_2 {E1 E2 : String} {v : Int32} : oc E1 E2 2 v = .inr E2 := rfl
def IAE : String := "java/lang/IllegalArgumentException"
def ISE : String := "java/lang/IllegalStateException"
def IOE : String := "java/lang/IndexOutOfBoundsException"
def NSE : String := "java/util/NoSuchElementException"
theorem iO_yes {x : Int32} (a b : Nat) (hab : a ≤ b) (hb : b < 2 ^ 31) (h : iO (nI a) (nI b) x = true) : ∃ k, a ≤ k ∧ k ≤ b ∧ x = nI k ∧ xN x = k := by
  simp only [iO, Bool.and_eq_true, decide_eq_true_eq] at h
  have a1 := Int32.le_iff_toInt_le.mp h.1
  have a2 := Int32.le_iff_toInt_le.mp h.2
  rw [nI_toInt hb] at a2
  rw [nI_toInt (by omega)] at a1
  refine ⟨x.toInt.toNat, by omega, by omega, ?_, rfl⟩
  apply Int32.toInt_inj.mp
  rw [nI_toInt (by omega)]
  omega
theorem iO_nI {a b k : Nat} (h1 : a ≤ k) (h2 : k ≤ b) (hb : b < 2 ^ 31) : iO (nI a) (nI b) (nI k) = true := by
  simp only [iO, Bool.and_eq_true, decide_eq_true_eq]
  exact ⟨nI_le h1 (by omega), nI_le h2 hb⟩
theorem xN_nI {k : Nat} (h : k < 2 ^ 31) : xN (nI k) = k := nI_clamp h
