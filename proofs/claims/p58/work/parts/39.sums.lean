/-! SUMS AND GREATEST, AS NUMBERS -/
def sumN (f : Nat → Nat) : Nat → Nat
  | 0 => 0
  | i + 1 => sumN f i + f i
def maxN (f : Nat → Nat) : Nat → Nat
  | 0 => 0
  | i + 1 => if maxN f i < f i then f i else maxN f i
theorem sumN_congr {f g : Nat → Nat} : ∀ i, (∀ j, j < i → f j = g j) → sumN f i = sumN g i
  | 0, _ => rfl
  | i + 1, h => by simp only [sumN]; rw [sumN_congr i (fun j hj => h j (by omega)), h i (by omega)]
theorem maxN_congr {f g : Nat → Nat} : ∀ i, (∀ j, j < i → f j = g j) → maxN f i = maxN g i
  | 0, _ => rfl
  | i + 1, h => by simp only [maxN]; rw [maxN_congr i (fun j hj => h j (by omega)), h i (by omega)]
theorem maxN_le {f : Nat → Nat} {M : Nat} (hf : ∀ i, f i ≤ M) : ∀ i, maxN f i ≤ M
  | 0 => Nat.zero_le _
  | i + 1 => by
    simp only [maxN]
    split
    · exact hf i
    · exact maxN_le hf i
theorem sumN_le {f : Nat → Nat} {M : Nat} (hf : ∀ i, f i ≤ M) : ∀ i, sumN f i ≤ M * i
  | 0 => Nat.zero_le _
  | i + 1 => by
    simp only [sumN]
    have h1 := sumN_le hf i
    have h2 := hf i
    rw [Nat.mul_add, Nat.mul_one]
    omega
def offN (B T : Nat) (K : Nat → Nat) (i : Nat) : Nat := if K i = 0 then 0 else dst B T K i
def belN (K : Nat → Nat) (key i : Nat) : Nat := if K i ≠ 0 ∧ K i < key + 1 then 1 else 0
def strN (B H T : Nat) (K : Nat → Nat) (i : Nat) : Nat := if K i ≠ 0 ∧ H ≤ dst B T K i then 1 else 0
def twN (K : Nat → Nat) (i j : Nat) : Nat := if K i ≠ 0 ∧ K i = K j then 1 else 0
def runN (B : Nat) (K : Nat → Nat) : Nat → Nat
  | 0 => 0
  | i + 1 => if K (i % B) = 0 then 0 else runN B K i + 1
def cntH (B H T : Nat) (K : Nat → Nat) (i : Nat) : Nat := sumN (fun k => if isO B T K ((i + k) % B) i = true then 1 else 0) H
def lokF (B H T : Nat) (K : Nat → Nat) (key : Nat) : Nat → Nat → Nat → Nat
  | 0, _, n => n
  | m + 1, k, n => if isO B T K ((hmo B T key + k) % B) (hmo B T key) = true then (if K ((hmo B T key + k) % B) = key + 1 then n + 1 else lokF B H T K key m (k + 1) (n + 1)) else lokF B H T K key m (k + 1) n
def fulF (c : Nat → Nat) : Nat → Nat → Option Nat → Nat → Option Nat
  | 0, _, o, _ => o
  | m + 1, i, o, w => if w < c i then fulF c m (i + 1) (some i) (c i) else fulF c m (i + 1) o w
theorem dst_lt {B T : Nat} {K : Nat → Nat} {i : Nat} (hB : okB B) : dst B T K i < B := Nat.mod_lt _ (by have := hB.le; omega)
theorem offN_le {B T : Nat} {K : Nat → Nat} (hB : okB B) (i : Nat) : offN B T K i ≤ 64 := by
  have h1 := dst_lt (T := T) (K := K) (i := i) hB
  have h2 := hB.le
  unfold offN
  split <;> omega
theorem runN_le {B : Nat} {K : Nat → Nat} : ∀ i, runN B K i ≤ i
  | 0 => Nat.le_refl _
  | i + 1 => by
    have := runN_le (B := B) (K := K) i
    simp only [runN]
    split <;> omega
theorem max_sfh {B T : Nat} {K : Nat → Nat} {i m : Nat} (hB : okB B) (hm : m ≤ 64) : (if nI m < sfh B T K i then sfh B T K i else nI m) = nI (if m < offN B T K i then offN B T K i else m) := by
  have h1 := dst_lt (T := T) (K := K) (i := i) hB
  have h2 := hB.le
  unfold sfh offN
  by_cases hK : K i = 0
  · rw [if_pos hK, if_pos hK, if_neg (show ¬ nI m < -1 from fun e => ?_), if_neg (by omega)]
    exact absurd (Int32.lt_trans e (by decide : (-1 : Int32) < 0)) (nI_pos (by omega))
  · rw [if_neg hK, if_neg hK]
    by_cases h3 : m < dst B T K i
    · rw [if_pos h3, if_pos (nI_lt h3 (by omega))]
    · rw [if_neg h3, if_neg (nI_nlt (by omega) (by omega))]
theorem max_nI {a b : Nat} (ha : a < 2 ^ 31) (hb : b < 2 ^ 31) : (if nI a < nI b then nI b else nI a) = nI (if a < b then b else a) := by
  by_cases h : a < b
  · rw [if_pos h, if_pos (nI_lt h hb)]
  · rw [if_neg h, if_neg (nI_nlt (by omega) ha)]
/-- the bits of a number below 64 -/
def popN (x : Nat) : Nat := x % 2 + x / 2 % 2 + x / 4 % 2 + x / 8 % 2 + x / 16 % 2 + x / 32 % 2
def popI (i0 : Int32) : Int32 :=
  let i1 := i0 - (zushr i0 1 &&& 1431655765)
  let i2 := (i1 &&& 858993459) + (zushr i1 2 &&& 858993459)
  let i3 := (i2 + zushr i2 4) &&& 252645135
  let i4 := i3 + zushr i3 8
  let i5 := i4 + zushr i4 16
  i5 &&& 63
theorem popI_eq : ∀ x, x < 64 → popI (nI x) = nI (popN x) := by decide +kernel
theorem popN_hb {f : Nat → Bool} : ∀ n, n ≤ 6 → popN (hb6 f n) = sumN (fun k => if f k = true then 1 else 0) n := by
  intro n hn
  generalize h0 : f 0 = b0
  generalize h1 : f 1 = b1
  generalize h2 : f 2 = b2
  generalize h3 : f 3 = b3
  generalize h4 : f 4 = b4
  generalize h5 : f 5 = b5
  rcases (show n = 0 ∨ n = 1 ∨ n = 2 ∨ n = 3 ∨ n = 4 ∨ n = 5 ∨ n = 6 by omega) with rfl | rfl | rfl | rfl | rfl | rfl | rfl <;> simp only [hb6, sumN, h0, h1, h2, h3, h4, h5] <;> clear h0 h1 h2 h3 h4 h5 hn <;> revert b0 b1 b2 b3 b4 b5 <;> decide
theorem pop_hop {B H T : Nat} {K : Nat → Nat} {i : Nat} (hH : H ≤ 6) : popI (nI (hop B H T K i)) = nI (cntH B H T K i) := by
  rw [popI_eq _ (hop_lt hH)]
  unfold hop cntH
  rw [popN_hb H hH]
theorem cntH_le {B H T : Nat} {K : Nat → Nat} {i : Nat} (hH : H ≤ 6) : cntH B H T K i ≤ 6 := by
  have := sumN_le (f := fun k => if isO B T K ((i + k) % B) i = true then 1 else 0) (M := 1) (fun k => by split <;> omega) H
  unfold cntH
  omega
theorem shr_out : ∀ H, H < 7 → ∀ x, x < 2 ^ H → nI x >>> (nI H &&& 31) = 0 := by decide +kernel
theorem hop_out {B H T : Nat} {K : Nat → Nat} {i : Nat} (hH : H ≤ 6) : nI (hop B H T K i) >>> (nI H &&& 31) = 0 := shr_out H (by omega) _ (hb6_lt _ _)
