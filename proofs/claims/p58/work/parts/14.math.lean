/-! THE TABLE AS NUMBERS: B buckets, neighbourhood H, multiplier T; K b: 0 where bucket b is free, else its key + 1; V b: its value (0 where free) -/
def okB (B : Nat) : Prop := B = 8 ∨ B = 16 ∨ B = 32 ∨ B = 64
theorem okB.le {B : Nat} (h : okB B) : 8 ≤ B ∧ B ≤ 64 := by rcases h with rfl | rfl | rfl | rfl <;> decide
theorem okB.lt31 {B : Nat} (h : okB B) : B < 2 ^ 31 := Nat.lt_of_le_of_lt h.le.2 (by decide)
def tkey (k : Nat) : Int32 := if k = 0 then -1 else nI (k - 1)
def tval (k v : Nat) : Int32 := if k = 0 then -1 else nI v
def hmo (B T key : Nat) : Nat := key * T % 997 % B
theorem hmo_lt {B : Nat} (h : okB B) (T key : Nat) : hmo B T key < B := Nat.mod_lt _ (by have := h.le; omega)
def isO (B T : Nat) (K : Nat → Nat) (b h : Nat) : Bool := decide (K b ≠ 0) && decide (hmo B T (K b - 1) = h)
def hb6 (f : Nat → Bool) : Nat → Nat
  | 0 => 0
  | k + 1 => hb6 f k + (if f k = true then 2 ^ k else 0)
def hop (B H T : Nat) (K : Nat → Nat) (i : Nat) : Nat := hb6 (fun k => isO B T K ((i + k) % B) i) H
theorem hb6_lt (f : Nat → Bool) : ∀ n, hb6 f n < 2 ^ n
  | 0 => Nat.zero_lt_one
  | n + 1 => by
    have := hb6_lt f n
    simp only [hb6]
    split <;> rw [Nat.pow_succ] <;> omega
theorem hb6_bit (f : Nat → Bool) : ∀ n k, (hb6 f n).testBit k = (decide (k < n) && f k)
  | 0, k => by simp [hb6]
  | n + 1, k => by
    have h1 := hb6_lt f n
    simp only [hb6]
    by_cases hf : f n = true
    · rw [if_pos hf, Nat.add_comm]
      by_cases hk : k = n
      · subst hk
        rw [Nat.testBit_two_pow_add_eq, Nat.testBit_lt_two_pow h1]
        simp [hf]
      · by_cases hkn : k < n
        · rw [Nat.testBit_two_pow_add_gt hkn, hb6_bit f n k]
          simp [hkn, Nat.lt_succ_of_lt hkn]
        · have h2 : 2 ^ n + hb6 f n < 2 ^ k := by
            have h3 : 2 ^ (n + 1) ≤ 2 ^ k := Nat.pow_le_pow_right (by decide) (by omega)
            rw [Nat.pow_succ] at h3
            omega
          rw [Nat.testBit_lt_two_pow h2]
          have h4 : ¬ k < n + 1 := by omega
          simp [h4]
    · rw [if_neg hf, Nat.add_zero, hb6_bit f n k]
      by_cases hk : k = n
      · subst hk
        have : f k = false := by simpa using hf
        simp [this]
      · by_cases hkn : k < n
        · simp [hkn, Nat.lt_succ_of_lt hkn]
        · have h4 : ¬ k < n + 1 := by omega
          simp [hkn, h4]
/-- a world's table holds it -/
def tR (B H T : Nat) (K V : Nat → Nat) (s : Nat → Int32) (a : Nat → Nat → Int32) : Prop :=
  okB B ∧ 2 ≤ H ∧ H ≤ 6 ∧ 1 ≤ T ∧ T ≤ 99 ∧ s 6 = nI B ∧ s 7 = nI H ∧ s 8 = nI T ∧ (∀ i, i < 64 → a 0 i = tkey (K i)) ∧ (∀ i, i < 64 → a 1 i = tval (K i) (V i)) ∧ (∀ i, i < 64 → a 2 i = nI (hop B H T K i)) ∧ (∀ i, K i ≤ 10000 ∧ V i ≤ 999) ∧ (∀ i, B ≤ i → K i = 0)
-- masks, remainders
theorem mB {B x : Nat} (hB : okB B) (hx : x < 2 ^ 32) : nI x &&& (nI B - 1) = nI (x % B) := by
  rcases hB with rfl | rfl | rfl | rfl
  · exact pk_andN hx 3 (by decide)
  · exact pk_andN hx 4 (by decide)
  · exact pk_andN hx 5 (by decide)
  · exact pk_andN hx 6 (by decide)
theorem un_sub {i h : Nat} (hi : i < 2 ^ 32) (hh : h < 2 ^ 32) : (nI i - nI h).toBitVec.toNat = (2 ^ 32 - h + i) % 2 ^ 32 := by
  rw [Int32.toBitVec_sub, BitVec.toNat_sub, pk_tn hi, pk_tn hh]
theorem mBsub {B i h : Nat} (hB : okB B) (hi : i < B) (hh : h < B) : (nI i - nI h) &&& (nI B - 1) = nI ((i + B - h) % B) := by
  have hle := hB.le
  have e := un_sub (i := i) (h := h) (by omega) (by omega)
  rcases hB with rfl | rfl | rfl | rfl
  · rw [pk_and _ 3 (by decide), e]; congr 1; omega
  · rw [pk_and _ 4 (by decide), e]; congr 1; omega
  · rw [pk_and _ 5 (by decide), e]; congr 1; omega
  · rw [pk_and _ 6 (by decide), e]; congr 1; omega
theorem tkey_eq {k : Nat} (hk : k ≤ 10000) : tkey k = -1 ↔ k = 0 := by
  unfold tkey
  by_cases h : k = 0
  · simp [h]
  · rw [if_neg h]
    refine ⟨fun e => ?_, fun e => absurd e h⟩
    exfalso
    have h1 : nI (k - 1) < 0 := by rw [e]; decide
    exact nI_pos (by omega) h1
theorem tkey_ne {k : Nat} (hk : k ≠ 0) : tkey k = nI (k - 1) := if_neg hk
theorem tkey_is {k key : Nat} (hk : k ≤ 10000) (hkey : key ≤ 9999) : tkey k = nI key ↔ k = key + 1 := by
  unfold tkey
  by_cases h : k = 0
  · rw [if_pos h]
    refine ⟨fun e => ?_, fun e => by omega⟩
    exfalso
    have h1 : nI key < 0 := by rw [← e]; decide
    exact nI_pos (by omega) h1
  · rw [if_neg h, nI_eq (by omega) (by omega)]
    omega
theorem nI_neg1 {k : Nat} (hk : k < 2 ^ 31) : ¬ nI k = -1 := fun e => by
  have h1 : nI k < 0 := by rw [e]; decide
  exact nI_pos hk h1
/-- the test of a hop bit -/
theorem bit6 : ∀ x, x < 64 → ∀ k, k < 6 → ((nI x >>> (nI k &&& 31)) &&& 1 = 0 ↔ x.testBit k = false) := by decide +kernel
theorem hop_lt {B H T : Nat} {K : Nat → Nat} {i : Nat} (hH : H ≤ 6) : hop B H T K i < 64 := Nat.lt_of_lt_of_le (hb6_lt _ _) (Nat.pow_le_pow_right (by decide) hH : 2 ^ H ≤ 2 ^ 6)
theorem hop_bit {B H T : Nat} {K : Nat → Nat} {i k : Nat} (hH : H ≤ 6) (hk : k < H) : (nI (hop B H T K i) >>> (nI k &&& 31)) &&& 1 = 0 ↔ isO B T K ((i + k) % B) i = false := by
  rw [bit6 _ (hop_lt hH) k (by omega)]
  unfold hop
  rw [hb6_bit]
  simp [hk]
theorem mod_lt' {B x : Nat} (hB : okB B) : x % B < B := Nat.mod_lt _ (by have := hB.le; omega)
