/-! WRITES OF THE TABLE, AS NUMBERS: an entry laid, taken out, moved -/
def upB (f : Nat → Bool) (k : Nat) (v : Bool) : Nat → Bool := fun j => if j = k then v else f j
theorem hb6_congr {f g : Nat → Bool} : ∀ {n : Nat}, (∀ k, k < n → f k = g k) → hb6 f n = hb6 g n
  | 0, _ => rfl
  | n + 1, h => by
    simp only [hb6]
    rw [hb6_congr (fun k hk => h k (by omega)), h n (by omega)]
theorem bset : ∀ x, x < 64 → ∀ t, t < 6 → nI x ||| ((1 : Int32) <<< (nI t &&& 31)) = nI (x ||| 2 ^ t) := by decide +kernel
theorem bclr : ∀ x, x < 64 → ∀ t, t < 6 → nI x &&& (((1 : Int32) <<< (nI t &&& 31)) ^^^ (-1)) = nI (x &&& (63 ^^^ 2 ^ t)) := by decide +kernel
theorem bset_bit : ∀ x, x < 64 → ∀ t, t < 6 → (x ||| 2 ^ t) < 64 ∧ ∀ k, k < 6 → (x ||| 2 ^ t).testBit k = (if k = t then true else x.testBit k) := by decide +kernel
theorem bclr_bit : ∀ x, x < 64 → ∀ t, t < 6 → (x &&& (63 ^^^ 2 ^ t)) < 64 ∧ ∀ k, k < 6 → (x &&& (63 ^^^ 2 ^ t)).testBit k = (if k = t then false else x.testBit k) := by decide +kernel
theorem eq64 {x y : Nat} (hx : x < 64) (hy : y < 64) (h : ∀ k, k < 6 → x.testBit k = y.testBit k) : x = y := by
  apply Nat.eq_of_testBit_eq
  intro i
  by_cases hi : i < 6
  · exact h i hi
  · have h2 : 2 ^ 6 ≤ 2 ^ i := Nat.pow_le_pow_right (by decide) (by omega)
    rw [Nat.testBit_lt_two_pow (by omega), Nat.testBit_lt_two_pow (by omega)]
theorem hb6_lt64 {f : Nat → Bool} {H : Nat} (hH : H ≤ 6) : hb6 f H < 64 := Nat.lt_of_lt_of_le (hb6_lt _ _) (Nat.pow_le_pow_right (by decide) hH : 2 ^ H ≤ 2 ^ 6)
theorem hb6_set {f : Nat → Bool} {H t : Nat} (hH : H ≤ 6) (ht : t < H) : hb6 f H ||| 2 ^ t = hb6 (upB f t true) H := by
  obtain ⟨h1, h2⟩ := bset_bit _ (hb6_lt64 (f := f) hH) t (by omega)
  refine eq64 h1 (hb6_lt64 hH) fun k hk => ?_
  rw [h2 k hk, hb6_bit, hb6_bit]
  by_cases hkt : k = t
  · simp [upB, hkt, ht]
  · simp [upB, hkt]
theorem hb6_clr {f : Nat → Bool} {H t : Nat} (hH : H ≤ 6) (ht : t < H) : hb6 f H &&& (63 ^^^ 2 ^ t) = hb6 (upB f t false) H := by
  obtain ⟨h1, h2⟩ := bclr_bit _ (hb6_lt64 (f := f) hH) t (by omega)
  refine eq64 h1 (hb6_lt64 hH) fun k hk => ?_
  rw [h2 k hk, hb6_bit, hb6_bit]
  by_cases hkt : k = t
  · simp [upB, hkt]
  · simp [upB, hkt]
theorem modB_inj {B h i j : Nat} (hB : okB B) (hi : i < B) (hj : j < B) (e : (h + i) % B = (h + j) % B) : i = j := by
  rcases hB with rfl | rfl | rfl | rfl <;> omega
theorem isO_uniq {B T : Nat} {K : Nat → Nat} {b h g : Nat} (h1 : isO B T K b h = true) : isO B T K b g = decide (g = h) := by
  simp only [isO, Bool.and_eq_true, decide_eq_true_eq] at h1
  simp only [isO, h1.1, h1.2, ne_eq, not_false_eq_true, decide_true, Bool.true_and]
  by_cases e : g = h
  · simp [e]
  · have : ¬ h = g := fun z => e z.symm
    simp [e, this]
theorem isO_free {B T : Nat} {K : Nat → Nat} {b h : Nat} (h1 : K b = 0) : isO B T K b h = false := by simp [isO, h1]
/-- an entry is laid -/
theorem hop_put {B H T : Nat} {K : Nat → Nat} {hm t key : Nat} (hB : okB B) (hH : H ≤ 6) (ht : t < H) (hf : K ((hm + t) % B) = 0) (hk : hmo B T key = hm) (i : Nat) :
    hop B H T (va_up K ((hm + t) % B) (key + 1)) i = if i = hm then hop B H T K hm ||| 2 ^ t else hop B H T K i := by
  have hle := hB.le
  by_cases hi : i = hm
  · subst hi
    rw [if_pos rfl]
    unfold hop
    rw [hb6_set hH ht]
    refine hb6_congr fun k hkH => ?_
    by_cases hkt : k = t
    · subst hkt
      simp [upB, isO, va_up, hk]
    · have hne : ¬ (i + k) % B = (i + t) % B := fun e => hkt (modB_inj hB (by omega) (by omega) e)
      simp [upB, hkt, isO, va_up, hne]
  · rw [if_neg hi]
    unfold hop
    refine hb6_congr fun k hkH => ?_
    by_cases hx : (i + k) % B = (hm + t) % B
    · rw [hx, isO_free hf]
      have : ¬ hm = i := fun e => hi e.symm
      simp [isO, va_up, hk, this]
    · simp [isO, va_up, hx]
theorem tR_put {B H T : Nat} {K V : Nat → Nat} {s : Nat → Int32} {a a' : Nat → Nat → Int32} {hm t key v : Nat} (hR : tR B H T K V s a) (ht : t < H) (hf : K ((hm + t) % B) = 0) (hm1 : hm < B) (hk : hmo B T key = hm) (hkey : key ≤ 9999) (hv : v ≤ 999)
    (h0 : ∀ i, i < 64 → a' 0 i = if i = (hm + t) % B then nI key else a 0 i) (h1 : ∀ i, i < 64 → a' 1 i = if i = (hm + t) % B then nI v else a 1 i) (h2 : ∀ i, i < 64 → a' 2 i = if i = hm then a 2 hm ||| ((1 : Int32) <<< (nI t &&& 31)) else a 2 i) :
    tR B H T (va_up K ((hm + t) % B) (key + 1)) (va_up V ((hm + t) % B) v) s a' := by
  obtain ⟨okb, h2H, hH6, h1T, hT99, e6, e7, e8, ek, ev, eh, ekv, ez⟩ := hR
  have hle := okb.le
  refine ⟨okb, h2H, hH6, h1T, hT99, e6, e7, e8, fun i hi => ?_, fun i hi => ?_, fun i hi => ?_, fun i => ?_, fun i hi => ?_⟩
  · rw [h0 i hi]
    by_cases hx : i = (hm + t) % B
    · simp [hx, va_up, tkey]
    · simp [hx, va_up, ek i hi]
  · rw [h1 i hi]
    by_cases hx : i = (hm + t) % B
    · simp [hx, va_up, tval]
    · simp [hx, va_up, ev i hi]
  · rw [h2 i hi, hop_put okb hH6 ht hf hk i]
    by_cases hx : i = hm
    · rw [if_pos hx, if_pos hx, eh hm (by omega), bset _ (hop_lt hH6) t (by omega)]
    · rw [if_neg hx, if_neg hx, eh i hi]
  · by_cases hx : i = (hm + t) % B
    · simp only [va_up, hx, if_true]; omega
    · simp only [va_up, if_neg hx]; exact ekv i
  · have hx : ¬ i = (hm + t) % B := by have := mod_lt' okb (x := hm + t); omega
    simp only [va_up, if_neg hx]; exact ez i hi
/-- an entry is taken out -/
theorem hop_del {B H T : Nat} {K : Nat → Nat} {hm t : Nat} (hB : okB B) (hH : H ≤ 6) (ht : t < H) (ho : isO B T K ((hm + t) % B) hm = true) (i : Nat) :
    hop B H T (va_up K ((hm + t) % B) 0) i = if i = hm then hop B H T K hm &&& (63 ^^^ 2 ^ t) else hop B H T K i := by
  have hle := hB.le
  by_cases hi : i = hm
  · subst hi
    rw [if_pos rfl]
    unfold hop
    rw [hb6_clr hH ht]
    refine hb6_congr fun k hkH => ?_
    by_cases hkt : k = t
    · subst hkt
      simp [upB, isO, va_up]
    · have hne : ¬ (i + k) % B = (i + t) % B := fun e => hkt (modB_inj hB (by omega) (by omega) e)
      simp [upB, hkt, isO, va_up, hne]
  · rw [if_neg hi]
    unfold hop
    refine hb6_congr fun k hkH => ?_
    by_cases hx : (i + k) % B = (hm + t) % B
    · rw [hx, isO_uniq ho]
      simp [isO, va_up, hi]
    · simp [isO, va_up, hx]
theorem tR_del {B H T : Nat} {K V : Nat → Nat} {s : Nat → Int32} {a a' : Nat → Nat → Int32} {hm t : Nat} (hR : tR B H T K V s a) (ht : t < H) (ho : isO B T K ((hm + t) % B) hm = true) (hm1 : hm < B)
    (h0 : ∀ i, i < 64 → a' 0 i = if i = (hm + t) % B then -1 else a 0 i) (h1 : ∀ i, i < 64 → a' 1 i = if i = (hm + t) % B then -1 else a 1 i) (h2 : ∀ i, i < 64 → a' 2 i = if i = hm then a 2 hm &&& (((1 : Int32) <<< (nI t &&& 31)) ^^^ (-1)) else a 2 i) :
    tR B H T (va_up K ((hm + t) % B) 0) (va_up V ((hm + t) % B) 0) s a' := by
  obtain ⟨okb, h2H, hH6, h1T, hT99, e6, e7, e8, ek, ev, eh, ekv, ez⟩ := hR
  have hle := okb.le
  refine ⟨okb, h2H, hH6, h1T, hT99, e6, e7, e8, fun i hi => ?_, fun i hi => ?_, fun i hi => ?_, fun i => ?_, fun i hi => ?_⟩
  · rw [h0 i hi]
    by_cases hx : i = (hm + t) % B
    · simp [hx, va_up, tkey]
    · simp [hx, va_up, ek i hi]
  · rw [h1 i hi]
    by_cases hx : i = (hm + t) % B
    · simp [hx, va_up, tval]
    · simp [hx, va_up, ev i hi]
  · rw [h2 i hi, hop_del okb hH6 ht ho i]
    by_cases hx : i = hm
    · rw [if_pos hx, if_pos hx, eh hm (by omega), bclr _ (hop_lt hH6) t (by omega)]
    · rw [if_neg hx, if_neg hx, eh i hi]
  · by_cases hx : i = (hm + t) % B
    · simp [va_up, hx]
    · simp only [va_up, if_neg hx]; exact ekv i
  · by_cases hx : i = (hm + t) % B
    · simp [va_up, hx]
    · simp only [va_up, if_neg hx]; exact ez i hi
/-- an entry moves within its neighbourhood -/
def mvK (K : Nat → Nat) (src tgt : Nat) : Nat → Nat := va_up (va_up K src 0) tgt (K src)
theorem hop_mv {B H T : Nat} {K : Nat → Nat} {hm f t : Nat} (hB : okB B) (hH : H ≤ 6) (hf : f < H) (ht : t < H) (hft : f ≠ t) (ho : isO B T K ((hm + f) % B) hm = true) (hfree : K ((hm + t) % B) = 0) (i : Nat) :
    hop B H T (mvK K ((hm + f) % B) ((hm + t) % B)) i = if i = hm then (hop B H T K hm &&& (63 ^^^ 2 ^ f)) ||| 2 ^ t else hop B H T K i := by
  have hle := hB.le
  have hne : ¬ (hm + t) % B = (hm + f) % B := fun e => hft (modB_inj hB (by omega) (by omega) e).symm
  have h1 : va_up K ((hm + f) % B) 0 ((hm + t) % B) = 0 := by simp only [va_up, if_neg hne]; exact hfree
  have h2 : K ((hm + f) % B) ≠ 0 ∧ hmo B T (K ((hm + f) % B) - 1) = hm := by simpa [isO] using ho
  have h3 : K ((hm + f) % B) = (K ((hm + f) % B) - 1) + 1 := by omega
  unfold mvK
  rw [h3, hop_put hB hH ht h1 h2.2 i]
  by_cases hi : i = hm
  · rw [if_pos hi, if_pos hi, hop_del hB hH hf ho hm, if_pos rfl]
  · rw [if_neg hi, if_neg hi, hop_del hB hH hf ho i, if_neg hi]
theorem tR_mv {B H T : Nat} {K V : Nat → Nat} {s : Nat → Int32} {a a' : Nat → Nat → Int32} {hm f t : Nat} (hR : tR B H T K V s a) (hf : f < H) (ht : t < H) (hft : f ≠ t) (ho : isO B T K ((hm + f) % B) hm = true) (hfree : K ((hm + t) % B) = 0) (hm1 : hm < B)
    (h0 : ∀ i, i < 64 → a' 0 i = if i = (hm + f) % B then -1 else if i = (hm + t) % B then a 0 ((hm + f) % B) else a 0 i) (h1 : ∀ i, i < 64 → a' 1 i = if i = (hm + f) % B then -1 else if i = (hm + t) % B then a 1 ((hm + f) % B) else a 1 i)
    (h2 : ∀ i, i < 64 → a' 2 i = if i = hm then (a 2 hm &&& (((1 : Int32) <<< (nI f &&& 31)) ^^^ (-1))) ||| ((1 : Int32) <<< (nI t &&& 31)) else a 2 i) :
    tR B H T (mvK K ((hm + f) % B) ((hm + t) % B)) (mvK V ((hm + f) % B) ((hm + t) % B)) s a' := by
  obtain ⟨okb, h2H, hH6, h1T, hT99, e6, e7, e8, ek, ev, eh, ekv, ez⟩ := hR
  have hle := okb.le
  have hlf := mod_lt' okb (x := hm + f)
  have hlt := mod_lt' okb (x := hm + t)
  have hne : ¬ (hm + f) % B = (hm + t) % B := fun e => hft (modB_inj okb (by omega) (by omega) e)
  have hs : K ((hm + f) % B) ≠ 0 := by
    have h2 : K ((hm + f) % B) ≠ 0 ∧ hmo B T (K ((hm + f) % B) - 1) = hm := by simpa [isO] using ho
    exact h2.1
  refine ⟨okb, h2H, hH6, h1T, hT99, e6, e7, e8, fun i hi => ?_, fun i hi => ?_, fun i hi => ?_, fun i => ?_, fun i hi => ?_⟩
  · rw [h0 i hi]
    by_cases hx : i = (hm + f) % B
    · subst hx
      simp [mvK, va_up, tkey, hne]
    · rw [if_neg hx]
      by_cases hy : i = (hm + t) % B
      · subst hy
        simp [mvK, va_up, ek _ (Nat.lt_of_lt_of_le hlf hle.2)]
      · simp [mvK, va_up, hx, hy, ek i hi]
  · rw [h1 i hi]
    by_cases hx : i = (hm + f) % B
    · subst hx
      simp [mvK, va_up, tval, hne]
    · rw [if_neg hx]
      by_cases hy : i = (hm + t) % B
      · subst hy
        simp [mvK, va_up, ev _ (Nat.lt_of_lt_of_le hlf hle.2)]
      · simp [mvK, va_up, hx, hy, ev i hi]
  · rw [h2 i hi, hop_mv okb hH6 hf ht hft ho hfree i]
    by_cases hx : i = hm
    · rw [if_pos hx, if_pos hx, eh hm (by omega), bclr _ (hop_lt hH6) f (by omega), bset _ (bclr_bit _ (hop_lt hH6) f (by omega)).1 t (by omega)]
    · rw [if_neg hx, if_neg hx, eh i hi]
  · by_cases hy : i = (hm + t) % B
    · simp only [mvK, va_up, hy, if_true]; exact ekv _
    · by_cases hx : i = (hm + f) % B
      · simp [mvK, va_up, hx, hne]
      · simp only [mvK, va_up, if_neg hx, if_neg hy]; exact ekv i
  · have hy : ¬ i = (hm + t) % B := by omega
    have hx : ¬ i = (hm + f) % B := by omega
    simp only [mvK, va_up, if_neg hx, if_neg hy]
    exact ez i hi
theorem tR_s {B H T : Nat} {K V : Nat → Nat} {s s' : Nat → Int32} {a : Nat → Nat → Int32} (hR : tR B H T K V s a) (h6 : s' 6 = s 6) (h7 : s' 7 = s 7) (h8 : s' 8 = s 8) : tR B H T K V s' a := by
  obtain ⟨okb, h2H, hH6, h1T, hT99, e6, e7, e8, r⟩ := hR
  exact ⟨okb, h2H, hH6, h1T, hT99, h6.trans e6, h7.trans e7, h8.trans e8, r⟩
