/-! WHAT THE CALLS ANSWER where the law makes them -/
abbrev zGr : Type := Int32 × zS × Nat × (Nat → zS) × Nat × (Nat → Nat) × Int32 × Int32 × Nat × (Nat → Nat)
def gK (g : zGs) : Nat := g.2.2.2.1
def gHi (g : zGs) : Nat → zS := g.2.2.2.2.1
theorem cI.t {g : zGs} {o u : Nat → Nat → Int32} {s : Nat → Nat → Int32} {a : Nat → Nat → Nat → Int32} (h : cI g o u s a) : cT g.1 (s 1) (a 1) := by
  obtain ⟨S, sv, Sn, k, hi, L, x, ek, eo, rl, rb⟩ := g
  exact h.1
theorem cI.k8 {g : zGs} {o u : Nat → Nat → Int32} {s : Nat → Nat → Int32} {a : Nat → Nat → Nat → Int32} (h : cI g o u s a) : gK g ≤ 8 := by
  obtain ⟨S, sv, Sn, k, hi, L, x, ek, eo, rl, rb⟩ := g
  exact h.2.2.2.2.1
theorem push_t (g : zGs) (S' : zS) : (gPush g S').1 = S' := by
  obtain ⟨S, sv, Sn, k, hi, r⟩ := g
  rfl
theorem push_k (g : zGs) (S' : zS) : gK (gPush g S') = if gK g < 8 then gK g + 1 else 8 := by
  obtain ⟨S, sv, Sn, k, hi, r⟩ := g
  rfl
theorem push_h (g : zGs) (S' : zS) : gHi (gPush g S') 0 = g.1 := by
  obtain ⟨S, sv, Sn, k, hi, r⟩ := g
  rfl
/-- the latest change undone -/
def gUn (g : zGs) : zGs := match g with
  | (_, sv, Sn, k, hi, r) => (hi 0, sv, Sn, k - 1, (fun j => hi (j + 1)), r)
theorem un_t (g : zGs) : (gUn g).1 = gHi g 0 := by
  obtain ⟨S, sv, Sn, k, hi, r⟩ := g
  rfl
theorem un_k (g : zGs) : gK (gUn g) = gK g - 1 := by
  obtain ⟨S, sv, Sn, k, hi, r⟩ := g
  rfl
theorem fk_undo {g : zGs} (h : 0 < gK g) : f_undo g = (0, nI (gK g - 1), gUn g) := by
  obtain ⟨S, sv, Sn, k, hi, r⟩ := g
  have h : 0 < k := h
  show (if k = 0 then (0, -1, (S, sv, Sn, k, hi, r)) else (0, nI (k - 1), hi 0, sv, Sn, k - 1, (fun j => hi (j + 1)), r)) = (0, nI (k - 1), hi 0, sv, Sn, k - 1, (fun j => hi (j + 1)), r)
  rw [if_neg (by omega)]
theorem bk_in {g : zGs} {b : Nat} (h : b < g.1.1) (hB : okB g.1.1) : bkO g (nI b) = true := by
  have := hB.le
  exact iO_nI (a := 0) (Nat.zero_le b) (show b ≤ g.1.1 - 1 by omega) (by omega)
theorem fk_keyAt {g : zGs} {b : Nat} (h : b < g.1.1) (hB : okB g.1.1) : f_keyAt g (nI b) = (0, tkey (g.1.2.2.2.1 b), g) := by
  have := hB.le
  unfold f_keyAt
  rw [if_pos (bk_in h hB), xN_nI (by omega)]
theorem fk_valueAt {g : zGs} {b : Nat} (h : b < g.1.1) (hB : okB g.1.1) : f_valueAt g (nI b) = (0, tval (g.1.2.2.2.1 b) (g.1.2.2.2.2.1 b), g) := by
  have := hB.le
  unfold f_valueAt
  rw [if_pos (bk_in h hB), xN_nI (by omega)]
theorem fk_hopBits {g : zGs} {b : Nat} (h : b < g.1.1) (hB : okB g.1.1) : f_hopBits g (nI b) = (0, nI (hop g.1.1 g.1.2.1 g.1.2.2.1 g.1.2.2.2.1 b), g) := by
  have := hB.le
  unfold f_hopBits
  rw [if_pos (bk_in h hB), xN_nI (by omega)]
theorem fk_entriesOf {g : zGs} {b : Nat} (h : b < g.1.1) (hB : okB g.1.1) : f_entriesOf g (nI b) = (0, nI (cntH g.1.1 g.1.2.1 g.1.2.2.1 g.1.2.2.2.1 b), g) := by
  have := hB.le
  unfold f_entriesOf
  rw [if_pos (bk_in h hB), xN_nI (by omega)]
theorem ky_in {key : Nat} (h : key ≤ 9999) : iO 0 9999 (nI key) = true := iO_nI (a := 0) (b := 9999) (Nat.zero_le key) h (by decide)
theorem va_in {v : Nat} (h : v ≤ 999) : iO 0 999 (nI v) = true := iO_nI (a := 0) (b := 999) (Nat.zero_le v) h (by decide)
theorem fk_homeOf {g : zGs} {key : Nat} (h : key ≤ 9999) : f_homeOf g (nI key) = (0, nI (hmo g.1.1 g.1.2.2.1 key), g) := by
  unfold f_homeOf
  rw [if_pos (ky_in h), xN_nI (by omega)]
theorem fk_bucketOf {g : zGs} {key b : Nat} (h : key ≤ 9999) (hf : sFind g.1 key = some b) : f_bucketOf g (nI key) = (0, nI b, g) := by
  unfold f_bucketOf
  rw [if_pos (ky_in h), xN_nI (by omega), hf]
  rfl
theorem fk_valueOf {g : zGs} {key b : Nat} (h : key ≤ 9999) (hf : sFind g.1 key = some b) : f_valueOf g (nI key) = (0, nI (g.1.2.2.2.2.1 b), g) := by
  unfold f_valueOf
  rw [if_pos (ky_in h), xN_nI (by omega), hf]
theorem fk_distanceOf {g : zGs} {key b : Nat} (h : key ≤ 9999) (hf : sFind g.1 key = some b) : f_distanceOf g (nI key) = (0, nI (dst g.1.1 g.1.2.2.1 g.1.2.2.2.1 b), g) := by
  unfold f_distanceOf
  rw [if_pos (ky_in h), xN_nI (by omega), hf]
theorem find_at {B key b : Nat} {K : Nat → Nat} (hd : dis B K) (hb : b < B) (hK : K b = key + 1) : bwS B K key = some b := by
  cases hs : bwS B K key with
  | none =>
    have h3 := fnd_none hs b (Nat.zero_le _) (by omega)
    simp [hK] at h3
  | some i =>
    obtain ⟨h1, h2⟩ := bwS_lt hs
    rw [hd i b h1 hb (by omega) (by omega)]
theorem dst_H {B H T : Nat} {K : Nat → Nat} {b : Nat} (hB : okB B) (hH : H ≤ 6) (hI : inH B H T K) (hb : b < B) (hK : K b ≠ 0) : dst B T K b < H ∧ (hmo B T (K b - 1) + dst B T K b) % B = b := by
  obtain ⟨t, h1, h2⟩ := hI b hb hK
  have hh := hmo_lt hB T (K b - 1)
  have h3 := mod_back (t := t) hB hh (by omega)
  rw [← h2] at h3
  have h4 : dst B T K b = t := h3
  rw [h4]
  exact ⟨h1, h2.symm⟩
theorem fk_violations {g : zGs} {s : Nat → Int32} {a : Nat → Nat → Int32} (hT : cT g.1 s a) (hc : okc g.1) : f_violations g = (0, 0, g) := by
  obtain ⟨⟨B, H, T, K, V, c⟩, gr⟩ := g
  obtain ⟨hR, ⟨hI, hd, h3⟩, -⟩ := hT
  obtain ⟨okb, h2H, hH6, -⟩ := hR
  have e1 : sumN (strN B H T K) B = 0 := sumN_zero B (fun k hk => by
    unfold strN
    rw [if_neg (fun q => ?_)]
    have := (dst_H okb hH6 hI hk q.1).1
    omega)
  have e2 : sumN (fun i => sumN (twN K i) i) B = 0 := sumN_zero B (fun k hk => sumN_zero k (fun j hj => by
    unfold twN
    rw [if_neg (fun q => ?_)]
    have := hd k j hk (by omega) q.1 q.2
    omega))
  have e3 : sGap (B, H, T, K, V, c) = 0 := by
    have hc : c 7 = c 8 + nI (cnt K B) := hc
    show c 7 - (c 8 + nI (cnt K B)) = 0
    rw [hc, Int32.sub_self]
  unfold f_violations
  show (0, nI (sumN (strN B H T K) B) + nI (sumN (fun i => sumN (twN K i) i) B) + (if 0 ≤ sGap (B, H, T, K, V, c) then sGap (B, H, T, K, V, c) else 0 - sGap (B, H, T, K, V, c)), _) = _
  rw [e1, e2, e3]
  rfl
theorem why_0 {S : zS} {key : Nat} (h : sWhy S key = 0) (v : Nat) : sFind S key = none ∧ ∃ bk S', sAdd S key v = some (bk, S') := by
  unfold sWhy at h
  split at h
  · exact absurd h (by decide)
  · rename_i hf
    split at h
    · exact absurd h (by decide)
    · rename_i q hq
      refine ⟨hf, ?_⟩
      cases hv : sAdd S key v with
      | none => rw [(sAdd_v v 0).mp hv] at hq; cases hq
      | some q => exact ⟨q.1, q.2, rfl⟩
theorem why_2 {S : zS} {key : Nat} (h : ¬ sWhy S key = 2) (v : Nat) : ∃ x S', sPut S key v = some (x, S') := by
  unfold sWhy at h
  unfold sPut
  split at h
  · rename_i b hf
    rw [hf]
    exact ⟨_, _, rfl⟩
  · rename_i hf
    rw [hf]
    split at h
    · exact absurd rfl h
    · rename_i q hq
      cases hv : sAdd S key v with
      | none => rw [(sAdd_v v 0).mp hv] at hq; cases hq
      | some q => exact ⟨_, _, rfl⟩
theorem put_at {S : zS} {key b : Nat} (hf : sFind S key = some b) (v : Nat) : ∃ x S', sPut S key v = some (x, S') := by
  unfold sPut
  rw [hf]
  exact ⟨_, _, rfl⟩
theorem fk_whyNoAdd {g : zGs} {key : Nat} (h : key ≤ 9999) : f_whyNoAdd g (nI key) = (0, sWhy g.1 key, g) := by
  unfold f_whyNoAdd
  rw [if_pos (ky_in h), xN_nI (by omega)]
theorem fk_add {g : zGs} {key v bk : Nat} {S' : zS} (h : key ≤ 9999) (hv : v ≤ 999) (hf : sFind g.1 key = none) (ha : sAdd g.1 key v = some (bk, S')) : f_add g (nI key) (nI v) = (0, nI bk, gPush g S') := by
  unfold f_add
  rw [if_pos ⟨ky_in h, va_in hv⟩, xN_nI (by omega), xN_nI (by omega)]
  simp only [hf, ha]
theorem fk_put {g : zGs} {key v : Nat} {x : Int32} {S' : zS} (h : key ≤ 9999) (hv : v ≤ 999) (ha : sPut g.1 key v = some (x, S')) : f_put g (nI key) (nI v) = (0, x, gPush g S') := by
  unfold f_put
  rw [if_pos ⟨ky_in h, va_in hv⟩, xN_nI (by omega), xN_nI (by omega)]
  simp only [ha]
theorem fk_remove {g : zGs} {key bk : Nat} (h : key ≤ 9999) (hf : sFind g.1 key = some bk) : f_remove g (nI key) = (0, nI (g.1.2.2.2.2.1 bk), gPush g (sRem g.1 bk)) := by
  unfold f_remove
  rw [if_pos (ky_in h), xN_nI (by omega)]
  simp only [hf]
theorem fk_bucketsWith {g : zGs} {H2 : Nat} (h2 : 2 ≤ H2) (h6 : H2 ≤ 6) : f_bucketsWith g (nI H2) = (0, (match sNear g.1 H2 with
  | none => -1
  | some S' => nI S'.1), g) := by
  unfold f_bucketsWith
  rw [if_pos (show iO 2 6 (nI H2) = true from iO_nI (a := 2) (b := 6) h2 h6 (by decide)), xN_nI (by omega)]
  rfl
theorem fk_setN {g : zGs} {H2 : Nat} {S' : zS} (h2 : 2 ≤ H2) (h6 : H2 ≤ 6) (hs : sNear g.1 H2 = some S') : f_setNeighbourhood g (nI H2) = (0, nI S'.1, gPush g S') := by
  unfold f_setNeighbourhood
  rw [if_pos (show iO 2 6 (nI H2) = true from iO_nI (a := 2) (b := 6) h2 h6 (by decide)), xN_nI (by omega)]
  simp only [hs]
theorem fk_setM {g : zGs} {T2 : Nat} {S' : zS} (h1 : 1 ≤ T2) (h9 : T2 ≤ 99) (hs : sTimes g.1 T2 = some S') : f_setMultiplier g (nI T2) = (0, nI S'.1, gPush g S') := by
  unfold f_setMultiplier
  rw [if_pos (show iO 1 99 (nI T2) = true from iO_nI (a := 1) (b := 99) h1 h9 (by decide)), xN_nI (by omega)]
  simp only [hs]
theorem fk_best {g : zGs} {M : Nat} (h1 : 1 ≤ M) (h3 : M ≤ 30) : f_bestMultiplier g (nI M) = (0, optI (bstF g.1 M 1 none 0), g) := by
  unfold f_bestMultiplier
  rw [if_pos (show iO 1 30 (nI M) = true from iO_nI (a := 1) (b := 30) h1 h3 (by decide)), xN_nI (by omega)]
theorem best_l {S : zS} : ∀ n m (f : Option Nat) (le r : Nat), bstF S n m f le = some r → f = some r ∨ (m ≤ r ∧ r < m + n ∧ ∃ S', sTimes S r = some S' ∧ S'.1 = S.1)
  | 0, m, f, le, r, e => Or.inl e
  | n + 1, m, f, le, r, e => by
    cases hw : sWith S m with
    | none =>
      rw [bstF_skip hw] at e
      rcases best_l n (m + 1) f le r e with h | ⟨h1, h2, h3⟩
      · exact Or.inl h
      · exact Or.inr ⟨by omega, by omega, h3⟩
    | some z =>
      by_cases h2 : f = none ∨ z < le
      · rw [bstF_take hw h2] at e
        rcases best_l n (m + 1) (some m) z r e with h | ⟨h1, h2, h3⟩
        · cases h
          refine Or.inr ⟨Nat.le_refl _, by omega, ?_⟩
          unfold sWith at hw
          split at hw
          · cases hw
          · rename_i S' hs
            split at hw
            · rename_i hB
              exact ⟨S', hs, hB⟩
            · cases hw
        · exact Or.inr ⟨by omega, by omega, h3⟩
      · rw [bstF_leave hw h2] at e
        rcases best_l n (m + 1) f le r e with h | ⟨h1, h2, h3⟩
        · exact Or.inl h
        · exact Or.inr ⟨by omega, by omega, h3⟩
theorem best_ok {S : zS} {M r : Nat} (e : bstF S M 1 none 0 = some r) : 1 ≤ r ∧ r ≤ M ∧ ∃ S', sTimes S r = some S' ∧ S'.1 = S.1 := by
  rcases best_l M 1 none 0 r e with h | ⟨h1, h2, h3⟩
  · cases h
  · exact ⟨h1, by omega, h3⟩
theorem fk_grow {g : zGs} {S' : zS} (hs : sGrow g.1 = some S') : f_grow g = (0, nI S'.1, gPush g S') := by
  unfold f_grow
  simp only [hs]
/-! WHAT A DEED DOES to what can be undone -/
def dRel (g g' : zGs) : Prop := okc g'.1 ∧ ((g'.1 = g.1 ∧ gK g' = gK g) ∨ (gK g' = gK g + 1 ∧ gHi g' 0 = g.1) ∨ gK g + 2 ≤ gK g' ∨ (7 ≤ gK g ∧ gK g' = 8))
theorem dRel.rf {g : zGs} (h : okc g.1) : dRel g g := ⟨h, Or.inl ⟨rfl, rfl⟩⟩
theorem dRel.push {g g' : zGs} {S' : zS} (h : dRel g g') (hc : okc S') (h8 : gK g ≤ 8) (h8' : gK g' ≤ 8) : dRel g (gPush g' S') := by
  refine ⟨by rw [push_t]; exact hc, ?_⟩
  rw [push_k, push_h]
  rcases h.2 with ⟨h1, h2⟩ | ⟨h1, h2⟩ | h1 | ⟨h1, h2⟩
  · by_cases hk : gK g' < 8
    · rw [if_pos hk]
      exact Or.inr (Or.inl ⟨by omega, h1⟩)
    · rw [if_neg hk]
      exact Or.inr (Or.inr (Or.inr ⟨by omega, rfl⟩))
  · by_cases hk : gK g' < 8
    · rw [if_pos hk]
      exact Or.inr (Or.inr (Or.inl (by omega)))
    · rw [if_neg hk]
      exact Or.inr (Or.inr (Or.inr ⟨by omega, rfl⟩))
  · by_cases hk : gK g' < 8
    · rw [if_pos hk]
      exact Or.inr (Or.inr (Or.inl (by omega)))
    · rw [if_neg hk]
      exact Or.inr (Or.inr (Or.inl (by omega)))
  · rw [if_neg (by omega)]
    exact Or.inr (Or.inr (Or.inr ⟨h1, rfl⟩))
/-! THE LAW'S SUMS -/
def sum0 (S : zS) : Int64 := (((((((((nI S.1).toInt64 + (100 * (nI S.2.1).toInt64)) + (1000 * (nI S.2.2.1).toInt64)) + (if S.2.2.2.2.2 3 = 0 then 0 else 7)) + (11 * (S.2.2.2.2.2 4).toInt64)) + (13 * (S.2.2.2.2.2 5).toInt64)) + (17 * (S.2.2.2.2.2 6).toInt64)) + (19 * (S.2.2.2.2.2 7).toInt64)) + (23 * (S.2.2.2.2.2 8).toInt64))
def sumL (S : zS) : Nat → Int64
  | 0 => sum0 S
  | i + 1 => ((31 * sumL S i) + (tkey (S.2.2.2.1 i)).toInt64) + (20000 * (tval (S.2.2.2.1 i) (S.2.2.2.2.1 i)).toInt64)
def fSum (S : zS) : Int64 := sumL S S.1
theorem con_skip {K V : Nat → Nat} {i : Nat} (h : K i = 0) : conN K V (i + 1) = conN K V i := by
  have e : conN K V (i + 1) = conN K V i + K i * (K i + 6) * (V i + 3) := rfl
  rw [e, h]; simp
theorem con_step {K V : Nat → Nat} {i : Nat} (h : K i ≠ 0) (hK : K i ≤ 10000) (hV : V i ≤ 999) : lN (conN K V i) + ((((tkey (K i)).toInt64 + 1) * ((tkey (K i)).toInt64 + 7)) * ((tval (K i) (V i)).toInt64 + 3)) = lN (conN K V (i + 1)) := by
  have e : conN K V (i + 1) = conN K V i + K i * (K i + 6) * (V i + 3) := rfl
  unfold tkey tval
  rw [if_neg h, if_neg h, nI_l (by omega), nI_l (by omega), e]
  rw [show (1 : Int64) = lN 1 from rfl, show (7 : Int64) = lN 7 from rfl, show (3 : Int64) = lN 3 from rfl, lN_add, lN_add, lN_add, lN_mul, lN_mul, lN_add]
  have h1 : K i - 1 + 1 = K i := by omega
  have h2 : K i - 1 + 7 = K i + 6 := by omega
  rw [h1, h2]
theorem lgc_same (x : Int64) : lg_cmp x x = 0 := (lg_cmp_eq x x).mpr rfl
/-- what entry() answers: NONE, or a key that is there -/
def eOK (S : zS) (v : Int32) : Prop := v = -1 ∨ ∃ b key, b < S.1 ∧ S.2.2.2.1 b = key + 1 ∧ v = nI key
theorem eOK_at {S : zS} {b : Nat} (hb : b < S.1) (h : ¬ tkey (S.2.2.2.1 b) = -1) : eOK S (tkey (S.2.2.2.1 b)) := by
  by_cases h0 : S.2.2.2.1 b = 0
  · exact absurd (by rw [h0]; rfl) h
  · exact Or.inr ⟨b, S.2.2.2.1 b - 1, hb, by omega, tkey_ne h0⟩
theorem eOK_find {S : zS} {v : Int32} {s : Nat → Int32} {a : Nat → Nat → Int32} (hT : cT S s a) (h : eOK S v) (hv : ¬ v = -1) : ∃ key b, key ≤ 9999 ∧ v = nI key ∧ sFind S key = some b := by
  rcases h with h | ⟨b, key, h1, h2, h3⟩
  · exact absurd h hv
  · obtain ⟨B, H, T, K, V, c⟩ := S
    obtain ⟨hR, ⟨hI, hd, -⟩, -⟩ := hT
    obtain ⟨-, -, -, -, -, -, -, -, -, -, -, ekv, -⟩ := hR
    have h2 : K b = key + 1 := h2
    exact ⟨key, b, by have := (ekv b).1; omega, h3, find_at hd h1 h2⟩
theorem okc_00 : okc g00.1 := by
  show okc sX8
  unfold okc
  decide +kernel
theorem V2_with {l : zL} {d kc ks n : Nat} {h : Nat → va_E} {cm : Value} {o u : Nat → Nat → Int32} {s : Nat → Nat → Int32} {a : Nat → Nat → Nat → Int32} {g : zGs} {Q : zQ} {H2 : Nat} (h2 : 2 ≤ H2) (h6 : H2 ≤ 6) (hn : 89 ≤ n) (hno : ∀ E n' h', ¬ Q (.inr E) n' h') (hC : cI g o u s a) (hqN : ∀ cm' o' u' s' a', sNear g.1 H2 = none → cI g o' u' s' a' → Q (.inl (some (.int (-1)))) n (gW h cm' o' u' s' a')) (hqS : ∀ S' cm' o' u' s' a', sNear g.1 H2 = some S' → cI g o' u' s' a' → Q (.inl (some (.int (nI S'.1)))) n (gW h cm' o' u' s' a')) : Zj l mX7_bucketsWith (d + 8) kc ks 0 [(0, .ref 0), (1, .int (nI H2))] [] n (gW h cm o u s a) Q := by
  cases hs : sNear g.1 H2 with
  | none => exact V_bucketsWith (v := -1) hn hno hC (by rw [fk_bucketsWith h2 h6, hs]) (fun cm' o' u' s' a' hC' => hqN cm' o' u' s' a' hs hC')
  | some S' => exact V_bucketsWith (v := nI S'.1) hn hno hC (by rw [fk_bucketsWith h2 h6, hs]) (fun cm' o' u' s' a' hC' => hqS S' cm' o' u' s' a' hs hC')
theorem V2_best {l : zL} {d kc ks n : Nat} {h : Nat → va_E} {cm : Value} {o u : Nat → Nat → Int32} {s : Nat → Nat → Int32} {a : Nat → Nat → Nat → Int32} {g : zGs} {Q : zQ} {M : Nat} (h1 : 1 ≤ M) (h3 : M ≤ 30) (hn : 89 ≤ n) (hno : ∀ E n' h', ¬ Q (.inr E) n' h') (hC : cI g o u s a) (hqN : ∀ cm' o' u' s' a', cI g o' u' s' a' → Q (.inl (some (.int (-1)))) n (gW h cm' o' u' s' a')) (hqS : ∀ r S' cm' o' u' s' a', 1 ≤ r → r ≤ 30 → sTimes g.1 r = some S' → S'.1 = g.1.1 → cI g o' u' s' a' → Q (.inl (some (.int (nI r)))) n (gW h cm' o' u' s' a')) : Zj l mX7_bestMultiplier (d + 8) kc ks 0 [(0, .ref 0), (1, .int (nI M))] [] n (gW h cm o u s a) Q := by
  cases hs : bstF g.1 M 1 none 0 with
  | none => exact V_bestMultiplier (v := -1) hn hno hC (by rw [fk_best h1 h3, hs]; rfl) (fun cm' o' u' s' a' hC' => hqN cm' o' u' s' a' hC')
  | some r =>
    obtain ⟨r1, r2, S', r3, r4⟩ := best_ok hs
    exact V_bestMultiplier (v := nI r) hn hno hC (by rw [fk_best h1 h3, hs]; rfl) (fun cm' o' u' s' a' hC' => hqS r S' cm' o' u' s' a' r1 (by omega) r3 r4 hC')
