/-! BUILDING ANEW, AS NUMBERS -/
def kz : Nat → Nat := fun _ => 0
/-- the entries of the buckets below i, in their order -/
def entL (K V : Nat → Nat) : Nat → List (Nat × Nat)
  | 0 => []
  | i + 1 => entL K V i ++ (if K i = 0 then [] else [(K i - 1, V i)])
theorem entL_len (K V : Nat → Nat) : ∀ i, (entL K V i).length ≤ i
  | 0 => Nat.le_refl _
  | i + 1 => by
    have := entL_len K V i
    simp only [entL, List.length_append]
    split <;> simp <;> omega
theorem entL_free {K V : Nat → Nat} {i : Nat} (h : K i = 0) : entL K V (i + 1) = entL K V i := by simp [entL, h]
theorem entL_full {K V : Nat → Nat} {i : Nat} (h : K i ≠ 0) : entL K V (i + 1) = entL K V i ++ [(K i - 1, V i)] := by simp [entL, h]
theorem entL_ok {K V : Nat → Nat} (h : ∀ i, K i ≤ 10000 ∧ V i ≤ 999) : ∀ i, ∀ q ∈ entL K V i, q.1 ≤ 9999 ∧ q.2 ≤ 999
  | 0, q, hq => by simp [entL] at hq
  | i + 1, q, hq => by
    have hi := h i
    by_cases hk : K i = 0
    · rw [entL_free hk] at hq
      exact entL_ok h i q hq
    · rw [entL_full hk] at hq
      rcases List.mem_append.mp hq with h1 | h1
      · exact entL_ok h i q h1
      · rw [List.mem_singleton.mp h1]
        exact ⟨by show K i - 1 ≤ 9999; omega, hi.2⟩
/-- the table's queue holds a list -/
def qR (s : Nat → Int32) (a : Nat → Nat → Int32) (L : List (Nat × Nat)) : Prop := s 5 = nI L.length ∧ L.length ≤ 64 ∧ (∀ j k v, L[j]? = some (k, v) → a 3 j = nI k ∧ a 4 j = nI v) ∧ ∀ q ∈ L, q.1 ≤ 9999 ∧ q.2 ≤ 999
theorem qR.same {s s' : Nat → Int32} {a a' : Nat → Nat → Int32} {L : List (Nat × Nat)} (h : qR s a L) (h5 : s' 5 = s 5) (h3 : a' 3 = a 3) (h4 : a' 4 = a 4) : qR s' a' L :=
  ⟨h5.trans h.1, h.2.1, fun j k v hj => by rw [h3, h4]; exact h.2.2.1 j k v hj, h.2.2.2⟩
/-- the entries of a list get their places one after the other -/
def bldF (B H T : Nat) : List (Nat × Nat) → (Nat → Nat) → (Nat → Nat) → Int32 → Bool × (Nat → Nat) × (Nat → Nat) × Int32
  | [], K, V, c => (true, K, V, c)
  | (k, v) :: r, K, V, c => match placeF B H T K V c k v with
    | (none, K', V', c') => (false, K', V', c')
    | (some _, K', V', c') => bldF B H T r K' V' c'
/-- an empty table -/
theorem tR_nil {B H T : Nat} {s : Nat → Int32} {a : Nat → Nat → Int32} (okb : okB B) (h2H : 2 ≤ H) (hH6 : H ≤ 6) (h1T : 1 ≤ T) (hT99 : T ≤ 99) (e6 : s 6 = nI B) (e7 : s 7 = nI H) (e8 : s 8 = nI T) (h : ∀ i, i < 64 → a 0 i = -1 ∧ a 1 i = -1 ∧ a 2 i = 0) : tR B H T kz kz s a := by
  refine ⟨okb, h2H, hH6, h1T, hT99, e6, e7, e8, fun i hi => (h i hi).1, fun i hi => (h i hi).2.1, fun i hi => ?_, fun i => ⟨by simp [kz], by simp [kz]⟩, fun i _ => rfl⟩
  rw [(h i hi).2.2]
  have : hop B H T kz i = 0 := by
    unfold hop
    have h0 : ∀ n, hb6 (fun _ => false) n = 0 := by
      intro n
      induction n with
      | zero => rfl
      | succ n ih => simp [hb6, ih]
    have h1 : (fun k => isO B T kz ((i + k) % B) i) = fun _ => false := by
      funext k
      simp [isO, kz]
    rw [h1]
    exact h0 H
  rw [this]
  rfl
/-- buckets, keys and values only: the hop bits may be those of another neighbourhood or multiplier -/
def tK (B H T : Nat) (K V : Nat → Nat) (s : Nat → Int32) (a : Nat → Nat → Int32) : Prop :=
  okB B ∧ 2 ≤ H ∧ H ≤ 6 ∧ 1 ≤ T ∧ T ≤ 99 ∧ s 6 = nI B ∧ s 7 = nI H ∧ s 8 = nI T ∧ (∀ i, i < 64 → a 0 i = tkey (K i)) ∧ (∀ i, i < 64 → a 1 i = tval (K i) (V i)) ∧ True ∧ (∀ i, K i ≤ 10000 ∧ V i ≤ 999) ∧ ∀ i, B ≤ i → K i = 0
theorem tR.k {B H T : Nat} {K V : Nat → Nat} {s : Nat → Int32} {a : Nat → Nat → Int32} (hR : tR B H T K V s a) : tK B H T K V s a := by
  obtain ⟨okb, h2H, hH6, h1T, hT99, e6, e7, e8, ek, ev, eh, ekv, ez⟩ := hR
  exact ⟨okb, h2H, hH6, h1T, hT99, e6, e7, e8, ek, ev, trivial, ekv, ez⟩
theorem tK_s {B H T : Nat} {K V : Nat → Nat} {s s' : Nat → Int32} {a : Nat → Nat → Int32} (hR : tK B H T K V s a) (h6 : s' 6 = s 6) (h7 : s' 7 = s 7) (h8 : s' 8 = s 8) : tK B H T K V s' a := by
  obtain ⟨okb, h2H, hH6, h1T, hT99, e6, e7, e8, ek, ev, eh, ekv, ez⟩ := hR
  exact ⟨okb, h2H, hH6, h1T, hT99, h6.trans e6, h7.trans e7, h8.trans e8, ek, ev, eh, ekv, ez⟩
theorem tR.same {B H T : Nat} {K V : Nat → Nat} {s s' : Nat → Int32} {a a' : Nat → Nat → Int32} (hR : tR B H T K V s a) (h6 : s' 6 = s 6) (h7 : s' 7 = s 7) (h8 : s' 8 = s 8) (h0 : a' 0 = a 0) (h1 : a' 1 = a 1) (h2 : a' 2 = a 2) : tR B H T K V s' a' := by
  obtain ⟨okb, h2H, hH6, h1T, hT99, e6, e7, e8, ek, ev, eh, ekv, ez⟩ := hR
  exact ⟨okb, h2H, hH6, h1T, hT99, h6.trans e6, h7.trans e7, h8.trans e8, by rw [h0]; exact ek, by rw [h1]; exact ev, by rw [h2]; exact eh, ekv, ez⟩
