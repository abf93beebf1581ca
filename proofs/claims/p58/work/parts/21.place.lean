/-! FINDING A PLACE, AS NUMBERS -/
def movB (B T : Nat) (K : Nat → Nat) (free back : Nat) : Option Nat := fnd (fun k => isO B T K (((free + B - back) % B + k) % B) ((free + B - back) % B)) back 0
/-- which entry moves to the free bucket: (how far its home lies before it, how far it lies from its home) -/
def movS (B T : Nat) (K : Nat → Nat) (free : Nat) : Nat → Option (Nat × Nat)
  | 0 => none
  | j + 1 => match movB B T K free (j + 1) with
    | some k => some (j + 1, k)
    | none => movS B T K free j
theorem movS_yes {B T : Nat} {K : Nat → Nat} {free j k : Nat} (h : movB B T K free (j + 1) = some k) : movS B T K free (j + 1) = some (j + 1, k) := by simp [movS, h]
theorem movS_no {B T : Nat} {K : Nat → Nat} {free j : Nat} (h : movB B T K free (j + 1) = none) : movS B T K free (j + 1) = movS B T K free j := by simp [movS, h]
theorem movS_some {B T : Nat} {K : Nat → Nat} {free : Nat} : ∀ {m j k : Nat}, movS B T K free m = some (j, k) → 1 ≤ j ∧ j ≤ m ∧ k < j ∧ isO B T K (((free + B - j) % B + k) % B) ((free + B - j) % B) = true
  | 0, _, _, h => by simp [movS] at h
  | m + 1, j, k, h => by
    cases hb : movB B T K free (m + 1) with
    | some i =>
      rw [movS_yes hb] at h
      cases h
      obtain ⟨-, h2, h3⟩ := fnd_some hb
      exact ⟨by omega, Nat.le_refl _, by omega, h3⟩
    | none =>
      rw [movS_no hb] at h
      obtain ⟨h1, h2, h3⟩ := movS_some h
      exact ⟨h1, by omega, h3⟩
theorem back_free {B free j : Nat} (hB : okB B) (hf : free < B) (hj : j < B) : ((free + B - j) % B + j) % B = free := by
  rcases hB with rfl | rfl | rfl | rfl <;> omega
/-- the bucket that is free behind the move -/
def mvSrc (B free j k : Nat) : Nat := ((free + B - j) % B + k) % B
theorem mvSrc_step {B hm st j k : Nat} (hB : okB B) (hhm : hm < B) (hst : st < B) (hj : j ≤ st) (hk : k ≤ j) : mvSrc B ((hm + st) % B) j k = (hm + (st - (j - k))) % B := by
  unfold mvSrc
  rcases hB with rfl | rfl | rfl | rfl <;> omega
/-- as long as the free bucket is too far, an entry is displaced: the distance at the end, the buckets, the count -/
def plc (B H T hm : Nat) : Nat → (Nat → Nat) → (Nat → Nat) → Nat → Int32 → Option Nat × (Nat → Nat) × (Nat → Nat) × Int32
  | 0, K, V, _, c => (none, K, V, c)
  | n + 1, K, V, st, c => if st < H then (some st, K, V, c) else match movS B T K ((hm + st) % B) (H - 1) with
    | none => (none, K, V, c)
    | some (j, k) => plc B H T hm n (mvK K (mvSrc B ((hm + st) % B) j k) ((hm + st) % B)) (mvK V (mvSrc B ((hm + st) % B) j k) ((hm + st) % B)) (st - (j - k)) (c + 1)
theorem plc_near {B H T hm n : Nat} {K V : Nat → Nat} {st : Nat} {c : Int32} (h : st < H) : plc B H T hm (n + 1) K V st c = (some st, K, V, c) := by simp [plc, h]
theorem plc_stuck {B H T hm n : Nat} {K V : Nat → Nat} {st : Nat} {c : Int32} (h : ¬ st < H) (h2 : movS B T K ((hm + st) % B) (H - 1) = none) : plc B H T hm (n + 1) K V st c = (none, K, V, c) := by simp [plc, h, h2]
theorem plc_step {B H T hm n : Nat} {K V : Nat → Nat} {st : Nat} {c : Int32} {j k : Nat} (h : ¬ st < H) (h2 : movS B T K ((hm + st) % B) (H - 1) = some (j, k)) : plc B H T hm (n + 1) K V st c = plc B H T hm n (mvK K (mvSrc B ((hm + st) % B) j k) ((hm + st) % B)) (mvK V (mvSrc B ((hm + st) % B) j k) ((hm + st) % B)) (st - (j - k)) (c + 1) := by
  rw [plc, if_neg h, h2]
/-- a place for an entry: its bucket (none: there is none), the buckets behind it, the count of what was displaced -/
def placeF (B H T : Nat) (K V : Nat → Nat) (c : Int32) (key v : Nat) : Option Nat × (Nat → Nat) × (Nat → Nat) × Int32 := match frD B K (hmo B T key) with
  | none => (none, K, V, c)
  | some d => match plc B H T (hmo B T key) 65 K V d c with
    | (none, K', V', c') => (none, K', V', c')
    | (some st, K', V', c') => (some ((hmo B T key + st) % B), va_up K' ((hmo B T key + st) % B) (key + 1), va_up V' ((hmo B T key + st) % B) v, c')
/-- the table's world behind a change of its buckets: entries and displaced told, the queue as before -/
def tQ (B H T : Nat) (K V : Nat → Nat) (s : Nat → Int32) (a : Nat → Nat → Int32) (c10 c11 : Int32) (s' : Nat → Int32) (a' : Nat → Nat → Int32) : Prop :=
  tR B H T K V s' a' ∧ s' 10 = c10 ∧ s' 11 = c11 ∧ (∀ k, k ≠ 10 → k ≠ 11 → s' k = s k) ∧ a' 3 = a 3 ∧ a' 4 = a 4
theorem tQ.tr {B H T : Nat} {K V K1 V1 : Nat → Nat} {s s1 s2 : Nat → Int32} {a a1 a2 : Nat → Nat → Int32} {x y z w : Int32} (h1 : tQ B H T K V s a x y s1 a1) (h2 : tQ B H T K1 V1 s1 a1 z w s2 a2) : tQ B H T K1 V1 s a z w s2 a2 :=
  ⟨h2.1, h2.2.1, h2.2.2.1, fun k h3 h4 => (h2.2.2.2.1 k h3 h4).trans (h1.2.2.2.1 k h3 h4), h2.2.2.2.2.1.trans h1.2.2.2.2.1, h2.2.2.2.2.2.trans h1.2.2.2.2.2⟩
theorem frD_lt {B : Nat} {K : Nat → Nat} {f d : Nat} (h : frD B K f = some d) : d < B ∧ K ((f + d) % B) = 0 := by
  obtain ⟨-, h2, h3⟩ := fnd_some h
  exact ⟨by omega, by simpa using h3⟩
