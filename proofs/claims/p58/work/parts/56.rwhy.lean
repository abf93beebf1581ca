/-- why a key cannot be added: 1 it is there, 2 no place, 0 it can -/
def whyR (B H T : Nat) (K V : Nat → Nat) (c : Int32) (key : Nat) : Int32 := match bwS B K key with
  | some _ => 1
  | none => match insR B H T K V c key 0 with
    | none => 2
    | some _ => 0
def pulR (B H T : Nat) (K : Nat → Nat) (free m : Nat) : Option Nat := (pulS B H T K free m).map fun q => mvSrc B free q.1 q.2
theorem bwS_lt {B : Nat} {K : Nat → Nat} {key bk : Nat} (h : bwS B K key = some bk) : bk < B ∧ K bk = key + 1 := by
  obtain ⟨-, h2, h3⟩ := fnd_some h
  exact ⟨by omega, by simpa using h3⟩