def movR (B T : Nat) (K : Nat → Nat) (free m : Nat) : Option Nat := (movS B T K free m).map fun q => mvSrc B free q.1 q.2
