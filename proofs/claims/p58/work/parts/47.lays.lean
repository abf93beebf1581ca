theorem mod_back2 {B hm st : Nat} (hB : okB B) (hh : hm < B) (hs : st < B) : ((hm + st) % B + B - hm) % B = st := by
  rcases hB with rfl | rfl | rfl | rfl <;> omega
