/-! A COUNT OVER ALL BUCKETS AND OVER THE NEIGHBOURHOOD -/
theorem sumN_split (g : Nat → Nat) (m : Nat) : ∀ n, sumN g (m + n) = sumN g m + sumN (fun k => g (m + k)) n
  | 0 => rfl
  | n + 1 => by
    have ih := sumN_split g m n
    rw [← Nat.add_assoc, sumN, ih, sumN]
    omega
theorem sumN_zero {g : Nat → Nat} : ∀ n, (∀ k, k < n → g k = 0) → sumN g n = 0
  | 0, _ => rfl
  | n + 1, h => by
    rw [sumN, sumN_zero n (fun k hk => h k (by omega)), h n (by omega)]
theorem sumN_rot {f : Nat → Nat} {B i : Nat} (hi : i < B) : sumN (fun k => f ((i + k) % B)) B = sumN f B := by
  have h1 : B = (B - i) + i := by omega
  have h2 : B = i + (B - i) := by omega
  have e1 : sumN (fun k => f ((i + k) % B)) B = sumN (fun k => f ((i + k) % B)) (B - i) + sumN (fun k => f ((i + ((B - i) + k)) % B)) i := by
    have := sumN_split (fun k => f ((i + k) % B)) (B - i) i
    rw [← h1] at this
    exact this
  have e2 : sumN f B = sumN f i + sumN (fun k => f (i + k)) (B - i) := by
    have := sumN_split f i (B - i)
    rw [← h2] at this
    exact this
  rw [e1, e2, sumN_congr (B - i) (g := fun k => f (i + k)) (fun k hk => by rw [Nat.mod_eq_of_lt (by omega)]), sumN_congr i (g := f) (fun k hk => by
    rw [show i + ((B - i) + k) = k + B by omega, Nat.add_mod_right, Nat.mod_eq_of_lt (by omega)])]
  omega
theorem manN_cntH {B H T : Nat} {K : Nat → Nat} {i : Nat} (hB : okB B) (hH : H ≤ 6) (hI : inH B H T K) (hi : i < B) : manN B T K i B = cntH B H T K i := by
  have hle := hB.le
  unfold manN cntH
  rw [← sumN_rot (f := fun b => if isO B T K b i = true then 1 else 0) hi]
  have e : B = H + (B - H) := by omega
  have h1 := sumN_split (fun k => if isO B T K ((i + k) % B) i = true then 1 else 0) H (B - H)
  rw [← e] at h1
  rw [h1, sumN_zero (B - H) (fun k hk => ?_), Nat.add_zero]
  refine if_neg (fun ho => ?_)
  obtain ⟨hK, hm⟩ := isO_K ho
  obtain ⟨t, ht, h2⟩ := hI _ (Nat.mod_lt _ (by omega)) hK
  rw [hm] at h2
  rcases hB with rfl | rfl | rfl | rfl <;> omega
