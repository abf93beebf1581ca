/-! THE REFERENCE in a world: at the places b .. b+13, its scalars s (by the field's number), its rows a -/
def mF (b : Nat) (s : Nat → Int32) : List Value := [.ref (b + 1), .ref (b + 2), .ref (b + 3), .ref (b + 4), .ref (b + 5), .ref (b + 6), .ref (b + 7), .ref (b + 8), .ref (b + 9), .int (s 9), .int (s 10), .int (s 11), .ref (b + 10), .ref (b + 11), .int (s 14), .int (s 15), .int (s 16), .int (s 17), .ref (b + 12), .int (s 19), .int (s 20), .int (s 21), .int (s 22), .int (s 23), .int (s 24), .int (s 25), .ref (b + 13)]
def mL : Nat → Nat := fun j => match j with
  | 0 => 137
  | 1 => 137
  | 2 => 137
  | 3 => 137
  | 4 => 137
  | 5 => 1096
  | 6 => 137
  | 7 => 64
  | 8 => 64
  | 9 => 600
  | 10 => 600
  | 11 => 520
  | 12 => 3
  | _ => 0
def mC (j : Nat) : Nat := if j = 11 then 1 else 0
def mW (h : Nat → va_E) (b : Nat) (s : Nat → Int32) (a : Nat → Nat → Int32) : Nat → va_E := fun q => if q = b then .inr (6, mF b s) else if b < q ∧ q ≤ b + 13 then .inl (mC (q - b - 1), mL (q - b - 1), .inl (a (q - b - 1))) else h q
theorem mW_obj {h : Nat → va_E} {b : Nat} {s : Nat → Int32} {a : Nat → Nat → Int32} : mW h b s a b = .inr (6, mF b s) := if_pos rfl
theorem mW_arr {h : Nat → va_E} {b : Nat} {s : Nat → Int32} {a : Nat → Nat → Int32} (j : Nat) (hj : j < 13) : mW h b s a (b + (j + 1)) = .inl (mC j, mL j, .inl (a j)) := by
  have h1 : ¬ b + (j + 1) = b := by omega
  have h2 : b < b + (j + 1) ∧ b + (j + 1) ≤ b + 13 := by omega
  have h3 : b + (j + 1) - b - 1 = j := by omega
  simp only [mW, if_neg h1, if_pos h2, h3]
theorem mW_off {h : Nat → va_E} {b : Nat} {s : Nat → Int32} {a : Nat → Nat → Int32} {q : Nat} (hq : q < b ∨ b + 13 < q) : mW h b s a q = h q := by
  have h1 : ¬ q = b := by omega
  have h2 : ¬ (b < q ∧ q ≤ b + 13) := by omega
  simp only [mW, if_neg h1, if_neg h2]
def mS (k : Nat) : Prop := k = 9 ∨ k = 10 ∨ k = 11 ∨ k = 14 ∨ k = 15 ∨ k = 16 ∨ k = 17 ∨ k = 19 ∨ k = 20 ∨ k = 21 ∨ k = 22 ∨ k = 23 ∨ k = 24 ∨ k = 25
theorem mF_set (b : Nat) (s : Nat → Int32) (x : Int32) (k : Nat) (hk : mS k) : (mF b s).set k (.int x) = mF b (va_up s k x) := by
  rcases hk with rfl | rfl | rfl | rfl | rfl | rfl | rfl | rfl | rfl | rfl | rfl | rfl | rfl | rfl <;> rfl
theorem mW_put {h : Nat → va_E} {b : Nat} {s : Nat → Int32} {a : Nat → Nat → Int32} (k : Nat) (x : Int32) (hk : mS k) : va_up (mW h b s a) b (.inr (6, (mF b s).set k (.int x))) = mW h b (va_up s k x) a := by
  rw [mF_set b s x k hk]
  funext q
  by_cases hq : q = b
  · simp [va_up, mW, hq]
  · simp [va_up, mW, hq]
theorem mW_ast {h : Nat → va_E} {b : Nat} {s : Nat → Int32} {a : Nat → Nat → Int32} (j : Nat) (f : Nat → Int32) (hj : j < 13) : va_up (mW h b s a) (b + (j + 1)) (.inl (mC j, mL j, .inl f)) = mW h b s (va_up a j f) := by
  funext q
  by_cases hq : q = b + (j + 1)
  · subst hq
    rw [mW_arr j hj]
    simp [va_up]
  · simp only [va_up, if_neg hq, mW]
    by_cases h1 : q = b
    · simp [h1]
    · by_cases h2 : b < q ∧ q ≤ b + 13
      · have h3 : ¬ q - b - 1 = j := by omega
        simp [h1, h2, h3]
      · simp [h1, h2]
theorem m_put {l : zL} {Y : zM} {d kc ks pc n b k idx : Nat} {lv : List (Nat × Value)} {rest : List Value} {h : Nat → va_E} {s : Nat → Int32} {a : Nat → Nat → Int32} {x : Int32} {Q : zQ} (hb : b < n) (hf : zF Y.1.cls idx 6 k) (hk : mS k) (h11 : k ≠ 11 := by decide) (hd : decode Y.2.1 pc = .ok (.putfield idx, 3)) (kk : Zj l Y d kc ks (pc + 3) lv rest n (mW h b (va_up s k x) a) Q) : Zj l Y d kc ks pc lv (.int x :: .ref b :: rest) n (mW h b s a) Q := by
  refine z_puti hb mW_obj hf gg8 ?_ ?_ (by show k < 27; unfold mS at hk; omega) hd (by rw [mW_put k x hk]; exact kk)
  · rcases hk with rfl | rfl | rfl | rfl | rfl | rfl | rfl | rfl | rfl | rfl | rfl | rfl | rfl | rfl <;> first | rfl | exact absurd rfl h11
  · rcases hk with rfl | rfl | rfl | rfl | rfl | rfl | rfl | rfl | rfl | rfl | rfl | rfl | rfl | rfl
    · exact fin8_9
    · exact fin8_10
    · exact absurd rfl h11
    · exact fin8_14
    · exact fin8_15
    · exact fin8_16
    · exact fin8_17
    · exact fin8_19
    · exact fin8_20
    · exact fin8_21
    · exact fin8_22
    · exact fin8_23
    · exact fin8_24
    · exact fin8_25
theorem m_putz {l : zL} {Y : zM} {d kc ks pc n b idx : Nat} {lv : List (Nat × Value)} {rest : List Value} {h : Nat → va_E} {s : Nat → Int32} {a : Nat → Nat → Int32} {x : Int32} {Q : zQ} (hx : x = 0 ∨ x = 1) (hb : b < n) (hf : zF Y.1.cls idx 6 11) (hd : decode Y.2.1 pc = .ok (.putfield idx, 3)) (kk : Zj l Y d kc ks (pc + 3) lv rest n (mW h b (va_up s 11 x) a) Q) : Zj l Y d kc ks pc lv (.int x :: .ref b :: rest) n (mW h b s a) Q :=
  z_putz hx hb mW_obj hf gg8 rfl fin8_11 (by show 11 < 27; decide) hd (by rw [mW_put 11 x (Or.inr (Or.inr (Or.inl rfl)))]; exact kk)
theorem m_ald {l : zL} {Y : zM} {d kc ks pc n b : Nat} {lv : List (Nat × Value)} {rest : List Value} {h : Nat → va_E} {s : Nat → Int32} {a : Nat → Nat → Int32} {i : Int32} {Q : zQ} (j N : Nat) (hj : j < 13) (hc : mC j = 0) (hL : mL j = N) (hb : b + 14 ≤ n) (hin : vp_in i N) (hd : decode Y.2.1 pc = .ok (.iaload, 1)) (kk : Zj l Y d kc ks (pc + 1) lv (.int (a j i.toNatClampNeg) :: rest) n (mW h b s a) Q) : Zj l Y d kc ks pc lv (.int i :: .ref (b + (j + 1)) :: rest) n (mW h b s a) Q :=
  z_iald (by omega) (by rw [mW_arr j hj, hc, hL]) hin hd kk
theorem m_ast {l : zL} {Y : zM} {d kc ks pc n b : Nat} {lv : List (Nat × Value)} {rest : List Value} {h : Nat → va_E} {s : Nat → Int32} {a : Nat → Nat → Int32} {i x : Int32} {Q : zQ} (j N : Nat) (hj : j < 13) (hc : mC j = 0) (hL : mL j = N) (hb : b + 14 ≤ n) (hin : vp_in i N) (hd : decode Y.2.1 pc = .ok (.iastore, 1)) (kk : Zj l Y d kc ks (pc + 1) lv rest n (mW h b s (va_up a j (va_up (a j) i.toNatClampNeg x))) Q) : Zj l Y d kc ks pc lv (.int x :: .int i :: .ref (b + (j + 1)) :: rest) n (mW h b s a) Q :=
  z_iast (by omega) (by rw [mW_arr j hj, hc, hL]) hin hd (by have e := mW_ast (h := h) (b := b) (s := s) (a := a) j (va_up (a j) i.toNatClampNeg x) hj; rw [hc, hL] at e; rw [e]; exact kk)
theorem m_cald {l : zL} {Y : zM} {d kc ks pc n b : Nat} {lv : List (Nat × Value)} {rest : List Value} {h : Nat → va_E} {s : Nat → Int32} {a : Nat → Nat → Int32} {i : Int32} {Q : zQ} (hb : b + 14 ≤ n) (hin : vp_in i 520) (hd : decode Y.2.1 pc = .ok (.caload, 1)) (kk : Zj l Y d kc ks (pc + 1) lv (.int (a 11 i.toNatClampNeg) :: rest) n (mW h b s a) Q) : Zj l Y d kc ks pc lv (.int i :: .ref (b + 12) :: rest) n (mW h b s a) Q :=
  z_cald (by omega) (mW_arr 11 (by decide)) hin hd kk
theorem m_cast {l : zL} {Y : zM} {d kc ks pc n b : Nat} {lv : List (Nat × Value)} {rest : List Value} {h : Nat → va_E} {s : Nat → Int32} {a : Nat → Nat → Int32} {i x : Int32} {Q : zQ} (hb : b + 14 ≤ n) (hin : vp_in i 520) (hd : decode Y.2.1 pc = .ok (.castore, 1)) (kk : Zj l Y d kc ks (pc + 1) lv rest n (mW h b s (va_up a 11 (va_up (a 11) i.toNatClampNeg (vp_nar .char x)))) Q) : Zj l Y d kc ks pc lv (.int x :: .int i :: .ref (b + 12) :: rest) n (mW h b s a) Q :=
  z_cast (by omega) (mW_arr 11 (by decide)) hin hd (by have e := mW_ast (h := h) (b := b) (s := s) (a := a) 11 (va_up (a 11) i.toNatClampNeg (vp_nar .char x)) (by decide); rw [← e] at kk; exact kk)
theorem m_aldN {l : zL} {Y : zM} {d kc ks pc n b : Nat} {lv : List (Nat × Value)} {rest : List Value} {h : Nat → va_E} {s : Nat → Int32} {a : Nat → Nat → Int32} {i : Int32} {Q : zQ} (j N k : Nat) (hj : j < 13) (hc : mC j = 0) (hL : mL j = N) (hb : b + 14 ≤ n) (hi : i = nI k) (hk : k < N) (hN : N < 2 ^ 31) (hd : decode Y.2.1 pc = .ok (.iaload, 1)) (kk : Zj l Y d kc ks (pc + 1) lv (.int (a j k) :: rest) n (mW h b s a) Q) : Zj l Y d kc ks pc lv (.int i :: .ref (b + (j + 1)) :: rest) n (mW h b s a) Q := by
  subst hi
  refine m_ald j N hj hc hL hb (vp_in_nI hk hN) hd ?_
  rw [nI_clamp (by omega)]
  exact kk
theorem m_astN {l : zL} {Y : zM} {d kc ks pc n b : Nat} {lv : List (Nat × Value)} {rest : List Value} {h : Nat → va_E} {s : Nat → Int32} {a : Nat → Nat → Int32} {i x : Int32} {Q : zQ} (j N k : Nat) (hj : j < 13) (hc : mC j = 0) (hL : mL j = N) (hb : b + 14 ≤ n) (hi : i = nI k) (hk : k < N) (hN : N < 2 ^ 31) (hd : decode Y.2.1 pc = .ok (.iastore, 1)) (kk : Zj l Y d kc ks (pc + 1) lv rest n (mW h b s (va_up a j (va_up (a j) k x))) Q) : Zj l Y d kc ks pc lv (.int x :: .int i :: .ref (b + (j + 1)) :: rest) n (mW h b s a) Q := by
  subst hi
  refine m_ast j N hj hc hL hb (vp_in_nI hk hN) hd ?_
  rw [nI_clamp (by omega)]
  exact kk
/-- a row of the reference holds a table -/
def mV (B H T : Nat) (K V : Nat → Nat) (r : Nat → Int32) : Prop :=
  okB B ∧ 2 ≤ H ∧ H ≤ 6 ∧ 1 ≤ T ∧ T ≤ 99 ∧ r 0 = nI B ∧ r 1 = nI H ∧ r 2 = nI T ∧ (∀ i, i < 64 → r (9 + i) = nI (K i)) ∧ (∀ i, i < 64 → r (73 + i) = nI (V i)) ∧ (∀ i, K i ≤ 10000 ∧ V i ≤ 999) ∧ ∀ i, B ≤ i → K i = 0
def bI (p : Prop) [Decidable p] : Int32 := if p then 1 else 0
theorem bI_t {p : Prop} [Decidable p] (h : p) : bI p = 1 := if_pos h
theorem bI_f {p : Prop} [Decidable p] (h : ¬ p) : bI p = 0 := if_neg h
theorem bI_0 {p : Prop} [Decidable p] : bI p = 0 ↔ ¬ p := by
  unfold bI
  by_cases h : p
  · rw [if_pos h]; exact ⟨fun e => absurd e (by decide), fun e => absurd h e⟩
  · rw [if_neg h]; exact ⟨fun _ => h, fun _ => rfl⟩
theorem bI_n {p : Prop} [Decidable p] : ¬ bI p = 0 ↔ p := by rw [bI_0]; exact Decidable.not_not
theorem key_tk (k : Nat) : nI k - 1 = tkey k := by
  cases k with
  | zero => decide
  | succ k => rw [nI_pred, tkey, if_neg (by omega)]; rfl
theorem wrap_sub (x y z : Int32) : x - y + z = (x + z) - y := by
  rw [Int32.sub_eq_add_neg, Int32.sub_eq_add_neg, Int32.add_assoc, Int32.add_comm (-y) z, ← Int32.add_assoc]
theorem wrap_neg (x y z : Int32) : x + -y + z = (x + z) - y := by
  rw [Int32.sub_eq_add_neg, Int32.add_assoc, Int32.add_comm (-y) z, ← Int32.add_assoc]
def bwS (B : Nat) (K : Nat → Nat) (key : Nat) : Option Nat := fnd (fun i => decide (K i = key + 1)) B 0
def manN (B T : Nat) (K : Nat → Nat) (hm : Nat) : Nat → Nat := sumN (fun i => if isO B T K i hm = true then 1 else 0)
theorem or_bit : ∀ k, k < 6 → ∀ x, x < 2 ^ k → nI x ||| ((1 : Int32) <<< (nI k &&& 31)) = nI (x + 2 ^ k) := by decide +kernel
theorem or_zero (x : Int32) : x ||| 0 = x := Int32.or_zero
