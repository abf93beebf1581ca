/-! A TABLE in a world: at the places b .. b+5, its scalars s (by the field's number), its arrays a (keys, values, hops, queuedKeys, queuedValues) -/
def tF (b : Nat) (s : Nat → Int32) : List Value := [.ref (b + 1), .ref (b + 2), .ref (b + 3), .ref (b + 4), .ref (b + 5), .int (s 5), .int (s 6), .int (s 7), .int (s 8), .int (s 9), .int (s 10), .int (s 11), .int (s 12), .int (s 13), .int (s 14), .int (s 15)]
def tW (h : Nat → va_E) (b : Nat) (s : Nat → Int32) (a : Nat → Nat → Int32) : Nat → va_E := fun q => if q = b then .inr (4, tF b s) else if b < q ∧ q ≤ b + 5 then .inl (0, 64, .inl (a (q - b - 1))) else h q
theorem tW_obj {h : Nat → va_E} {b : Nat} {s : Nat → Int32} {a : Nat → Nat → Int32} : tW h b s a b = .inr (4, tF b s) := if_pos rfl
theorem tW_arr {h : Nat → va_E} {b : Nat} {s : Nat → Int32} {a : Nat → Nat → Int32} (j : Nat) (hj : j < 5) : tW h b s a (b + (j + 1)) = .inl (0, 64, .inl (a j)) := by
  have h1 : ¬ b + (j + 1) = b := by omega
  have h2 : b < b + (j + 1) ∧ b + (j + 1) ≤ b + 5 := by omega
  have h3 : b + (j + 1) - b - 1 = j := by omega
  simp only [tW, if_neg h1, if_pos h2, h3]
theorem tW_off {h : Nat → va_E} {b : Nat} {s : Nat → Int32} {a : Nat → Nat → Int32} {q : Nat} (hq : q < b ∨ b + 5 < q) : tW h b s a q = h q := by
  have h1 : ¬ q = b := by omega
  have h2 : ¬ (b < q ∧ q ≤ b + 5) := by omega
  simp only [tW, if_neg h1, if_neg h2]
theorem tF_set (b : Nat) (s : Nat → Int32) (x : Int32) (k : Nat) (h5 : 5 ≤ k) (h16 : k < 16) : (tF b s).set k (.int x) = tF b (va_up s k x) := by
  rcases (show k = 5 ∨ k = 6 ∨ k = 7 ∨ k = 8 ∨ k = 9 ∨ k = 10 ∨ k = 11 ∨ k = 12 ∨ k = 13 ∨ k = 14 ∨ k = 15 by omega) with rfl | rfl | rfl | rfl | rfl | rfl | rfl | rfl | rfl | rfl | rfl <;> rfl
theorem tW_put {h : Nat → va_E} {b : Nat} {s : Nat → Int32} {a : Nat → Nat → Int32} (k : Nat) (x : Int32) (h5 : 5 ≤ k) (h16 : k < 16) : va_up (tW h b s a) b (.inr (4, (tF b s).set k (.int x))) = tW h b (va_up s k x) a := by
  rw [tF_set b s x k h5 h16]
  funext q
  by_cases hq : q = b
  · simp [va_up, tW, hq]
  · simp [va_up, tW, hq]
theorem tW_ast {h : Nat → va_E} {b : Nat} {s : Nat → Int32} {a : Nat → Nat → Int32} (j : Nat) (f : Nat → Int32) (hj : j < 5) : va_up (tW h b s a) (b + (j + 1)) (.inl (0, 64, .inl f)) = tW h b s (va_up a j f) := by
  funext q
  by_cases hq : q = b + (j + 1)
  · subst hq
    rw [tW_arr j hj]
    simp [va_up]
  · simp only [va_up, if_neg hq, tW]
    by_cases h1 : q = b
    · simp [h1]
    · by_cases h2 : b < q ∧ q ≤ b + 5
      · have h3 : ¬ q - b - 1 = j := by omega
        simp [h1, h2, h3]
      · simp [h1, h2]
theorem t_put {l : zL} {Y : zM} {d kc ks pc n b k idx : Nat} {lv : List (Nat × Value)} {rest : List Value} {h : Nat → va_E} {s : Nat → Int32} {a : Nat → Nat → Int32} {x : Int32} {Q : zQ} (hb : b < n) (hf : zF Y.1.cls idx 4 k) (h5 : 5 ≤ k) (h16 : k < 16) (h9 : k ≠ 9 := by decide) (hd : decode Y.2.1 pc = .ok (.putfield idx, 3)) (kk : Zj l Y d kc ks (pc + 3) lv rest n (tW h b (va_up s k x) a) Q) : Zj l Y d kc ks pc lv (.int x :: .ref b :: rest) n (tW h b s a) Q := by
  refine z_puti hb tW_obj hf gg6 ?_ ?_ (by show k < 16; exact h16) hd (by rw [tW_put k x h5 h16]; exact kk)
  · rcases (show k = 5 ∨ k = 6 ∨ k = 7 ∨ k = 8 ∨ k = 10 ∨ k = 11 ∨ k = 12 ∨ k = 13 ∨ k = 14 ∨ k = 15 by omega) with rfl | rfl | rfl | rfl | rfl | rfl | rfl | rfl | rfl | rfl <;> rfl
  · rcases (show k = 5 ∨ k = 6 ∨ k = 7 ∨ k = 8 ∨ k = 10 ∨ k = 11 ∨ k = 12 ∨ k = 13 ∨ k = 14 ∨ k = 15 by omega) with rfl | rfl | rfl | rfl | rfl | rfl | rfl | rfl | rfl | rfl
    · exact fin6_5
    · exact fin6_6
    · exact fin6_7
    · exact fin6_8
    · exact fin6_10
    · exact fin6_11
    · exact fin6_12
    · exact fin6_13
    · exact fin6_14
    · exact fin6_15
theorem t_putz {l : zL} {Y : zM} {d kc ks pc n b idx : Nat} {lv : List (Nat × Value)} {rest : List Value} {h : Nat → va_E} {s : Nat → Int32} {a : Nat → Nat → Int32} {x : Int32} {Q : zQ} (hx : x = 0 ∨ x = 1) (hb : b < n) (hf : zF Y.1.cls idx 4 9) (hd : decode Y.2.1 pc = .ok (.putfield idx, 3)) (kk : Zj l Y d kc ks (pc + 3) lv rest n (tW h b (va_up s 9 x) a) Q) : Zj l Y d kc ks pc lv (.int x :: .ref b :: rest) n (tW h b s a) Q :=
  z_putz hx hb tW_obj hf gg6 rfl fin6_9 (by show 9 < 16; decide) hd (by rw [tW_put 9 x (by decide) (by decide)]; exact kk)
theorem t_ald {l : zL} {Y : zM} {d kc ks pc n b : Nat} {lv : List (Nat × Value)} {rest : List Value} {h : Nat → va_E} {s : Nat → Int32} {a : Nat → Nat → Int32} {i : Int32} {Q : zQ} (j : Nat) (hj : j < 5) (hb : b + 6 ≤ n) (hin : vp_in i 64) (hd : decode Y.2.1 pc = .ok (.iaload, 1)) (kk : Zj l Y d kc ks (pc + 1) lv (.int (a j i.toNatClampNeg) :: rest) n (tW h b s a) Q) : Zj l Y d kc ks pc lv (.int i :: .ref (b + (j + 1)) :: rest) n (tW h b s a) Q :=
  z_iald (by omega) (tW_arr j hj) hin hd kk
theorem t_ast {l : zL} {Y : zM} {d kc ks pc n b : Nat} {lv : List (Nat × Value)} {rest : List Value} {h : Nat → va_E} {s : Nat → Int32} {a : Nat → Nat → Int32} {i x : Int32} {Q : zQ} (j : Nat) (hj : j < 5) (hb : b + 6 ≤ n) (hin : vp_in i 64) (hd : decode Y.2.1 pc = .ok (.iastore, 1)) (kk : Zj l Y d kc ks (pc + 1) lv rest n (tW h b s (va_up a j (va_up (a j) i.toNatClampNeg x))) Q) : Zj l Y d kc ks pc lv (.int x :: .int i :: .ref (b + (j + 1)) :: rest) n (tW h b s a) Q :=
  z_iast (by omega) (tW_arr j hj) hin hd (by rw [tW_ast j _ hj]; exact kk)
theorem t_alen {l : zL} {Y : zM} {d kc ks pc n b : Nat} {lv : List (Nat × Value)} {rest : List Value} {h : Nat → va_E} {s : Nat → Int32} {a : Nat → Nat → Int32} {Q : zQ} (j : Nat) (hj : j < 5) (hb : b + 6 ≤ n) (hd : decode Y.2.1 pc = .ok (.arraylength, 1)) (kk : Zj l Y d kc ks (pc + 1) lv (.int 64 :: rest) n (tW h b s a) Q) : Zj l Y d kc ks pc lv (.ref (b + (j + 1)) :: rest) n (tW h b s a) Q :=
  z_alen (by omega) (tW_arr j hj) (by decide) rfl hd kk
-- calls of methods that return one answer
theorem z_cV {l : zL} {Y Y' : zM} {d kc ks pc n idx k : Nat} {lv : List (Nat × Value)} {rest : List Value} {h h' : Nat → va_E} {Q : zQ} {b ci : Nat} {fs : List Value} (As : List Value) (r : Option Value) (hY : zY Y' k) (hYv : zYv Y') (hh : Y'.2.2.2.2 = []) (hnL : Y'.2.2.1 ≤ 20) (hlink : Cond.methodLink Y.1.cls idx Y'.1 ∈ zTs) (hb : b < n) (hhb : h b = .inr (ci, fs)) (hci : (vwCl[ci]?).map (fun q => q.1) = some Y'.1.cls) (hlen : As.length = k) (hsl : (lg_sl (.ref b :: As)).length ≤ Y'.2.2.1) (hcat : (rest.map fun v => v.category).sum ≤ 8) (hd : decode Y.2.1 pc = .ok (.invokevirtual idx, 3))
    (body : Zj l Y' d 0 0 0 (lv_args 0 (.ref b :: As)) [] n h (fun q n' g => q = .inl r ∧ n' = n ∧ g = h'))
    (kk : Zj l Y (d + 1) kc ks (pc + 3) lv (r.toList ++ rest) n h' Q) : Zj l Y (d + 1) kc ks pc lv (As.reverse ++ .ref b :: rest) n h Q :=
  z_callV (k1 := 0) (s1 := 0) (k2 := kc) (s2 := ks) _ hY hYv hh hnL hlink hb hhb hci hlen hsl hcat hd body (by omega) (by omega) (fun r' n' g hq => by
    obtain ⟨e1, rfl, rfl⟩ := hq
    cases e1
    exact ⟨rfl, kk⟩) (fun E n' g hq => by cases hq.1)
theorem z_cS {l : zL} {Y Y' : zM} {d kc ks pc n idx k : Nat} {lv : List (Nat × Value)} {rest : List Value} {h h' : Nat → va_E} {Q : zQ} (As : List Value) (r : Option Value) (hY : zY Y' k) (hstat : Cond.static Y'.1 ∈ zTs) (hh : Y'.2.2.2.2 = []) (hnL : Y'.2.2.1 ≤ 20) (hlink : Cond.methodLink Y.1.cls idx Y'.1 ∈ zTs) (hlen : As.length = k) (hsl : (lg_sl As).length ≤ Y'.2.2.1) (hcat : (rest.map fun v => v.category).sum ≤ 8) (hd : decode Y.2.1 pc = .ok (.invokestatic idx, 3))
    (body : Zj l Y' d 0 0 0 (lv_args 0 As) [] n h (fun q n' g => q = .inl r ∧ n' = n ∧ g = h'))
    (kk : Zj l Y (d + 1) kc ks (pc + 3) lv (r.toList ++ rest) n h' Q) : Zj l Y (d + 1) kc ks pc lv (As.reverse ++ rest) n h Q :=
  z_callS (k1 := 0) (s1 := 0) (k2 := kc) (s2 := ks) _ hY hstat hh hnL hlink hlen hsl hcat hd body (by omega) (by omega) (fun r' n' g hq => by
    obtain ⟨e1, rfl, rfl⟩ := hq
    cases e1
    exact ⟨rfl, kk⟩) (fun E n' g hq => by cases hq.1)
theorem vpin64 {i : Int32} (h0 : ¬ i < 0) (h1 : i < 64) : vp_in i 64 := by
  intro q
  rcases q with q | q
  · exact h0 q
  · have h2 := Int32.lt_iff_toInt_lt.mp h1
    have h3 : (0 : Int) ≤ i.toInt := by
      have := Int32.not_lt.mp h0
      simpa using Int32.le_iff_toInt_le.mp this
    have h4 : (64 : Int32).toInt = 64 := by decide
    have h5 : i.toNatClampNeg = i.toInt.toNat := rfl
    omega
