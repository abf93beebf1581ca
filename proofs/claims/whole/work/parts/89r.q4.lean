/-! THE REFERENCE'S READER: numbers and ends -/
/-- the token at st has been read -/
def rT (L : Nat) (x : Nat → Nat) (st : Nat) (s : Nat → Int32) : Prop := s 22 = nI st ∧ s 23 = nI (tE L x st) ∧ s 21 = nI (mkd (tKd L x st)) ∧ (tKd L x st = 2 → s 24 = nI (tV L x st))
/-- what a token's reading keeps -/
def mfk (s s' : Nat → Int32) : Prop := ∀ q, q ≠ 21 → q ≠ 22 → q ≠ 23 → q ≠ 24 → s' q = s q
theorem mer.fk {s s1 s' : Nat → Int32} {k off : Nat} (h : mer s1 s' k off) (hf : mfk s s1) : mer s s' k off := ⟨h.1, h.2.1, fun q q1 q2 q3 q4 q5 q6 q7 q8 => (h.2.2.1 q q1 q2 q3 q4 q5 q6 q7 q8).trans (hf q q3 q4 q5 q6), h.2.2.2⟩
theorem rT.up {L : Nat} {x : Nat → Nat} {st : Nat} {s : Nat → Int32} {k : Nat} {v : Int32} (h : rT L x st s) (h1 : k ≠ 21) (h2 : k ≠ 22) (h3 : k ≠ 23) (h4 : k ≠ 24) : rT L x st (va_up s k v) := ⟨by rw [up_ne (Ne.symm h2)]; exact h.1, by rw [up_ne (Ne.symm h3)]; exact h.2.1, by rw [up_ne (Ne.symm h1)]; exact h.2.2.1, fun e => by rw [up_ne (Ne.symm h4)]; exact h.2.2.2 e⟩

theorem m_nxt {l : zL} {d kc ks n b : Nat} {h : Nat → va_E} {a : Nat → Nat → Int32} {L : Nat} {x : Nat → Nat} {st : Nat} {Q : zQ} {s : Nat → Int32} (hb : b + 14 ≤ n) (hL : L ≤ 600) (hu : ∀ i, i < L → a 10 i = nI (x i)) (hx : ∀ i, x i < 256) (hst : st ≤ L) (h15 : s 15 = nI L) (h23 : s 23 = nI (tE L x st)) (hq : ∀ s', rT L x (tS L x (tE L x st)) s' → mfk s s' → Q (.inl none) n (mW h b s' a)) : Zj l mX8_next (d + 1) kc ks 0 [(0, .ref b)] [] n (mW h b s a) Q :=
  m_next hb hL hu hx (tE_le' (x := x) hst).2 h15 h23 (fun s' f1 f2 f3 f4 f5 => hq s' ⟨f1, f2, f3, f4⟩ f5)

set_option maxHeartbeats 4000000 in
set_option maxRecDepth 100000 in
theorem m_number {l : zL} {d kc ks n b : Nat} {h : Nat → va_E} {a : Nat → Nat → Int32} {L : Nat} {x : Nat → Nat} {st j lo hi : Nat} {Q : zQ} {s : Nat → Int32} (hb : b + 14 ≤ n) (hL : L ≤ 600) (hu : ∀ i, i < L → a 10 i = nI (x i)) (hx : ∀ i, x i < 256) (hst : st ≤ L) (h15 : s 15 = nI L) (h16 : s 16 = 0) (hT : rT L x st s) (hj : j < 3) (hlo : lo < 2 ^ 31) (hhi : hi < 2 ^ 31) (hqY : tKd L x st = 2 → oIn lo hi (tV L x st) = true → ∀ s', rT L x (tS L x (tE L x st)) s' → mfk s s' → Q (.inl (some (.int 1))) n (mW h b s' (va_up a 12 (va_up (a 12) j (nI (tV L x st)))))) (hqN : ∀ k, (¬ tKd L x st = 2 ∧ k = 1 ∨ tKd L x st = 2 ∧ ¬ oIn lo hi (tV L x st) = true ∧ k = 2) → ∀ s', mer s s' k st → Q (.inl (some (.int 0))) n (mW h b s' a)) : Zj l mX8_number (d + 2) kc ks 0 [(0, .ref b), (1, .int ((nI j))), (2, .int ((nI lo))), (3, .int ((nI hi)))] [] n (mW h b s a) Q := by
  refine z_aload_n (j := 0) dX8_number_0 rfl ?_
  refine z_iconst (v := 3) dX8_number_1 (by decide) ?_
  skip
  refine z_kV [.int ((nI (mkd 2)))] 0 0 kc ks yoX8_is yvX8_is rfl (by decide) lX8_185 (by omega) mW_obj rfl rfl (Nat.le_of_ble_eq_true rfl) (Nat.le_of_ble_eq_true rfl) dX8_number_2 (by omega) (by omega) (z_room (by omega) (Nat.le_refl _) (Nat.le_refl _) (m_is (d := 0) (k := 2) hb h16 hT.1 hT.2.2.1 (tKd_le (L := L) (x := x) (st := st)) (by decide) (fun hk => ⟨rfl, ?_⟩) (fun hk s1 he => ⟨rfl, ?_⟩)))
  · refine z_if_ne (tgt := 10) dX8_number_5 (by decide) (fun czq5 => ?_) (fun czq5 => absurd czq5 (by decide))
    refine z_aload_n (j := 0) dX8_number_10 rfl ?_
    refine z_get (v := .int (s 24)) (by omega) mW_obj fX8_176 rfl dX8_number_11 ?_
    refine z_iload_n (j := 2) dX8_number_14 rfl ?_
    refine z_iload_n (j := 3) dX8_number_15 rfl ?_
    rw [show (s 24) = nI (tV L x st) from hT.2.2.2 hk]
    refine z_kS [.int ((nI (tV L x st))), .int ((nI lo)), .int ((nI hi))] 0 0 kc ks yoX8_in ysX8_in rfl (by decide) lX8_67 rfl (Nat.le_of_ble_eq_true rfl) (Nat.le_of_ble_eq_true rfl) dX8_number_16 (by omega) (by omega) (z_room (by omega) (Nat.le_refl _) (Nat.le_refl _) (r_in (d := 0)  ⟨rfl, ?_⟩))
    refine z_if_ne (tgt := 28) dX8_number_19 (by decide) (fun czq19 => ?_) (fun czq19 => ?_)
    · have hok : oIn lo hi (tV L x st) = true := by
        have h9 := bI_n.mp czq19
        rw [iO_oIn (by omega) (by omega) (by have := tV_lt hk; omega)] at h9
        exact h9
      refine z_aload_n (j := 0) dX8_number_28 rfl ?_
      refine z_get (v := .ref (b + 13)) (by omega) mW_obj fX8_51 rfl dX8_number_29 ?_
      refine z_iload_n (j := 1) dX8_number_32 rfl ?_
      refine z_aload_n (j := 0) dX8_number_33 rfl ?_
      refine z_get (v := .int (s 24)) (by omega) mW_obj fX8_176 rfl dX8_number_34 ?_
      rw [show (s 24) = (nI (tV L x st)) from hT.2.2.2 hk]
      refine m_astN 12 3 j (by decide) rfl rfl hb rfl hj (by decide) dX8_number_37 ?_
      refine z_aload_n (j := 0) dX8_number_38 rfl ?_
      refine z_kV [] 0 0 kc ks yoX8_next yvX8_next rfl (by decide) lX8_188 (by omega) mW_obj rfl rfl (Nat.le_of_ble_eq_true rfl) (Nat.le_of_ble_eq_true rfl) dX8_number_39 (by omega) (by omega) (z_room (by omega) (Nat.le_refl _) (Nat.le_refl _) (m_nxt (d := 0) hb hL (by rw [up_ne (by decide)]; exact hu) hx hst h15 hT.2.1 (fun s1 hT1 hf1 => ⟨rfl, ?_⟩)))
      refine z_iconst (v := 1) dX8_number_42 (by decide) ?_
      exact z_zret rfl rfl dX8_number_43 (hqY hk hok s1 hT1 hf1)
    · refine z_aload_n (j := 0) dX8_number_22 rfl ?_
      refine z_iconst (v := 2) dX8_number_23 (by decide) ?_
      have hno : ¬ oIn lo hi (tV L x st) = true := fun z => bI_0.mp czq19 (by rw [iO_oIn (by omega) (by omega) (by have := tV_lt hk; omega)]; exact z)
      skip
      refine z_kV [.int ((nI 2))] 0 0 kc ks yoX8_fail yvX8_fail rfl (by decide) lX8_182 (by omega) mW_obj rfl rfl (Nat.le_of_ble_eq_true rfl) (Nat.le_of_ble_eq_true rfl) dX8_number_24 (by omega) (by omega) (z_room (by omega) (Nat.le_refl _) (Nat.le_refl _) (m_fail (d := 0) (k := 2) hb h16 hT.1 (by decide) (fun s1 he => ⟨rfl, ?_⟩)))
      exact z_zret rfl rfl dX8_number_27 (hqN 2 (Or.inr ⟨hk, hno, rfl⟩) s1 he)
  · refine z_if_ne (tgt := 10) dX8_number_5 (by decide) (fun czq5 => absurd czq5 (fun z => z rfl)) (fun czq5 => ?_)
    refine z_iconst (v := 0) dX8_number_8 (by decide) ?_
    exact z_zret rfl rfl dX8_number_9 (hqN 1 (Or.inl ⟨hk, rfl⟩) s1 he)

set_option maxHeartbeats 4000000 in
set_option maxRecDepth 100000 in
theorem m_stops {l : zL} {d kc ks n b : Nat} {h : Nat → va_E} {a : Nat → Nat → Int32} {L : Nat} {x : Nat → Nat} {st : Nat} {Q : zQ} {s : Nat → Int32} {v : Int32} (hb : b + 14 ≤ n) (hL : L ≤ 600) (hu : ∀ i, i < L → a 10 i = nI (x i)) (hx : ∀ i, x i < 256) (hst : st ≤ L) (h15 : s 15 = nI L) (h16 : s 16 = 0) (hT : rT L x st s) (hqY : tKd L x st = 5 → ¬ v = 0 → Q (.inl (some (.int 1))) n (mW h b s a)) (hqN : ∀ k, (¬ tKd L x st = 5 ∧ k = 1 ∨ tKd L x st = 5 ∧ v = 0 ∧ k = 3) → ∀ s', mer s s' k st → Q (.inl (some (.int 0))) n (mW h b s' a)) : Zj l mX8_stops (d + 2) kc ks 0 [(0, .ref b), (1, .int v)] [] n (mW h b s a) Q := by
  refine z_aload_n (j := 0) dX8_stops_0 rfl ?_
  refine z_iconst (v := 1) dX8_stops_1 (by decide) ?_
  skip
  refine z_kV [.int ((nI (mkd 5)))] 0 0 kc ks yoX8_is yvX8_is rfl (by decide) lX8_185 (by omega) mW_obj rfl rfl (Nat.le_of_ble_eq_true rfl) (Nat.le_of_ble_eq_true rfl) dX8_stops_2 (by omega) (by omega) (z_room (by omega) (Nat.le_refl _) (Nat.le_refl _) (m_is (d := 0) (k := 5) hb h16 hT.1 hT.2.2.1 (tKd_le (L := L) (x := x) (st := st)) (by decide) (fun hk => ⟨rfl, ?_⟩) (fun hk s1 he => ⟨rfl, ?_⟩)))
  · refine z_if_eq (tgt := 24) dX8_stops_5 (by decide) (fun czq5 => absurd czq5 (by decide)) (fun czq5 => ?_)
    refine z_iload_n (j := 1) dX8_stops_8 rfl ?_
    refine z_if_ne (tgt := 20) dX8_stops_9 (by decide) (fun czq9 => ?_) (fun czq9 => ?_)
    · refine z_iconst (v := 1) dX8_stops_20 (by decide) ?_
      refine z_goto (tgt := 25) dX8_stops_21 (by decide) ?_
      exact z_zret rfl rfl dX8_stops_25 (hqY hk czq9)
    · refine z_aload_n (j := 0) dX8_stops_12 rfl ?_
      refine z_iconst (v := 3) dX8_stops_13 (by decide) ?_
      skip
      refine z_kV [.int ((nI 3))] 0 0 kc ks yoX8_fail yvX8_fail rfl (by decide) lX8_182 (by omega) mW_obj rfl rfl (Nat.le_of_ble_eq_true rfl) (Nat.le_of_ble_eq_true rfl) dX8_stops_14 (by omega) (by omega) (z_room (by omega) (Nat.le_refl _) (Nat.le_refl _) (m_fail (d := 0) (k := 3) hb h16 hT.1 (by decide) (fun s1 he => ⟨rfl, ?_⟩)))
      refine z_if_eq (tgt := 24) dX8_stops_17 (by decide) (fun czq17 => ?_) (fun czq17 => absurd rfl czq17)
      refine z_iconst (v := 0) dX8_stops_24 (by decide) ?_
      exact z_zret rfl rfl dX8_stops_25 (hqN 3 (Or.inr ⟨hk, czq9, rfl⟩) s1 he)
  · refine z_if_eq (tgt := 24) dX8_stops_5 (by decide) (fun czq5 => ?_) (fun czq5 => absurd rfl czq5)
    refine z_iconst (v := 0) dX8_stops_24 (by decide) ?_
    exact z_zret rfl rfl dX8_stops_25 (hqN 1 (Or.inl ⟨hk, rfl⟩) s1 he)
