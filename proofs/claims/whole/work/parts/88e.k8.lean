/-! THE CLASS'S READER: tokens -/
def bt (L : Nat) (x : Nat → Nat) (i : Nat) : Int32 := if i < L then nI (x i) else -1
theorem bt_in {L : Nat} {x : Nat → Nat} {i : Nat} (h : i < L) : bt L x i = nI (x i) := if_pos h
theorem bt_out {L : Nat} {x : Nat → Nat} {i : Nat} (h : ¬ i < L) : bt L x i = -1 := if_neg h
theorem bt_neg {L : Nat} {x : Nat → Nat} {i : Nat} (hx : ∀ i, x i < 256) : bt L x i = -1 ↔ ¬ i < L := by
  by_cases h : i < L
  · rw [bt_in h]
    have := hx i
    exact ⟨fun e => absurd e (nI_neg1 (by omega)), fun e => absurd h e⟩
  · exact ⟨fun _ => h, fun _ => bt_out h⟩
theorem bt_is {L : Nat} {x : Nat → Nat} {i c : Nat} (hx : ∀ i, x i < 256) (hc : c < 256) : bt L x i = nI c ↔ i < L ∧ x i = c := by
  by_cases h : i < L
  · rw [bt_in h]
    have := hx i
    rw [nI_eq (by omega) (by omega)]
    exact ⟨fun e => ⟨h, e⟩, fun e => e.2⟩
  · rw [bt_out h]
    exact ⟨fun e => absurd e.symm (nI_neg1 (by omega)), fun e => absurd e.1 h⟩
theorem bt_rg {L : Nat} {x : Nat → Nat} {i a b : Nat} (hx : ∀ i, x i < 256) (ha : a < 256) (hb : b < 256) : (nI a ≤ bt L x i ∧ bt L x i ≤ nI b) ↔ i < L ∧ a ≤ x i ∧ x i ≤ b := by
  by_cases h : i < L
  · rw [bt_in h]
    have := hx i
    rw [nI_leI (by omega) (by omega), nI_leI (by omega) (by omega)]
    exact ⟨fun e => ⟨h, e⟩, fun e => e.2⟩
  · rw [bt_out h]
    refine ⟨fun e => ?_, fun e => absurd e.1 h⟩
    have h1 := Int32.le_iff_toInt_le.mp e.1
    rw [nI_toInt (by omega), show (-1 : Int32).toInt = -1 from by decide] at h1
    omega
theorem bt_bl {L : Nat} {x : Nat → Nat} {i : Nat} (hx : ∀ i, x i < 256) : (bt L x i = 32 ∨ bt L x i = 10) ↔ i < L ∧ tBl (x i) = true := by
  rw [show (32 : Int32) = nI 32 from rfl, show (10 : Int32) = nI 10 from rfl, bt_is hx (by decide), bt_is hx (by decide)]
  simp only [tBl, Bool.or_eq_true, decide_eq_true_eq]
  exact ⟨fun e => e.elim (fun q => ⟨q.1, Or.inl q.2⟩) (fun q => ⟨q.1, Or.inr q.2⟩), fun e => e.2.elim (fun q => Or.inl ⟨e.1, q⟩) (fun q => Or.inr ⟨e.1, q⟩)⟩
theorem bt_le {L : Nat} {x : Nat → Nat} {i : Nat} (hx : ∀ i, x i < 256) : (97 ≤ bt L x i ∧ bt L x i ≤ 122) ↔ i < L ∧ tLe (x i) = true := by
  rw [show (97 : Int32) = nI 97 from rfl, show (122 : Int32) = nI 122 from rfl, bt_rg hx (by decide) (by decide)]
  simp only [tLe, Bool.and_eq_true, decide_eq_true_eq]
theorem bt_di {L : Nat} {x : Nat → Nat} {i : Nat} (hx : ∀ i, x i < 256) : (48 ≤ bt L x i ∧ bt L x i ≤ 57) ↔ i < L ∧ tDi (x i) = true := by
  rw [show (48 : Int32) = nI 48 from rfl, show (57 : Int32) = nI 57 from rfl, bt_rg hx (by decide) (by decide)]
  simp only [tDi, Bool.and_eq_true, decide_eq_true_eq]
/-- all but the input's field k is kept -/
def fp (P : Nat → Prop) (o o' : Nat → Nat → Int32) : Prop := (∀ c, c ≠ 1 → o' c = o c) ∧ ∀ j, ¬ P j → o' 1 j = o 1 j
theorem fp.rf {P : Nat → Prop} {o : Nat → Nat → Int32} : fp P o o := ⟨fun _ _ => rfl, fun _ _ => rfl⟩
theorem fp.tr {P : Nat → Prop} {o o1 o2 : Nat → Nat → Int32} (h1 : fp P o o1) (h2 : fp P o1 o2) : fp P o o2 := ⟨fun c h => (h2.1 c h).trans (h1.1 c h), fun j h => (h2.2 j h).trans (h1.2 j h)⟩
theorem fp.up {P : Nat → Prop} {o : Nat → Nat → Int32} {k : Nat} {v : Int32} (hk : P k) : fp P o (va_up o 1 (va_up (o 1) k v)) := ⟨fun c h => up_ne h, fun j h => by rw [up_eq, up_ne (fun e => h (by rw [e]; exact hk))]⟩
theorem fp.up1 {P : Nat → Prop} {o o1 : Nat → Nat → Int32} {k : Nat} {v : Int32} (h : fp P o o1) (hk : P k) : fp P o (va_up o1 1 (va_up (o1 1) k v)) := h.tr (fp.up hk)
theorem fp.mono {P P' : Nat → Prop} {o o1 : Nat → Nat → Int32} (h : fp P o o1) (hp : ∀ k, P k → P' k) : fp P' o o1 := ⟨h.1, fun j hj => h.2 j (fun e => hj (hp j e))⟩
theorem rn_le0 {p : Nat → Bool} {x : Nat → Nat} {L i : Nat} (hi : i < L) (h : p (x i) = true) : rn p x (L - i) i = rn p x (L - (i + 1)) (i + 1) := by
  rw [show L - i = (L - (i + 1)) + 1 by omega, rn_yes h]

set_option maxHeartbeats 4000000 in
set_option maxRecDepth 100000 in
theorem w_isBlank {l : zL} {d kc ks n : Nat} {h : Nat → va_E} {p : Int32} {Q : zQ} (hq : Q (.inl (some (.int (bI (p = 32 ∨ p = 10))))) n h) : Zj l mX3_isBlank d kc ks 0 [(0, .int p)] [] n h Q := by
  refine z_iload_n (j := 0) dX3_isBlank_0 rfl ?_
  refine z_bipush (v := 32) dX3_isBlank_1 (by decide) ?_
  refine z_icmp_eq (tgt := 12) dX3_isBlank_3 (by decide) (fun czq3 => ?_) (fun czq3 => ?_)
  · refine z_iconst (v := 1) dX3_isBlank_12 (by decide) ?_
    refine z_goto (tgt := 17) dX3_isBlank_13 (by decide) ?_
    exact z_zret rfl rfl dX3_isBlank_17 (by
        rw [bI_t (Or.inl czq3)] at hq
        exact hq)
  · refine z_iload_n (j := 0) dX3_isBlank_6 rfl ?_
    refine z_bipush (v := 10) dX3_isBlank_7 (by decide) ?_
    refine z_icmp_ne (tgt := 16) dX3_isBlank_9 (by decide) (fun czq9 => ?_) (fun czq9 => ?_)
    · refine z_iconst (v := 0) dX3_isBlank_16 (by decide) ?_
      exact z_zret rfl rfl dX3_isBlank_17 (by
          rw [bI_f (fun z => z.elim czq3 czq9)] at hq
          exact hq)
    · refine z_iconst (v := 1) dX3_isBlank_12 (by decide) ?_
      refine z_goto (tgt := 17) dX3_isBlank_13 (by decide) ?_
      exact z_zret rfl rfl dX3_isBlank_17 (by
          rw [bI_t (Or.inr czq9)] at hq
          exact hq)

set_option maxHeartbeats 4000000 in
set_option maxRecDepth 100000 in
theorem w_isLetter {l : zL} {d kc ks n : Nat} {h : Nat → va_E} {p : Int32} {Q : zQ} (hq : Q (.inl (some (.int (bI (97 ≤ p ∧ p ≤ 122))))) n h) : Zj l mX3_isLetter d kc ks 0 [(0, .int p)] [] n h Q := by
  refine z_iload_n (j := 0) dX3_isLetter_0 rfl ?_
  refine z_bipush (v := 97) dX3_isLetter_1 (by decide) ?_
  refine z_icmp_lt (tgt := 16) dX3_isLetter_3 (by decide) (fun czq3 => ?_) (fun czq3 => ?_)
  · refine z_iconst (v := 0) dX3_isLetter_16 (by decide) ?_
    exact z_zret rfl rfl dX3_isLetter_17 (by
        rw [bI_f (fun z => absurd czq3 (Int32.not_lt.mpr z.1))] at hq
        exact hq)
  · refine z_iload_n (j := 0) dX3_isLetter_6 rfl ?_
    refine z_bipush (v := 122) dX3_isLetter_7 (by decide) ?_
    refine z_icmp_gt (tgt := 16) dX3_isLetter_9 (by decide) (fun czq9 => ?_) (fun czq9 => ?_)
    · refine z_iconst (v := 0) dX3_isLetter_16 (by decide) ?_
      exact z_zret rfl rfl dX3_isLetter_17 (by
          rw [bI_f (fun z => absurd czq9 (Int32.not_lt.mpr z.2))] at hq
          exact hq)
    · refine z_iconst (v := 1) dX3_isLetter_12 (by decide) ?_
      refine z_goto (tgt := 17) dX3_isLetter_13 (by decide) ?_
      exact z_zret rfl rfl dX3_isLetter_17 (by
          rw [bI_t ⟨Int32.not_lt.mp czq3, Int32.not_lt.mp czq9⟩] at hq
          exact hq)

set_option maxHeartbeats 4000000 in
set_option maxRecDepth 100000 in
theorem w_isDigit {l : zL} {d kc ks n : Nat} {h : Nat → va_E} {p : Int32} {Q : zQ} (hq : Q (.inl (some (.int (bI (48 ≤ p ∧ p ≤ 57))))) n h) : Zj l mX3_isDigit d kc ks 0 [(0, .int p)] [] n h Q := by
  refine z_iload_n (j := 0) dX3_isDigit_0 rfl ?_
  refine z_bipush (v := 48) dX3_isDigit_1 (by decide) ?_
  refine z_icmp_lt (tgt := 16) dX3_isDigit_3 (by decide) (fun czq3 => ?_) (fun czq3 => ?_)
  · refine z_iconst (v := 0) dX3_isDigit_16 (by decide) ?_
    exact z_zret rfl rfl dX3_isDigit_17 (by
        rw [bI_f (fun z => absurd czq3 (Int32.not_lt.mpr z.1))] at hq
        exact hq)
  · refine z_iload_n (j := 0) dX3_isDigit_6 rfl ?_
    refine z_bipush (v := 57) dX3_isDigit_7 (by decide) ?_
    refine z_icmp_gt (tgt := 16) dX3_isDigit_9 (by decide) (fun czq9 => ?_) (fun czq9 => ?_)
    · refine z_iconst (v := 0) dX3_isDigit_16 (by decide) ?_
      exact z_zret rfl rfl dX3_isDigit_17 (by
          rw [bI_f (fun z => absurd czq9 (Int32.not_lt.mpr z.2))] at hq
          exact hq)
    · refine z_iconst (v := 1) dX3_isDigit_12 (by decide) ?_
      refine z_goto (tgt := 17) dX3_isDigit_13 (by decide) ?_
      exact z_zret rfl rfl dX3_isDigit_17 (by
          rw [bI_t ⟨Int32.not_lt.mp czq3, Int32.not_lt.mp czq9⟩] at hq
          exact hq)

set_option maxHeartbeats 4000000 in
set_option maxRecDepth 100000 in
theorem w_byteAt {l : zL} {d kc ks n : Nat} {h : Nat → va_E} {cm : Value} {o u : Nat → Nat → Int32} {s : Nat → Nat → Int32} {a : Nat → Nat → Nat → Int32} {L : Nat} {x : Nat → Nat} {i : Nat} {Q : zQ} (hn : 89 ≤ n) (hL : L ≤ 600) (h11 : o 1 1 = nI L) (hu : ∀ i, i < L → u 0 i = nI (x i)) (hi : i < 2 ^ 31) (hq : Q (.inl (some (.int (bt L x i)))) n (gW h cm o u s a)) : Zj l mX3_byteAt d kc ks 0 [(0, .ref 1), (1, .int ((nI i)))] [] n (gW h cm o u s a) Q := by
  refine z_iload_n (j := 1) dX3_byteAt_0 rfl ?_
  refine z_if_lt (tgt := 30) dX3_byteAt_1 (by decide) (fun czq1 => absurd czq1 (nI_pos hi)) (fun czq1 => ?_)
  refine z_iload_n (j := 1) dX3_byteAt_4 rfl ?_
  refine z_aload_n (j := 0) dX3_byteAt_5 rfl ?_
  refine z_get (v := .int (o 1 1)) (by omega) gW_1 fX3_15 rfl dX3_byteAt_6 ?_
  rw [show (o 1 1) = nI L from h11]
  refine z_icmp_ge (tgt := 30) dX3_byteAt_9 (by decide) (fun czq9 => ?_) (fun czq9 => ?_)
  · refine z_iconst (v := (-1)) dX3_byteAt_30 (by decide) ?_
    exact z_iret rfl dX3_byteAt_31 (by
        rw [bt_out (fun z => absurd czq9 (nI_ge z (by omega)))] at hq
        exact hq)
  · have h9 : i < L := Decidable.byContradiction fun z => czq9 (nI_le (show L ≤ i by omega) hi)
    refine z_iload_n (j := 1) dX3_byteAt_12 rfl ?_
    refine z_aload_n (j := 0) dX3_byteAt_13 rfl ?_
    refine z_get (v := .ref 2) (by omega) gW_1 fX3_11 rfl dX3_byteAt_14 ?_
    refine z_alen (by omega) gW_2 (by decide) rfl dX3_byteAt_17 ?_
    refine z_icmp_ge (tgt := 30) dX3_byteAt_18 (by decide) (fun czq18 => absurd czq18 (nI_ge (b := 600) (by omega) (by decide))) (fun czq18 => ?_)
    refine z_aload_n (j := 0) dX3_byteAt_21 rfl ?_
    refine z_get (v := .ref 2) (by omega) gW_1 fX3_11 rfl dX3_byteAt_22 ?_
    refine z_iload_n (j := 1) dX3_byteAt_25 rfl ?_
    refine g_ald 0 (by decide) rfl (by omega) (vp_in_nI (by omega) (by decide)) dX3_byteAt_26 ?_
    refine z_goto (tgt := 31) dX3_byteAt_27 (by decide) ?_
    exact z_iret rfl dX3_byteAt_31 (by
        rw [nI_clamp hi, hu i h9]
        rw [bt_in h9] at hq
        exact hq)

set_option maxHeartbeats 4000000 in
set_option maxRecDepth 100000 in
theorem w_blank_l {l : zL} {d kc ks n : Nat} {h : Nat → va_E} {cm : Value} {u : Nat → Nat → Int32} {s : Nat → Nat → Int32} {a : Nat → Nat → Nat → Int32} {L : Nat} {x : Nat → Nat} {Q : zQ} (hn : 89 ≤ n) (hL : L ≤ 600) (hu : ∀ i, i < L → u 0 i = nI (x i)) (hx : ∀ i, x i < 256) : ∀ m i (o : Nat → Nat → Int32), i + m = L → o 1 1 = nI L → o 1 2 = nI i → (∀ o', o' 1 2 = nI (rn tBl x m i) → fp (fun k => k = 2) o o' → Zj l mX3_nextToken (d + 1) kc ks 38 [(0, .ref 1)] [] n (gW h cm o' u s a) Q) → Zj l mX3_nextToken (d + 1) kc ks 0 [(0, .ref 1)] [] n (gW h cm o u s a) Q := by
  intro m
  induction m with
  | zero =>
    intro i o hi h11 h12 hq
    have hiL : i = L := by omega
    refine z_aload_n (j := 0) dX3_nextToken_0 rfl ?_
    refine z_get (v := .int (o 1 2)) (by omega) gW_1 fX3_19 rfl dX3_nextToken_1 ?_
    refine z_aload_n (j := 0) dX3_nextToken_4 rfl ?_
    refine z_get (v := .int (o 1 1)) (by omega) gW_1 fX3_15 rfl dX3_nextToken_5 ?_
    rw [show (o 1 1) = nI L from h11, show (o 1 2) = nI i from h12]
    refine z_icmp_ge (tgt := 38) dX3_nextToken_8 (by decide) (fun czq8 => ?_) (fun czq8 => absurd (nI_le (by omega) (by omega)) czq8)
    exact hq o (by rw [h12]; rfl) fp.rf
  | succ m ih =>
    intro i o hi h11 h12 hq
    refine z_aload_n (j := 0) dX3_nextToken_0 rfl ?_
    refine z_get (v := .int (o 1 2)) (by omega) gW_1 fX3_19 rfl dX3_nextToken_1 ?_
    refine z_aload_n (j := 0) dX3_nextToken_4 rfl ?_
    refine z_get (v := .int (o 1 1)) (by omega) gW_1 fX3_15 rfl dX3_nextToken_5 ?_
    rw [show (o 1 1) = nI L from h11, show (o 1 2) = nI i from h12]
    refine z_icmp_ge (tgt := 38) dX3_nextToken_8 (by decide) (fun czq8 => absurd czq8 (nI_ge (by omega) (by omega))) (fun czq8 => ?_)
    refine z_aload_n (j := 0) dX3_nextToken_11 rfl ?_
    refine z_aload_n (j := 0) dX3_nextToken_12 rfl ?_
    refine z_get (v := .int (o 1 2)) (by omega) gW_1 fX3_19 rfl dX3_nextToken_13 ?_
    rw [show (o 1 2) = nI i from h12]
    refine z_kV [.int ((nI i))] 0 0 kc ks yoX3_byteAt yvX3_byteAt rfl (by decide) lX3_22 (by omega) gW_1 rfl rfl (Nat.le_of_ble_eq_true rfl) (Nat.le_of_ble_eq_true rfl) dX3_nextToken_16 (by omega) (by omega) (z_room (by omega) (Nat.le_refl _) (Nat.le_refl _) (w_byteAt (d := 0) hn hL h11 hu (by omega) ⟨rfl, ?_⟩))
    refine z_kS [.int ((bt L x i))] 0 0 kc ks yoX3_isBlank ysX3_isBlank rfl (by decide) lX3_26 rfl (Nat.le_of_ble_eq_true rfl) (Nat.le_of_ble_eq_true rfl) dX3_nextToken_19 (by omega) (by omega) (z_room (by omega) (Nat.le_refl _) (Nat.le_refl _) (w_isBlank (d := 0)  ⟨rfl, ?_⟩))
    refine z_if_eq (tgt := 38) dX3_nextToken_22 (by decide) (fun czq22 => ?_) (fun czq22 => ?_)
    · have hno : ¬ tBl (x i) = true := fun z => bI_0.mp czq22 ((bt_bl hx).mpr ⟨by omega, z⟩)
      exact hq o (by rw [rn_no hno]; exact h12) fp.rf
    · refine z_aload_n (j := 0) dX3_nextToken_25 rfl ?_
      refine z_dup rfl dX3_nextToken_26 ?_
      refine z_get (v := .int (o 1 2)) (by omega) gW_1 fX3_19 rfl dX3_nextToken_27 ?_
      refine z_iconst (v := 1) dX3_nextToken_30 (by decide) ?_
      refine z_iadd dX3_nextToken_31 ?_
      rw [show ((o 1 2) + 1) = nI (i + 1) from by rw [h12, nI_1]]
      refine g_put 1 (by decide) (by omega) (by decide) rfl rfl fX3_19 gg3 rfl fin3_2 (by show 2 < 6; decide) dX3_nextToken_32 ?_
      refine z_goto (tgt := 0) dX3_nextToken_35 (by decide) ?_
      have hyes := ((bt_bl hx).mp (bI_n.mp czq22)).2
      refine ih (i + 1) _ (by omega) (by rw [up_eq, up_ne (by decide)]; exact h11) (by rw [up_eq, up_eq]) (fun o' h2 hf => hq o' (by rw [rn_yes hyes]; exact h2) ((fp.up (P := fun k => k = 2) rfl).tr hf))

set_option maxHeartbeats 4000000 in
set_option maxRecDepth 100000 in
theorem w_word_l {l : zL} {d kc ks n : Nat} {h : Nat → va_E} {cm : Value} {u : Nat → Nat → Int32} {s : Nat → Nat → Int32} {a : Nat → Nat → Nat → Int32} {L : Nat} {x : Nat → Nat} {Q : zQ} (hn : 89 ≤ n) (hL : L ≤ 600) (hu : ∀ i, i < L → u 0 i = nI (x i)) (hx : ∀ i, x i < 256) : ∀ m i (o : Nat → Nat → Int32), i + m = L → o 1 1 = nI L → o 1 2 = nI i → (∀ o', o' 1 2 = nI (rn tLe x m i) → fp (fun k => k = 2) o o' → Q (.inl none) n (gW h cm o' u s a)) → Zj l mX3_passWord (d + 1) kc ks 5 [(0, .ref 1)] [] n (gW h cm o u s a) Q := by
  intro m
  induction m with
  | zero =>
    intro i o hi h11 h12 hq
    have hiL : i = L := by omega
    refine z_aload_n (j := 0) dX3_passWord_5 rfl ?_
    refine z_get (v := .int (o 1 2)) (by omega) gW_1 fX3_19 rfl dX3_passWord_6 ?_
    refine z_aload_n (j := 0) dX3_passWord_9 rfl ?_
    refine z_get (v := .int (o 1 1)) (by omega) gW_1 fX3_15 rfl dX3_passWord_10 ?_
    rw [show (o 1 1) = nI L from h11, show (o 1 2) = nI i from h12]
    refine z_icmp_ge (tgt := 43) dX3_passWord_13 (by decide) (fun czq13 => ?_) (fun czq13 => absurd (nI_le (by omega) (by omega)) czq13)
    exact z_vret rfl dX3_passWord_43 (hq o (by rw [h12]; rfl) fp.rf)
  | succ m ih =>
    intro i o hi h11 h12 hq
    refine z_aload_n (j := 0) dX3_passWord_5 rfl ?_
    refine z_get (v := .int (o 1 2)) (by omega) gW_1 fX3_19 rfl dX3_passWord_6 ?_
    refine z_aload_n (j := 0) dX3_passWord_9 rfl ?_
    refine z_get (v := .int (o 1 1)) (by omega) gW_1 fX3_15 rfl dX3_passWord_10 ?_
    rw [show (o 1 1) = nI L from h11, show (o 1 2) = nI i from h12]
    refine z_icmp_ge (tgt := 43) dX3_passWord_13 (by decide) (fun czq13 => absurd czq13 (nI_ge (by omega) (by omega))) (fun czq13 => ?_)
    refine z_aload_n (j := 0) dX3_passWord_16 rfl ?_
    refine z_aload_n (j := 0) dX3_passWord_17 rfl ?_
    refine z_get (v := .int (o 1 2)) (by omega) gW_1 fX3_19 rfl dX3_passWord_18 ?_
    rw [show (o 1 2) = nI i from h12]
    refine z_kV [.int ((nI i))] 0 0 kc ks yoX3_byteAt yvX3_byteAt rfl (by decide) lX3_22 (by omega) gW_1 rfl rfl (Nat.le_of_ble_eq_true rfl) (Nat.le_of_ble_eq_true rfl) dX3_passWord_21 (by omega) (by omega) (z_room (by omega) (Nat.le_refl _) (Nat.le_refl _) (w_byteAt (d := 0) hn hL h11 hu (by omega) ⟨rfl, ?_⟩))
    refine z_kS [.int ((bt L x i))] 0 0 kc ks yoX3_isLetter ysX3_isLetter rfl (by decide) lX3_36 rfl (Nat.le_of_ble_eq_true rfl) (Nat.le_of_ble_eq_true rfl) dX3_passWord_24 (by omega) (by omega) (z_room (by omega) (Nat.le_refl _) (Nat.le_refl _) (w_isLetter (d := 0)  ⟨rfl, ?_⟩))
    refine z_if_eq (tgt := 43) dX3_passWord_27 (by decide) (fun czq27 => ?_) (fun czq27 => ?_)
    · exact z_vret rfl dX3_passWord_43 (by
          have hno : ¬ tLe (x i) = true := fun z => bI_0.mp czq27 ((bt_le hx).mpr ⟨by omega, z⟩)
          exact hq o (by rw [rn_no hno]; exact h12) fp.rf)
    · refine z_aload_n (j := 0) dX3_passWord_30 rfl ?_
      refine z_dup rfl dX3_passWord_31 ?_
      refine z_get (v := .int (o 1 2)) (by omega) gW_1 fX3_19 rfl dX3_passWord_32 ?_
      refine z_iconst (v := 1) dX3_passWord_35 (by decide) ?_
      refine z_iadd dX3_passWord_36 ?_
      rw [show ((o 1 2) + 1) = nI (i + 1) from by rw [h12, nI_1]]
      refine g_put 1 (by decide) (by omega) (by decide) rfl rfl fX3_19 gg3 rfl fin3_2 (by show 2 < 6; decide) dX3_passWord_37 ?_
      refine z_goto (tgt := 5) dX3_passWord_40 (by decide) ?_
      have hyes := ((bt_le hx).mp (bI_n.mp czq27)).2
      refine ih (i + 1) _ (by omega) (by rw [up_eq, up_ne (by decide)]; exact h11) (by rw [up_eq, up_eq]) (fun o' h2 hf => hq o' (by rw [rn_yes hyes]; exact h2) ((fp.up (P := fun k => k = 2) rfl).tr hf))

set_option maxHeartbeats 4000000 in
set_option maxRecDepth 100000 in
theorem w_passWord {l : zL} {d kc ks n : Nat} {h : Nat → va_E} {cm : Value} {o u : Nat → Nat → Int32} {s : Nat → Nat → Int32} {a : Nat → Nat → Nat → Int32} {L : Nat} {x : Nat → Nat} {p : Nat} {Q : zQ} (hn : 89 ≤ n) (hL : L ≤ 600) (h11 : o 1 1 = nI L) (hu : ∀ i, i < L → u 0 i = nI (x i)) (hx : ∀ i, x i < 256) (hp : p ≤ L) (h12 : o 1 2 = nI p) (hq : ∀ o', o' 1 2 = nI (rn tLe x (L - p) p) → o' 1 4 = 1 → fp (fun k => k = 2 ∨ k = 4) o o' → Q (.inl none) n (gW h cm o' u s a)) : Zj l mX3_passWord (d + 1) kc ks 0 [(0, .ref 1)] [] n (gW h cm o u s a) Q := by
  refine z_aload_n (j := 0) dX3_passWord_0 rfl ?_
  refine z_iconst (v := 1) dX3_passWord_1 (by decide) ?_
  refine g_put 1 (by decide) (by omega) (by decide) rfl rfl fX3_33 gg3 rfl fin3_4 (by show 4 < 6; decide) dX3_passWord_2 ?_
  refine w_word_l hn hL hu hx (L - p) p _ (by omega) (by rw [up_eq, up_ne (by decide)]; exact h11) (by rw [up_eq, up_ne (by decide)]; exact h12) (fun o' h2 hf => hq o' h2 (by rw [hf.2 4 (by decide), up_eq, up_eq]) ((fp.up (Or.inr rfl)).tr (hf.mono (fun k hk => Or.inl hk))))

set_option maxHeartbeats 4000000 in
set_option maxRecDepth 100000 in
theorem w_num_l {l : zL} {d kc ks n : Nat} {h : Nat → va_E} {cm : Value} {u : Nat → Nat → Int32} {s : Nat → Nat → Int32} {a : Nat → Nat → Nat → Int32} {L : Nat} {x : Nat → Nat} {Q : zQ} {st : Nat} (hn : 89 ≤ n) (hL : L ≤ 600) (hu : ∀ i, i < L → u 0 i = nI (x i)) (hx : ∀ i, x i < 256) : ∀ m i (o : Nat → Nat → Int32), i + m = L → st ≤ i → o 1 1 = nI L → o 1 2 = nI i → o 1 5 = nI (vN x st (i - st)) → (∀ o', o' 1 2 = nI (rn tDi x m i) → o' 1 5 = nI (vN x st (rn tDi x m i - st)) → fp (fun k => k = 2 ∨ k = 5) o o' → Zj l mX3_passNumber (d + 1) kc ks 66 [(0, .ref 1)] [] n (gW h cm o' u s a) Q) → Zj l mX3_passNumber (d + 1) kc ks 5 [(0, .ref 1)] [] n (gW h cm o u s a) Q := by
  intro m
  induction m with
  | zero =>
    intro i o hi hst h11 h12 h15 hq
    have hiL : i = L := by omega
    refine z_aload_n (j := 0) dX3_passNumber_5 rfl ?_
    refine z_get (v := .int (o 1 2)) (by omega) gW_1 fX3_19 rfl dX3_passNumber_6 ?_
    refine z_aload_n (j := 0) dX3_passNumber_9 rfl ?_
    refine z_get (v := .int (o 1 1)) (by omega) gW_1 fX3_15 rfl dX3_passNumber_10 ?_
    rw [show (o 1 1) = nI L from h11, show (o 1 2) = nI i from h12]
    refine z_icmp_ge (tgt := 66) dX3_passNumber_13 (by decide) (fun czq13 => ?_) (fun czq13 => absurd (nI_le (by omega) (by omega)) czq13)
    exact hq o (by rw [h12]; rfl) h15 fp.rf
  | succ m ih =>
    intro i o hi hst h11 h12 h15 hq
    refine z_aload_n (j := 0) dX3_passNumber_5 rfl ?_
    refine z_get (v := .int (o 1 2)) (by omega) gW_1 fX3_19 rfl dX3_passNumber_6 ?_
    refine z_aload_n (j := 0) dX3_passNumber_9 rfl ?_
    refine z_get (v := .int (o 1 1)) (by omega) gW_1 fX3_15 rfl dX3_passNumber_10 ?_
    rw [show (o 1 1) = nI L from h11, show (o 1 2) = nI i from h12]
    refine z_icmp_ge (tgt := 66) dX3_passNumber_13 (by decide) (fun czq13 => absurd czq13 (nI_ge (by omega) (by omega))) (fun czq13 => ?_)
    refine z_aload_n (j := 0) dX3_passNumber_16 rfl ?_
    refine z_aload_n (j := 0) dX3_passNumber_17 rfl ?_
    refine z_get (v := .int (o 1 2)) (by omega) gW_1 fX3_19 rfl dX3_passNumber_18 ?_
    rw [show (o 1 2) = nI i from h12]
    refine z_kV [.int ((nI i))] 0 0 kc ks yoX3_byteAt yvX3_byteAt rfl (by decide) lX3_22 (by omega) gW_1 rfl rfl (Nat.le_of_ble_eq_true rfl) (Nat.le_of_ble_eq_true rfl) dX3_passNumber_21 (by omega) (by omega) (z_room (by omega) (Nat.le_refl _) (Nat.le_refl _) (w_byteAt (d := 0) hn hL h11 hu (by omega) ⟨rfl, ?_⟩))
    refine z_kS [.int ((bt L x i))] 0 0 kc ks yoX3_isDigit ysX3_isDigit rfl (by decide) lX3_42 rfl (Nat.le_of_ble_eq_true rfl) (Nat.le_of_ble_eq_true rfl) dX3_passNumber_24 (by omega) (by omega) (z_room (by omega) (Nat.le_refl _) (Nat.le_refl _) (w_isDigit (d := 0)  ⟨rfl, ?_⟩))
    refine z_if_eq (tgt := 66) dX3_passNumber_27 (by decide) (fun czq27 => ?_) (fun czq27 => ?_)
    · have hno : ¬ tDi (x i) = true := fun z => bI_0.mp czq27 ((bt_di hx).mpr ⟨by omega, z⟩)
      exact hq o (by rw [rn_no hno]; exact h12) (by rw [rn_no hno]; exact h15) fp.rf
    · refine z_aload_n (j := 0) dX3_passNumber_30 rfl ?_
      refine z_aload_n (j := 0) dX3_passNumber_31 rfl ?_
      refine z_get (v := .int (o 1 5)) (by omega) gW_1 fX3_57 rfl dX3_passNumber_32 ?_
      refine z_bipush (v := 10) dX3_passNumber_35 (by decide) ?_
      refine z_imul dX3_passNumber_37 ?_
      refine z_aload_n (j := 0) dX3_passNumber_38 rfl ?_
      refine z_aload_n (j := 0) dX3_passNumber_39 rfl ?_
      refine z_get (v := .int (o 1 2)) (by omega) gW_1 fX3_19 rfl dX3_passNumber_40 ?_
      rw [show (o 1 2) = nI i from h12]
      refine z_kV [.int ((nI i))] 0 0 kc ks yoX3_byteAt yvX3_byteAt rfl (by decide) lX3_22 (by omega) gW_1 rfl rfl (Nat.le_of_ble_eq_true rfl) (Nat.le_of_ble_eq_true rfl) dX3_passNumber_43 (by omega) (by omega) (z_room (by omega) (Nat.le_refl _) (Nat.le_refl _) (w_byteAt (d := 0) hn hL h11 hu (by omega) ⟨rfl, ?_⟩))
      refine z_bipush (v := 48) dX3_passNumber_46 (by decide) ?_
      refine z_isub dX3_passNumber_48 ?_
      refine z_iadd dX3_passNumber_49 ?_
      have hyes := ((bt_di hx).mp (bI_n.mp czq27)).2
      rw [show (((o 1 5) * 10) + ((bt L x i) - 48)) = nI (vN x st (i + 1 - st)) from by
        have hd := hyes
        simp only [tDi, Bool.and_eq_true, decide_eq_true_eq] at hd
        rw [h15, bt_in (by omega), show i + 1 - st = (i - st) + 1 by omega, vN, show st + (i - st) = i by omega, show (10 : Int32) = nI 10 from rfl, show (48 : Int32) = nI 48 from rfl, pk_mul, pk_sub hd.1, nI_add]]
      refine g_put 1 (by decide) (by omega) (by decide) rfl rfl fX3_57 gg3 rfl fin3_5 (by show 5 < 6; decide) dX3_passNumber_50 ?_
      refine z_aload_n (j := 0) dX3_passNumber_53 rfl ?_
      refine z_dup rfl dX3_passNumber_54 ?_
      refine z_get (v := .int ((va_up o 1 (va_up (o 1) 5 (nI (vN x st (i + 1 - st))))) 1 2)) (by omega) gW_1 fX3_19 rfl dX3_passNumber_55 ?_
      refine z_iconst (v := 1) dX3_passNumber_58 (by decide) ?_
      refine z_iadd dX3_passNumber_59 ?_
      rw [show (((va_up o 1 (va_up (o 1) 5 (nI (vN x st (i + 1 - st))))) 1 2) + 1) = nI (i + 1) from by rw [show (va_up o 1 (va_up (o 1) 5 (nI (vN x st (i + 1 - st))))) 1 2 = o 1 2 from by rw [up_eq, up_ne (by decide)], h12, nI_1]]
      refine g_put 1 (by decide) (by omega) (by decide) rfl rfl fX3_19 gg3 rfl fin3_2 (by show 2 < 6; decide) dX3_passNumber_60 ?_
      refine z_goto (tgt := 5) dX3_passNumber_63 (by decide) ?_
      refine ih (i + 1) _ (by omega) (by omega) (by rw [up_eq, up_ne (by decide), up_eq, up_ne (by decide)]; exact h11) (by rw [up_eq, up_eq]) (by rw [up_eq, up_ne (by decide), up_eq, up_eq]) (fun o' h2 h5 hf => hq o' (by rw [rn_yes hyes]; exact h2) (by rw [rn_yes hyes]; exact h5) (((fp.up (Or.inr rfl)).up1 (Or.inl rfl)).tr hf))

set_option maxHeartbeats 4000000 in
set_option maxRecDepth 100000 in
theorem w_num_e {l : zL} {d kc ks n : Nat} {h : Nat → va_E} {cm : Value} {o u : Nat → Nat → Int32} {s : Nat → Nat → Int32} {a : Nat → Nat → Nat → Int32} {st e : Nat} {Q : zQ} (hn : 89 ≤ n) (hse : st ≤ e) (he : e ≤ 600) (h12 : o 1 2 = nI e) (h13 : o 1 3 = nI st) (hq : ∀ o', o' 1 4 = (if e - st ≤ 4 then 2 else 6) → fp (fun k => k = 4) o o' → Q (.inl none) n (gW h cm o' u s a)) : Zj l mX3_passNumber (d + 1) kc ks 66 [(0, .ref 1)] [] n (gW h cm o u s a) Q := by
  refine z_aload_n (j := 0) dX3_passNumber_66 rfl ?_
  refine z_aload_n (j := 0) dX3_passNumber_67 rfl ?_
  refine z_get (v := .int (o 1 2)) (by omega) gW_1 fX3_19 rfl dX3_passNumber_68 ?_
  refine z_aload_n (j := 0) dX3_passNumber_71 rfl ?_
  refine z_get (v := .int (o 1 3)) (by omega) gW_1 fX3_30 rfl dX3_passNumber_72 ?_
  refine z_isub dX3_passNumber_75 ?_
  refine z_iconst (v := 4) dX3_passNumber_76 (by decide) ?_
  rw [show ((o 1 2) - (o 1 3)) = nI (e - st) from by rw [h12, h13, pk_sub hse]]
  refine z_icmp_le (tgt := 85) dX3_passNumber_77 (by decide) (fun czq77 => ?_) (fun czq77 => ?_)
  · refine z_iconst (v := 2) dX3_passNumber_85 (by decide) ?_
    refine g_put 1 (by decide) (by omega) (by decide) rfl rfl fX3_33 gg3 rfl fin3_4 (by show 4 < 6; decide) dX3_passNumber_86 ?_
    exact z_vret rfl dX3_passNumber_89 (hq _ (by rw [up_eq, up_eq, if_pos (Decidable.byContradiction fun z => nI_nle2 (b := 4) (by omega) (by omega) czq77)]) (fp.up rfl))
  · refine z_bipush (v := 6) dX3_passNumber_80 (by decide) ?_
    refine z_goto (tgt := 86) dX3_passNumber_82 (by decide) ?_
    refine g_put 1 (by decide) (by omega) (by decide) rfl rfl fX3_33 gg3 rfl fin3_4 (by show 4 < 6; decide) dX3_passNumber_86 ?_
    exact z_vret rfl dX3_passNumber_89 (hq _ (by rw [up_eq, up_eq, if_neg (fun z => czq77 (nI_le (b := 4) z (by decide)))]) (fp.up rfl))

set_option maxHeartbeats 4000000 in
set_option maxRecDepth 100000 in
theorem w_passNumber {l : zL} {d kc ks n : Nat} {h : Nat → va_E} {cm : Value} {o u : Nat → Nat → Int32} {s : Nat → Nat → Int32} {a : Nat → Nat → Nat → Int32} {L : Nat} {x : Nat → Nat} {p : Nat} {Q : zQ} (hn : 89 ≤ n) (hL : L ≤ 600) (h11 : o 1 1 = nI L) (hu : ∀ i, i < L → u 0 i = nI (x i)) (hx : ∀ i, x i < 256) (hp : p ≤ L) (h12 : o 1 2 = nI p) (h13 : o 1 3 = nI p) (hq : ∀ o', o' 1 2 = nI (rn tDi x (L - p) p) → o' 1 4 = (if rn tDi x (L - p) p - p ≤ 4 then 2 else 6) → o' 1 5 = nI (vN x p (rn tDi x (L - p) p - p)) → fp (fun k => k = 2 ∨ k = 4 ∨ k = 5) o o' → Q (.inl none) n (gW h cm o' u s a)) : Zj l mX3_passNumber (d + 1) kc ks 0 [(0, .ref 1)] [] n (gW h cm o u s a) Q := by
  refine z_aload_n (j := 0) dX3_passNumber_0 rfl ?_
  refine z_iconst (v := 0) dX3_passNumber_1 (by decide) ?_
  refine g_put 1 (by decide) (by omega) (by decide) rfl rfl fX3_57 gg3 rfl fin3_5 (by show 5 < 6; decide) dX3_passNumber_2 ?_
  refine w_num_l (st := p) hn hL hu hx (L - p) p _ (by omega) (Nat.le_refl _) (by rw [up_eq, up_ne (by decide)]; exact h11) (by rw [up_eq, up_ne (by decide)]; exact h12) (by rw [up_eq, up_eq, Nat.sub_self]; rfl) (fun o1 h2 h5 hf => ?_)
  have hr := rn_le (p := tDi) (x := x) (L - p) p
  refine w_num_e (st := p) (e := rn tDi x (L - p) p) hn (by omega) (by omega) h2 (by rw [hf.2 3 (by decide), up_eq, up_ne (by decide)]; exact h13) (fun o2 h4 hf2 => hq o2 ?_ h4 ?_ ?_)
  · rw [hf2.2 2 (by decide)]; exact h2
  · rw [hf2.2 5 (by decide)]; exact h5
  · exact ((fp.up (Or.inr (Or.inr rfl))).tr (hf.mono (fun k hk => hk.elim Or.inl (fun e => Or.inr (Or.inr e))))).tr (hf2.mono (fun k hk => Or.inr (Or.inl hk)))

set_option maxHeartbeats 4000000 in
set_option maxRecDepth 100000 in
theorem w_next2 {l : zL} {d kc ks n : Nat} {h : Nat → va_E} {cm : Value} {o u : Nat → Nat → Int32} {s : Nat → Nat → Int32} {a : Nat → Nat → Nat → Int32} {L : Nat} {x : Nat → Nat} {st : Nat} {Q : zQ} (hn : 89 ≤ n) (hL : L ≤ 600) (h11 : o 1 1 = nI L) (hu : ∀ i, i < L → u 0 i = nI (x i)) (hx : ∀ i, x i < 256) (hst : st ≤ L) (h12 : o 1 2 = nI st) (hq : ∀ o', o' 1 2 = nI (tE L x st) → o' 1 3 = nI st → o' 1 4 = nI (tKd L x st) → (tKd L x st = 2 → o' 1 5 = nI (tV L x st)) → fp (fun k => 2 ≤ k) o o' → Q (.inl none) n (gW h cm o' u s a)) : Zj l mX3_nextToken (d + 2) kc ks 38 [(0, .ref 1)] [] n (gW h cm o u s a) Q := by
  refine z_aload_n (j := 0) dX3_nextToken_38 rfl ?_
  refine z_aload_n (j := 0) dX3_nextToken_39 rfl ?_
  refine z_get (v := .int (o 1 2)) (by omega) gW_1 fX3_19 rfl dX3_nextToken_40 ?_
  rw [show (o 1 2) = nI st from h12]
  refine g_put 1 (by decide) (by omega) (by decide) rfl rfl fX3_30 gg3 rfl fin3_3 (by show 3 < 6; decide) dX3_nextToken_43 ?_
  refine z_aload_n (j := 0) dX3_nextToken_46 rfl ?_
  refine z_aload_n (j := 0) dX3_nextToken_47 rfl ?_
  refine z_get (v := .int ((va_up o 1 (va_up (o 1) 3 (nI st))) 1 2)) (by omega) gW_1 fX3_19 rfl dX3_nextToken_48 ?_
  rw [show ((va_up o 1 (va_up (o 1) 3 (nI st))) 1 2) = nI st from by rw [up_eq, up_ne (by decide)]; exact h12]
  refine z_kV [.int ((nI st))] 0 0 kc ks yoX3_byteAt yvX3_byteAt rfl (by decide) lX3_22 (by omega) gW_1 rfl rfl (Nat.le_of_ble_eq_true rfl) (Nat.le_of_ble_eq_true rfl) dX3_nextToken_51 (by omega) (by omega) (z_room (by omega) (Nat.le_refl _) (Nat.le_refl _) (w_byteAt (d := 0) hn hL (by rw [up_eq, up_ne (by decide)]; exact h11) hu (by omega) ⟨rfl, ?_⟩))
  refine z_istore_n [1, 0] [(0, .ref 1), (1, .int ((bt L x st)))] dX3_nextToken_54 (by decide) rfl ?_
  refine z_iload_n (j := 1) dX3_nextToken_55 rfl ?_
  refine z_iconst (v := (-1)) dX3_nextToken_56 (by decide) ?_
  refine z_icmp_ne (tgt := 68) dX3_nextToken_57 (by decide) (fun czq57 => ?_) (fun czq57 => ?_)
  · refine z_iload_n (j := 1) dX3_nextToken_68 rfl ?_
    refine z_kS [.int ((bt L x st))] 0 0 kc ks yoX3_isLetter ysX3_isLetter rfl (by decide) lX3_36 rfl (Nat.le_of_ble_eq_true rfl) (Nat.le_of_ble_eq_true rfl) dX3_nextToken_69 (by omega) (by omega) (z_room (by omega) (Nat.le_refl _) (Nat.le_refl _) (w_isLetter (d := 0)  ⟨rfl, ?_⟩))
    refine z_if_eq (tgt := 82) dX3_nextToken_72 (by decide) (fun czq72 => ?_) (fun czq72 => ?_)
    · refine z_iload_n (j := 1) dX3_nextToken_82 rfl ?_
      refine z_kS [.int ((bt L x st))] 0 0 kc ks yoX3_isDigit ysX3_isDigit rfl (by decide) lX3_42 rfl (Nat.le_of_ble_eq_true rfl) (Nat.le_of_ble_eq_true rfl) dX3_nextToken_83 (by omega) (by omega) (z_room (by omega) (Nat.le_refl _) (Nat.le_refl _) (w_isDigit (d := 0)  ⟨rfl, ?_⟩))
      refine z_if_eq (tgt := 96) dX3_nextToken_86 (by decide) (fun czq86 => ?_) (fun czq86 => ?_)
      · refine z_aload_n (j := 0) dX3_nextToken_96 rfl ?_
        refine z_dup rfl dX3_nextToken_97 ?_
        refine z_get (v := .int ((va_up o 1 (va_up (o 1) 3 (nI st))) 1 2)) (by omega) gW_1 fX3_19 rfl dX3_nextToken_98 ?_
        refine z_iconst (v := 1) dX3_nextToken_101 (by decide) ?_
        refine z_iadd dX3_nextToken_102 ?_
        rw [show (((va_up o 1 (va_up (o 1) 3 (nI st))) 1 2) + 1) = nI (st + 1) from by rw [show (va_up o 1 (va_up (o 1) 3 (nI st))) 1 2 = nI st from by rw [up_eq, up_ne (by decide)]; exact h12, nI_1]]
        refine g_put 1 (by decide) (by omega) (by decide) rfl rfl fX3_19 gg3 rfl fin3_2 (by show 2 < 6; decide) dX3_nextToken_103 ?_
        refine z_aload_n (j := 0) dX3_nextToken_106 rfl ?_
        refine z_iload_n (j := 1) dX3_nextToken_107 rfl ?_
        refine z_bipush (v := 40) dX3_nextToken_108 (by decide) ?_
        refine z_icmp_ne (tgt := 117) dX3_nextToken_110 (by decide) (fun czq110 => ?_) (fun czq110 => ?_)
        · refine z_iload_n (j := 1) dX3_nextToken_117 rfl ?_
          refine z_bipush (v := 41) dX3_nextToken_118 (by decide) ?_
          refine z_icmp_ne (tgt := 127) dX3_nextToken_120 (by decide) (fun czq120 => ?_) (fun czq120 => ?_)
          · refine z_iload_n (j := 1) dX3_nextToken_127 rfl ?_
            refine z_bipush (v := 59) dX3_nextToken_128 (by decide) ?_
            refine z_icmp_ne (tgt := 137) dX3_nextToken_130 (by decide) (fun czq130 => ?_) (fun czq130 => ?_)
            · refine z_bipush (v := 6) dX3_nextToken_137 (by decide) ?_
              refine g_put 1 (by decide) (by omega) (by decide) rfl rfl fX3_33 gg3 rfl fin3_4 (by show 4 < 6; decide) dX3_nextToken_139 ?_
              exact z_vret rfl dX3_nextToken_142 (by
                  have hlt : st < L := Decidable.byContradiction fun z => czq57 ((bt_neg hx).mpr z)
                  have hnl : ¬ tLe (x st) = true := fun z => bI_0.mp czq72 ((bt_le hx).mpr ⟨hlt, z⟩)
                  have hnd : ¬ tDi (x st) = true := fun z => bI_0.mp czq86 ((bt_di hx).mpr ⟨hlt, z⟩)
                  have hbt := bt_in (x := x) hlt
                  have hx9 := hx st
                  have e40 : ¬ x st = 40 := fun z => czq110 ((bt_is (L := L) (i := st) hx (by decide)).mpr ⟨hlt, z⟩)
                  have e41 : ¬ x st = 41 := fun z => czq120 ((bt_is (L := L) (i := st) hx (by decide)).mpr ⟨hlt, z⟩)
                  have e59 : ¬ x st = 59 := fun z => czq130 ((bt_is (L := L) (i := st) hx (by decide)).mpr ⟨hlt, z⟩)
                  refine hq _ ?_ ?_ ?_ (fun e => ?_) (((fp.up (by decide)).up1 (by decide)).up1 (by decide))
                  · rw [up_eq, up_ne (by decide), up_eq, up_eq]; unfold tE; rw [if_neg (by omega), if_neg hnl, if_neg hnd]
                  · rw [up_eq, up_ne (by decide), up_eq, up_ne (by decide), up_eq, up_eq]
                  · rw [up_eq, up_eq]; unfold tKd; rw [if_neg (by omega), if_neg hnl, if_neg hnd, if_neg e40, if_neg e41, if_neg e59]; rfl
                  · exfalso; unfold tKd at e; rw [if_neg (by omega), if_neg hnl, if_neg hnd, if_neg e40, if_neg e41, if_neg e59] at e; cases e)
            · refine z_iconst (v := 5) dX3_nextToken_133 (by decide) ?_
              refine z_goto (tgt := 139) dX3_nextToken_134 (by decide) ?_
              refine g_put 1 (by decide) (by omega) (by decide) rfl rfl fX3_33 gg3 rfl fin3_4 (by show 4 < 6; decide) dX3_nextToken_139 ?_
              exact z_vret rfl dX3_nextToken_142 (by
                  have hlt : st < L := Decidable.byContradiction fun z => czq57 ((bt_neg hx).mpr z)
                  have hnl : ¬ tLe (x st) = true := fun z => bI_0.mp czq72 ((bt_le hx).mpr ⟨hlt, z⟩)
                  have hnd : ¬ tDi (x st) = true := fun z => bI_0.mp czq86 ((bt_di hx).mpr ⟨hlt, z⟩)
                  have hbt := bt_in (x := x) hlt
                  have hx9 := hx st
                  have e40 : ¬ x st = 40 := fun z => czq110 ((bt_is (L := L) (i := st) hx (by decide)).mpr ⟨hlt, z⟩)
                  have e41 : ¬ x st = 41 := fun z => czq120 ((bt_is (L := L) (i := st) hx (by decide)).mpr ⟨hlt, z⟩)
                  have e59 : x st = 59 := ((bt_is (L := L) (i := st) hx (by decide)).mp (show bt L x st = nI 59 from czq130)).2
                  refine hq _ ?_ ?_ ?_ (fun e => ?_) (((fp.up (by decide)).up1 (by decide)).up1 (by decide))
                  · rw [up_eq, up_ne (by decide), up_eq, up_eq]; unfold tE; rw [if_neg (by omega), if_neg hnl, if_neg hnd]
                  · rw [up_eq, up_ne (by decide), up_eq, up_ne (by decide), up_eq, up_eq]
                  · rw [up_eq, up_eq]; unfold tKd; rw [if_neg (by omega), if_neg hnl, if_neg hnd, if_neg e40, if_neg e41, if_pos e59]; rfl
                  · exfalso; unfold tKd at e; rw [if_neg (by omega), if_neg hnl, if_neg hnd, if_neg e40, if_neg e41, if_pos e59] at e; cases e)
          · refine z_iconst (v := 4) dX3_nextToken_123 (by decide) ?_
            refine z_goto (tgt := 139) dX3_nextToken_124 (by decide) ?_
            refine g_put 1 (by decide) (by omega) (by decide) rfl rfl fX3_33 gg3 rfl fin3_4 (by show 4 < 6; decide) dX3_nextToken_139 ?_
            exact z_vret rfl dX3_nextToken_142 (by
                have hlt : st < L := Decidable.byContradiction fun z => czq57 ((bt_neg hx).mpr z)
                have hnl : ¬ tLe (x st) = true := fun z => bI_0.mp czq72 ((bt_le hx).mpr ⟨hlt, z⟩)
                have hnd : ¬ tDi (x st) = true := fun z => bI_0.mp czq86 ((bt_di hx).mpr ⟨hlt, z⟩)
                have hbt := bt_in (x := x) hlt
                have hx9 := hx st
                have e40 : ¬ x st = 40 := fun z => czq110 ((bt_is (L := L) (i := st) hx (by decide)).mpr ⟨hlt, z⟩)
                have e41 : x st = 41 := ((bt_is (L := L) (i := st) hx (by decide)).mp (show bt L x st = nI 41 from czq120)).2
                refine hq _ ?_ ?_ ?_ (fun e => ?_) (((fp.up (by decide)).up1 (by decide)).up1 (by decide))
                · rw [up_eq, up_ne (by decide), up_eq, up_eq]; unfold tE; rw [if_neg (by omega), if_neg hnl, if_neg hnd]
                · rw [up_eq, up_ne (by decide), up_eq, up_ne (by decide), up_eq, up_eq]
                · rw [up_eq, up_eq]; unfold tKd; rw [if_neg (by omega), if_neg hnl, if_neg hnd, if_neg e40, if_pos e41]; rfl
                · exfalso; unfold tKd at e; rw [if_neg (by omega), if_neg hnl, if_neg hnd, if_neg e40, if_pos e41] at e; cases e)
        · refine z_iconst (v := 3) dX3_nextToken_113 (by decide) ?_
          refine z_goto (tgt := 139) dX3_nextToken_114 (by decide) ?_
          refine g_put 1 (by decide) (by omega) (by decide) rfl rfl fX3_33 gg3 rfl fin3_4 (by show 4 < 6; decide) dX3_nextToken_139 ?_
          exact z_vret rfl dX3_nextToken_142 (by
              have hlt : st < L := Decidable.byContradiction fun z => czq57 ((bt_neg hx).mpr z)
              have hnl : ¬ tLe (x st) = true := fun z => bI_0.mp czq72 ((bt_le hx).mpr ⟨hlt, z⟩)
              have hnd : ¬ tDi (x st) = true := fun z => bI_0.mp czq86 ((bt_di hx).mpr ⟨hlt, z⟩)
              have hbt := bt_in (x := x) hlt
              have hx9 := hx st
              have e40 : x st = 40 := ((bt_is (L := L) (i := st) hx (by decide)).mp (show bt L x st = nI 40 from czq110)).2
              refine hq _ ?_ ?_ ?_ (fun e => ?_) (((fp.up (by decide)).up1 (by decide)).up1 (by decide))
              · rw [up_eq, up_ne (by decide), up_eq, up_eq]; unfold tE; rw [if_neg (by omega), if_neg hnl, if_neg hnd]
              · rw [up_eq, up_ne (by decide), up_eq, up_ne (by decide), up_eq, up_eq]
              · rw [up_eq, up_eq]; unfold tKd; rw [if_neg (by omega), if_neg hnl, if_neg hnd, if_pos e40]; rfl
              · exfalso; unfold tKd at e; rw [if_neg (by omega), if_neg hnl, if_neg hnd, if_pos e40] at e; cases e)
      · refine z_aload_n (j := 0) dX3_nextToken_89 rfl ?_
        refine z_kV [] 0 0 kc ks yoX3_passNumber yvX3_passNumber rfl (by decide) lX3_45 (by omega) gW_1 rfl rfl (Nat.le_of_ble_eq_true rfl) (Nat.le_of_ble_eq_true rfl) dX3_nextToken_90 (by omega) (by omega) (z_room (by omega) (Nat.le_refl _) (Nat.le_refl _) (w_passNumber (d := 0) hn hL (by rw [up_eq, up_ne (by decide)]; exact h11) hu hx hst (by rw [up_eq, up_ne (by decide)]; exact h12) (by rw [up_eq, up_eq]) (fun o' h2 h4 h5 hf => ⟨rfl, ?_⟩)))
        refine z_goto (tgt := 142) dX3_nextToken_93 (by decide) ?_
        exact z_vret rfl dX3_nextToken_142 (by
            have hlt : st < L := Decidable.byContradiction fun z => czq57 ((bt_neg hx).mpr z)
            have hnl : ¬ tLe (x st) = true := fun z => bI_0.mp czq72 ((bt_le hx).mpr ⟨hlt, z⟩)
            have hyd := ((bt_di hx).mp (bI_n.mp czq86)).2
            have hte : tE L x st = rn tDi x (L - st) st := by unfold tE; rw [if_neg (by omega), if_neg hnl, if_pos hyd, rn_le0 hlt hyd]
            refine hq _ (by rw [hte]; exact h2) (by rw [hf.2 3 (by decide), up_eq, up_eq]) (by unfold tKd; rw [if_neg (by omega), if_neg hnl, if_pos hyd, hte, h4]; split <;> rfl) (fun e => by unfold tV; rw [hte]; exact h5) ((fp.up (by decide)).tr (hf.mono (fun k hk => by omega))))
    · refine z_aload_n (j := 0) dX3_nextToken_75 rfl ?_
      refine z_kV [] 0 0 kc ks yoX3_passWord yvX3_passWord rfl (by decide) lX3_39 (by omega) gW_1 rfl rfl (Nat.le_of_ble_eq_true rfl) (Nat.le_of_ble_eq_true rfl) dX3_nextToken_76 (by omega) (by omega) (z_room (by omega) (Nat.le_refl _) (Nat.le_refl _) (w_passWord (d := 0) hn hL (by rw [up_eq, up_ne (by decide)]; exact h11) hu hx hst (by rw [up_eq, up_ne (by decide)]; exact h12) (fun o' h2 h4 hf => ⟨rfl, ?_⟩)))
      refine z_goto (tgt := 142) dX3_nextToken_79 (by decide) ?_
      exact z_vret rfl dX3_nextToken_142 (by
          have hlt : st < L := Decidable.byContradiction fun z => czq57 ((bt_neg hx).mpr z)
          have hyl := ((bt_le hx).mp (bI_n.mp czq72)).2
          have hte : tE L x st = rn tLe x (L - st) st := by unfold tE; rw [if_neg (by omega), if_pos hyl, rn_le0 hlt hyl]
          have htk : tKd L x st = 1 := by unfold tKd; rw [if_neg (by omega), if_pos hyl]
          refine hq _ (by rw [hte]; exact h2) (by rw [hf.2 3 (by decide), up_eq, up_eq]) (by rw [htk]; exact h4) (fun e => absurd (htk.symm.trans e) (by decide)) ((fp.up (by decide)).tr (hf.mono (fun k hk => by omega))))
  · refine z_aload_n (j := 0) dX3_nextToken_60 rfl ?_
    refine z_iconst (v := 0) dX3_nextToken_61 (by decide) ?_
    refine g_put 1 (by decide) (by omega) (by decide) rfl rfl fX3_33 gg3 rfl fin3_4 (by show 4 < 6; decide) dX3_nextToken_62 ?_
    refine z_goto (tgt := 142) dX3_nextToken_65 (by decide) ?_
    exact z_vret rfl dX3_nextToken_142 (by
        have hge : L ≤ st := by
          have := (bt_neg (L := L) (i := st) hx).mp czq57
          omega
        refine hq _ ?_ ?_ ?_ (fun e => ?_) ((fp.up (by decide)).up1 (by decide))
        · rw [up_eq, up_ne (by decide), up_eq, up_ne (by decide), h12]; unfold tE; rw [if_pos hge]
        · rw [up_eq, up_ne (by decide), up_eq, up_eq]
        · rw [up_eq, up_eq]; unfold tKd; rw [if_pos hge]; rfl
        · unfold tKd at e; rw [if_pos hge] at e; cases e)

theorem w_nextToken {l : zL} {d kc ks n : Nat} {h : Nat → va_E} {cm : Value} {o u : Nat → Nat → Int32} {s : Nat → Nat → Int32} {a : Nat → Nat → Nat → Int32} {L : Nat} {x : Nat → Nat} {p : Nat} {Q : zQ} (hn : 89 ≤ n) (hL : L ≤ 600) (h11 : o 1 1 = nI L) (hu : ∀ i, i < L → u 0 i = nI (x i)) (hx : ∀ i, x i < 256) (hp : p ≤ L) (h12 : o 1 2 = nI p) (hq : ∀ o', o' 1 2 = nI (nx L x p) → o' 1 3 = nI (tS L x p) → o' 1 4 = nI (tKd L x (tS L x p)) → (tKd L x (tS L x p) = 2 → o' 1 5 = nI (tV L x (tS L x p))) → fp (fun k => 2 ≤ k) o o' → Q (.inl none) n (gW h cm o' u s a)) : Zj l mX3_nextToken (d + 2) kc ks 0 [(0, .ref 1)] [] n (gW h cm o u s a) Q := by
  refine w_blank_l (d := d + 1) hn hL hu hx (L - p) p o (by omega) h11 h12 (fun o1 h2 hf => ?_)
  refine w_next2 hn hL ((hf.2 1 (by decide)).trans h11) hu hx (tS_le hp).2 h2 (fun o' q2 q3 q4 q5 hf' => hq o' q2 q3 q4 q5 ((hf.mono (fun k hk => by omega)).tr hf'))
