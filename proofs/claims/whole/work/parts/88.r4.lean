/-! THE REFERENCE'S PUBLIC METHODS, fourth part: changes -/
theorem mT.eq {S : zS} {r r' : Nat → Int32} (h : mT S r) (he : ∀ i, i < 137 → r' i = r i) : mT S r' := h.cp he
/-- a change is remembered: what the reference keeps -/
theorem mI.push {S S' : zS} {sv : Int32} {Sn : zS} {k : Nat} {hi : Nat → zS} {L : Nat} {x : Nat → Nat} {ek eo : Int32} {rl : Nat} {rb : Nat → Nat} {s s' : Nat → Int32} {a a' : Nat → Nat → Int32} (h : mI (S, sv, Sn, k, hi, L, x, ek, eo, rl, rb) s a) (hT' : mT S' (a' 0)) (hp : ∀ j, j < (if k < 8 then k + 1 else 8) → mT (if j = 0 then S else hi (j - 1)) (fun i => a' 5 (137 * ((if k < 8 then k + 1 else 8) - 1 - j) + i))) (h9' : s' 9 = nI (if k < 8 then k + 1 else 8)) (hs : ∀ q, q = 11 ∨ q = 14 ∨ q = 16 ∨ q = 17 ∨ q = 19 → s' q = s q) (ha : ∀ q, q = 6 ∨ q = 9 ∨ q = 11 → a' q = a q) : mI (gPush (S, sv, Sn, k, hi, L, x, ek, eo, rl, rb) S') s' a' := by
  obtain ⟨hT, h11, hsv, hsn, hk8, h9, hhi, hL, h14, ha9, hx256, h16, h17, hrl, h19, ha11, hrb⟩ := h
  exact ⟨hT', (hs 11 (by decide)).trans h11, hsv, fun e => by rw [ha 6 (by decide)]; exact hsn e, by split <;> omega, h9', hp, hL, (hs 14 (by decide)).trans h14, by rw [ha 9 (by decide)]; exact ha9, hx256, (hs 16 (by decide)).trans h16, (hs 17 (by decide)).trans h17, hrl, (hs 19 (by decide)).trans h19, by rw [ha 11 (by decide)]; exact ha11, hrb⟩

set_option maxHeartbeats 4000000 in
set_option maxRecDepth 100000 in
theorem r_begins_l {l : zL} {d kc ks n b : Nat} {h : Nat → va_E} {s : Nat → Int32} {a0 : Nat → Nat → Int32} {Q : zQ} (hb : b + 14 ≤ n) : ∀ m i, i + m = 137 → ∀ (a : Nat → Nat → Int32), (∀ j, j < i → a 1 j = a0 0 j) → (∀ q, q ≠ 1 → a q = a0 q) → (∀ a', (∀ j, j < 137 → a' 1 j = a0 0 j) → (∀ q, q ≠ 1 → a' q = a0 q) → Q (.inl none) n (mW h b s a')) → Zj l mX8_begins d kc ks 2 [(0, .ref b), (1, .int ((nI i)))] [] n (mW h b s a) Q := by
  intro m
  induction m with
  | zero =>
    intro i hi a hd hr hq
    have hi0 : i = 137 := by omega
    refine z_iload_n (j := 1) dX8_begins_2 rfl ?_
    refine z_sipush (v := 137) dX8_begins_3 (by decide) ?_
    refine z_icmp_ge (tgt := 27) dX8_begins_6 (by decide) (fun czq6 => ?_) (fun czq6 => absurd (by rw [hi0]; decide) czq6)
    exact z_vret rfl dX8_begins_27 (hq a (fun j hj => hd j (by omega)) hr)
  | succ m ih =>
    intro i hi a hd hr hq
    refine z_iload_n (j := 1) dX8_begins_2 rfl ?_
    refine z_sipush (v := 137) dX8_begins_3 (by decide) ?_
    refine z_icmp_ge (tgt := 27) dX8_begins_6 (by decide) (fun czq6 => absurd czq6 (nI_ge (b := 137) (by omega) (by decide))) (fun czq6 => ?_)
    refine z_aload_n (j := 0) dX8_begins_9 rfl ?_
    refine z_get (v := .ref (b + 2)) (by omega) mW_obj fX8_13 rfl dX8_begins_10 ?_
    refine z_iload_n (j := 1) dX8_begins_13 rfl ?_
    refine z_aload_n (j := 0) dX8_begins_14 rfl ?_
    refine z_get (v := .ref (b + 1)) (by omega) mW_obj fX8_7 rfl dX8_begins_15 ?_
    refine z_iload_n (j := 1) dX8_begins_18 rfl ?_
    refine m_aldN 0 137 i (by decide) rfl rfl hb rfl (by omega) (by decide) dX8_begins_19 ?_
    refine m_astN 1 137 i (by decide) rfl rfl hb rfl (by omega) (by decide) dX8_begins_20 ?_
    skip
    refine z_iinc ((nI (i + 1))) [1, 0] [(0, .ref b), (1, .int ((nI (i + 1))))] dX8_begins_21 (j := 1) rfl (nI_1 i) (by decide) rfl ?_
    refine z_goto (tgt := 2) dX8_begins_24 (by decide) ?_
    refine ih (i + 1) (by omega) _ (fun j hj => ?_) (fun q q1 => ?_) hq
    · by_cases hji : j = i
      · subst hji; rw [up_eq, up_eq, hr 0 (by decide)]
      · rw [up_eq, up_ne hji]; exact hd j (by omega)
    · rw [up_ne q1]; exact hr q q1

set_option maxHeartbeats 4000000 in
set_option maxRecDepth 100000 in
theorem r_begins {l : zL} {d kc ks n b : Nat} {h : Nat → va_E} {s : Nat → Int32} {a : Nat → Nat → Int32} {Q : zQ} (hb : b + 14 ≤ n) (hq : ∀ a', (∀ j, j < 137 → a' 1 j = a 0 j) → (∀ q, q ≠ 1 → a' q = a q) → Q (.inl none) n (mW h b s a')) : Zj l mX8_begins d kc ks 0 [(0, .ref b)] [] n (mW h b s a) Q := by
  refine z_iconst (v := 0) dX8_begins_0 (by decide) ?_
  refine z_istore_n [1, 0] [(0, .ref b), (1, .int 0)] dX8_begins_1 (by decide) rfl ?_
  exact r_begins_l (a0 := a) hb 137 0 (by omega) a (fun j hj => absurd hj (Nat.not_lt_zero j)) (fun _ _ => rfl) hq

set_option maxHeartbeats 4000000 in
set_option maxRecDepth 100000 in
theorem r_rem_l {l : zL} {d kc ks n b k : Nat} {h : Nat → va_E} {s : Nat → Int32} {x0 : Int32} {a0 : Nat → Nat → Int32} {Q : zQ} (hb : b + 14 ≤ n) (hk : k < 8) (e9 : s 9 = nI k) : ∀ m i, i + m = 137 → ∀ (a : Nat → Nat → Int32), (∀ j, j < i → a 5 (137 * k + j) = a0 1 j) → (∀ j, j < 137 * k → a 5 j = a0 5 j) → (∀ q, q ≠ 5 → a q = a0 q) → (∀ s' a', s' 9 = nI (k + 1) → (∀ q, q ≠ 9 → s' q = s q) → (∀ j, j < 137 → a' 5 (137 * k + j) = a0 1 j) → (∀ j, j < 137 * k → a' 5 j = a0 5 j) → (∀ q, q ≠ 5 → a' q = a0 q) → Q (.inl (some (.int x0))) n (mW h b s' a')) → Zj l mX8_remember d kc ks 54 [(0, .ref b), (1, .int x0), (2, .int ((nI i)))] [] n (mW h b s a) Q := by
  intro m
  induction m with
  | zero =>
    intro i hi a hd hlo hr hq
    have hi0 : i = 137 := by omega
    refine z_iload_n (j := 2) dX8_remember_54 rfl ?_
    refine z_sipush (v := 137) dX8_remember_55 (by decide) ?_
    refine z_icmp_ge (tgt := 88) dX8_remember_58 (by decide) (fun czq58 => ?_) (fun czq58 => absurd (by rw [hi0]; decide) czq58)
    refine z_aload_n (j := 0) dX8_remember_88 rfl ?_
    refine z_dup rfl dX8_remember_89 ?_
    refine z_get (v := .int (s 9)) (by omega) mW_obj fX8_318 rfl dX8_remember_90 ?_
    refine z_iconst (v := 1) dX8_remember_93 (by decide) ?_
    refine z_iadd dX8_remember_94 ?_
    rw [show ((s 9) + 1) = nI (k + 1) from by rw [e9, nI_1]]
    refine m_put (k := 9) (by omega) fX8_318 (by unfold mS; omega) (by decide) dX8_remember_95 ?_
    refine z_iload_n (j := 1) dX8_remember_98 rfl ?_
    exact z_iret rfl dX8_remember_99 (hq _ a (by rw [up_eq]) (fun q q9 => by rw [up_ne q9]) (fun j hj => hd j (by omega)) hlo hr)
  | succ m ih =>
    intro i hi a hd hlo hr hq
    refine z_iload_n (j := 2) dX8_remember_54 rfl ?_
    refine z_sipush (v := 137) dX8_remember_55 (by decide) ?_
    refine z_icmp_ge (tgt := 88) dX8_remember_58 (by decide) (fun czq58 => absurd czq58 (nI_ge (b := 137) (by omega) (by decide))) (fun czq58 => ?_)
    refine z_aload_n (j := 0) dX8_remember_61 rfl ?_
    refine z_get (v := .ref (b + 6)) (by omega) mW_obj fX8_25 rfl dX8_remember_62 ?_
    refine z_sipush (v := 137) dX8_remember_65 (by decide) ?_
    refine z_aload_n (j := 0) dX8_remember_68 rfl ?_
    refine z_get (v := .int (s 9)) (by omega) mW_obj fX8_318 rfl dX8_remember_69 ?_
    refine z_imul dX8_remember_72 ?_
    refine z_iload_n (j := 2) dX8_remember_73 rfl ?_
    refine z_iadd dX8_remember_74 ?_
    rw [show ((137 * (s 9)) + (nI i)) = (nI (137 * k + i)) from by rw [e9, show (137 : Int32) = nI 137 from rfl, pk_mul, nI_add]]
    refine z_aload_n (j := 0) dX8_remember_75 rfl ?_
    refine z_get (v := .ref (b + 2)) (by omega) mW_obj fX8_13 rfl dX8_remember_76 ?_
    refine z_iload_n (j := 2) dX8_remember_79 rfl ?_
    refine m_aldN 1 137 i (by decide) rfl rfl hb rfl (by omega) (by decide) dX8_remember_80 ?_
    refine m_astN 5 1096 (137 * k + i) (by decide) rfl rfl hb rfl (by omega) (by decide) dX8_remember_81 ?_
    skip
    refine z_iinc ((nI (i + 1))) [1, 2, 0] [(0, .ref b), (1, .int x0), (2, .int ((nI (i + 1))))] dX8_remember_82 (j := 2) rfl (nI_1 i) (by decide) rfl ?_
    refine z_goto (tgt := 54) dX8_remember_85 (by decide) ?_
    refine ih (i + 1) (by omega) _ (fun j hj => ?_) (fun j hj => ?_) (fun q q5 => ?_) hq
    · by_cases hji : j = i
      · subst hji; rw [up_eq, up_eq, hr 1 (by decide)]
      · rw [up_eq, up_ne (by omega)]; exact hd j (by omega)
    · rw [up_eq, up_ne (by omega)]; exact hlo j hj
    · rw [up_ne q5]; exact hr q q5

set_option maxHeartbeats 4000000 in
set_option maxRecDepth 100000 in
theorem r_rem_s {l : zL} {d kc ks n b : Nat} {h : Nat → va_E} {s : Nat → Int32} {x0 : Int32} {a0 : Nat → Nat → Int32} {Q : zQ} (hb : b + 14 ≤ n) (e9 : s 9 = nI 8) : ∀ m i, i + m = 959 → ∀ (a : Nat → Nat → Int32), (∀ j, j < i → a 5 j = a0 5 (j + 137)) → (∀ j, i + 137 ≤ j → a 5 j = a0 5 j) → (∀ q, q ≠ 5 → a q = a0 q) → (∀ s' a', s' 9 = nI 8 → (∀ q, q ≠ 9 → s' q = s q) → (∀ j, j < 137 → a' 5 (959 + j) = a0 1 j) → (∀ j, j < 959 → a' 5 j = a0 5 (j + 137)) → (∀ q, q ≠ 5 → a' q = a0 q) → Q (.inl (some (.int x0))) n (mW h b s' a')) → Zj l mX8_remember d kc ks 13 [(0, .ref b), (1, .int x0), (2, .int ((nI (i + 137))))] [] n (mW h b s a) Q := by
  intro m
  induction m with
  | zero =>
    intro i hi a hd hhi hr hq
    have hi0 : i = 959 := by omega
    refine z_iload_n (j := 2) dX8_remember_13 rfl ?_
    refine z_sipush (v := 1096) dX8_remember_14 (by decide) ?_
    refine z_icmp_ge (tgt := 42) dX8_remember_17 (by decide) (fun czq17 => ?_) (fun czq17 => absurd (by rw [hi0]; decide) czq17)
    refine z_aload_n (j := 0) dX8_remember_42 rfl ?_
    refine z_dup rfl dX8_remember_43 ?_
    refine z_get (v := .int (s 9)) (by omega) mW_obj fX8_318 rfl dX8_remember_44 ?_
    refine z_iconst (v := 1) dX8_remember_47 (by decide) ?_
    refine z_isub dX8_remember_48 ?_
    rw [show ((s 9) - 1) = nI 7 from by rw [e9]; decide]
    refine m_put (k := 9) (by omega) fX8_318 (by unfold mS; omega) (by decide) dX8_remember_49 ?_
    refine z_iconst (v := 0) dX8_remember_52 (by decide) ?_
    refine z_istore_n [1, 2, 0] [(0, .ref b), (1, .int x0), (2, .int 0)] dX8_remember_53 (by decide) rfl ?_
    refine r_rem_l (k := 7) (a0 := a) hb (by decide) (by rw [up_eq]) 137 0 (by omega) a (fun j hj => absurd hj (Nat.not_lt_zero j)) (fun _ _ => rfl) (fun _ _ => rfl) (fun s' a' h9' hs' hd' hlo' hr' => ?_)
    exact hq s' a' h9' (fun q q9 => by rw [hs' q q9, up_ne q9]) (fun j hj => (hd' j hj).trans (by rw [hr 1 (by decide)])) (fun j hj => (hlo' j (by omega)).trans (hd j (by omega))) (fun q q5 => (hr' q q5).trans (hr q q5))
  | succ m ih =>
    intro i hi a hd hhi hr hq
    refine z_iload_n (j := 2) dX8_remember_13 rfl ?_
    refine z_sipush (v := 1096) dX8_remember_14 (by decide) ?_
    refine z_icmp_ge (tgt := 42) dX8_remember_17 (by decide) (fun czq17 => absurd czq17 (nI_ge (b := 1096) (by omega) (by decide))) (fun czq17 => ?_)
    refine z_aload_n (j := 0) dX8_remember_20 rfl ?_
    refine z_get (v := .ref (b + 6)) (by omega) mW_obj fX8_25 rfl dX8_remember_21 ?_
    refine z_iload_n (j := 2) dX8_remember_24 rfl ?_
    refine z_sipush (v := 137) dX8_remember_25 (by decide) ?_
    refine z_isub dX8_remember_28 ?_
    rw [show ((nI (i + 137)) - 137) = nI i from by rw [show (137 : Int32) = nI 137 from rfl, pk_sub (by omega), Nat.add_sub_cancel]]
    refine z_aload_n (j := 0) dX8_remember_29 rfl ?_
    refine z_get (v := .ref (b + 6)) (by omega) mW_obj fX8_25 rfl dX8_remember_30 ?_
    refine z_iload_n (j := 2) dX8_remember_33 rfl ?_
    refine m_aldN 5 1096 (i + 137) (by decide) rfl rfl hb rfl (by omega) (by decide) dX8_remember_34 ?_
    refine m_astN 5 1096 i (by decide) rfl rfl hb rfl (by omega) (by decide) dX8_remember_35 ?_
    skip
    refine z_iinc ((nI (i + 1 + 137))) [1, 2, 0] [(0, .ref b), (1, .int x0), (2, .int ((nI (i + 1 + 137))))] dX8_remember_36 (j := 2) rfl (by rw [show i + 1 + 137 = (i + 137) + 1 by omega]; exact nI_1 _) (by decide) rfl ?_
    refine z_goto (tgt := 13) dX8_remember_39 (by decide) ?_
    refine ih (i + 1) (by omega) _ (fun j hj => ?_) (fun j hj => ?_) (fun q q5 => ?_) hq
    · by_cases hji : j = i
      · subst hji; rw [up_eq, up_eq]; exact hhi (j + 137) (by omega)
      · rw [up_eq, up_ne hji]; exact hd j (by omega)
    · rw [up_eq, up_ne (by omega)]; exact hhi j (by omega)
    · rw [up_ne q5]; exact hr q q5

set_option maxHeartbeats 4000000 in
set_option maxRecDepth 100000 in
theorem r_remember {l : zL} {d kc ks n b k : Nat} {h : Nat → va_E} {s : Nat → Int32} {a : Nat → Nat → Int32} {x0 : Int32} {Q : zQ} (hb : b + 14 ≤ n) (hk8 : k ≤ 8) (e9 : s 9 = nI k) (hq : ∀ s' a', s' 9 = nI (if k < 8 then k + 1 else 8) → (∀ q, q ≠ 9 → s' q = s q) → (∀ j, j < 137 → a' 5 (137 * ((if k < 8 then k + 1 else 8) - 1) + j) = a 1 j) → (∀ q j, q < (if k < 8 then k + 1 else 8) - 1 → j < 137 → a' 5 (137 * q + j) = a 5 (137 * (if k < 8 then q else q + 1) + j)) → (∀ q, q ≠ 5 → a' q = a q) → Q (.inl (some (.int x0))) n (mW h b s' a')) : Zj l mX8_remember d kc ks 0 [(0, .ref b), (1, .int x0)] [] n (mW h b s a) Q := by
  by_cases hk : k < 8
  · skip
    refine z_aload_n (j := 0) dX8_remember_0 rfl ?_
    refine z_get (v := .int (s 9)) (by omega) mW_obj fX8_318 rfl dX8_remember_1 ?_
    refine z_bipush (v := 8) dX8_remember_4 (by decide) ?_
    refine z_icmp_ne (tgt := 52) dX8_remember_6 (by decide) (fun czq6 => ?_) (fun czq6 => absurd ((nI_eq (b := 8) (by omega) (by decide)).mp (e9.symm.trans czq6)) (by omega))
    refine z_iconst (v := 0) dX8_remember_52 (by decide) ?_
    refine z_istore_n [1, 2, 0] [(0, .ref b), (1, .int x0), (2, .int 0)] dX8_remember_53 (by decide) rfl ?_
    refine r_rem_l (k := k) (a0 := a) hb hk e9 137 0 (by omega) a (fun j hj => absurd hj (Nat.not_lt_zero j)) (fun _ _ => rfl) (fun _ _ => rfl) (fun s' a' h9' hs' hd' hlo' hr' => ?_)
    rw [if_pos hk] at hq
    exact hq s' a' h9' hs' hd' (fun q j hq9 hj => by rw [if_pos hk]; exact hlo' _ (by omega)) hr'
  · have hk0 : k = 8 := by omega
    refine z_aload_n (j := 0) dX8_remember_0 rfl ?_
    refine z_get (v := .int (s 9)) (by omega) mW_obj fX8_318 rfl dX8_remember_1 ?_
    refine z_bipush (v := 8) dX8_remember_4 (by decide) ?_
    refine z_icmp_ne (tgt := 52) dX8_remember_6 (by decide) (fun czq6 => absurd czq6 (fun z => z (by rw [e9, hk0]; rfl))) (fun czq6 => ?_)
    refine z_sipush (v := 137) dX8_remember_9 (by decide) ?_
    refine z_istore_n [1, 2, 0] [(0, .ref b), (1, .int x0), (2, .int 137)] dX8_remember_12 (by decide) rfl ?_
    refine r_rem_s (a0 := a) hb (by rw [e9, hk0]) 959 0 (by omega) a (fun j hj => absurd hj (Nat.not_lt_zero j)) (fun _ _ => rfl) (fun _ _ => rfl) (fun s' a' h9' hs' hd' hlo' hr' => ?_)
    rw [if_neg hk] at hq
    exact hq s' a' h9' hs' hd' (fun q j hq9 hj => by rw [if_neg hk, hlo' _ (by omega), show 137 * q + j + 137 = 137 * (q + 1) + j by omega]) hr'

/-- the row of past states, after a change was remembered -/
theorem past_ok {S : zS} {k : Nat} {hi : Nat → zS} {a a2 a9 : Nat → Nat → Int32} (hk8 : k ≤ 8) (hT : mT S (a 0)) (hhi : ∀ j, j < k → mT (hi j) (fun i => a 5 (137 * (k - 1 - j) + i))) (h1 : ∀ j, j < 137 → a2 1 j = a 0 j) (h5 : a2 5 = a 5) (hd9 : ∀ j, j < 137 → a9 5 (137 * ((if k < 8 then k + 1 else 8) - 1) + j) = a2 1 j) (hl9 : ∀ q j, q < (if k < 8 then k + 1 else 8) - 1 → j < 137 → a9 5 (137 * q + j) = a2 5 (137 * (if k < 8 then q else q + 1) + j)) : ∀ j, j < (if k < 8 then k + 1 else 8) → mT (if j = 0 then S else hi (j - 1)) (fun i => a9 5 (137 * ((if k < 8 then k + 1 else 8) - 1 - j) + i)) := by
  intro j hj
  by_cases hj0 : j = 0
  · subst hj0
    rw [if_pos rfl]
    exact hT.cp (fun i hi9 => by rw [Nat.sub_zero, hd9 i hi9, h1 i hi9])
  · rw [if_neg hj0]
    have hjk : j - 1 < k := by
      by_cases hk : k < 8
      · rw [if_pos hk] at hj; omega
      · rw [if_neg hk] at hj; omega
    refine (hhi (j - 1) hjk).cp (fun i hi9 => ?_)
    by_cases hk : k < 8
    · rw [if_pos hk] at hl9 hj ⊢
      rw [hl9 _ i (by omega) hi9, if_pos hk, h5, show k - 1 - (j - 1) = k + 1 - 1 - j by omega]
    · rw [if_neg hk] at hl9 hj ⊢
      rw [hl9 _ i (by omega) hi9, if_neg hk, h5, show 8 - 1 - j + 1 = k - 1 - (j - 1) by omega]

theorem m_why2 {l : zL} {d kc ks n b : Nat} {h : Nat → va_E} {s : Nat → Int32} {a : Nat → Nat → Int32} {Q : zQ} {S : zS} {key : Nat} (hb : b + 14 ≤ n) (hM : mT S (a 0)) (hk : key ≤ 9999) (hq : ∀ s' a', (∀ i, i < 137 → a' 0 i = a 0 i) → mF0 s a s' a' → Q (.inl (some (.int (sWhy S key)))) n (mW h b s' a')) : Zj l mX8_whyOut (d + 7) kc ks 0 [(0, .ref b), (1, .int (nI key))] [] n (mW h b s a) Q := by
  obtain ⟨B, H, T, K, V, c⟩ := S
  refine r_whyOut hb hM.1 hk (fun s' a' h1 h2 h4 => ?_)
  rw [hM.2.2 4 (by decide) (by decide), sWhy_eq]
  exact hq s' a' h1 ⟨h2, h4⟩
theorem m_canRow2 {l : zL} {d kc ks n b : Nat} {h : Nat → va_E} {s : Nat → Int32} {a : Nat → Nat → Int32} {Q : zQ} {S : zS} {key step count : Nat} (hb : b + 14 ≤ n) (hM : mT S (a 0)) (hks : ∀ i, i < count → key + i * step ≤ 9999) (hct : count ≤ 20) (hq : ∀ s' a', (∀ i, i < 137 → a' 0 i = a 0 i) → mF0 s a s' a' → Q (.inl (some (.int (oI (sRow S key step count))))) n (mW h b s' a')) : Zj l mX8_canRow (d + 8) kc ks 0 [(0, .ref b), (1, .int (nI key)), (2, .int (nI step)), (3, .int (nI count))] [] n (mW h b s a) Q := by
  obtain ⟨B, H, T, K, V, c⟩ := S
  refine r_canRow hb hM.1 hks hct (fun s' a' h1 h2 h4 => ?_)
  rw [hM.2.2 4 (by decide) (by decide), hM.2.2 6 (by decide) (by decide), oI_row]
  exact hq s' a' h1 ⟨h2, h4⟩
theorem m_canGrow2 {l : zL} {d kc ks n b : Nat} {h : Nat → va_E} {s : Nat → Int32} {a : Nat → Nat → Int32} {Q : zQ} {S : zS} (hb : b + 14 ≤ n) (hM : mT S (a 0)) (hq : ∀ s' a', (∀ i, i < 137 → a' 0 i = a 0 i) → mF0 s a s' a' → Q (.inl (some (.int (oI (sGrow S))))) n (mW h b s' a')) : Zj l mX8_canGrow (d + 7) kc ks 0 [(0, .ref b)] [] n (mW h b s a) Q := by
  obtain ⟨B, H, T, K, V, c⟩ := S
  refine r_canGrow hb hM.1 (fun s' a' h1 h2 h4 => ?_)
  rw [oI_set (H := H) (T := T) (c := c)]
  exact hq s' a' h1 ⟨h2, h4⟩
theorem m_canNear2 {l : zL} {d kc ks n b : Nat} {h : Nat → va_E} {s : Nat → Int32} {a : Nat → Nat → Int32} {Q : zQ} {S : zS} {H2 : Nat} (hb : b + 14 ≤ n) (hM : mT S (a 0)) (hlo : 2 ≤ H2) (hhi : H2 ≤ 6) (hq : ∀ s' a', (∀ i, i < 137 → a' 0 i = a 0 i) → mF0 s a s' a' → Q (.inl (some (.int (oI (sNear S H2))))) n (mW h b s' a')) : Zj l mX8_canReset (d + 8) kc ks 0 [(0, .ref b), (1, .int 1), (2, .int (nI H2))] [] n (mW h b s a) Q := by
  obtain ⟨B, H, T, K, V, c⟩ := S
  refine r_canReset1 hb hM.1 hlo hhi (fun s' a' h1 h2 h4 => ?_)
  rw [oI_set (H := H) (T := T) (c := c)]
  exact hq s' a' h1 ⟨h2, h4⟩
theorem m_canTimes2 {l : zL} {d kc ks n b : Nat} {h : Nat → va_E} {s : Nat → Int32} {a : Nat → Nat → Int32} {Q : zQ} {S : zS} {T2 : Nat} (hb : b + 14 ≤ n) (hM : mT S (a 0)) (hlo : 1 ≤ T2) (hhi : T2 ≤ 99) (hq : ∀ s' a', (∀ i, i < 137 → a' 0 i = a 0 i) → mF0 s a s' a' → Q (.inl (some (.int (oI (sTimes S T2))))) n (mW h b s' a')) : Zj l mX8_canReset (d + 8) kc ks 0 [(0, .ref b), (1, .int 2), (2, .int (nI T2))] [] n (mW h b s a) Q := by
  obtain ⟨B, H, T, K, V, c⟩ := S
  refine r_canReset2 hb hM.1 hlo hhi (fun s' a' h1 h2 h4 => ?_)
  rw [oI_set (H := H) (T := T) (c := c)]
  exact hq s' a' h1 ⟨h2, h4⟩
theorem oI_0 {α : Type} {o : Option α} : oI o = 0 ↔ o = none := by
  cases o with
  | none => exact ⟨fun _ => rfl, fun _ => rfl⟩
  | some x => exact ⟨fun e => absurd (show (1 : Int32) = 0 from e) (by decide), fun e => (by cases e)⟩
theorem oI_n {α : Type} {o : Option α} (h : ¬ oI o = 0) : ∃ x, o = some x := by
  cases o with
  | none => exact absurd rfl h
  | some x => exact ⟨x, rfl⟩

theorem add_no {g : zGs} {key v : Nat} (h : ¬ sWhy g.1 key = 0) : (match sFind g.1 key with
  | some _ => ((2, 0, g) : zA)
  | none => match sAdd g.1 key v with
    | none => (2, 0, g)
    | some (bk, S') => (0, nI bk, gPush g S')) = (2, 0, g) := by
  cases hf : sFind g.1 key with
  | some b => rfl
  | none =>
    simp only
    cases ha : sAdd g.1 key v with
    | none => rfl
    | some q =>
      exfalso
      have h0 : sAdd g.1 key 0 ≠ none := fun e => by
        have := (sAdd_v (S := g.1) (key := key) v 0).mpr e
        rw [ha] at this
        cases this
      cases h9 : sAdd g.1 key 0 with
      | none => exact h0 h9
      | some q2 => exact h (sWhy_0 hf h9)
theorem put_no {S : zS} {key v : Nat} (h : sWhy S key = 2) : sPut S key v = none := by
  unfold sPut
  unfold sWhy at h
  cases hf : sFind S key with
  | some b => rw [hf] at h; exact absurd (show (1 : Int32) = 2 from h) (by decide)
  | none =>
    rw [hf] at h
    simp only at h ⊢
    cases ha : sAdd S key 0 with
    | none => rw [(sAdd_v v 0).mpr ha]
    | some q => rw [ha] at h; exact absurd (show (0 : Int32) = 2 from h) (by decide)
theorem put_yes {S : zS} {key v : Nat} (h : ¬ sWhy S key = 2) : ¬ sPut S key v = none := by
  intro e
  refine h ?_
  unfold sPut at e
  unfold sWhy
  cases hf : sFind S key with
  | some b => rw [hf] at e; cases e
  | none =>
    rw [hf] at e
    simp only at e ⊢
    cases ha : sAdd S key v with
    | none => rw [(sAdd_v v 0).mp ha]
    | some q => rw [ha] at e; cases e

set_option maxHeartbeats 4000000 in
set_option maxRecDepth 100000 in
theorem R_add {l : zL} {d kc ks n b : Nat} {h : Nat → va_E} {s : Nat → Int32} {a : Nat → Nat → Int32} {g : zGs} {Q : zQ} {p q : Int32} (hb : b + 14 ≤ n) (hM : mI g s a) (hq : ∀ t v g' s' a', f_add g p q = (t, v, g') → mI g' s' a' → s' 20 = t → Q (.inl (some (.int v))) n (mW h b s' a')) : Zj l mX8_add (d + 12) kc ks 0 [(0, .ref b), (1, .int p), (2, .int q)] [] n (mW h b s a) Q := by
  obtain ⟨⟨B, H, T, K, V, c⟩, sv, Sn, k, hi, L, x, ek, eo, rl, rb⟩ := g
  obtain ⟨hT, h11, hsv, hsn, hk8, h9, hhi, hL, h14, ha9, hx256, h16, h17, hrl, h19, ha11, hrb⟩ := id hM
  obtain ⟨hV, ⟨hI, hd3, h3⟩, e3⟩ := id hT
  obtain ⟨okb, h2H, hH6, h1T, hT99, e0, e1, e2, ek_, ev_, ekv, ez⟩ := id hV
  have hle := okb.le
  refine z_iload_n (j := 1) dX8_add_0 rfl ?_
  refine z_iload_n (j := 2) dX8_add_1 rfl ?_
  refine z_kS [.int p, .int q] 0 0 kc ks yoX8_isEntry ysX8_isEntry rfl (by decide) lX8_330 rfl (Nat.le_of_ble_eq_true rfl) (Nat.le_of_ble_eq_true rfl) dX8_add_2 (by omega) (by omega) (z_room (by omega) (Nat.le_refl _) (Nat.le_refl _) (r_isEntry (d := 0)  ⟨rfl, ?_⟩))
  refine z_if_ne (tgt := 12) dX8_add_5 (by decide) (fun czq5 => ?_) (fun czq5 => ?_)
  · obtain ⟨ep, eq⟩ := bI_n.mp czq5
    obtain ⟨key, -, hkey, rfl, hkx⟩ := iO_yes 0 9999 (by decide) (by decide) ep
    obtain ⟨v, -, hv, rfl, hvx⟩ := iO_yes 0 999 (by decide) (by decide) eq
    refine z_iconst (v := 0) dX8_add_12 (by decide) ?_
    refine z_istore_n [1, 2, 3, 0] [(0, .ref b), (1, .int ((nI key))), (2, .int ((nI v))), (3, .int 0)] dX8_add_13 (by decide) rfl ?_
    refine z_aload_n (j := 0) dX8_add_14 rfl ?_
    refine z_iload_n (j := 3) dX8_add_15 rfl ?_
    refine z_iload_n (j := 3) dX8_add_16 rfl ?_
    refine z_if_ne (tgt := 32) dX8_add_17 (by decide) (fun czq17 => absurd czq17 (fun z => z rfl)) (fun czq17 => ?_)
    refine z_aload_n (j := 0) dX8_add_20 rfl ?_
    refine z_iload_n (j := 1) dX8_add_21 rfl ?_
    refine z_kV [.int ((nI key))] 0 0 kc ks yoX8_whyOut yvX8_whyOut rfl (by decide) lX8_197 (by omega) mW_obj rfl rfl (Nat.le_of_ble_eq_true rfl) (Nat.le_of_ble_eq_true rfl) dX8_add_22 (by omega) (by omega) (z_room (by omega) (Nat.le_refl _) (Nat.le_refl _) (m_why2 (d := 0) (S := (B, H, T, K, V, c)) hb hT hkey (fun sw aw hwe hFw => ⟨rfl, ?_⟩)))
    have hTw : mT (B, H, T, K, V, c) (aw 0) := hT.cp hwe
    refine z_if_eq (tgt := 32) dX8_add_25 (by decide) (fun czq25 => ?_) (fun czq25 => ?_)
    · refine z_iconst (v := 0) dX8_add_32 (by decide) ?_
      refine z_kV [.int 0, .int 0] 0 0 kc ks yoX8_throwsOne_ yvX8_throwsOne_ rfl (by decide) lX8_333 (by omega) mW_obj rfl rfl (Nat.le_of_ble_eq_true rfl) (Nat.le_of_ble_eq_true rfl) dX8_add_33 (by omega) (by omega) (z_room (by omega) (Nat.le_refl _) (Nat.le_refl _) (w_throws2_00 (d := 0) hb ⟨rfl, ?_⟩))
      refine z_if_eq (tgt := 41) dX8_add_36 (by decide) (fun czq36 => ?_) (fun czq36 => absurd rfl czq36)
      refine z_aload_n (j := 0) dX8_add_41 rfl ?_
      refine z_kV [] 0 0 kc ks yoX8_begins yvX8_begins rfl (by decide) lX8_321 (by omega) mW_obj rfl rfl (Nat.le_of_ble_eq_true rfl) (Nat.le_of_ble_eq_true rfl) dX8_add_42 (by omega) (by omega) (z_room (by omega) (Nat.le_refl _) (Nat.le_refl _) (r_begins (d := 0) hb (fun a1 hd1 hr1 => ⟨rfl, ?_⟩)))
      have hT1 : mT (B, H, T, K, V, c) (a1 0) := by rw [hr1 0 (by decide)]; exact hTw
      obtain ⟨hf, bk0, S0, hs0⟩ := sWhy_z czq25
      refine z_aload_n (j := 0) dX8_add_45 rfl ?_
      refine z_aload_n (j := 0) dX8_add_46 rfl ?_
      refine z_iload_n (j := 1) dX8_add_47 rfl ?_
      refine z_iload_n (j := 2) dX8_add_48 rfl ?_
      refine z_kV [.int ((nI key)), .int ((nI v))] 0 0 kc ks yoX8_adds yvX8_adds rfl (by decide) lX8_132 (by omega) mW_obj rfl rfl (Nat.le_of_ble_eq_true rfl) (Nat.le_of_ble_eq_true rfl) dX8_add_49 (by omega) (by omega) (z_room (by omega) (Nat.le_refl _) (Nat.le_refl _) (m_adds (d := 0) (S := (B, H, T, K, V, c)) hb hT1 hkey hv hf (fun s2 a2 ea hMb hF2 => ⟨rfl, ?_⟩) (fun bk S' s2 a2 ea hMb hF2 => ⟨rfl, ?_⟩)))
      · exact absurd ((sAdd_v v 0).mp ea) (by rw [hs0]; exact fun z => by cases z)
      · refine z_kV [.int ((nI bk))] 0 0 kc ks yoX8_remember yvX8_remember rfl (by decide) lX8_324 (by omega) mW_obj rfl rfl (Nat.le_of_ble_eq_true rfl) (Nat.le_of_ble_eq_true rfl) dX8_add_52 (by omega) (by omega) (z_room (by omega) (Nat.le_refl _) (Nat.le_refl _) (r_remember (d := 0) (k := k) hb hk8 ((hF2.1 9 (by decide)).trans ((up_ne (by decide)).trans ((hFw.1 9 (by decide)).trans h9))) (fun s9 a9 h99 hs9 hd9 hl9 hr9 => ⟨rfl, ?_⟩)))
        exact z_iret rfl dX8_add_55 (by
            exact hq 0 _ _ _ _ (by unfold f_add; rw [if_pos ⟨ep, eq⟩, hkx, hvx]; simp only [hf, ea] <;> rfl) (hM.push (by rw [hr9 0 (by decide)]; exact hMb) (past_ok (a2 := a2) hk8 hT hhi (fun j hj => by rw [hF2.2 1 (by decide) (by decide) (by decide) (by decide) (by decide), hd1 j hj, hwe j hj]) (by rw [hF2.2 5 (by decide) (by decide) (by decide) (by decide) (by decide), hr1 5 (by decide), hFw.2 5 (by decide) (by decide) (by decide) (by decide) (by decide) (by decide)]) hd9 hl9) h99 (fun q hq5 => (hs9 q (by omega)).trans ((hF2.1 q (by omega)).trans ((up_ne (by omega)).trans (hFw.1 q (by omega))))) (fun q hq6 => (hr9 q (by omega)).trans ((hF2.2 q (by omega) (by omega) (by omega) (by omega) (by omega)).trans ((hr1 q (by omega)).trans (hFw.2 q (by omega) (by omega) (by omega) (by omega) (by omega) (by omega)))))) (by rw [hs9 20 (by decide)]; exact (hF2.1 20 (by decide)).trans up_eq))
    · refine z_iconst (v := 1) dX8_add_28 (by decide) ?_
      refine z_goto (tgt := 33) dX8_add_29 (by decide) ?_
      refine z_kV [.int 0, .int 1] 0 0 kc ks yoX8_throwsOne_ yvX8_throwsOne_ rfl (by decide) lX8_333 (by omega) mW_obj rfl rfl (Nat.le_of_ble_eq_true rfl) (Nat.le_of_ble_eq_true rfl) dX8_add_33 (by omega) (by omega) (z_room (by omega) (Nat.le_refl _) (Nat.le_refl _) (w_throws2_01 (d := 0) hb ⟨rfl, ?_⟩))
      refine z_if_eq (tgt := 41) dX8_add_36 (by decide) (fun czq36 => absurd czq36 (by decide)) (fun czq36 => ?_)
      refine z_iconst (v := 0) dX8_add_39 (by decide) ?_
      exact z_iret rfl dX8_add_40 (hq 2 0 _ _ _ (by unfold f_add; rw [if_pos ⟨ep, eq⟩, hkx, hvx]; exact add_no czq25) (hM.cp (hT.cp hwe) (fun k hk => (up_ne (by omega)).trans (hFw.1 k (by omega))) (fun q hq5 => hFw.2 q (by omega) (by omega) (by omega) (by omega) (by omega) (by omega))) (by rw [up_eq]))
  · refine z_iconst (v := 1) dX8_add_8 (by decide) ?_
    refine z_goto (tgt := 13) dX8_add_9 (by decide) ?_
    refine z_istore_n [1, 2, 3, 0] [(0, .ref b), (1, .int p), (2, .int q), (3, .int 1)] dX8_add_13 (by decide) rfl ?_
    refine z_aload_n (j := 0) dX8_add_14 rfl ?_
    refine z_iload_n (j := 3) dX8_add_15 rfl ?_
    refine z_iload_n (j := 3) dX8_add_16 rfl ?_
    refine z_if_ne (tgt := 32) dX8_add_17 (by decide) (fun czq17 => ?_) (fun czq17 => absurd czq17 (by decide))
    refine z_iconst (v := 0) dX8_add_32 (by decide) ?_
    refine z_kV [.int 1, .int 0] 0 0 kc ks yoX8_throwsOne_ yvX8_throwsOne_ rfl (by decide) lX8_333 (by omega) mW_obj rfl rfl (Nat.le_of_ble_eq_true rfl) (Nat.le_of_ble_eq_true rfl) dX8_add_33 (by omega) (by omega) (z_room (by omega) (Nat.le_refl _) (Nat.le_refl _) (w_throws2_10 (d := 0) hb ⟨rfl, ?_⟩))
    refine z_if_eq (tgt := 41) dX8_add_36 (by decide) (fun czq36 => absurd czq36 (by decide)) (fun czq36 => ?_)
    refine z_iconst (v := 0) dX8_add_39 (by decide) ?_
    exact z_iret rfl dX8_add_40 (hq 1 0 _ _ _ (by unfold f_add; exact if_neg (bI_0.mp czq5)) hM.th (by rw [up_eq]))

set_option maxHeartbeats 4000000 in
set_option maxRecDepth 100000 in
theorem R_put {l : zL} {d kc ks n b : Nat} {h : Nat → va_E} {s : Nat → Int32} {a : Nat → Nat → Int32} {g : zGs} {Q : zQ} {p q : Int32} (hb : b + 14 ≤ n) (hM : mI g s a) (hq : ∀ t v g' s' a', f_put g p q = (t, v, g') → mI g' s' a' → s' 20 = t → Q (.inl (some (.int v))) n (mW h b s' a')) : Zj l mX8_put (d + 12) kc ks 0 [(0, .ref b), (1, .int p), (2, .int q)] [] n (mW h b s a) Q := by
  obtain ⟨⟨B, H, T, K, V, c⟩, sv, Sn, k, hi, L, x, ek, eo, rl, rb⟩ := g
  obtain ⟨hT, h11, hsv, hsn, hk8, h9, hhi, hL, h14, ha9, hx256, h16, h17, hrl, h19, ha11, hrb⟩ := id hM
  obtain ⟨hV, ⟨hI, hd3, h3⟩, e3⟩ := id hT
  obtain ⟨okb, h2H, hH6, h1T, hT99, e0, e1, e2, ek_, ev_, ekv, ez⟩ := id hV
  have hle := okb.le
  refine z_iload_n (j := 1) dX8_put_0 rfl ?_
  refine z_iload_n (j := 2) dX8_put_1 rfl ?_
  refine z_kS [.int p, .int q] 0 0 kc ks yoX8_isEntry ysX8_isEntry rfl (by decide) lX8_330 rfl (Nat.le_of_ble_eq_true rfl) (Nat.le_of_ble_eq_true rfl) dX8_put_2 (by omega) (by omega) (z_room (by omega) (Nat.le_refl _) (Nat.le_refl _) (r_isEntry (d := 0)  ⟨rfl, ?_⟩))
  refine z_if_ne (tgt := 12) dX8_put_5 (by decide) (fun czq5 => ?_) (fun czq5 => ?_)
  · obtain ⟨ep, eq⟩ := bI_n.mp czq5
    obtain ⟨key, -, hkey, rfl, hkx⟩ := iO_yes 0 9999 (by decide) (by decide) ep
    obtain ⟨v, -, hv, rfl, hvx⟩ := iO_yes 0 999 (by decide) (by decide) eq
    refine z_iconst (v := 0) dX8_put_12 (by decide) ?_
    refine z_istore_n [1, 2, 3, 0] [(0, .ref b), (1, .int ((nI key))), (2, .int ((nI v))), (3, .int 0)] dX8_put_13 (by decide) rfl ?_
    refine z_aload_n (j := 0) dX8_put_14 rfl ?_
    refine z_iload_n (j := 3) dX8_put_15 rfl ?_
    refine z_iload_n (j := 3) dX8_put_16 rfl ?_
    refine z_if_ne (tgt := 33) dX8_put_17 (by decide) (fun czq17 => absurd czq17 (fun z => z rfl)) (fun czq17 => ?_)
    refine z_aload_n (j := 0) dX8_put_20 rfl ?_
    refine z_iload_n (j := 1) dX8_put_21 rfl ?_
    refine z_kV [.int ((nI key))] 0 0 kc ks yoX8_whyOut yvX8_whyOut rfl (by decide) lX8_197 (by omega) mW_obj rfl rfl (Nat.le_of_ble_eq_true rfl) (Nat.le_of_ble_eq_true rfl) dX8_put_22 (by omega) (by omega) (z_room (by omega) (Nat.le_refl _) (Nat.le_refl _) (m_why2 (d := 0) (S := (B, H, T, K, V, c)) hb hT hkey (fun sw aw hwe hFw => ⟨rfl, ?_⟩)))
    have hTw : mT (B, H, T, K, V, c) (aw 0) := hT.cp hwe
    refine z_iconst (v := 2) dX8_put_25 (by decide) ?_
    refine z_icmp_ne (tgt := 33) dX8_put_26 (by decide) (fun czq26 => ?_) (fun czq26 => ?_)
    · refine z_iconst (v := 0) dX8_put_33 (by decide) ?_
      refine z_kV [.int 0, .int 0] 0 0 kc ks yoX8_throwsOne_ yvX8_throwsOne_ rfl (by decide) lX8_333 (by omega) mW_obj rfl rfl (Nat.le_of_ble_eq_true rfl) (Nat.le_of_ble_eq_true rfl) dX8_put_34 (by omega) (by omega) (z_room (by omega) (Nat.le_refl _) (Nat.le_refl _) (w_throws2_00 (d := 0) hb ⟨rfl, ?_⟩))
      refine z_if_eq (tgt := 42) dX8_put_37 (by decide) (fun czq37 => ?_) (fun czq37 => absurd rfl czq37)
      refine z_aload_n (j := 0) dX8_put_42 rfl ?_
      refine z_kV [] 0 0 kc ks yoX8_begins yvX8_begins rfl (by decide) lX8_321 (by omega) mW_obj rfl rfl (Nat.le_of_ble_eq_true rfl) (Nat.le_of_ble_eq_true rfl) dX8_put_43 (by omega) (by omega) (z_room (by omega) (Nat.le_refl _) (Nat.le_refl _) (r_begins (d := 0) hb (fun a1 hd1 hr1 => ⟨rfl, ?_⟩)))
      have hT1 : mT (B, H, T, K, V, c) (a1 0) := by rw [hr1 0 (by decide)]; exact hTw
      skip
      refine z_aload_n (j := 0) dX8_put_46 rfl ?_
      refine z_aload_n (j := 0) dX8_put_47 rfl ?_
      refine z_iload_n (j := 1) dX8_put_48 rfl ?_
      refine z_iload_n (j := 2) dX8_put_49 rfl ?_
      refine z_kV [.int ((nI key)), .int ((nI v))] 0 0 kc ks yoX8_puts yvX8_puts rfl (by decide) lX8_204 (by omega) mW_obj rfl rfl (Nat.le_of_ble_eq_true rfl) (Nat.le_of_ble_eq_true rfl) dX8_put_50 (by omega) (by omega) (z_room (by omega) (Nat.le_refl _) (Nat.le_refl _) (m_puts (d := 0) (S := (B, H, T, K, V, c)) hb hT1 hkey hv (fun s2 a2 ea hMb hF2 => ⟨rfl, ?_⟩) (fun z S' s2 a2 ea hMb hF2 => ⟨rfl, ?_⟩)))
      · exact absurd ea (put_yes czq26)
      · refine z_kV [.int z] 0 0 kc ks yoX8_remember yvX8_remember rfl (by decide) lX8_324 (by omega) mW_obj rfl rfl (Nat.le_of_ble_eq_true rfl) (Nat.le_of_ble_eq_true rfl) dX8_put_53 (by omega) (by omega) (z_room (by omega) (Nat.le_refl _) (Nat.le_refl _) (r_remember (d := 0) (k := k) hb hk8 ((hF2.1 9 (by decide)).trans ((up_ne (by decide)).trans ((hFw.1 9 (by decide)).trans h9))) (fun s9 a9 h99 hs9 hd9 hl9 hr9 => ⟨rfl, ?_⟩)))
        exact z_iret rfl dX8_put_56 (by
            exact hq 0 _ _ _ _ (by unfold f_put; rw [if_pos ⟨ep, eq⟩, hkx, hvx]; simp only [ea] <;> rfl) (hM.push (by rw [hr9 0 (by decide)]; exact hMb) (past_ok (a2 := a2) hk8 hT hhi (fun j hj => by rw [hF2.2 1 (by decide) (by decide) (by decide) (by decide) (by decide), hd1 j hj, hwe j hj]) (by rw [hF2.2 5 (by decide) (by decide) (by decide) (by decide) (by decide), hr1 5 (by decide), hFw.2 5 (by decide) (by decide) (by decide) (by decide) (by decide) (by decide)]) hd9 hl9) h99 (fun q hq5 => (hs9 q (by omega)).trans ((hF2.1 q (by omega)).trans ((up_ne (by omega)).trans (hFw.1 q (by omega))))) (fun q hq6 => (hr9 q (by omega)).trans ((hF2.2 q (by omega) (by omega) (by omega) (by omega) (by omega)).trans ((hr1 q (by omega)).trans (hFw.2 q (by omega) (by omega) (by omega) (by omega) (by omega) (by omega)))))) (by rw [hs9 20 (by decide)]; exact (hF2.1 20 (by decide)).trans up_eq))
    · refine z_iconst (v := 1) dX8_put_29 (by decide) ?_
      refine z_goto (tgt := 34) dX8_put_30 (by decide) ?_
      refine z_kV [.int 0, .int 1] 0 0 kc ks yoX8_throwsOne_ yvX8_throwsOne_ rfl (by decide) lX8_333 (by omega) mW_obj rfl rfl (Nat.le_of_ble_eq_true rfl) (Nat.le_of_ble_eq_true rfl) dX8_put_34 (by omega) (by omega) (z_room (by omega) (Nat.le_refl _) (Nat.le_refl _) (w_throws2_01 (d := 0) hb ⟨rfl, ?_⟩))
      refine z_if_eq (tgt := 42) dX8_put_37 (by decide) (fun czq37 => absurd czq37 (by decide)) (fun czq37 => ?_)
      refine z_iconst (v := 0) dX8_put_40 (by decide) ?_
      exact z_iret rfl dX8_put_41 (hq 2 0 _ _ _ (by unfold f_put; rw [if_pos ⟨ep, eq⟩, hkx, hvx]; simp only [put_no czq26] <;> rfl) (hM.cp (hT.cp hwe) (fun k hk => (up_ne (by omega)).trans (hFw.1 k (by omega))) (fun q hq5 => hFw.2 q (by omega) (by omega) (by omega) (by omega) (by omega) (by omega))) (by rw [up_eq]))
  · refine z_iconst (v := 1) dX8_put_8 (by decide) ?_
    refine z_goto (tgt := 13) dX8_put_9 (by decide) ?_
    refine z_istore_n [1, 2, 3, 0] [(0, .ref b), (1, .int p), (2, .int q), (3, .int 1)] dX8_put_13 (by decide) rfl ?_
    refine z_aload_n (j := 0) dX8_put_14 rfl ?_
    refine z_iload_n (j := 3) dX8_put_15 rfl ?_
    refine z_iload_n (j := 3) dX8_put_16 rfl ?_
    refine z_if_ne (tgt := 33) dX8_put_17 (by decide) (fun czq17 => ?_) (fun czq17 => absurd czq17 (by decide))
    refine z_iconst (v := 0) dX8_put_33 (by decide) ?_
    refine z_kV [.int 1, .int 0] 0 0 kc ks yoX8_throwsOne_ yvX8_throwsOne_ rfl (by decide) lX8_333 (by omega) mW_obj rfl rfl (Nat.le_of_ble_eq_true rfl) (Nat.le_of_ble_eq_true rfl) dX8_put_34 (by omega) (by omega) (z_room (by omega) (Nat.le_refl _) (Nat.le_refl _) (w_throws2_10 (d := 0) hb ⟨rfl, ?_⟩))
    refine z_if_eq (tgt := 42) dX8_put_37 (by decide) (fun czq37 => absurd czq37 (by decide)) (fun czq37 => ?_)
    refine z_iconst (v := 0) dX8_put_40 (by decide) ?_
    exact z_iret rfl dX8_put_41 (hq 1 0 _ _ _ (by unfold f_put; exact if_neg (bI_0.mp czq5)) hM.th (by rw [up_eq]))
