/-! THE REFERENCE'S PUBLIC METHODS, first part: what is read -/
theorem mI.cp {g : zGs} {s s' : Nat → Int32} {a a' : Nat → Nat → Int32} (h : mI g s a) (h0 : mT g.1 (a' 0)) (hs : ∀ k, k = 9 ∨ k = 11 ∨ k = 14 ∨ k = 16 ∨ k = 17 ∨ k = 19 → s' k = s k) (ha : ∀ q, q = 5 ∨ q = 6 ∨ q = 9 ∨ q = 11 → a' q = a q) : mI g s' a' := by
  obtain ⟨S, sv, Sn, k, hi, L, x, ek, eo, rl, rb⟩ := g
  obtain ⟨hT, h11, hsv, hsn, hk8, h9, hhi, hL, h14, ha9, hx256, h16, h17, hrl, h19, ha11, hrb⟩ := h
  exact ⟨h0, (hs 11 (by decide)).trans h11, hsv, fun e => by rw [ha 6 (by decide)]; exact hsn e, hk8, (hs 9 (by decide)).trans h9, fun j hj => by rw [ha 5 (by decide)]; exact hhi j hj, hL, (hs 14 (by decide)).trans h14, by rw [ha 9 (by decide)]; exact ha9, hx256, (hs 16 (by decide)).trans h16, (hs 17 (by decide)).trans h17, hrl, (hs 19 (by decide)).trans h19, by rw [ha 11 (by decide)]; exact ha11, hrb⟩
theorem mI.S {g : zGs} {s : Nat → Int32} {a : Nat → Nat → Int32} (h : mI g s a) : mT g.1 (a 0) := by
  obtain ⟨S, sv, Sn, k, hi, L, x, ek, eo, rl, rb⟩ := g
  exact h.1
theorem mI.th {g : zGs} {s : Nat → Int32} {a : Nat → Nat → Int32} {t : Int32} (h : mI g s a) : mI g (va_up s 20 t) a :=
  h.cp h.S (fun k hk => up_ne (by omega)) (fun _ _ => rfl)
theorem mI.fr {g : zGs} {s s0 s' : Nat → Int32} {a a' : Nat → Nat → Int32} (h : mI g s a) (hT : mT g.1 (a' 0)) (hs0 : ∀ k, k ≠ 20 → s0 k = s k) (hF : mF0 s0 a s' a') : mI g s' a' :=
  h.cp hT (fun k hk => (hF.1 k (by omega)).trans (hs0 k (by omega))) (fun q hq => hF.2 q (by omega) (by omega) (by omega) (by omega) (by omega) (by omega))

set_option maxHeartbeats 4000000 in
set_option maxRecDepth 100000 in
theorem r_in {l : zL} {d kc ks n : Nat} {h : Nat → va_E} {p lo hi : Int32} {Q : zQ} (hq : Q (.inl (some (.int (bI (iO lo hi p = true))))) n h) : Zj l mX8_in d kc ks 0 [(0, .int p), (1, .int lo), (2, .int hi)] [] n h Q := by
  refine z_iload_n (j := 0) dX8_in_0 rfl ?_
  refine z_iload_n (j := 1) dX8_in_1 rfl ?_
  refine z_icmp_lt (tgt := 14) dX8_in_2 (by decide) (fun czq2 => ?_) (fun czq2 => ?_)
  · refine z_iconst (v := 0) dX8_in_14 (by decide) ?_
    exact z_zret rfl rfl dX8_in_15 (by
        rw [bI_f (iO_f1 czq2)] at hq
        exact hq)
  · refine z_iload_n (j := 0) dX8_in_5 rfl ?_
    refine z_iload_n (j := 2) dX8_in_6 rfl ?_
    refine z_icmp_gt (tgt := 14) dX8_in_7 (by decide) (fun czq7 => ?_) (fun czq7 => ?_)
    · refine z_iconst (v := 0) dX8_in_14 (by decide) ?_
      exact z_zret rfl rfl dX8_in_15 (by
          rw [bI_f (iO_f2 czq7)] at hq
          exact hq)
    · refine z_iconst (v := 1) dX8_in_10 (by decide) ?_
      refine z_goto (tgt := 15) dX8_in_11 (by decide) ?_
      exact z_zret rfl rfl dX8_in_15 (by
          rw [bI_t (iO_t czq2 czq7)] at hq
          exact hq)

set_option maxHeartbeats 4000000 in
set_option maxRecDepth 100000 in
theorem r_isKey {l : zL} {d kc ks n : Nat} {h : Nat → va_E} {p : Int32} {Q : zQ} (hq : Q (.inl (some (.int (bI (iO 0 9999 p = true))))) n h) : Zj l mX8_isKey (d + 1) kc ks 0 [(0, .int p)] [] n h Q := by
  refine z_iload_n (j := 0) dX8_isKey_0 rfl ?_
  refine z_iconst (v := 0) dX8_isKey_1 (by decide) ?_
  refine z_sipush (v := 9999) dX8_isKey_2 (by decide) ?_
  refine z_kS [.int p, .int 0, .int 9999] 0 0 kc ks yoX8_in ysX8_in rfl (by decide) lX8_67 rfl (Nat.le_of_ble_eq_true rfl) (Nat.le_of_ble_eq_true rfl) dX8_isKey_5 (by omega) (by omega) (z_room (by omega) (Nat.le_refl _) (Nat.le_refl _) (r_in (d := 0)  ⟨rfl, ?_⟩))
  exact z_zret rfl (by unfold bI; split <;> rfl) dX8_isKey_8 (hq)

set_option maxHeartbeats 4000000 in
set_option maxRecDepth 100000 in
theorem r_isBucket {l : zL} {d kc ks n b B H T : Nat} {h : Nat → va_E} {K V : Nat → Nat} {s : Nat → Int32} {a : Nat → Nat → Int32} {p : Int32} {Q : zQ} (hb : b + 14 ≤ n) (hM : mV B H T K V (a 0)) (hq : Q (.inl (some (.int (bI (iO 0 (nI (B - 1)) p = true))))) n (mW h b s a)) : Zj l mX8_isBucket (d + 1) kc ks 0 [(0, .ref b), (1, .int p)] [] n (mW h b s a) Q := by
  obtain ⟨okb, h2H, hH6, h1T, hT99, e0, e1, e2, ek, ev, ekv, ez⟩ := id hM
  have hle := okb.le
  refine z_iload_n (j := 1) dX8_isBucket_0 rfl ?_
  refine z_iconst (v := 0) dX8_isBucket_1 (by decide) ?_
  refine z_aload_n (j := 0) dX8_isBucket_2 rfl ?_
  refine z_get (v := .ref (b + 1)) (by omega) mW_obj fX8_7 rfl dX8_isBucket_3 ?_
  refine z_iconst (v := 0) dX8_isBucket_6 (by decide) ?_
  refine m_aldN 0 137 0 (by decide) rfl rfl hb rfl (by omega) (by decide) dX8_isBucket_7 ?_
  refine z_iconst (v := 1) dX8_isBucket_8 (by decide) ?_
  refine z_isub dX8_isBucket_9 ?_
  rw [show ((a 0 0) - 1) = nI (B - 1) from by
    rw [e0]
    obtain ⟨z, rfl⟩ : ∃ z, B = z + 1 := ⟨B - 1, by omega⟩
    rw [nI_pred]
    rfl]
  refine z_kS [.int p, .int 0, .int ((nI (B - 1)))] 0 0 kc ks yoX8_in ysX8_in rfl (by decide) lX8_67 rfl (Nat.le_of_ble_eq_true rfl) (Nat.le_of_ble_eq_true rfl) dX8_isBucket_10 (by omega) (by omega) (z_room (by omega) (Nat.le_refl _) (Nat.le_refl _) (r_in (d := 0)  ⟨rfl, ?_⟩))
  exact z_zret rfl (by unfold bI; split <;> rfl) dX8_isBucket_13 (hq)

set_option maxHeartbeats 4000000 in
set_option maxRecDepth 100000 in
theorem r_isEntry {l : zL} {d kc ks n : Nat} {h : Nat → va_E} {p q : Int32} {Q : zQ} (hq : Q (.inl (some (.int (bI (iO 0 9999 p = true ∧ iO 0 999 q = true))))) n h) : Zj l mX8_isEntry (d + 2) kc ks 0 [(0, .int p), (1, .int q)] [] n h Q := by
  refine z_iload_n (j := 0) dX8_isEntry_0 rfl ?_
  refine z_kS [.int p] 0 0 kc ks yoX8_isKey ysX8_isKey rfl (by decide) lX8_327 rfl (Nat.le_of_ble_eq_true rfl) (Nat.le_of_ble_eq_true rfl) dX8_isEntry_1 (by omega) (by omega) (z_room (by omega) (Nat.le_refl _) (Nat.le_refl _) (r_isKey (d := 0)  ⟨rfl, ?_⟩))
  refine z_if_eq (tgt := 22) dX8_isEntry_4 (by decide) (fun czq4 => ?_) (fun czq4 => ?_)
  · refine z_iconst (v := 0) dX8_isEntry_22 (by decide) ?_
    exact z_zret rfl rfl dX8_isEntry_23 (by
        rw [bI_f (fun z => bI_0.mp czq4 z.1)] at hq
        exact hq)
  · refine z_iload_n (j := 1) dX8_isEntry_7 rfl ?_
    refine z_iconst (v := 0) dX8_isEntry_8 (by decide) ?_
    refine z_sipush (v := 999) dX8_isEntry_9 (by decide) ?_
    refine z_kS [.int q, .int 0, .int 999] 0 0 kc ks yoX8_in ysX8_in rfl (by decide) lX8_67 rfl (Nat.le_of_ble_eq_true rfl) (Nat.le_of_ble_eq_true rfl) dX8_isEntry_12 (by omega) (by omega) (z_room (by omega) (Nat.le_refl _) (Nat.le_refl _) (r_in (d := 0)  ⟨rfl, ?_⟩))
    refine z_if_eq (tgt := 22) dX8_isEntry_15 (by decide) (fun czq15 => ?_) (fun czq15 => ?_)
    · refine z_iconst (v := 0) dX8_isEntry_22 (by decide) ?_
      exact z_zret rfl rfl dX8_isEntry_23 (by
          rw [bI_f (fun z => bI_0.mp czq15 z.2)] at hq
          exact hq)
    · refine z_iconst (v := 1) dX8_isEntry_18 (by decide) ?_
      refine z_goto (tgt := 23) dX8_isEntry_19 (by decide) ?_
      exact z_zret rfl rfl dX8_isEntry_23 (by
          rw [bI_t ⟨bI_n.mp czq4, bI_n.mp czq15⟩] at hq
          exact hq)

set_option maxHeartbeats 4000000 in
set_option maxRecDepth 100000 in
theorem w_throws1_0 {l : zL} {d kc ks n b : Nat} {h : Nat → va_E} {s : Nat → Int32} {a : Nat → Nat → Int32} {Q : zQ} (hb : b + 14 ≤ n) (hq : Q (.inl (some (.int 0))) n (mW h b (va_up s 20 0) a)) : Zj l mX8_throwsOne d kc ks 0 [(0, .ref b), (1, .int 0)] [] n (mW h b s a) Q := by
  refine z_aload_n (j := 0) dX8_throwsOne_0 rfl ?_
  refine z_iload_n (j := 1) dX8_throwsOne_1 rfl ?_
  refine z_if_eq (tgt := 9) dX8_throwsOne_2 (by decide) (fun czq2 => ?_) (fun czq2 => absurd rfl czq2)
  refine z_iconst (v := 0) dX8_throwsOne_9 (by decide) ?_
  refine m_put (k := 20) (by omega) fX8_64 (by unfold mS; omega) (by decide) dX8_throwsOne_10 ?_
  refine z_iload_n (j := 1) dX8_throwsOne_13 rfl ?_
  exact z_zret rfl rfl dX8_throwsOne_14 (hq)

set_option maxHeartbeats 4000000 in
set_option maxRecDepth 100000 in
theorem w_throws1_1 {l : zL} {d kc ks n b : Nat} {h : Nat → va_E} {s : Nat → Int32} {a : Nat → Nat → Int32} {Q : zQ} (hb : b + 14 ≤ n) (hq : Q (.inl (some (.int 1))) n (mW h b (va_up s 20 1) a)) : Zj l mX8_throwsOne d kc ks 0 [(0, .ref b), (1, .int 1)] [] n (mW h b s a) Q := by
  refine z_aload_n (j := 0) dX8_throwsOne_0 rfl ?_
  refine z_iload_n (j := 1) dX8_throwsOne_1 rfl ?_
  refine z_if_eq (tgt := 9) dX8_throwsOne_2 (by decide) (fun czq2 => absurd czq2 (by decide)) (fun czq2 => ?_)
  refine z_iconst (v := 1) dX8_throwsOne_5 (by decide) ?_
  refine z_goto (tgt := 10) dX8_throwsOne_6 (by decide) ?_
  refine m_put (k := 20) (by omega) fX8_64 (by unfold mS; omega) (by decide) dX8_throwsOne_10 ?_
  refine z_iload_n (j := 1) dX8_throwsOne_13 rfl ?_
  exact z_zret rfl rfl dX8_throwsOne_14 (hq)

set_option maxHeartbeats 4000000 in
set_option maxRecDepth 100000 in
theorem w_throws2_00 {l : zL} {d kc ks n b : Nat} {h : Nat → va_E} {s : Nat → Int32} {a : Nat → Nat → Int32} {Q : zQ} (hb : b + 14 ≤ n) (hq : Q (.inl (some (.int 0))) n (mW h b (va_up s 20 0) a)) : Zj l mX8_throwsOne_ d kc ks 0 [(0, .ref b), (1, .int 0), (2, .int 0)] [] n (mW h b s a) Q := by
  refine z_aload_n (j := 0) dX8_throwsOne__0 rfl ?_
  refine z_iload_n (j := 1) dX8_throwsOne__1 rfl ?_
  refine z_if_eq (tgt := 9) dX8_throwsOne__2 (by decide) (fun czq2 => ?_) (fun czq2 => absurd rfl czq2)
  refine z_iload_n (j := 2) dX8_throwsOne__9 rfl ?_
  refine z_if_eq (tgt := 17) dX8_throwsOne__10 (by decide) (fun czq10 => ?_) (fun czq10 => absurd rfl czq10)
  refine z_iconst (v := 0) dX8_throwsOne__17 (by decide) ?_
  refine m_put (k := 20) (by omega) fX8_64 (by unfold mS; omega) (by decide) dX8_throwsOne__18 ?_
  refine z_iload_n (j := 1) dX8_throwsOne__21 rfl ?_
  refine z_if_ne (tgt := 29) dX8_throwsOne__22 (by decide) (fun czq22 => absurd czq22 (fun z => z rfl)) (fun czq22 => ?_)
  refine z_iload_n (j := 2) dX8_throwsOne__25 rfl ?_
  refine z_if_eq (tgt := 33) dX8_throwsOne__26 (by decide) (fun czq26 => ?_) (fun czq26 => absurd rfl czq26)
  refine z_iconst (v := 0) dX8_throwsOne__33 (by decide) ?_
  exact z_zret rfl rfl dX8_throwsOne__34 (hq)

set_option maxHeartbeats 4000000 in
set_option maxRecDepth 100000 in
theorem w_throws2_01 {l : zL} {d kc ks n b : Nat} {h : Nat → va_E} {s : Nat → Int32} {a : Nat → Nat → Int32} {Q : zQ} (hb : b + 14 ≤ n) (hq : Q (.inl (some (.int 1))) n (mW h b (va_up s 20 2) a)) : Zj l mX8_throwsOne_ d kc ks 0 [(0, .ref b), (1, .int 0), (2, .int 1)] [] n (mW h b s a) Q := by
  refine z_aload_n (j := 0) dX8_throwsOne__0 rfl ?_
  refine z_iload_n (j := 1) dX8_throwsOne__1 rfl ?_
  refine z_if_eq (tgt := 9) dX8_throwsOne__2 (by decide) (fun czq2 => ?_) (fun czq2 => absurd rfl czq2)
  refine z_iload_n (j := 2) dX8_throwsOne__9 rfl ?_
  refine z_if_eq (tgt := 17) dX8_throwsOne__10 (by decide) (fun czq10 => absurd czq10 (by decide)) (fun czq10 => ?_)
  refine z_iconst (v := 2) dX8_throwsOne__13 (by decide) ?_
  refine z_goto (tgt := 18) dX8_throwsOne__14 (by decide) ?_
  refine m_put (k := 20) (by omega) fX8_64 (by unfold mS; omega) (by decide) dX8_throwsOne__18 ?_
  refine z_iload_n (j := 1) dX8_throwsOne__21 rfl ?_
  refine z_if_ne (tgt := 29) dX8_throwsOne__22 (by decide) (fun czq22 => absurd czq22 (fun z => z rfl)) (fun czq22 => ?_)
  refine z_iload_n (j := 2) dX8_throwsOne__25 rfl ?_
  refine z_if_eq (tgt := 33) dX8_throwsOne__26 (by decide) (fun czq26 => absurd czq26 (by decide)) (fun czq26 => ?_)
  refine z_iconst (v := 1) dX8_throwsOne__29 (by decide) ?_
  refine z_goto (tgt := 34) dX8_throwsOne__30 (by decide) ?_
  exact z_zret rfl rfl dX8_throwsOne__34 (hq)

set_option maxHeartbeats 4000000 in
set_option maxRecDepth 100000 in
theorem w_throws2_10 {l : zL} {d kc ks n b : Nat} {h : Nat → va_E} {s : Nat → Int32} {a : Nat → Nat → Int32} {Q : zQ} (hb : b + 14 ≤ n) (hq : Q (.inl (some (.int 1))) n (mW h b (va_up s 20 1) a)) : Zj l mX8_throwsOne_ d kc ks 0 [(0, .ref b), (1, .int 1), (2, .int 0)] [] n (mW h b s a) Q := by
  refine z_aload_n (j := 0) dX8_throwsOne__0 rfl ?_
  refine z_iload_n (j := 1) dX8_throwsOne__1 rfl ?_
  refine z_if_eq (tgt := 9) dX8_throwsOne__2 (by decide) (fun czq2 => absurd czq2 (by decide)) (fun czq2 => ?_)
  refine z_iconst (v := 1) dX8_throwsOne__5 (by decide) ?_
  refine z_goto (tgt := 18) dX8_throwsOne__6 (by decide) ?_
  refine m_put (k := 20) (by omega) fX8_64 (by unfold mS; omega) (by decide) dX8_throwsOne__18 ?_
  refine z_iload_n (j := 1) dX8_throwsOne__21 rfl ?_
  refine z_if_ne (tgt := 29) dX8_throwsOne__22 (by decide) (fun czq22 => ?_) (fun czq22 => absurd czq22 (by decide))
  refine z_iconst (v := 1) dX8_throwsOne__29 (by decide) ?_
  refine z_goto (tgt := 34) dX8_throwsOne__30 (by decide) ?_
  exact z_zret rfl rfl dX8_throwsOne__34 (hq)

set_option maxHeartbeats 4000000 in
set_option maxRecDepth 100000 in
theorem w_throws2_11 {l : zL} {d kc ks n b : Nat} {h : Nat → va_E} {s : Nat → Int32} {a : Nat → Nat → Int32} {Q : zQ} (hb : b + 14 ≤ n) (hq : Q (.inl (some (.int 1))) n (mW h b (va_up s 20 1) a)) : Zj l mX8_throwsOne_ d kc ks 0 [(0, .ref b), (1, .int 1), (2, .int 1)] [] n (mW h b s a) Q := by
  refine z_aload_n (j := 0) dX8_throwsOne__0 rfl ?_
  refine z_iload_n (j := 1) dX8_throwsOne__1 rfl ?_
  refine z_if_eq (tgt := 9) dX8_throwsOne__2 (by decide) (fun czq2 => absurd czq2 (by decide)) (fun czq2 => ?_)
  refine z_iconst (v := 1) dX8_throwsOne__5 (by decide) ?_
  refine z_goto (tgt := 18) dX8_throwsOne__6 (by decide) ?_
  refine m_put (k := 20) (by omega) fX8_64 (by unfold mS; omega) (by decide) dX8_throwsOne__18 ?_
  refine z_iload_n (j := 1) dX8_throwsOne__21 rfl ?_
  refine z_if_ne (tgt := 29) dX8_throwsOne__22 (by decide) (fun czq22 => ?_) (fun czq22 => absurd czq22 (by decide))
  refine z_iconst (v := 1) dX8_throwsOne__29 (by decide) ?_
  refine z_goto (tgt := 34) dX8_throwsOne__30 (by decide) ?_
  exact z_zret rfl rfl dX8_throwsOne__34 (hq)

set_option maxHeartbeats 4000000 in
set_option maxRecDepth 100000 in
theorem r_told0 {l : zL} {d kc ks n b : Nat} {h : Nat → va_E} {s : Nat → Int32} {a : Nat → Nat → Int32} {Q : zQ} (hb : b + 14 ≤ n) (hq : Q (.inl (some (.int (a 0 0)))) n (mW h b (va_up s 20 0) a)) : Zj l mX8_told d kc ks 0 [(0, .ref b), (1, .int 0)] [] n (mW h b s a) Q := by
  refine z_aload_n (j := 0) dX8_told_0 rfl ?_
  refine z_iconst (v := 0) dX8_told_1 (by decide) ?_
  refine m_put (k := 20) (by omega) fX8_64 (by unfold mS; omega) (by decide) dX8_told_2 ?_
  refine z_aload_n (j := 0) dX8_told_5 rfl ?_
  refine z_get (v := .ref (b + 1)) (by omega) mW_obj fX8_7 rfl dX8_told_6 ?_
  refine z_iload_n (j := 1) dX8_told_9 rfl ?_
  refine m_aldN 0 137 0 (by decide) rfl rfl hb rfl (by omega) (by decide) dX8_told_10 ?_
  exact z_iret rfl dX8_told_11 (hq)

set_option maxHeartbeats 4000000 in
set_option maxRecDepth 100000 in
theorem r_told1 {l : zL} {d kc ks n b : Nat} {h : Nat → va_E} {s : Nat → Int32} {a : Nat → Nat → Int32} {Q : zQ} (hb : b + 14 ≤ n) (hq : Q (.inl (some (.int (a 0 1)))) n (mW h b (va_up s 20 0) a)) : Zj l mX8_told d kc ks 0 [(0, .ref b), (1, .int 1)] [] n (mW h b s a) Q := by
  refine z_aload_n (j := 0) dX8_told_0 rfl ?_
  refine z_iconst (v := 0) dX8_told_1 (by decide) ?_
  refine m_put (k := 20) (by omega) fX8_64 (by unfold mS; omega) (by decide) dX8_told_2 ?_
  refine z_aload_n (j := 0) dX8_told_5 rfl ?_
  refine z_get (v := .ref (b + 1)) (by omega) mW_obj fX8_7 rfl dX8_told_6 ?_
  refine z_iload_n (j := 1) dX8_told_9 rfl ?_
  refine m_aldN 0 137 1 (by decide) rfl rfl hb rfl (by omega) (by decide) dX8_told_10 ?_
  exact z_iret rfl dX8_told_11 (hq)

set_option maxHeartbeats 4000000 in
set_option maxRecDepth 100000 in
theorem r_told2 {l : zL} {d kc ks n b : Nat} {h : Nat → va_E} {s : Nat → Int32} {a : Nat → Nat → Int32} {Q : zQ} (hb : b + 14 ≤ n) (hq : Q (.inl (some (.int (a 0 2)))) n (mW h b (va_up s 20 0) a)) : Zj l mX8_told d kc ks 0 [(0, .ref b), (1, .int 2)] [] n (mW h b s a) Q := by
  refine z_aload_n (j := 0) dX8_told_0 rfl ?_
  refine z_iconst (v := 0) dX8_told_1 (by decide) ?_
  refine m_put (k := 20) (by omega) fX8_64 (by unfold mS; omega) (by decide) dX8_told_2 ?_
  refine z_aload_n (j := 0) dX8_told_5 rfl ?_
  refine z_get (v := .ref (b + 1)) (by omega) mW_obj fX8_7 rfl dX8_told_6 ?_
  refine z_iload_n (j := 1) dX8_told_9 rfl ?_
  refine m_aldN 0 137 2 (by decide) rfl rfl hb rfl (by omega) (by decide) dX8_told_10 ?_
  exact z_iret rfl dX8_told_11 (hq)

set_option maxHeartbeats 4000000 in
set_option maxRecDepth 100000 in
theorem r_told3 {l : zL} {d kc ks n b : Nat} {h : Nat → va_E} {s : Nat → Int32} {a : Nat → Nat → Int32} {Q : zQ} (hb : b + 14 ≤ n) (hq : Q (.inl (some (.int (a 0 3)))) n (mW h b (va_up s 20 0) a)) : Zj l mX8_told d kc ks 0 [(0, .ref b), (1, .int 3)] [] n (mW h b s a) Q := by
  refine z_aload_n (j := 0) dX8_told_0 rfl ?_
  refine z_iconst (v := 0) dX8_told_1 (by decide) ?_
  refine m_put (k := 20) (by omega) fX8_64 (by unfold mS; omega) (by decide) dX8_told_2 ?_
  refine z_aload_n (j := 0) dX8_told_5 rfl ?_
  refine z_get (v := .ref (b + 1)) (by omega) mW_obj fX8_7 rfl dX8_told_6 ?_
  refine z_iload_n (j := 1) dX8_told_9 rfl ?_
  refine m_aldN 0 137 3 (by decide) rfl rfl hb rfl (by omega) (by decide) dX8_told_10 ?_
  exact z_iret rfl dX8_told_11 (hq)

set_option maxHeartbeats 4000000 in
set_option maxRecDepth 100000 in
theorem r_told4 {l : zL} {d kc ks n b : Nat} {h : Nat → va_E} {s : Nat → Int32} {a : Nat → Nat → Int32} {Q : zQ} (hb : b + 14 ≤ n) (hq : Q (.inl (some (.int (a 0 4)))) n (mW h b (va_up s 20 0) a)) : Zj l mX8_told d kc ks 0 [(0, .ref b), (1, .int 4)] [] n (mW h b s a) Q := by
  refine z_aload_n (j := 0) dX8_told_0 rfl ?_
  refine z_iconst (v := 0) dX8_told_1 (by decide) ?_
  refine m_put (k := 20) (by omega) fX8_64 (by unfold mS; omega) (by decide) dX8_told_2 ?_
  refine z_aload_n (j := 0) dX8_told_5 rfl ?_
  refine z_get (v := .ref (b + 1)) (by omega) mW_obj fX8_7 rfl dX8_told_6 ?_
  refine z_iload_n (j := 1) dX8_told_9 rfl ?_
  refine m_aldN 0 137 4 (by decide) rfl rfl hb rfl (by omega) (by decide) dX8_told_10 ?_
  exact z_iret rfl dX8_told_11 (hq)

set_option maxHeartbeats 4000000 in
set_option maxRecDepth 100000 in
theorem r_told5 {l : zL} {d kc ks n b : Nat} {h : Nat → va_E} {s : Nat → Int32} {a : Nat → Nat → Int32} {Q : zQ} (hb : b + 14 ≤ n) (hq : Q (.inl (some (.int (a 0 5)))) n (mW h b (va_up s 20 0) a)) : Zj l mX8_told d kc ks 0 [(0, .ref b), (1, .int 5)] [] n (mW h b s a) Q := by
  refine z_aload_n (j := 0) dX8_told_0 rfl ?_
  refine z_iconst (v := 0) dX8_told_1 (by decide) ?_
  refine m_put (k := 20) (by omega) fX8_64 (by unfold mS; omega) (by decide) dX8_told_2 ?_
  refine z_aload_n (j := 0) dX8_told_5 rfl ?_
  refine z_get (v := .ref (b + 1)) (by omega) mW_obj fX8_7 rfl dX8_told_6 ?_
  refine z_iload_n (j := 1) dX8_told_9 rfl ?_
  refine m_aldN 0 137 5 (by decide) rfl rfl hb rfl (by omega) (by decide) dX8_told_10 ?_
  exact z_iret rfl dX8_told_11 (hq)

set_option maxHeartbeats 4000000 in
set_option maxRecDepth 100000 in
theorem r_told6 {l : zL} {d kc ks n b : Nat} {h : Nat → va_E} {s : Nat → Int32} {a : Nat → Nat → Int32} {Q : zQ} (hb : b + 14 ≤ n) (hq : Q (.inl (some (.int (a 0 6)))) n (mW h b (va_up s 20 0) a)) : Zj l mX8_told d kc ks 0 [(0, .ref b), (1, .int 6)] [] n (mW h b s a) Q := by
  refine z_aload_n (j := 0) dX8_told_0 rfl ?_
  refine z_iconst (v := 0) dX8_told_1 (by decide) ?_
  refine m_put (k := 20) (by omega) fX8_64 (by unfold mS; omega) (by decide) dX8_told_2 ?_
  refine z_aload_n (j := 0) dX8_told_5 rfl ?_
  refine z_get (v := .ref (b + 1)) (by omega) mW_obj fX8_7 rfl dX8_told_6 ?_
  refine z_iload_n (j := 1) dX8_told_9 rfl ?_
  refine m_aldN 0 137 6 (by decide) rfl rfl hb rfl (by omega) (by decide) dX8_told_10 ?_
  exact z_iret rfl dX8_told_11 (hq)

set_option maxHeartbeats 4000000 in
set_option maxRecDepth 100000 in
theorem r_told7 {l : zL} {d kc ks n b : Nat} {h : Nat → va_E} {s : Nat → Int32} {a : Nat → Nat → Int32} {Q : zQ} (hb : b + 14 ≤ n) (hq : Q (.inl (some (.int (a 0 7)))) n (mW h b (va_up s 20 0) a)) : Zj l mX8_told d kc ks 0 [(0, .ref b), (1, .int 7)] [] n (mW h b s a) Q := by
  refine z_aload_n (j := 0) dX8_told_0 rfl ?_
  refine z_iconst (v := 0) dX8_told_1 (by decide) ?_
  refine m_put (k := 20) (by omega) fX8_64 (by unfold mS; omega) (by decide) dX8_told_2 ?_
  refine z_aload_n (j := 0) dX8_told_5 rfl ?_
  refine z_get (v := .ref (b + 1)) (by omega) mW_obj fX8_7 rfl dX8_told_6 ?_
  refine z_iload_n (j := 1) dX8_told_9 rfl ?_
  refine m_aldN 0 137 7 (by decide) rfl rfl hb rfl (by omega) (by decide) dX8_told_10 ?_
  exact z_iret rfl dX8_told_11 (hq)

set_option maxHeartbeats 4000000 in
set_option maxRecDepth 100000 in
theorem r_told8 {l : zL} {d kc ks n b : Nat} {h : Nat → va_E} {s : Nat → Int32} {a : Nat → Nat → Int32} {Q : zQ} (hb : b + 14 ≤ n) (hq : Q (.inl (some (.int (a 0 8)))) n (mW h b (va_up s 20 0) a)) : Zj l mX8_told d kc ks 0 [(0, .ref b), (1, .int 8)] [] n (mW h b s a) Q := by
  refine z_aload_n (j := 0) dX8_told_0 rfl ?_
  refine z_iconst (v := 0) dX8_told_1 (by decide) ?_
  refine m_put (k := 20) (by omega) fX8_64 (by unfold mS; omega) (by decide) dX8_told_2 ?_
  refine z_aload_n (j := 0) dX8_told_5 rfl ?_
  refine z_get (v := .ref (b + 1)) (by omega) mW_obj fX8_7 rfl dX8_told_6 ?_
  refine z_iload_n (j := 1) dX8_told_9 rfl ?_
  refine m_aldN 0 137 8 (by decide) rfl rfl hb rfl (by omega) (by decide) dX8_told_10 ?_
  exact z_iret rfl dX8_told_11 (hq)

set_option maxHeartbeats 4000000 in
set_option maxRecDepth 100000 in
theorem R_bucketCount {l : zL} {d kc ks n b : Nat} {h : Nat → va_E} {s : Nat → Int32} {a : Nat → Nat → Int32} {g : zGs} {Q : zQ} (hb : b + 14 ≤ n) (hM : mI g s a) (hq : ∀ t v g' s' a', f_bucketCount g = (t, v, g') → mI g' s' a' → s' 20 = t → Q (.inl (some (.int v))) n (mW h b s' a')) : Zj l mX8_bucketCount (d + 12) kc ks 0 [(0, .ref b)] [] n (mW h b s a) Q := by
  obtain ⟨⟨B, H, T, K, V, c⟩, sv, Sn, k, hi, L, x, ek, eo, rl, rb⟩ := g
  obtain ⟨hT, h11, hsv, hsn, hk8, h9, hhi, hL, h14, ha9, hx256, h16, h17, hrl, h19, ha11, hrb⟩ := id hM
  obtain ⟨hV, ⟨hI, hd3, h3⟩, e3⟩ := id hT
  obtain ⟨okb, h2H, hH6, h1T, hT99, e0, e1, e2, ek_, ev_, ekv, ez⟩ := id hV
  have hle := okb.le
  refine z_aload_n (j := 0) dX8_bucketCount_0 rfl ?_
  refine z_iconst (v := 0) dX8_bucketCount_1 (by decide) ?_
  refine z_kV [.int 0] 0 0 kc ks yoX8_told yvX8_told rfl (by decide) lX8_343 (by omega) mW_obj rfl rfl (Nat.le_of_ble_eq_true rfl) (Nat.le_of_ble_eq_true rfl) dX8_bucketCount_2 (by omega) (by omega) (z_room (by omega) (Nat.le_refl _) (Nat.le_refl _) (r_told0 (d := 0) hb ⟨rfl, ?_⟩))
  exact z_iret rfl dX8_bucketCount_5 (by
      rw [e0]
      exact hq 0 _ _ _ _ rfl hM.th (by rw [up_eq]))

set_option maxHeartbeats 4000000 in
set_option maxRecDepth 100000 in
theorem R_neighbourhood {l : zL} {d kc ks n b : Nat} {h : Nat → va_E} {s : Nat → Int32} {a : Nat → Nat → Int32} {g : zGs} {Q : zQ} (hb : b + 14 ≤ n) (hM : mI g s a) (hq : ∀ t v g' s' a', f_neighbourhood g = (t, v, g') → mI g' s' a' → s' 20 = t → Q (.inl (some (.int v))) n (mW h b s' a')) : Zj l mX8_neighbourhood (d + 12) kc ks 0 [(0, .ref b)] [] n (mW h b s a) Q := by
  obtain ⟨⟨B, H, T, K, V, c⟩, sv, Sn, k, hi, L, x, ek, eo, rl, rb⟩ := g
  obtain ⟨hT, h11, hsv, hsn, hk8, h9, hhi, hL, h14, ha9, hx256, h16, h17, hrl, h19, ha11, hrb⟩ := id hM
  obtain ⟨hV, ⟨hI, hd3, h3⟩, e3⟩ := id hT
  obtain ⟨okb, h2H, hH6, h1T, hT99, e0, e1, e2, ek_, ev_, ekv, ez⟩ := id hV
  have hle := okb.le
  refine z_aload_n (j := 0) dX8_neighbourhood_0 rfl ?_
  refine z_iconst (v := 1) dX8_neighbourhood_1 (by decide) ?_
  refine z_kV [.int 1] 0 0 kc ks yoX8_told yvX8_told rfl (by decide) lX8_343 (by omega) mW_obj rfl rfl (Nat.le_of_ble_eq_true rfl) (Nat.le_of_ble_eq_true rfl) dX8_neighbourhood_2 (by omega) (by omega) (z_room (by omega) (Nat.le_refl _) (Nat.le_refl _) (r_told1 (d := 0) hb ⟨rfl, ?_⟩))
  exact z_iret rfl dX8_neighbourhood_5 (by
      rw [e1]
      exact hq 0 _ _ _ _ rfl hM.th (by rw [up_eq]))

set_option maxHeartbeats 4000000 in
set_option maxRecDepth 100000 in
theorem R_multiplier {l : zL} {d kc ks n b : Nat} {h : Nat → va_E} {s : Nat → Int32} {a : Nat → Nat → Int32} {g : zGs} {Q : zQ} (hb : b + 14 ≤ n) (hM : mI g s a) (hq : ∀ t v g' s' a', f_multiplier g = (t, v, g') → mI g' s' a' → s' 20 = t → Q (.inl (some (.int v))) n (mW h b s' a')) : Zj l mX8_multiplier (d + 12) kc ks 0 [(0, .ref b)] [] n (mW h b s a) Q := by
  obtain ⟨⟨B, H, T, K, V, c⟩, sv, Sn, k, hi, L, x, ek, eo, rl, rb⟩ := g
  obtain ⟨hT, h11, hsv, hsn, hk8, h9, hhi, hL, h14, ha9, hx256, h16, h17, hrl, h19, ha11, hrb⟩ := id hM
  obtain ⟨hV, ⟨hI, hd3, h3⟩, e3⟩ := id hT
  obtain ⟨okb, h2H, hH6, h1T, hT99, e0, e1, e2, ek_, ev_, ekv, ez⟩ := id hV
  have hle := okb.le
  refine z_aload_n (j := 0) dX8_multiplier_0 rfl ?_
  refine z_iconst (v := 2) dX8_multiplier_1 (by decide) ?_
  refine z_kV [.int 2] 0 0 kc ks yoX8_told yvX8_told rfl (by decide) lX8_343 (by omega) mW_obj rfl rfl (Nat.le_of_ble_eq_true rfl) (Nat.le_of_ble_eq_true rfl) dX8_multiplier_2 (by omega) (by omega) (z_room (by omega) (Nat.le_refl _) (Nat.le_refl _) (r_told2 (d := 0) hb ⟨rfl, ?_⟩))
  exact z_iret rfl dX8_multiplier_5 (by
      rw [e2]
      exact hq 0 _ _ _ _ rfl hM.th (by rw [up_eq]))

set_option maxHeartbeats 4000000 in
set_option maxRecDepth 100000 in
theorem R_moves {l : zL} {d kc ks n b : Nat} {h : Nat → va_E} {s : Nat → Int32} {a : Nat → Nat → Int32} {g : zGs} {Q : zQ} (hb : b + 14 ≤ n) (hM : mI g s a) (hq : ∀ t v g' s' a', f_told 4 g = (t, v, g') → mI g' s' a' → s' 20 = t → Q (.inl (some (.int v))) n (mW h b s' a')) : Zj l mX8_moves_ (d + 12) kc ks 0 [(0, .ref b)] [] n (mW h b s a) Q := by
  obtain ⟨⟨B, H, T, K, V, c⟩, sv, Sn, k, hi, L, x, ek, eo, rl, rb⟩ := g
  obtain ⟨hT, h11, hsv, hsn, hk8, h9, hhi, hL, h14, ha9, hx256, h16, h17, hrl, h19, ha11, hrb⟩ := id hM
  obtain ⟨hV, ⟨hI, hd3, h3⟩, e3⟩ := id hT
  obtain ⟨okb, h2H, hH6, h1T, hT99, e0, e1, e2, ek_, ev_, ekv, ez⟩ := id hV
  have hle := okb.le
  refine z_aload_n (j := 0) dX8_moves__0 rfl ?_
  refine z_iconst (v := 4) dX8_moves__1 (by decide) ?_
  refine z_kV [.int 4] 0 0 kc ks yoX8_told yvX8_told rfl (by decide) lX8_343 (by omega) mW_obj rfl rfl (Nat.le_of_ble_eq_true rfl) (Nat.le_of_ble_eq_true rfl) dX8_moves__2 (by omega) (by omega) (z_room (by omega) (Nat.le_refl _) (Nat.le_refl _) (r_told4 (d := 0) hb ⟨rfl, ?_⟩))
  exact z_iret rfl dX8_moves__5 (by
      rw [e3 4 (by decide) (by decide)]
      exact hq 0 _ _ _ _ rfl hM.th (by rw [up_eq]))

set_option maxHeartbeats 4000000 in
set_option maxRecDepth 100000 in
theorem R_pulls {l : zL} {d kc ks n b : Nat} {h : Nat → va_E} {s : Nat → Int32} {a : Nat → Nat → Int32} {g : zGs} {Q : zQ} (hb : b + 14 ≤ n) (hM : mI g s a) (hq : ∀ t v g' s' a', f_told 5 g = (t, v, g') → mI g' s' a' → s' 20 = t → Q (.inl (some (.int v))) n (mW h b s' a')) : Zj l mX8_pulls (d + 12) kc ks 0 [(0, .ref b)] [] n (mW h b s a) Q := by
  obtain ⟨⟨B, H, T, K, V, c⟩, sv, Sn, k, hi, L, x, ek, eo, rl, rb⟩ := g
  obtain ⟨hT, h11, hsv, hsn, hk8, h9, hhi, hL, h14, ha9, hx256, h16, h17, hrl, h19, ha11, hrb⟩ := id hM
  obtain ⟨hV, ⟨hI, hd3, h3⟩, e3⟩ := id hT
  obtain ⟨okb, h2H, hH6, h1T, hT99, e0, e1, e2, ek_, ev_, ekv, ez⟩ := id hV
  have hle := okb.le
  refine z_aload_n (j := 0) dX8_pulls_0 rfl ?_
  refine z_iconst (v := 5) dX8_pulls_1 (by decide) ?_
  refine z_kV [.int 5] 0 0 kc ks yoX8_told yvX8_told rfl (by decide) lX8_343 (by omega) mW_obj rfl rfl (Nat.le_of_ble_eq_true rfl) (Nat.le_of_ble_eq_true rfl) dX8_pulls_2 (by omega) (by omega) (z_room (by omega) (Nat.le_refl _) (Nat.le_refl _) (r_told5 (d := 0) hb ⟨rfl, ?_⟩))
  exact z_iret rfl dX8_pulls_5 (by
      rw [e3 5 (by decide) (by decide)]
      exact hq 0 _ _ _ _ rfl hM.th (by rw [up_eq]))

set_option maxHeartbeats 4000000 in
set_option maxRecDepth 100000 in
theorem R_growths {l : zL} {d kc ks n b : Nat} {h : Nat → va_E} {s : Nat → Int32} {a : Nat → Nat → Int32} {g : zGs} {Q : zQ} (hb : b + 14 ≤ n) (hM : mI g s a) (hq : ∀ t v g' s' a', f_told 6 g = (t, v, g') → mI g' s' a' → s' 20 = t → Q (.inl (some (.int v))) n (mW h b s' a')) : Zj l mX8_growths (d + 12) kc ks 0 [(0, .ref b)] [] n (mW h b s a) Q := by
  obtain ⟨⟨B, H, T, K, V, c⟩, sv, Sn, k, hi, L, x, ek, eo, rl, rb⟩ := g
  obtain ⟨hT, h11, hsv, hsn, hk8, h9, hhi, hL, h14, ha9, hx256, h16, h17, hrl, h19, ha11, hrb⟩ := id hM
  obtain ⟨hV, ⟨hI, hd3, h3⟩, e3⟩ := id hT
  obtain ⟨okb, h2H, hH6, h1T, hT99, e0, e1, e2, ek_, ev_, ekv, ez⟩ := id hV
  have hle := okb.le
  refine z_aload_n (j := 0) dX8_growths_0 rfl ?_
  refine z_bipush (v := 6) dX8_growths_1 (by decide) ?_
  refine z_kV [.int 6] 0 0 kc ks yoX8_told yvX8_told rfl (by decide) lX8_343 (by omega) mW_obj rfl rfl (Nat.le_of_ble_eq_true rfl) (Nat.le_of_ble_eq_true rfl) dX8_growths_3 (by omega) (by omega) (z_room (by omega) (Nat.le_refl _) (Nat.le_refl _) (r_told6 (d := 0) hb ⟨rfl, ?_⟩))
  exact z_iret rfl dX8_growths_6 (by
      rw [e3 6 (by decide) (by decide)]
      exact hq 0 _ _ _ _ rfl hM.th (by rw [up_eq]))

set_option maxHeartbeats 4000000 in
set_option maxRecDepth 100000 in
theorem R_addedCount {l : zL} {d kc ks n b : Nat} {h : Nat → va_E} {s : Nat → Int32} {a : Nat → Nat → Int32} {g : zGs} {Q : zQ} (hb : b + 14 ≤ n) (hM : mI g s a) (hq : ∀ t v g' s' a', f_told 7 g = (t, v, g') → mI g' s' a' → s' 20 = t → Q (.inl (some (.int v))) n (mW h b s' a')) : Zj l mX8_addedCount (d + 12) kc ks 0 [(0, .ref b)] [] n (mW h b s a) Q := by
  obtain ⟨⟨B, H, T, K, V, c⟩, sv, Sn, k, hi, L, x, ek, eo, rl, rb⟩ := g
  obtain ⟨hT, h11, hsv, hsn, hk8, h9, hhi, hL, h14, ha9, hx256, h16, h17, hrl, h19, ha11, hrb⟩ := id hM
  obtain ⟨hV, ⟨hI, hd3, h3⟩, e3⟩ := id hT
  obtain ⟨okb, h2H, hH6, h1T, hT99, e0, e1, e2, ek_, ev_, ekv, ez⟩ := id hV
  have hle := okb.le
  refine z_aload_n (j := 0) dX8_addedCount_0 rfl ?_
  refine z_bipush (v := 7) dX8_addedCount_1 (by decide) ?_
  refine z_kV [.int 7] 0 0 kc ks yoX8_told yvX8_told rfl (by decide) lX8_343 (by omega) mW_obj rfl rfl (Nat.le_of_ble_eq_true rfl) (Nat.le_of_ble_eq_true rfl) dX8_addedCount_3 (by omega) (by omega) (z_room (by omega) (Nat.le_refl _) (Nat.le_refl _) (r_told7 (d := 0) hb ⟨rfl, ?_⟩))
  exact z_iret rfl dX8_addedCount_6 (by
      rw [e3 7 (by decide) (by decide)]
      exact hq 0 _ _ _ _ rfl hM.th (by rw [up_eq]))

set_option maxHeartbeats 4000000 in
set_option maxRecDepth 100000 in
theorem R_removedCount {l : zL} {d kc ks n b : Nat} {h : Nat → va_E} {s : Nat → Int32} {a : Nat → Nat → Int32} {g : zGs} {Q : zQ} (hb : b + 14 ≤ n) (hM : mI g s a) (hq : ∀ t v g' s' a', f_told 8 g = (t, v, g') → mI g' s' a' → s' 20 = t → Q (.inl (some (.int v))) n (mW h b s' a')) : Zj l mX8_removedCount (d + 12) kc ks 0 [(0, .ref b)] [] n (mW h b s a) Q := by
  obtain ⟨⟨B, H, T, K, V, c⟩, sv, Sn, k, hi, L, x, ek, eo, rl, rb⟩ := g
  obtain ⟨hT, h11, hsv, hsn, hk8, h9, hhi, hL, h14, ha9, hx256, h16, h17, hrl, h19, ha11, hrb⟩ := id hM
  obtain ⟨hV, ⟨hI, hd3, h3⟩, e3⟩ := id hT
  obtain ⟨okb, h2H, hH6, h1T, hT99, e0, e1, e2, ek_, ev_, ekv, ez⟩ := id hV
  have hle := okb.le
  refine z_aload_n (j := 0) dX8_removedCount_0 rfl ?_
  refine z_bipush (v := 8) dX8_removedCount_1 (by decide) ?_
  refine z_kV [.int 8] 0 0 kc ks yoX8_told yvX8_told rfl (by decide) lX8_343 (by omega) mW_obj rfl rfl (Nat.le_of_ble_eq_true rfl) (Nat.le_of_ble_eq_true rfl) dX8_removedCount_3 (by omega) (by omega) (z_room (by omega) (Nat.le_refl _) (Nat.le_refl _) (r_told8 (d := 0) hb ⟨rfl, ?_⟩))
  exact z_iret rfl dX8_removedCount_6 (by
      rw [e3 8 (by decide) (by decide)]
      exact hq 0 _ _ _ _ rfl hM.th (by rw [up_eq]))

set_option maxHeartbeats 4000000 in
set_option maxRecDepth 100000 in
theorem R_isPulling {l : zL} {d kc ks n b : Nat} {h : Nat → va_E} {s : Nat → Int32} {a : Nat → Nat → Int32} {g : zGs} {Q : zQ} (hb : b + 14 ≤ n) (hM : mI g s a) (hq : ∀ t v g' s' a', f_isPulling g = (t, v, g') → mI g' s' a' → s' 20 = t → Q (.inl (some (.int v))) n (mW h b s' a')) : Zj l mX8_isPulling (d + 12) kc ks 0 [(0, .ref b)] [] n (mW h b s a) Q := by
  obtain ⟨⟨B, H, T, K, V, c⟩, sv, Sn, k, hi, L, x, ek, eo, rl, rb⟩ := g
  obtain ⟨hT, h11, hsv, hsn, hk8, h9, hhi, hL, h14, ha9, hx256, h16, h17, hrl, h19, ha11, hrb⟩ := id hM
  obtain ⟨hV, ⟨hI, hd3, h3⟩, e3⟩ := id hT
  obtain ⟨okb, h2H, hH6, h1T, hT99, e0, e1, e2, ek_, ev_, ekv, ez⟩ := id hV
  have hle := okb.le
  refine z_aload_n (j := 0) dX8_isPulling_0 rfl ?_
  refine z_iconst (v := 3) dX8_isPulling_1 (by decide) ?_
  refine z_kV [.int 3] 0 0 kc ks yoX8_told yvX8_told rfl (by decide) lX8_343 (by omega) mW_obj rfl rfl (Nat.le_of_ble_eq_true rfl) (Nat.le_of_ble_eq_true rfl) dX8_isPulling_2 (by omega) (by omega) (z_room (by omega) (Nat.le_refl _) (Nat.le_refl _) (r_told3 (d := 0) hb ⟨rfl, ?_⟩))
  refine z_iconst (v := 1) dX8_isPulling_5 (by decide) ?_
  refine z_icmp_ne (tgt := 13) dX8_isPulling_6 (by decide) (fun czq6 => ?_) (fun czq6 => ?_)
  · refine z_iconst (v := 0) dX8_isPulling_13 (by decide) ?_
    exact z_zret rfl rfl dX8_isPulling_14 (by
        have h0 : c 3 = 0 := by
          rcases h3 with z | z
          · exact z
          · exact absurd ((e3 3 (by decide) (by decide)).trans z) czq6
        have hq2 := hq 0 0 _ _ _ (by unfold f_isPulling; simp only [h0]) hM.th (up_eq (v := 0))
        exact hq2)
  · refine z_iconst (v := 1) dX8_isPulling_9 (by decide) ?_
    refine z_goto (tgt := 14) dX8_isPulling_10 (by decide) ?_
    exact z_zret rfl rfl dX8_isPulling_14 (by
        have h1 : c 3 = 1 := (e3 3 (by decide) (by decide)).symm.trans czq6
        have hq2 := hq 0 1 _ _ _ (by unfold f_isPulling; simp only [h1]) hM.th (up_eq (v := 0))
        exact hq2)

set_option maxHeartbeats 4000000 in
set_option maxRecDepth 100000 in
theorem R_undoCount {l : zL} {d kc ks n b : Nat} {h : Nat → va_E} {s : Nat → Int32} {a : Nat → Nat → Int32} {g : zGs} {Q : zQ} (hb : b + 14 ≤ n) (hM : mI g s a) (hq : ∀ t v g' s' a', f_undoCount g = (t, v, g') → mI g' s' a' → s' 20 = t → Q (.inl (some (.int v))) n (mW h b s' a')) : Zj l mX8_undoCount (d + 12) kc ks 0 [(0, .ref b)] [] n (mW h b s a) Q := by
  obtain ⟨⟨B, H, T, K, V, c⟩, sv, Sn, k, hi, L, x, ek, eo, rl, rb⟩ := g
  obtain ⟨hT, h11, hsv, hsn, hk8, h9, hhi, hL, h14, ha9, hx256, h16, h17, hrl, h19, ha11, hrb⟩ := id hM
  obtain ⟨hV, ⟨hI, hd3, h3⟩, e3⟩ := id hT
  obtain ⟨okb, h2H, hH6, h1T, hT99, e0, e1, e2, ek_, ev_, ekv, ez⟩ := id hV
  have hle := okb.le
  refine z_aload_n (j := 0) dX8_undoCount_0 rfl ?_
  refine z_iconst (v := 0) dX8_undoCount_1 (by decide) ?_
  refine m_put (k := 20) (by omega) fX8_64 (by unfold mS; omega) (by decide) dX8_undoCount_2 ?_
  refine z_aload_n (j := 0) dX8_undoCount_5 rfl ?_
  refine z_get (v := .int (s 9)) (by omega) mW_obj fX8_318 rfl dX8_undoCount_6 ?_
  exact z_iret rfl dX8_undoCount_9 (by
      rw [h9]
      exact hq 0 _ _ _ _ rfl hM.th (by rw [up_eq]))

set_option maxHeartbeats 4000000 in
set_option maxRecDepth 100000 in
theorem R_scriptErrorKind {l : zL} {d kc ks n b : Nat} {h : Nat → va_E} {s : Nat → Int32} {a : Nat → Nat → Int32} {g : zGs} {Q : zQ} (hb : b + 14 ≤ n) (hM : mI g s a) (hq : ∀ t v g' s' a', f_scriptErrorKind g = (t, v, g') → mI g' s' a' → s' 20 = t → Q (.inl (some (.int v))) n (mW h b s' a')) : Zj l mX8_scriptErrorKind (d + 12) kc ks 0 [(0, .ref b)] [] n (mW h b s a) Q := by
  obtain ⟨⟨B, H, T, K, V, c⟩, sv, Sn, k, hi, L, x, ek, eo, rl, rb⟩ := g
  obtain ⟨hT, h11, hsv, hsn, hk8, h9, hhi, hL, h14, ha9, hx256, h16, h17, hrl, h19, ha11, hrb⟩ := id hM
  obtain ⟨hV, ⟨hI, hd3, h3⟩, e3⟩ := id hT
  obtain ⟨okb, h2H, hH6, h1T, hT99, e0, e1, e2, ek_, ev_, ekv, ez⟩ := id hV
  have hle := okb.le
  refine z_aload_n (j := 0) dX8_scriptErrorKind_0 rfl ?_
  refine z_iconst (v := 0) dX8_scriptErrorKind_1 (by decide) ?_
  refine m_put (k := 20) (by omega) fX8_64 (by unfold mS; omega) (by decide) dX8_scriptErrorKind_2 ?_
  refine z_aload_n (j := 0) dX8_scriptErrorKind_5 rfl ?_
  refine z_get (v := .int (s 16)) (by omega) mW_obj fX8_179 rfl dX8_scriptErrorKind_6 ?_
  exact z_iret rfl dX8_scriptErrorKind_9 (by
      rw [h16]
      exact hq 0 _ _ _ _ rfl hM.th (by rw [up_eq]))

set_option maxHeartbeats 4000000 in
set_option maxRecDepth 100000 in
theorem R_scriptErrorOffset {l : zL} {d kc ks n b : Nat} {h : Nat → va_E} {s : Nat → Int32} {a : Nat → Nat → Int32} {g : zGs} {Q : zQ} (hb : b + 14 ≤ n) (hM : mI g s a) (hq : ∀ t v g' s' a', f_scriptErrorOffset g = (t, v, g') → mI g' s' a' → s' 20 = t → Q (.inl (some (.int v))) n (mW h b s' a')) : Zj l mX8_scriptErrorOffset (d + 12) kc ks 0 [(0, .ref b)] [] n (mW h b s a) Q := by
  obtain ⟨⟨B, H, T, K, V, c⟩, sv, Sn, k, hi, L, x, ek, eo, rl, rb⟩ := g
  obtain ⟨hT, h11, hsv, hsn, hk8, h9, hhi, hL, h14, ha9, hx256, h16, h17, hrl, h19, ha11, hrb⟩ := id hM
  obtain ⟨hV, ⟨hI, hd3, h3⟩, e3⟩ := id hT
  obtain ⟨okb, h2H, hH6, h1T, hT99, e0, e1, e2, ek_, ev_, ekv, ez⟩ := id hV
  have hle := okb.le
  refine z_aload_n (j := 0) dX8_scriptErrorOffset_0 rfl ?_
  refine z_iconst (v := 0) dX8_scriptErrorOffset_1 (by decide) ?_
  refine m_put (k := 20) (by omega) fX8_64 (by unfold mS; omega) (by decide) dX8_scriptErrorOffset_2 ?_
  refine z_aload_n (j := 0) dX8_scriptErrorOffset_5 rfl ?_
  refine z_get (v := .int (s 17)) (by omega) mW_obj fX8_43 rfl dX8_scriptErrorOffset_6 ?_
  exact z_iret rfl dX8_scriptErrorOffset_9 (by
      rw [h17]
      exact hq 0 _ _ _ _ rfl hM.th (by rw [up_eq]))

set_option maxHeartbeats 4000000 in
set_option maxRecDepth 100000 in
theorem R_homeOf {l : zL} {d kc ks n b : Nat} {h : Nat → va_E} {s : Nat → Int32} {a : Nat → Nat → Int32} {g : zGs} {Q : zQ} {p : Int32} (hb : b + 14 ≤ n) (hM : mI g s a) (hq : ∀ t v g' s' a', f_homeOf g p = (t, v, g') → mI g' s' a' → s' 20 = t → Q (.inl (some (.int v))) n (mW h b s' a')) : Zj l mX8_homeOf (d + 12) kc ks 0 [(0, .ref b), (1, .int p)] [] n (mW h b s a) Q := by
  obtain ⟨⟨B, H, T, K, V, c⟩, sv, Sn, k, hi, L, x, ek, eo, rl, rb⟩ := g
  obtain ⟨hT, h11, hsv, hsn, hk8, h9, hhi, hL, h14, ha9, hx256, h16, h17, hrl, h19, ha11, hrb⟩ := id hM
  obtain ⟨hV, ⟨hI, hd3, h3⟩, e3⟩ := id hT
  obtain ⟨okb, h2H, hH6, h1T, hT99, e0, e1, e2, ek_, ev_, ekv, ez⟩ := id hV
  have hle := okb.le
  refine z_aload_n (j := 0) dX8_homeOf_0 rfl ?_
  refine z_iload_n (j := 1) dX8_homeOf_1 rfl ?_
  refine z_kS [.int p] 0 0 kc ks yoX8_isKey ysX8_isKey rfl (by decide) lX8_327 rfl (Nat.le_of_ble_eq_true rfl) (Nat.le_of_ble_eq_true rfl) dX8_homeOf_2 (by omega) (by omega) (z_room (by omega) (Nat.le_refl _) (Nat.le_refl _) (r_isKey (d := 0)  ⟨rfl, ?_⟩))
  refine z_if_ne (tgt := 12) dX8_homeOf_5 (by decide) (fun czq5 => ?_) (fun czq5 => ?_)
  · have ep := bI_n.mp czq5
    obtain ⟨key, hk1, hkey, rfl, hkx⟩ := iO_yes 0 9999 (by decide) (by decide) ep
    refine z_iconst (v := 0) dX8_homeOf_12 (by decide) ?_
    refine z_kV [.int 0] 0 0 kc ks yoX8_throwsOne yvX8_throwsOne rfl (by decide) lX8_315 (by omega) mW_obj rfl rfl (Nat.le_of_ble_eq_true rfl) (Nat.le_of_ble_eq_true rfl) dX8_homeOf_13 (by omega) (by omega) (z_room (by omega) (Nat.le_refl _) (Nat.le_refl _) (w_throws1_0 (d := 0) hb ⟨rfl, ?_⟩))
    refine z_if_eq (tgt := 23) dX8_homeOf_16 (by decide) (fun czq16 => ?_) (fun czq16 => absurd rfl czq16)
    refine z_aload_n (j := 0) dX8_homeOf_23 rfl ?_
    refine z_iload_n (j := 1) dX8_homeOf_24 rfl ?_
    refine z_kV [.int ((nI key))] 0 0 kc ks yoX8_home yvX8_home rfl (by decide) lX8_75 (by omega) mW_obj rfl rfl (Nat.le_of_ble_eq_true rfl) (Nat.le_of_ble_eq_true rfl) dX8_homeOf_25 (by omega) (by omega) (z_room (by omega) (Nat.le_refl _) (Nat.le_refl _) (r_home (d := 0) hb hV hkey ⟨rfl, ?_⟩))
    exact z_iret rfl dX8_homeOf_28 (by
        exact hq 0 _ _ _ _ (by unfold f_homeOf; rw [if_pos ep, hkx]) hM.th (by rw [up_eq]))
  · refine z_iconst (v := 1) dX8_homeOf_8 (by decide) ?_
    refine z_goto (tgt := 13) dX8_homeOf_9 (by decide) ?_
    refine z_kV [.int 1] 0 0 kc ks yoX8_throwsOne yvX8_throwsOne rfl (by decide) lX8_315 (by omega) mW_obj rfl rfl (Nat.le_of_ble_eq_true rfl) (Nat.le_of_ble_eq_true rfl) dX8_homeOf_13 (by omega) (by omega) (z_room (by omega) (Nat.le_refl _) (Nat.le_refl _) (w_throws1_1 (d := 0) hb ⟨rfl, ?_⟩))
    refine z_if_eq (tgt := 23) dX8_homeOf_16 (by decide) (fun czq16 => absurd czq16 (by decide)) (fun czq16 => ?_)
    refine z_iconst (v := 0) dX8_homeOf_19 (by decide) ?_
    refine z_goto (tgt := 28) dX8_homeOf_20 (by decide) ?_
    exact z_iret rfl dX8_homeOf_28 (hq 1 0 _ _ _ (by unfold f_homeOf; exact if_neg (bI_0.mp czq5)) hM.th (by rw [up_eq]))

theorem m_find {l : zL} {d kc ks n b : Nat} {h : Nat → va_E} {s : Nat → Int32} {a : Nat → Nat → Int32} {Q : zQ} {S : zS} {key : Nat} (hb : b + 14 ≤ n) (hT : mT S (a 0)) (hkey : key ≤ 9999) (hqN : sFind S key = none → Q (.inl (some (.int (-1)))) n (mW h b s a)) (hqS : ∀ bk, sFind S key = some bk → bk < S.1 → S.2.2.2.1 bk = key + 1 → Q (.inl (some (.int (nI bk)))) n (mW h b s a)) : Zj l mX8_bucketWith (d + 1) kc ks 0 [(0, .ref b), (1, .int (nI key))] [] n (mW h b s a) Q := by
  obtain ⟨B, H, T, K, V, c⟩ := S
  refine r_bucketWith hb hT.1 hkey ?_
  cases hf : bwS B K key with
  | none => exact hqN hf
  | some bk =>
    obtain ⟨h1, h2⟩ := bwS_lt hf
    exact hqS bk hf h1 h2

set_option maxHeartbeats 4000000 in
set_option maxRecDepth 100000 in
theorem R_bucketOf {l : zL} {d kc ks n b : Nat} {h : Nat → va_E} {s : Nat → Int32} {a : Nat → Nat → Int32} {g : zGs} {Q : zQ} {p : Int32} (hb : b + 14 ≤ n) (hM : mI g s a) (hq : ∀ t v g' s' a', f_bucketOf g p = (t, v, g') → mI g' s' a' → s' 20 = t → Q (.inl (some (.int v))) n (mW h b s' a')) : Zj l mX8_bucketOf (d + 12) kc ks 0 [(0, .ref b), (1, .int p)] [] n (mW h b s a) Q := by
  obtain ⟨⟨B, H, T, K, V, c⟩, sv, Sn, k, hi, L, x, ek, eo, rl, rb⟩ := g
  obtain ⟨hT, h11, hsv, hsn, hk8, h9, hhi, hL, h14, ha9, hx256, h16, h17, hrl, h19, ha11, hrb⟩ := id hM
  obtain ⟨hV, ⟨hI, hd3, h3⟩, e3⟩ := id hT
  obtain ⟨okb, h2H, hH6, h1T, hT99, e0, e1, e2, ek_, ev_, ekv, ez⟩ := id hV
  have hle := okb.le
  refine z_aload_n (j := 0) dX8_bucketOf_0 rfl ?_
  refine z_iload_n (j := 1) dX8_bucketOf_1 rfl ?_
  refine z_kS [.int p] 0 0 kc ks yoX8_isKey ysX8_isKey rfl (by decide) lX8_327 rfl (Nat.le_of_ble_eq_true rfl) (Nat.le_of_ble_eq_true rfl) dX8_bucketOf_2 (by omega) (by omega) (z_room (by omega) (Nat.le_refl _) (Nat.le_refl _) (r_isKey (d := 0)  ⟨rfl, ?_⟩))
  refine z_if_ne (tgt := 12) dX8_bucketOf_5 (by decide) (fun czq5 => ?_) (fun czq5 => ?_)
  · have ep := bI_n.mp czq5
    obtain ⟨key, hk1, hkey, rfl, hkx⟩ := iO_yes 0 9999 (by decide) (by decide) ep
    refine z_iconst (v := 0) dX8_bucketOf_12 (by decide) ?_
    refine z_kV [.int 0] 0 0 kc ks yoX8_throwsOne yvX8_throwsOne rfl (by decide) lX8_315 (by omega) mW_obj rfl rfl (Nat.le_of_ble_eq_true rfl) (Nat.le_of_ble_eq_true rfl) dX8_bucketOf_13 (by omega) (by omega) (z_room (by omega) (Nat.le_refl _) (Nat.le_refl _) (w_throws1_0 (d := 0) hb ⟨rfl, ?_⟩))
    refine z_if_eq (tgt := 23) dX8_bucketOf_16 (by decide) (fun czq16 => ?_) (fun czq16 => absurd rfl czq16)
    refine z_aload_n (j := 0) dX8_bucketOf_23 rfl ?_
    refine z_iload_n (j := 1) dX8_bucketOf_24 rfl ?_
    refine z_kV [.int ((nI key))] 0 0 kc ks yoX8_bucketWith yvX8_bucketWith rfl (by decide) lX8_129 (by omega) mW_obj rfl rfl (Nat.le_of_ble_eq_true rfl) (Nat.le_of_ble_eq_true rfl) dX8_bucketOf_25 (by omega) (by omega) (z_room (by omega) (Nat.le_refl _) (Nat.le_refl _) (m_find (d := 0) (S := (B, H, T, K, V, c)) hb hT hkey (fun hf => ⟨rfl, ?_⟩) (fun bk hf hbk hKb => ⟨rfl, ?_⟩)))
    · exact z_iret rfl dX8_bucketOf_28 (by
          exact hq 0 _ _ _ _ (by unfold f_bucketOf; rw [if_pos ep, hkx]; simp only [hf]; rfl) hM.th (by rw [up_eq]))
    · have hbk : bk < B := hbk
      have hKb : K bk = key + 1 := hKb
      exact z_iret rfl dX8_bucketOf_28 (by
          exact hq 0 _ _ _ _ (by unfold f_bucketOf; rw [if_pos ep, hkx]; simp only [hf]; rfl) hM.th (by rw [up_eq]))
  · refine z_iconst (v := 1) dX8_bucketOf_8 (by decide) ?_
    refine z_goto (tgt := 13) dX8_bucketOf_9 (by decide) ?_
    refine z_kV [.int 1] 0 0 kc ks yoX8_throwsOne yvX8_throwsOne rfl (by decide) lX8_315 (by omega) mW_obj rfl rfl (Nat.le_of_ble_eq_true rfl) (Nat.le_of_ble_eq_true rfl) dX8_bucketOf_13 (by omega) (by omega) (z_room (by omega) (Nat.le_refl _) (Nat.le_refl _) (w_throws1_1 (d := 0) hb ⟨rfl, ?_⟩))
    refine z_if_eq (tgt := 23) dX8_bucketOf_16 (by decide) (fun czq16 => absurd czq16 (by decide)) (fun czq16 => ?_)
    refine z_iconst (v := 0) dX8_bucketOf_19 (by decide) ?_
    refine z_goto (tgt := 28) dX8_bucketOf_20 (by decide) ?_
    exact z_iret rfl dX8_bucketOf_28 (hq 1 0 _ _ _ (by unfold f_bucketOf; exact if_neg (bI_0.mp czq5)) hM.th (by rw [up_eq]))

set_option maxHeartbeats 4000000 in
set_option maxRecDepth 100000 in
theorem R_valueOf {l : zL} {d kc ks n b : Nat} {h : Nat → va_E} {s : Nat → Int32} {a : Nat → Nat → Int32} {g : zGs} {Q : zQ} {p : Int32} (hb : b + 14 ≤ n) (hM : mI g s a) (hq : ∀ t v g' s' a', f_valueOf g p = (t, v, g') → mI g' s' a' → s' 20 = t → Q (.inl (some (.int v))) n (mW h b s' a')) : Zj l mX8_valueOf (d + 12) kc ks 0 [(0, .ref b), (1, .int p)] [] n (mW h b s a) Q := by
  obtain ⟨⟨B, H, T, K, V, c⟩, sv, Sn, k, hi, L, x, ek, eo, rl, rb⟩ := g
  obtain ⟨hT, h11, hsv, hsn, hk8, h9, hhi, hL, h14, ha9, hx256, h16, h17, hrl, h19, ha11, hrb⟩ := id hM
  obtain ⟨hV, ⟨hI, hd3, h3⟩, e3⟩ := id hT
  obtain ⟨okb, h2H, hH6, h1T, hT99, e0, e1, e2, ek_, ev_, ekv, ez⟩ := id hV
  have hle := okb.le
  refine z_aload_n (j := 0) dX8_valueOf_0 rfl ?_
  refine z_iload_n (j := 1) dX8_valueOf_1 rfl ?_
  refine z_kS [.int p] 0 0 kc ks yoX8_isKey ysX8_isKey rfl (by decide) lX8_327 rfl (Nat.le_of_ble_eq_true rfl) (Nat.le_of_ble_eq_true rfl) dX8_valueOf_2 (by omega) (by omega) (z_room (by omega) (Nat.le_refl _) (Nat.le_refl _) (r_isKey (d := 0)  ⟨rfl, ?_⟩))
  refine z_if_ne (tgt := 12) dX8_valueOf_5 (by decide) (fun czq5 => ?_) (fun czq5 => ?_)
  · have ep := bI_n.mp czq5
    obtain ⟨key, hk1, hkey, rfl, hkx⟩ := iO_yes 0 9999 (by decide) (by decide) ep
    refine z_iconst (v := 0) dX8_valueOf_12 (by decide) ?_
    refine z_kV [.int 0] 0 0 kc ks yoX8_throwsOne yvX8_throwsOne rfl (by decide) lX8_315 (by omega) mW_obj rfl rfl (Nat.le_of_ble_eq_true rfl) (Nat.le_of_ble_eq_true rfl) dX8_valueOf_13 (by omega) (by omega) (z_room (by omega) (Nat.le_refl _) (Nat.le_refl _) (w_throws1_0 (d := 0) hb ⟨rfl, ?_⟩))
    refine z_if_eq (tgt := 21) dX8_valueOf_16 (by decide) (fun czq16 => ?_) (fun czq16 => absurd rfl czq16)
    refine z_aload_n (j := 0) dX8_valueOf_21 rfl ?_
    refine z_iload_n (j := 1) dX8_valueOf_22 rfl ?_
    refine z_kV [.int ((nI key))] 0 0 kc ks yoX8_bucketWith yvX8_bucketWith rfl (by decide) lX8_129 (by omega) mW_obj rfl rfl (Nat.le_of_ble_eq_true rfl) (Nat.le_of_ble_eq_true rfl) dX8_valueOf_23 (by omega) (by omega) (z_room (by omega) (Nat.le_refl _) (Nat.le_refl _) (m_find (d := 0) (S := (B, H, T, K, V, c)) hb hT hkey (fun hf => ⟨rfl, ?_⟩) (fun bk hf hbk hKb => ⟨rfl, ?_⟩)))
    · refine z_istore_n [1, 2, 0] [(0, .ref b), (1, .int ((nI key))), (2, .int ((-1)))] dX8_valueOf_26 (by decide) rfl ?_
      refine z_iload_n (j := 2) dX8_valueOf_27 rfl ?_
      refine z_iconst (v := (-1)) dX8_valueOf_28 (by decide) ?_
      refine z_icmp_ne (tgt := 36) dX8_valueOf_29 (by decide) (fun czq29 => absurd rfl czq29) (fun czq29 => ?_)
      refine z_iconst (v := (-1)) dX8_valueOf_32 (by decide) ?_
      refine z_goto (tgt := 45) dX8_valueOf_33 (by decide) ?_
      exact z_iret rfl dX8_valueOf_45 (by
          exact hq 0 _ _ _ _ (by unfold f_valueOf; rw [if_pos ep, hkx]; simp only [hf]) hM.th (by rw [up_eq]))
    · have hbk : bk < B := hbk
      have hKb : K bk = key + 1 := hKb
      refine z_istore_n [1, 2, 0] [(0, .ref b), (1, .int ((nI key))), (2, .int ((nI bk)))] dX8_valueOf_26 (by decide) rfl ?_
      refine z_iload_n (j := 2) dX8_valueOf_27 rfl ?_
      refine z_iconst (v := (-1)) dX8_valueOf_28 (by decide) ?_
      refine z_icmp_ne (tgt := 36) dX8_valueOf_29 (by decide) (fun czq29 => ?_) (fun czq29 => absurd czq29 (nI_neg1 (by omega)))
      refine z_aload_n (j := 0) dX8_valueOf_36 rfl ?_
      refine z_get (v := .ref (b + 1)) (by omega) mW_obj fX8_7 rfl dX8_valueOf_37 ?_
      refine z_bipush (v := 73) dX8_valueOf_40 (by decide) ?_
      refine z_iload_n (j := 2) dX8_valueOf_42 rfl ?_
      refine z_iadd dX8_valueOf_43 ?_
      refine m_aldN 0 137 (73 + bk) (by decide) rfl rfl hb (nI_add 73 _) (by omega) (by decide) dX8_valueOf_44 ?_
      exact z_iret rfl dX8_valueOf_45 (by
          rw [ev_ bk (by omega)]
          exact hq 0 _ _ _ _ (by unfold f_valueOf; rw [if_pos ep, hkx]; simp only [hf] <;> rfl) hM.th (by rw [up_eq]))
  · refine z_iconst (v := 1) dX8_valueOf_8 (by decide) ?_
    refine z_goto (tgt := 13) dX8_valueOf_9 (by decide) ?_
    refine z_kV [.int 1] 0 0 kc ks yoX8_throwsOne yvX8_throwsOne rfl (by decide) lX8_315 (by omega) mW_obj rfl rfl (Nat.le_of_ble_eq_true rfl) (Nat.le_of_ble_eq_true rfl) dX8_valueOf_13 (by omega) (by omega) (z_room (by omega) (Nat.le_refl _) (Nat.le_refl _) (w_throws1_1 (d := 0) hb ⟨rfl, ?_⟩))
    refine z_if_eq (tgt := 21) dX8_valueOf_16 (by decide) (fun czq16 => absurd czq16 (by decide)) (fun czq16 => ?_)
    refine z_iconst (v := 0) dX8_valueOf_19 (by decide) ?_
    exact z_iret rfl dX8_valueOf_20 (hq 1 0 _ _ _ (by unfold f_valueOf; exact if_neg (bI_0.mp czq5)) hM.th (by rw [up_eq]))

set_option maxHeartbeats 4000000 in
set_option maxRecDepth 100000 in
theorem R_distanceOf {l : zL} {d kc ks n b : Nat} {h : Nat → va_E} {s : Nat → Int32} {a : Nat → Nat → Int32} {g : zGs} {Q : zQ} {p : Int32} (hb : b + 14 ≤ n) (hM : mI g s a) (hq : ∀ t v g' s' a', f_distanceOf g p = (t, v, g') → mI g' s' a' → s' 20 = t → Q (.inl (some (.int v))) n (mW h b s' a')) : Zj l mX8_distanceOf (d + 12) kc ks 0 [(0, .ref b), (1, .int p)] [] n (mW h b s a) Q := by
  obtain ⟨⟨B, H, T, K, V, c⟩, sv, Sn, k, hi, L, x, ek, eo, rl, rb⟩ := g
  obtain ⟨hT, h11, hsv, hsn, hk8, h9, hhi, hL, h14, ha9, hx256, h16, h17, hrl, h19, ha11, hrb⟩ := id hM
  obtain ⟨hV, ⟨hI, hd3, h3⟩, e3⟩ := id hT
  obtain ⟨okb, h2H, hH6, h1T, hT99, e0, e1, e2, ek_, ev_, ekv, ez⟩ := id hV
  have hle := okb.le
  refine z_aload_n (j := 0) dX8_distanceOf_0 rfl ?_
  refine z_iload_n (j := 1) dX8_distanceOf_1 rfl ?_
  refine z_kS [.int p] 0 0 kc ks yoX8_isKey ysX8_isKey rfl (by decide) lX8_327 rfl (Nat.le_of_ble_eq_true rfl) (Nat.le_of_ble_eq_true rfl) dX8_distanceOf_2 (by omega) (by omega) (z_room (by omega) (Nat.le_refl _) (Nat.le_refl _) (r_isKey (d := 0)  ⟨rfl, ?_⟩))
  refine z_if_ne (tgt := 12) dX8_distanceOf_5 (by decide) (fun czq5 => ?_) (fun czq5 => ?_)
  · have ep := bI_n.mp czq5
    obtain ⟨key, hk1, hkey, rfl, hkx⟩ := iO_yes 0 9999 (by decide) (by decide) ep
    refine z_iconst (v := 0) dX8_distanceOf_12 (by decide) ?_
    refine z_kV [.int 0] 0 0 kc ks yoX8_throwsOne yvX8_throwsOne rfl (by decide) lX8_315 (by omega) mW_obj rfl rfl (Nat.le_of_ble_eq_true rfl) (Nat.le_of_ble_eq_true rfl) dX8_distanceOf_13 (by omega) (by omega) (z_room (by omega) (Nat.le_refl _) (Nat.le_refl _) (w_throws1_0 (d := 0) hb ⟨rfl, ?_⟩))
    refine z_if_eq (tgt := 21) dX8_distanceOf_16 (by decide) (fun czq16 => ?_) (fun czq16 => absurd rfl czq16)
    refine z_aload_n (j := 0) dX8_distanceOf_21 rfl ?_
    refine z_iload_n (j := 1) dX8_distanceOf_22 rfl ?_
    refine z_kV [.int ((nI key))] 0 0 kc ks yoX8_bucketWith yvX8_bucketWith rfl (by decide) lX8_129 (by omega) mW_obj rfl rfl (Nat.le_of_ble_eq_true rfl) (Nat.le_of_ble_eq_true rfl) dX8_distanceOf_23 (by omega) (by omega) (z_room (by omega) (Nat.le_refl _) (Nat.le_refl _) (m_find (d := 0) (S := (B, H, T, K, V, c)) hb hT hkey (fun hf => ⟨rfl, ?_⟩) (fun bk hf hbk hKb => ⟨rfl, ?_⟩)))
    · refine z_istore_n [1, 2, 0] [(0, .ref b), (1, .int ((nI key))), (2, .int ((-1)))] dX8_distanceOf_26 (by decide) rfl ?_
      refine z_iload_n (j := 2) dX8_distanceOf_27 rfl ?_
      refine z_iconst (v := (-1)) dX8_distanceOf_28 (by decide) ?_
      refine z_icmp_ne (tgt := 36) dX8_distanceOf_29 (by decide) (fun czq29 => absurd rfl czq29) (fun czq29 => ?_)
      refine z_iconst (v := (-1)) dX8_distanceOf_32 (by decide) ?_
      refine z_goto (tgt := 41) dX8_distanceOf_33 (by decide) ?_
      exact z_iret rfl dX8_distanceOf_41 (by
          exact hq 0 _ _ _ _ (by unfold f_distanceOf; rw [if_pos ep, hkx]; simp only [hf]) hM.th (by rw [up_eq]))
    · have hbk : bk < B := hbk
      have hKb : K bk = key + 1 := hKb
      refine z_istore_n [1, 2, 0] [(0, .ref b), (1, .int ((nI key))), (2, .int ((nI bk)))] dX8_distanceOf_26 (by decide) rfl ?_
      refine z_iload_n (j := 2) dX8_distanceOf_27 rfl ?_
      refine z_iconst (v := (-1)) dX8_distanceOf_28 (by decide) ?_
      refine z_icmp_ne (tgt := 36) dX8_distanceOf_29 (by decide) (fun czq29 => ?_) (fun czq29 => absurd czq29 (nI_neg1 (by omega)))
      refine z_aload_n (j := 0) dX8_distanceOf_36 rfl ?_
      refine z_iload_n (j := 2) dX8_distanceOf_37 rfl ?_
      refine z_kV [.int ((nI bk))] 0 0 kc ks yoX8_off yvX8_off rfl (by decide) lX8_93 (by omega) mW_obj rfl rfl (Nat.le_of_ble_eq_true rfl) (Nat.le_of_ble_eq_true rfl) dX8_distanceOf_38 (by omega) (by omega) (z_room (by omega) (Nat.le_refl _) (Nat.le_refl _) (r_off (d := 0) hb hV hbk (by omega) ⟨rfl, ?_⟩))
      exact z_iret rfl dX8_distanceOf_41 (by
          exact hq 0 _ _ _ _ (by unfold f_distanceOf; rw [if_pos ep, hkx]; simp only [hf]) hM.th (by rw [up_eq]))
  · refine z_iconst (v := 1) dX8_distanceOf_8 (by decide) ?_
    refine z_goto (tgt := 13) dX8_distanceOf_9 (by decide) ?_
    refine z_kV [.int 1] 0 0 kc ks yoX8_throwsOne yvX8_throwsOne rfl (by decide) lX8_315 (by omega) mW_obj rfl rfl (Nat.le_of_ble_eq_true rfl) (Nat.le_of_ble_eq_true rfl) dX8_distanceOf_13 (by omega) (by omega) (z_room (by omega) (Nat.le_refl _) (Nat.le_refl _) (w_throws1_1 (d := 0) hb ⟨rfl, ?_⟩))
    refine z_if_eq (tgt := 21) dX8_distanceOf_16 (by decide) (fun czq16 => absurd czq16 (by decide)) (fun czq16 => ?_)
    refine z_iconst (v := 0) dX8_distanceOf_19 (by decide) ?_
    exact z_iret rfl dX8_distanceOf_20 (hq 1 0 _ _ _ (by unfold f_distanceOf; exact if_neg (bI_0.mp czq5)) hM.th (by rw [up_eq]))

set_option maxHeartbeats 4000000 in
set_option maxRecDepth 100000 in
theorem R_keyAt {l : zL} {d kc ks n b : Nat} {h : Nat → va_E} {s : Nat → Int32} {a : Nat → Nat → Int32} {g : zGs} {Q : zQ} {p : Int32} (hb : b + 14 ≤ n) (hM : mI g s a) (hq : ∀ t v g' s' a', f_keyAt g p = (t, v, g') → mI g' s' a' → s' 20 = t → Q (.inl (some (.int v))) n (mW h b s' a')) : Zj l mX8_keyAt (d + 12) kc ks 0 [(0, .ref b), (1, .int p)] [] n (mW h b s a) Q := by
  obtain ⟨⟨B, H, T, K, V, c⟩, sv, Sn, k, hi, L, x, ek, eo, rl, rb⟩ := g
  obtain ⟨hT, h11, hsv, hsn, hk8, h9, hhi, hL, h14, ha9, hx256, h16, h17, hrl, h19, ha11, hrb⟩ := id hM
  obtain ⟨hV, ⟨hI, hd3, h3⟩, e3⟩ := id hT
  obtain ⟨okb, h2H, hH6, h1T, hT99, e0, e1, e2, ek_, ev_, ekv, ez⟩ := id hV
  have hle := okb.le
  refine z_aload_n (j := 0) dX8_keyAt_0 rfl ?_
  refine z_aload_n (j := 0) dX8_keyAt_1 rfl ?_
  refine z_iload_n (j := 1) dX8_keyAt_2 rfl ?_
  refine z_kV [.int p] 0 0 kc ks yoX8_isBucket yvX8_isBucket rfl (by decide) lX8_346 (by omega) mW_obj rfl rfl (Nat.le_of_ble_eq_true rfl) (Nat.le_of_ble_eq_true rfl) dX8_keyAt_3 (by omega) (by omega) (z_room (by omega) (Nat.le_refl _) (Nat.le_refl _) (r_isBucket (d := 0) hb hV ⟨rfl, ?_⟩))
  refine z_if_ne (tgt := 13) dX8_keyAt_6 (by decide) (fun czq6 => ?_) (fun czq6 => ?_)
  · have ep := bI_n.mp czq6
    obtain ⟨i, hk1, hi9, rfl, hix⟩ := iO_yes 0 (B - 1) (by omega) (by omega) ep
    have hiB : i < B := by omega
    have ep : bkO ((B, H, T, K, V, c), sv, Sn, k, hi, L, x, ek, eo, rl, rb) (nI i) = true := ep
    refine z_iconst (v := 0) dX8_keyAt_13 (by decide) ?_
    refine z_kV [.int 0] 0 0 kc ks yoX8_throwsOne yvX8_throwsOne rfl (by decide) lX8_315 (by omega) mW_obj rfl rfl (Nat.le_of_ble_eq_true rfl) (Nat.le_of_ble_eq_true rfl) dX8_keyAt_14 (by omega) (by omega) (z_room (by omega) (Nat.le_refl _) (Nat.le_refl _) (w_throws1_0 (d := 0) hb ⟨rfl, ?_⟩))
    refine z_if_eq (tgt := 24) dX8_keyAt_17 (by decide) (fun czq17 => ?_) (fun czq17 => absurd rfl czq17)
    refine z_aload_n (j := 0) dX8_keyAt_24 rfl ?_
    refine z_iload_n (j := 1) dX8_keyAt_25 rfl ?_
    refine z_kV [.int ((nI i))] 0 0 kc ks yoX8_key yvX8_key rfl (by decide) lX8_71 (by omega) mW_obj rfl rfl (Nat.le_of_ble_eq_true rfl) (Nat.le_of_ble_eq_true rfl) dX8_keyAt_26 (by omega) (by omega) (z_room (by omega) (Nat.le_refl _) (Nat.le_refl _) (r_key (d := 0) hb hV hiB ⟨rfl, ?_⟩))
    exact z_iret rfl dX8_keyAt_29 (by
        exact hq 0 _ _ _ _ (by unfold f_keyAt; rw [if_pos ep, hix]) hM.th (by rw [up_eq]))
  · refine z_iconst (v := 1) dX8_keyAt_9 (by decide) ?_
    refine z_goto (tgt := 14) dX8_keyAt_10 (by decide) ?_
    refine z_kV [.int 1] 0 0 kc ks yoX8_throwsOne yvX8_throwsOne rfl (by decide) lX8_315 (by omega) mW_obj rfl rfl (Nat.le_of_ble_eq_true rfl) (Nat.le_of_ble_eq_true rfl) dX8_keyAt_14 (by omega) (by omega) (z_room (by omega) (Nat.le_refl _) (Nat.le_refl _) (w_throws1_1 (d := 0) hb ⟨rfl, ?_⟩))
    refine z_if_eq (tgt := 24) dX8_keyAt_17 (by decide) (fun czq17 => absurd czq17 (by decide)) (fun czq17 => ?_)
    refine z_iconst (v := 0) dX8_keyAt_20 (by decide) ?_
    refine z_goto (tgt := 29) dX8_keyAt_21 (by decide) ?_
    exact z_iret rfl dX8_keyAt_29 (hq 1 0 _ _ _ (by unfold f_keyAt; exact if_neg (bI_0.mp czq6)) hM.th (by rw [up_eq]))

set_option maxHeartbeats 4000000 in
set_option maxRecDepth 100000 in
theorem R_hopBits {l : zL} {d kc ks n b : Nat} {h : Nat → va_E} {s : Nat → Int32} {a : Nat → Nat → Int32} {g : zGs} {Q : zQ} {p : Int32} (hb : b + 14 ≤ n) (hM : mI g s a) (hq : ∀ t v g' s' a', f_hopBits g p = (t, v, g') → mI g' s' a' → s' 20 = t → Q (.inl (some (.int v))) n (mW h b s' a')) : Zj l mX8_hopBits (d + 12) kc ks 0 [(0, .ref b), (1, .int p)] [] n (mW h b s a) Q := by
  obtain ⟨⟨B, H, T, K, V, c⟩, sv, Sn, k, hi, L, x, ek, eo, rl, rb⟩ := g
  obtain ⟨hT, h11, hsv, hsn, hk8, h9, hhi, hL, h14, ha9, hx256, h16, h17, hrl, h19, ha11, hrb⟩ := id hM
  obtain ⟨hV, ⟨hI, hd3, h3⟩, e3⟩ := id hT
  obtain ⟨okb, h2H, hH6, h1T, hT99, e0, e1, e2, ek_, ev_, ekv, ez⟩ := id hV
  have hle := okb.le
  refine z_aload_n (j := 0) dX8_hopBits_0 rfl ?_
  refine z_aload_n (j := 0) dX8_hopBits_1 rfl ?_
  refine z_iload_n (j := 1) dX8_hopBits_2 rfl ?_
  refine z_kV [.int p] 0 0 kc ks yoX8_isBucket yvX8_isBucket rfl (by decide) lX8_346 (by omega) mW_obj rfl rfl (Nat.le_of_ble_eq_true rfl) (Nat.le_of_ble_eq_true rfl) dX8_hopBits_3 (by omega) (by omega) (z_room (by omega) (Nat.le_refl _) (Nat.le_refl _) (r_isBucket (d := 0) hb hV ⟨rfl, ?_⟩))
  refine z_if_ne (tgt := 13) dX8_hopBits_6 (by decide) (fun czq6 => ?_) (fun czq6 => ?_)
  · have ep := bI_n.mp czq6
    obtain ⟨i, hk1, hi9, rfl, hix⟩ := iO_yes 0 (B - 1) (by omega) (by omega) ep
    have hiB : i < B := by omega
    have ep : bkO ((B, H, T, K, V, c), sv, Sn, k, hi, L, x, ek, eo, rl, rb) (nI i) = true := ep
    refine z_iconst (v := 0) dX8_hopBits_13 (by decide) ?_
    refine z_kV [.int 0] 0 0 kc ks yoX8_throwsOne yvX8_throwsOne rfl (by decide) lX8_315 (by omega) mW_obj rfl rfl (Nat.le_of_ble_eq_true rfl) (Nat.le_of_ble_eq_true rfl) dX8_hopBits_14 (by omega) (by omega) (z_room (by omega) (Nat.le_refl _) (Nat.le_refl _) (w_throws1_0 (d := 0) hb ⟨rfl, ?_⟩))
    refine z_if_eq (tgt := 24) dX8_hopBits_17 (by decide) (fun czq17 => ?_) (fun czq17 => absurd rfl czq17)
    refine z_aload_n (j := 0) dX8_hopBits_24 rfl ?_
    refine z_iload_n (j := 1) dX8_hopBits_25 rfl ?_
    refine z_kV [.int ((nI i))] 0 0 kc ks yoX8_hops yvX8_hops rfl (by decide) lX8_349 (by omega) mW_obj rfl rfl (Nat.le_of_ble_eq_true rfl) (Nat.le_of_ble_eq_true rfl) dX8_hopBits_26 (by omega) (by omega) (z_room (by omega) (Nat.le_refl _) (Nat.le_refl _) (r_hops (d := 0) hb hV hiB ⟨rfl, ?_⟩))
    exact z_iret rfl dX8_hopBits_29 (by
        exact hq 0 _ _ _ _ (by unfold f_hopBits; rw [if_pos ep, hix]) hM.th (by rw [up_eq]))
  · refine z_iconst (v := 1) dX8_hopBits_9 (by decide) ?_
    refine z_goto (tgt := 14) dX8_hopBits_10 (by decide) ?_
    refine z_kV [.int 1] 0 0 kc ks yoX8_throwsOne yvX8_throwsOne rfl (by decide) lX8_315 (by omega) mW_obj rfl rfl (Nat.le_of_ble_eq_true rfl) (Nat.le_of_ble_eq_true rfl) dX8_hopBits_14 (by omega) (by omega) (z_room (by omega) (Nat.le_refl _) (Nat.le_refl _) (w_throws1_1 (d := 0) hb ⟨rfl, ?_⟩))
    refine z_if_eq (tgt := 24) dX8_hopBits_17 (by decide) (fun czq17 => absurd czq17 (by decide)) (fun czq17 => ?_)
    refine z_iconst (v := 0) dX8_hopBits_20 (by decide) ?_
    refine z_goto (tgt := 29) dX8_hopBits_21 (by decide) ?_
    exact z_iret rfl dX8_hopBits_29 (hq 1 0 _ _ _ (by unfold f_hopBits; exact if_neg (bI_0.mp czq6)) hM.th (by rw [up_eq]))

set_option maxHeartbeats 4000000 in
set_option maxRecDepth 100000 in
theorem R_freeDistance {l : zL} {d kc ks n b : Nat} {h : Nat → va_E} {s : Nat → Int32} {a : Nat → Nat → Int32} {g : zGs} {Q : zQ} {p : Int32} (hb : b + 14 ≤ n) (hM : mI g s a) (hq : ∀ t v g' s' a', f_freeDistance g p = (t, v, g') → mI g' s' a' → s' 20 = t → Q (.inl (some (.int v))) n (mW h b s' a')) : Zj l mX8_freeDistance (d + 12) kc ks 0 [(0, .ref b), (1, .int p)] [] n (mW h b s a) Q := by
  obtain ⟨⟨B, H, T, K, V, c⟩, sv, Sn, k, hi, L, x, ek, eo, rl, rb⟩ := g
  obtain ⟨hT, h11, hsv, hsn, hk8, h9, hhi, hL, h14, ha9, hx256, h16, h17, hrl, h19, ha11, hrb⟩ := id hM
  obtain ⟨hV, ⟨hI, hd3, h3⟩, e3⟩ := id hT
  obtain ⟨okb, h2H, hH6, h1T, hT99, e0, e1, e2, ek_, ev_, ekv, ez⟩ := id hV
  have hle := okb.le
  refine z_aload_n (j := 0) dX8_freeDistance_0 rfl ?_
  refine z_aload_n (j := 0) dX8_freeDistance_1 rfl ?_
  refine z_iload_n (j := 1) dX8_freeDistance_2 rfl ?_
  refine z_kV [.int p] 0 0 kc ks yoX8_isBucket yvX8_isBucket rfl (by decide) lX8_346 (by omega) mW_obj rfl rfl (Nat.le_of_ble_eq_true rfl) (Nat.le_of_ble_eq_true rfl) dX8_freeDistance_3 (by omega) (by omega) (z_room (by omega) (Nat.le_refl _) (Nat.le_refl _) (r_isBucket (d := 0) hb hV ⟨rfl, ?_⟩))
  refine z_if_ne (tgt := 13) dX8_freeDistance_6 (by decide) (fun czq6 => ?_) (fun czq6 => ?_)
  · have ep := bI_n.mp czq6
    obtain ⟨i, hk1, hi9, rfl, hix⟩ := iO_yes 0 (B - 1) (by omega) (by omega) ep
    have hiB : i < B := by omega
    have ep : bkO ((B, H, T, K, V, c), sv, Sn, k, hi, L, x, ek, eo, rl, rb) (nI i) = true := ep
    refine z_iconst (v := 0) dX8_freeDistance_13 (by decide) ?_
    refine z_kV [.int 0] 0 0 kc ks yoX8_throwsOne yvX8_throwsOne rfl (by decide) lX8_315 (by omega) mW_obj rfl rfl (Nat.le_of_ble_eq_true rfl) (Nat.le_of_ble_eq_true rfl) dX8_freeDistance_14 (by omega) (by omega) (z_room (by omega) (Nat.le_refl _) (Nat.le_refl _) (w_throws1_0 (d := 0) hb ⟨rfl, ?_⟩))
    refine z_if_eq (tgt := 24) dX8_freeDistance_17 (by decide) (fun czq17 => ?_) (fun czq17 => absurd rfl czq17)
    refine z_aload_n (j := 0) dX8_freeDistance_24 rfl ?_
    refine z_iload_n (j := 1) dX8_freeDistance_25 rfl ?_
    refine z_kV [.int ((nI i))] 0 0 kc ks yoX8_freeFrom yvX8_freeFrom rfl (by decide) lX8_100 (by omega) mW_obj rfl rfl (Nat.le_of_ble_eq_true rfl) (Nat.le_of_ble_eq_true rfl) dX8_freeDistance_26 (by omega) (by omega) (z_room (by omega) (Nat.le_refl _) (Nat.le_refl _) (r_freeFrom (d := 0) hb hV hiB ⟨rfl, ?_⟩))
    exact z_iret rfl dX8_freeDistance_29 (by
        exact hq 0 _ _ _ _ (by unfold f_freeDistance; rw [if_pos ep, hix]) hM.th (by rw [up_eq]))
  · refine z_iconst (v := 1) dX8_freeDistance_9 (by decide) ?_
    refine z_goto (tgt := 14) dX8_freeDistance_10 (by decide) ?_
    refine z_kV [.int 1] 0 0 kc ks yoX8_throwsOne yvX8_throwsOne rfl (by decide) lX8_315 (by omega) mW_obj rfl rfl (Nat.le_of_ble_eq_true rfl) (Nat.le_of_ble_eq_true rfl) dX8_freeDistance_14 (by omega) (by omega) (z_room (by omega) (Nat.le_refl _) (Nat.le_refl _) (w_throws1_1 (d := 0) hb ⟨rfl, ?_⟩))
    refine z_if_eq (tgt := 24) dX8_freeDistance_17 (by decide) (fun czq17 => absurd czq17 (by decide)) (fun czq17 => ?_)
    refine z_iconst (v := 0) dX8_freeDistance_20 (by decide) ?_
    refine z_goto (tgt := 29) dX8_freeDistance_21 (by decide) ?_
    exact z_iret rfl dX8_freeDistance_29 (hq 1 0 _ _ _ (by unfold f_freeDistance; exact if_neg (bI_0.mp czq6)) hM.th (by rw [up_eq]))

set_option maxHeartbeats 4000000 in
set_option maxRecDepth 100000 in
theorem R_entriesOf {l : zL} {d kc ks n b : Nat} {h : Nat → va_E} {s : Nat → Int32} {a : Nat → Nat → Int32} {g : zGs} {Q : zQ} {p : Int32} (hb : b + 14 ≤ n) (hM : mI g s a) (hq : ∀ t v g' s' a', f_entriesOf g p = (t, v, g') → mI g' s' a' → s' 20 = t → Q (.inl (some (.int v))) n (mW h b s' a')) : Zj l mX8_entriesOf (d + 12) kc ks 0 [(0, .ref b), (1, .int p)] [] n (mW h b s a) Q := by
  obtain ⟨⟨B, H, T, K, V, c⟩, sv, Sn, k, hi, L, x, ek, eo, rl, rb⟩ := g
  obtain ⟨hT, h11, hsv, hsn, hk8, h9, hhi, hL, h14, ha9, hx256, h16, h17, hrl, h19, ha11, hrb⟩ := id hM
  obtain ⟨hV, ⟨hI, hd3, h3⟩, e3⟩ := id hT
  obtain ⟨okb, h2H, hH6, h1T, hT99, e0, e1, e2, ek_, ev_, ekv, ez⟩ := id hV
  have hle := okb.le
  refine z_aload_n (j := 0) dX8_entriesOf_0 rfl ?_
  refine z_aload_n (j := 0) dX8_entriesOf_1 rfl ?_
  refine z_iload_n (j := 1) dX8_entriesOf_2 rfl ?_
  refine z_kV [.int p] 0 0 kc ks yoX8_isBucket yvX8_isBucket rfl (by decide) lX8_346 (by omega) mW_obj rfl rfl (Nat.le_of_ble_eq_true rfl) (Nat.le_of_ble_eq_true rfl) dX8_entriesOf_3 (by omega) (by omega) (z_room (by omega) (Nat.le_refl _) (Nat.le_refl _) (r_isBucket (d := 0) hb hV ⟨rfl, ?_⟩))
  refine z_if_ne (tgt := 13) dX8_entriesOf_6 (by decide) (fun czq6 => ?_) (fun czq6 => ?_)
  · have ep := bI_n.mp czq6
    obtain ⟨i, hk1, hi9, rfl, hix⟩ := iO_yes 0 (B - 1) (by omega) (by omega) ep
    have hiB : i < B := by omega
    have ep : bkO ((B, H, T, K, V, c), sv, Sn, k, hi, L, x, ek, eo, rl, rb) (nI i) = true := ep
    refine z_iconst (v := 0) dX8_entriesOf_13 (by decide) ?_
    refine z_kV [.int 0] 0 0 kc ks yoX8_throwsOne yvX8_throwsOne rfl (by decide) lX8_315 (by omega) mW_obj rfl rfl (Nat.le_of_ble_eq_true rfl) (Nat.le_of_ble_eq_true rfl) dX8_entriesOf_14 (by omega) (by omega) (z_room (by omega) (Nat.le_refl _) (Nat.le_refl _) (w_throws1_0 (d := 0) hb ⟨rfl, ?_⟩))
    refine z_if_eq (tgt := 24) dX8_entriesOf_17 (by decide) (fun czq17 => ?_) (fun czq17 => absurd rfl czq17)
    refine z_aload_n (j := 0) dX8_entriesOf_24 rfl ?_
    refine z_iload_n (j := 1) dX8_entriesOf_25 rfl ?_
    refine z_kV [.int ((nI i))] 0 0 kc ks yoX8_manyOf yvX8_manyOf rfl (by decide) lX8_352 (by omega) mW_obj rfl rfl (Nat.le_of_ble_eq_true rfl) (Nat.le_of_ble_eq_true rfl) dX8_entriesOf_26 (by omega) (by omega) (z_room (by omega) (Nat.le_refl _) (Nat.le_refl _) (r_manyOf (d := 0) hb hV hiB ⟨rfl, ?_⟩))
    exact z_iret rfl dX8_entriesOf_29 (by
        rw [manN_cntH okb hH6 hI hiB]
        exact hq 0 _ _ _ _ (by unfold f_entriesOf; rw [if_pos ep, hix]) hM.th (by rw [up_eq]))
  · refine z_iconst (v := 1) dX8_entriesOf_9 (by decide) ?_
    refine z_goto (tgt := 14) dX8_entriesOf_10 (by decide) ?_
    refine z_kV [.int 1] 0 0 kc ks yoX8_throwsOne yvX8_throwsOne rfl (by decide) lX8_315 (by omega) mW_obj rfl rfl (Nat.le_of_ble_eq_true rfl) (Nat.le_of_ble_eq_true rfl) dX8_entriesOf_14 (by omega) (by omega) (z_room (by omega) (Nat.le_refl _) (Nat.le_refl _) (w_throws1_1 (d := 0) hb ⟨rfl, ?_⟩))
    refine z_if_eq (tgt := 24) dX8_entriesOf_17 (by decide) (fun czq17 => absurd czq17 (by decide)) (fun czq17 => ?_)
    refine z_iconst (v := 0) dX8_entriesOf_20 (by decide) ?_
    refine z_goto (tgt := 29) dX8_entriesOf_21 (by decide) ?_
    exact z_iret rfl dX8_entriesOf_29 (hq 1 0 _ _ _ (by unfold f_entriesOf; exact if_neg (bI_0.mp czq6)) hM.th (by rw [up_eq]))

set_option maxHeartbeats 4000000 in
set_option maxRecDepth 100000 in
theorem R_valueAt {l : zL} {d kc ks n b : Nat} {h : Nat → va_E} {s : Nat → Int32} {a : Nat → Nat → Int32} {g : zGs} {Q : zQ} {p : Int32} (hb : b + 14 ≤ n) (hM : mI g s a) (hq : ∀ t v g' s' a', f_valueAt g p = (t, v, g') → mI g' s' a' → s' 20 = t → Q (.inl (some (.int v))) n (mW h b s' a')) : Zj l mX8_valueAt (d + 12) kc ks 0 [(0, .ref b), (1, .int p)] [] n (mW h b s a) Q := by
  obtain ⟨⟨B, H, T, K, V, c⟩, sv, Sn, k, hi, L, x, ek, eo, rl, rb⟩ := g
  obtain ⟨hT, h11, hsv, hsn, hk8, h9, hhi, hL, h14, ha9, hx256, h16, h17, hrl, h19, ha11, hrb⟩ := id hM
  obtain ⟨hV, ⟨hI, hd3, h3⟩, e3⟩ := id hT
  obtain ⟨okb, h2H, hH6, h1T, hT99, e0, e1, e2, ek_, ev_, ekv, ez⟩ := id hV
  have hle := okb.le
  refine z_aload_n (j := 0) dX8_valueAt_0 rfl ?_
  refine z_aload_n (j := 0) dX8_valueAt_1 rfl ?_
  refine z_iload_n (j := 1) dX8_valueAt_2 rfl ?_
  refine z_kV [.int p] 0 0 kc ks yoX8_isBucket yvX8_isBucket rfl (by decide) lX8_346 (by omega) mW_obj rfl rfl (Nat.le_of_ble_eq_true rfl) (Nat.le_of_ble_eq_true rfl) dX8_valueAt_3 (by omega) (by omega) (z_room (by omega) (Nat.le_refl _) (Nat.le_refl _) (r_isBucket (d := 0) hb hV ⟨rfl, ?_⟩))
  refine z_if_ne (tgt := 13) dX8_valueAt_6 (by decide) (fun czq6 => ?_) (fun czq6 => ?_)
  · have ep := bI_n.mp czq6
    obtain ⟨i, hk1, hi9, rfl, hix⟩ := iO_yes 0 (B - 1) (by omega) (by omega) ep
    have hiB : i < B := by omega
    have ep : bkO ((B, H, T, K, V, c), sv, Sn, k, hi, L, x, ek, eo, rl, rb) (nI i) = true := ep
    refine z_iconst (v := 0) dX8_valueAt_13 (by decide) ?_
    refine z_kV [.int 0] 0 0 kc ks yoX8_throwsOne yvX8_throwsOne rfl (by decide) lX8_315 (by omega) mW_obj rfl rfl (Nat.le_of_ble_eq_true rfl) (Nat.le_of_ble_eq_true rfl) dX8_valueAt_14 (by omega) (by omega) (z_room (by omega) (Nat.le_refl _) (Nat.le_refl _) (w_throws1_0 (d := 0) hb ⟨rfl, ?_⟩))
    refine z_if_eq (tgt := 24) dX8_valueAt_17 (by decide) (fun czq17 => ?_) (fun czq17 => absurd rfl czq17)
    refine z_aload_n (j := 0) dX8_valueAt_24 rfl ?_
    refine z_iload_n (j := 1) dX8_valueAt_25 rfl ?_
    refine z_kV [.int ((nI i))] 0 0 kc ks yoX8_isFree yvX8_isFree rfl (by decide) lX8_82 (by omega) mW_obj rfl rfl (Nat.le_of_ble_eq_true rfl) (Nat.le_of_ble_eq_true rfl) dX8_valueAt_26 (by omega) (by omega) (z_room (by omega) (Nat.le_refl _) (Nat.le_refl _) (r_isFree (d := 0) hb hV hiB ⟨rfl, ?_⟩))
    refine z_if_eq (tgt := 36) dX8_valueAt_29 (by decide) (fun czq29 => ?_) (fun czq29 => ?_)
    · refine z_aload_n (j := 0) dX8_valueAt_36 rfl ?_
      refine z_get (v := .ref (b + 1)) (by omega) mW_obj fX8_7 rfl dX8_valueAt_37 ?_
      refine z_bipush (v := 73) dX8_valueAt_40 (by decide) ?_
      refine z_iload_n (j := 1) dX8_valueAt_42 rfl ?_
      refine z_iadd dX8_valueAt_43 ?_
      refine m_aldN 0 137 (73 + i) (by decide) rfl rfl hb (nI_add 73 _) (by omega) (by decide) dX8_valueAt_44 ?_
      exact z_iret rfl dX8_valueAt_45 (by
          have hK : ¬ K i = 0 := bI_0.mp czq29
          rw [ev_ i (by omega)]
          exact hq 0 _ _ _ _ (by unfold f_valueAt; rw [if_pos ep, hix]; simp only [tval, if_neg hK]) hM.th (by rw [up_eq]))
    · refine z_iconst (v := (-1)) dX8_valueAt_32 (by decide) ?_
      refine z_goto (tgt := 45) dX8_valueAt_33 (by decide) ?_
      exact z_iret rfl dX8_valueAt_45 (by
          have hK : K i = 0 := bI_n.mp czq29
          exact hq 0 _ _ _ _ (by unfold f_valueAt; rw [if_pos ep, hix]; simp only [tval, if_pos hK]) hM.th (by rw [up_eq]))
  · refine z_iconst (v := 1) dX8_valueAt_9 (by decide) ?_
    refine z_goto (tgt := 14) dX8_valueAt_10 (by decide) ?_
    refine z_kV [.int 1] 0 0 kc ks yoX8_throwsOne yvX8_throwsOne rfl (by decide) lX8_315 (by omega) mW_obj rfl rfl (Nat.le_of_ble_eq_true rfl) (Nat.le_of_ble_eq_true rfl) dX8_valueAt_14 (by omega) (by omega) (z_room (by omega) (Nat.le_refl _) (Nat.le_refl _) (w_throws1_1 (d := 0) hb ⟨rfl, ?_⟩))
    refine z_if_eq (tgt := 24) dX8_valueAt_17 (by decide) (fun czq17 => absurd czq17 (by decide)) (fun czq17 => ?_)
    refine z_iconst (v := 0) dX8_valueAt_20 (by decide) ?_
    refine z_goto (tgt := 45) dX8_valueAt_21 (by decide) ?_
    exact z_iret rfl dX8_valueAt_45 (hq 1 0 _ _ _ (by unfold f_valueAt; exact if_neg (bI_0.mp czq6)) hM.th (by rw [up_eq]))

set_option maxHeartbeats 4000000 in
set_option maxRecDepth 100000 in
theorem R_entryCount {l : zL} {d kc ks n b : Nat} {h : Nat → va_E} {s : Nat → Int32} {a : Nat → Nat → Int32} {g : zGs} {Q : zQ} (hb : b + 14 ≤ n) (hM : mI g s a) (hq : ∀ t v g' s' a', f_entryCount g = (t, v, g') → mI g' s' a' → s' 20 = t → Q (.inl (some (.int v))) n (mW h b s' a')) : Zj l mX8_entryCount (d + 12) kc ks 0 [(0, .ref b)] [] n (mW h b s a) Q := by
  obtain ⟨⟨B, H, T, K, V, c⟩, sv, Sn, k, hi, L, x, ek, eo, rl, rb⟩ := g
  obtain ⟨hT, h11, hsv, hsn, hk8, h9, hhi, hL, h14, ha9, hx256, h16, h17, hrl, h19, ha11, hrb⟩ := id hM
  obtain ⟨hV, ⟨hI, hd3, h3⟩, e3⟩ := id hT
  obtain ⟨okb, h2H, hH6, h1T, hT99, e0, e1, e2, ek_, ev_, ekv, ez⟩ := id hV
  have hle := okb.le
  refine z_aload_n (j := 0) dX8_entryCount_0 rfl ?_
  refine z_iconst (v := 0) dX8_entryCount_1 (by decide) ?_
  refine m_put (k := 20) (by omega) fX8_64 (by unfold mS; omega) (by decide) dX8_entryCount_2 ?_
  refine z_aload_n (j := 0) dX8_entryCount_5 rfl ?_
  refine z_kV [] 0 0 kc ks yoX8_entries yvX8_entries rfl (by decide) lX8_148 (by omega) mW_obj rfl rfl (Nat.le_of_ble_eq_true rfl) (Nat.le_of_ble_eq_true rfl) dX8_entryCount_6 (by omega) (by omega) (z_room (by omega) (Nat.le_refl _) (Nat.le_refl _) (r_entries (d := 0) hb hV ⟨rfl, ?_⟩))
  exact z_iret rfl dX8_entryCount_9 (hq 0 _ _ _ _ rfl hM.th (by rw [up_eq]))

set_option maxHeartbeats 4000000 in
set_option maxRecDepth 100000 in
theorem R_sumOfDistances {l : zL} {d kc ks n b : Nat} {h : Nat → va_E} {s : Nat → Int32} {a : Nat → Nat → Int32} {g : zGs} {Q : zQ} (hb : b + 14 ≤ n) (hM : mI g s a) (hq : ∀ t v g' s' a', f_sumOfDistances g = (t, v, g') → mI g' s' a' → s' 20 = t → Q (.inl (some (.int v))) n (mW h b s' a')) : Zj l mX8_sumOfDistances (d + 12) kc ks 0 [(0, .ref b)] [] n (mW h b s a) Q := by
  obtain ⟨⟨B, H, T, K, V, c⟩, sv, Sn, k, hi, L, x, ek, eo, rl, rb⟩ := g
  obtain ⟨hT, h11, hsv, hsn, hk8, h9, hhi, hL, h14, ha9, hx256, h16, h17, hrl, h19, ha11, hrb⟩ := id hM
  obtain ⟨hV, ⟨hI, hd3, h3⟩, e3⟩ := id hT
  obtain ⟨okb, h2H, hH6, h1T, hT99, e0, e1, e2, ek_, ev_, ekv, ez⟩ := id hV
  have hle := okb.le
  refine z_aload_n (j := 0) dX8_sumOfDistances_0 rfl ?_
  refine z_iconst (v := 0) dX8_sumOfDistances_1 (by decide) ?_
  refine m_put (k := 20) (by omega) fX8_64 (by unfold mS; omega) (by decide) dX8_sumOfDistances_2 ?_
  refine z_aload_n (j := 0) dX8_sumOfDistances_5 rfl ?_
  refine z_kV [] 0 0 kc ks yoX8_offTogether yvX8_offTogether rfl (by decide) lX8_358 (by omega) mW_obj rfl rfl (Nat.le_of_ble_eq_true rfl) (Nat.le_of_ble_eq_true rfl) dX8_sumOfDistances_6 (by omega) (by omega) (z_room (by omega) (Nat.le_refl _) (Nat.le_refl _) (r_offTogether (d := 0) hb hV ⟨rfl, ?_⟩))
  exact z_iret rfl dX8_sumOfDistances_9 (hq 0 _ _ _ _ rfl hM.th (by rw [up_eq]))
