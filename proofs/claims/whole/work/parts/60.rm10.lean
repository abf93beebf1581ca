set_option maxHeartbeats 4000000 in
set_option maxRecDepth 100000 in
theorem r_rows_l {l : zL} {d kc ks n b H T key step count : Nat} {h : Nat → va_E} {Q : zQ} {x7 : Int32} (hb : b + 14 ≤ n) (hks : ∀ i, i < count → key + i * step ≤ 9999) (hct : count ≤ 20) : ∀ m i j (B : Nat) (K V : Nat → Nat) (s : Nat → Int32) (a : Nat → Nat → Int32), i + m = count → mV B H T K V (a 0) → a 0 7 = x7 + nI j → j ≤ i → (∀ s' a', rowR H T step m (key + i * step) j B K V (a 0 4) (a 0 6) = none → (∀ k, k ≠ 10 → s' k = s k) → (∀ q, q ≠ 0 → q ≠ 3 → q ≠ 4 → q ≠ 7 → q ≠ 8 → a' q = a q) → Q (.inl (some (.int (-1)))) n (mW h b s' a')) → (∀ j' B' K' V' c' x' s' a', rowR H T step m (key + i * step) j B K V (a 0 4) (a 0 6) = some (j', B', K', V', c', x') → mV B' H T K' V' (a' 0) → a' 0 4 = c' → a' 0 6 = x' → a' 0 7 = x7 + nI j' → (∀ k, k < 9 → k ≠ 0 → k ≠ 4 → k ≠ 6 → k ≠ 7 → a' 0 k = a 0 k) → (∀ k, k ≠ 10 → s' k = s k) → (∀ q, q ≠ 0 → q ≠ 3 → q ≠ 4 → q ≠ 7 → q ≠ 8 → a' q = a q) → Q (.inl (some (.int (nI j')))) n (mW h b s' a')) → Zj l mX8_rows (d + 7) kc ks 6 [(0, .ref b), (1, .int ((nI key))), (2, .int ((nI step))), (3, .int ((nI count))), (4, .int ((nI j))), (5, .int ((nI i)))] [] n (mW h b s a) Q := by
  intro m
  induction m with
  | zero =>
    intro i j B K V s a hi hM h7 hji hqN hqS
    refine z_iload (j := 5) dX8_rows_6 rfl ?_
    refine z_iload_n (j := 3) dX8_rows_8 rfl ?_
    refine z_icmp_ge (tgt := 52) dX8_rows_9 (by decide) (fun c_9 => ?_) (fun c_9 => absurd (nI_le (by omega) (by omega)) c_9)
    refine z_iload (j := 4) dX8_rows_52 rfl ?_
    exact z_iret rfl dX8_rows_54 (hqS j B K V (a 0 4) (a 0 6) s a rfl hM rfl rfl h7 (fun _ _ _ _ _ _ => rfl) (fun _ _ => rfl) (fun _ _ _ _ _ _ => rfl))
  | succ m ih =>
    intro i j B K V s a hi hM h7' hji hqN hqS
    obtain ⟨okb, h2H, hH6, h1T, hT99, e0, e1, e2, ek, ev, ekv, ez⟩ := id hM
    have hle := okb.le
    have hki := hks i (by omega)
    refine z_iload (j := 5) dX8_rows_6 rfl ?_
    refine z_iload_n (j := 3) dX8_rows_8 rfl ?_
    refine z_icmp_ge (tgt := 52) dX8_rows_9 (by decide) (fun c_9 => absurd c_9 (nI_ge (by omega) (by omega))) (fun c_9 => ?_)
    refine z_aload_n (j := 0) dX8_rows_12 rfl ?_
    refine z_iload_n (j := 1) dX8_rows_13 rfl ?_
    refine z_iload (j := 5) dX8_rows_14 rfl ?_
    refine z_iload_n (j := 2) dX8_rows_16 rfl ?_
    refine z_imul dX8_rows_17 ?_
    refine z_iadd dX8_rows_18 ?_
    rw [show nI key + nI i * nI step = nI (key + i * step) from by rw [pk_mul, nI_add]]
    refine z_cV [.int ((nI (key + i * step)))] (some (.int ((optI (bwS B K (key + i * step)))))) yoX8_bucketWith yvX8_bucketWith rfl (by decide) lX8_129 (by omega) mW_obj rfl rfl (Nat.le_of_ble_eq_true rfl) (Nat.le_of_ble_eq_true rfl) dX8_rows_19 (z_room (by omega) (Nat.le_refl _) (Nat.le_refl _) (r_bucketWith (d := 0) hb hM hki ⟨rfl, rfl, rfl⟩)) ?_
    rcases hbw : bwS B K (key + i * step) with _ | bk0
    · rw [show optI none = -1 from rfl]
      refine z_iconst (v := (-1)) dX8_rows_22 (by decide) ?_
      refine z_icmp_ne (tgt := 46) dX8_rows_23 (by decide) (fun c_23 => absurd rfl c_23) (fun c_23 => ?_)
      refine z_aload_n (j := 0) dX8_rows_26 rfl ?_
      refine z_iload_n (j := 1) dX8_rows_27 rfl ?_
      refine z_iload (j := 5) dX8_rows_28 rfl ?_
      refine z_iload_n (j := 2) dX8_rows_30 rfl ?_
      refine z_imul dX8_rows_31 ?_
      refine z_iadd dX8_rows_32 ?_
      rw [show nI key + nI i * nI step = nI (key + i * step) from by rw [pk_mul, nI_add]]
      refine z_iconst (v := 0) dX8_rows_33 (by decide) ?_
      rcases hif1 : insR B H T K V (a 0 4) (key + i * step) 0 with _ | ⟨bk1, B1, K1, V1, c1⟩
      · refine z_cVx [.int (nI (key + i * step)), .int 0] (some (.int (-1))) (fun g => ∃ s' a', g = mW h b s' a' ∧ (∀ i, i < 137 → a' 0 i = a 0 i) ∧ (∀ k, k ≠ 10 → s' k = s k) ∧ (∀ q, q ≠ 0 → q ≠ 3 → q ≠ 4 → q ≠ 7 → q ≠ 8 → a' q = a q)) yoX8_adds yvX8_adds rfl (by decide) lX8_132 (by omega) mW_obj rfl rfl (Nat.le_of_ble_eq_true rfl) (Nat.le_of_ble_eq_true rfl) dX8_rows_34 (z_room (by omega) (Nat.le_refl _) (Nat.le_refl _) (r_adds (d := 0) (key := (key + i * step)) (v := 0) hb hM hki (by decide) (fun s' a' e h1 h2 h3 => ⟨rfl, rfl, s', a', rfl, h1, h2, h3⟩) (fun bk' B' K' V' c' s' a' e h1 h2 h3 h4 h5 h6 h7 h8 => by rw [hif1] at e; cases e))) (fun g hg => ?_)
        obtain ⟨s1, a1, rfl, hd1, hs1, hr1⟩ := hg
        refine z_iconst (v := (-1)) dX8_rows_37 (by decide) ?_
        refine z_icmp_ne (tgt := 43) dX8_rows_38 (by decide) (fun c_38 => absurd rfl c_38) (fun c_38 => ?_)
        refine z_iconst (v := (-1)) dX8_rows_41 (by decide) ?_
        exact z_iret rfl dX8_rows_42 (hqN s1 a1 (rowR_no hbw hif1) hs1 hr1)
      · refine z_cVx [.int (nI (key + i * step)), .int 0] (some (.int (nI bk1))) (fun g => ∃ s' a', g = mW h b s' a' ∧ mV B1 H T K1 V1 (a' 0) ∧ bk1 < B1 ∧ a' 0 4 = c1 ∧ a' 0 6 = a 0 6 + nI (dbl B1 4 B) ∧ a' 0 7 = a 0 7 + 1 ∧ (∀ k, k < 9 → k ≠ 0 → k ≠ 4 → k ≠ 6 → k ≠ 7 → a' 0 k = a 0 k) ∧ (∀ k, k ≠ 10 → s' k = s k) ∧ (∀ q, q ≠ 0 → q ≠ 3 → q ≠ 4 → q ≠ 7 → q ≠ 8 → a' q = a q)) yoX8_adds yvX8_adds rfl (by decide) lX8_132 (by omega) mW_obj rfl rfl (Nat.le_of_ble_eq_true rfl) (Nat.le_of_ble_eq_true rfl) dX8_rows_34 (z_room (by omega) (Nat.le_refl _) (Nat.le_refl _) (r_adds (d := 0) (key := (key + i * step)) (v := 0) hb hM hki (by decide) (fun s' a' e h1 h2 h3 => by rw [hif1] at e; cases e) (fun bk' B' K' V' c' s' a' e h1 h2 h3 h4 h5 h6 h7 h8 => by
            rw [hif1] at e
            cases e
            exact ⟨rfl, rfl, s', a', rfl, h1, h2, h3, h4, h5, h6, h7, h8⟩))) (fun g hg => ?_)
        obtain ⟨s1, a1, rfl, hM1, hbk1, h41, h61, h71, h91, hs1, hr1⟩ := hg
        have hle1 := hM1.1.le
        refine z_iconst (v := (-1)) dX8_rows_37 (by decide) ?_
        refine z_icmp_ne (tgt := 43) dX8_rows_38 (by decide) (fun c_38 => ?_) (fun c_38 => absurd c_38 (nI_neg1 (by omega)))
        skip
        refine z_iinc ((nI (j + 1))) [1, 2, 3, 4, 0, 5] [(0, .ref b), (1, .int ((nI key))), (2, .int ((nI step))), (3, .int ((nI count))), (4, .int ((nI (j + 1)))), (5, .int ((nI i)))] dX8_rows_43 (j := 4) rfl (nI_1 j) (by decide) rfl ?_
        skip
        refine z_iinc ((nI (i + 1))) [1, 2, 3, 4, 5, 0] [(0, .ref b), (1, .int ((nI key))), (2, .int ((nI step))), (3, .int ((nI count))), (4, .int ((nI (j + 1)))), (5, .int ((nI (i + 1))))] dX8_rows_46 (j := 5) rfl (nI_1 i) (by decide) rfl ?_
        refine z_goto (tgt := 6) dX8_rows_49 (by decide) ?_
        have hgr : rowR H T step (m + 1) (key + i * step) j B K V (a 0 4) (a 0 6) = rowR H T step m (key + (i + 1) * step) (j + 1) B1 K1 V1 (a1 0 4) (a1 0 6) := by rw [rowR_yes hbw hif1, h41, h61, show key + (i + 1) * step = key + i * step + step by rw [Nat.add_mul]; omega]
        refine ih (i + 1) (j + 1) B1 K1 V1 s1 a1 (by omega) hM1 (by rw [h71, h7', Int32.add_assoc, nI_1]) (by omega) (fun s' a' e h1 h2 => hqN s' a' (hgr.trans e) (fun k k10 => (h1 k k10).trans (hs1 k k10)) (fun q q0 q3 q4 q7 q8 => (h2 q q0 q3 q4 q7 q8).trans (hr1 q q0 q3 q4 q7 q8))) (fun j' B' K' V' c' x' s' a' e h1 h2 h3 h4 h5 h6 h8 => hqS j' B' K' V' c' x' s' a' (hgr.trans e) h1 h2 h3 h4 (fun k hk k0 k4 k6 k7 => (h5 k hk k0 k4 k6 k7).trans (h91 k hk k0 k4 k6 k7)) (fun k k10 => (h6 k k10).trans (hs1 k k10)) (fun q q0 q3 q4 q7 q8 => (h8 q q0 q3 q4 q7 q8).trans (hr1 q q0 q3 q4 q7 q8)))
    · rw [show optI (some bk0) = nI bk0 from rfl]
      obtain ⟨hbB, hKb⟩ := bwS_lt hbw
      refine z_iconst (v := (-1)) dX8_rows_22 (by decide) ?_
      refine z_icmp_ne (tgt := 46) dX8_rows_23 (by decide) (fun c_23 => ?_) (fun c_23 => absurd c_23 (nI_neg1 (by omega)))
      skip
      refine z_iinc ((nI (i + 1))) [1, 2, 3, 4, 5, 0] [(0, .ref b), (1, .int ((nI key))), (2, .int ((nI step))), (3, .int ((nI count))), (4, .int ((nI j))), (5, .int ((nI (i + 1))))] dX8_rows_46 (j := 5) rfl (nI_1 i) (by decide) rfl ?_
      refine z_goto (tgt := 6) dX8_rows_49 (by decide) ?_
      have hgr : rowR H T step (m + 1) (key + i * step) j B K V (a 0 4) (a 0 6) = rowR H T step m (key + (i + 1) * step) j B K V (a 0 4) (a 0 6) := by rw [rowR_in hbw, show key + (i + 1) * step = key + i * step + step by rw [Nat.add_mul]; omega]
      exact ih (i + 1) j B K V s a (by omega) hM h7' (by omega) (fun s' a' e => hqN s' a' (hgr.trans e)) (fun j' B' K' V' c' x' s' a' e => hqS j' B' K' V' c' x' s' a' (hgr.trans e))

set_option maxHeartbeats 4000000 in
set_option maxRecDepth 100000 in
theorem r_rows {l : zL} {d kc ks n b B H T : Nat} {h : Nat → va_E} {K V : Nat → Nat} {s : Nat → Int32} {a : Nat → Nat → Int32} {Q : zQ} {key step count : Nat} (hb : b + 14 ≤ n) (hM : mV B H T K V (a 0)) (hks : ∀ i, i < count → key + i * step ≤ 9999) (hct : count ≤ 20) (hqN : ∀ s' a', rowR H T step count key 0 B K V (a 0 4) (a 0 6) = none → (∀ k, k ≠ 10 → s' k = s k) → (∀ q, q ≠ 0 → q ≠ 3 → q ≠ 4 → q ≠ 7 → q ≠ 8 → a' q = a q) → Q (.inl (some (.int (-1)))) n (mW h b s' a')) (hqS : ∀ j' B' K' V' c' x' s' a', rowR H T step count key 0 B K V (a 0 4) (a 0 6) = some (j', B', K', V', c', x') → mV B' H T K' V' (a' 0) → a' 0 4 = c' → a' 0 6 = x' → a' 0 7 = a 0 7 + nI j' → (∀ k, k < 9 → k ≠ 0 → k ≠ 4 → k ≠ 6 → k ≠ 7 → a' 0 k = a 0 k) → (∀ k, k ≠ 10 → s' k = s k) → (∀ q, q ≠ 0 → q ≠ 3 → q ≠ 4 → q ≠ 7 → q ≠ 8 → a' q = a q) → Q (.inl (some (.int (nI j')))) n (mW h b s' a')) : Zj l mX8_rows (d + 7) kc ks 0 [(0, .ref b), (1, .int ((nI key))), (2, .int ((nI step))), (3, .int ((nI count)))] [] n (mW h b s a) Q := by
  refine z_iconst (v := 0) dX8_rows_0 (by decide) ?_
  refine z_istore [1, 2, 3, 4, 0] [(0, .ref b), (1, .int ((nI key))), (2, .int ((nI step))), (3, .int ((nI count))), (4, .int 0)] dX8_rows_1 (by decide) rfl ?_
  refine z_iconst (v := 0) dX8_rows_3 (by decide) ?_
  refine z_istore [1, 2, 3, 4, 5, 0] [(0, .ref b), (1, .int ((nI key))), (2, .int ((nI step))), (3, .int ((nI count))), (4, .int 0), (5, .int 0)] dX8_rows_4 (by decide) rfl ?_
  have e0 : key + 0 * step = key := by omega
  refine r_rows_l (x7 := a 0 7) hb hks hct count 0 0 B K V s a (by omega) hM (by rw [show nI 0 = 0 from rfl, Int32.add_zero]) (Nat.le_refl _) ?_ ?_
  · rw [e0]; exact hqN
  · rw [e0]; exact hqS
