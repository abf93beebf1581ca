set_option maxHeartbeats 4000000 in
set_option maxRecDepth 100000 in
theorem r_canGrow {l : zL} {d kc ks n b B H T : Nat} {h : Nat → va_E} {K V : Nat → Nat} {s : Nat → Int32} {a : Nat → Nat → Int32} {Q : zQ} (hb : b + 14 ≤ n) (hM : mV B H T K V (a 0)) (hq : ∀ s' a', (∀ i, i < 137 → a' 0 i = a 0 i) → (∀ k, k ≠ 10 → s' k = s k) → (∀ q, q ≠ 0 → q ≠ 2 → q ≠ 3 → q ≠ 4 → q ≠ 7 → q ≠ 8 → a' q = a q) → Q (.inl (some (.int (oI (rbR H T (entL K V B) (wid B)))))) n (mW h b s' a')) : Zj l mX8_canGrow (d + 7) kc ks 0 [(0, .ref b)] [] n (mW h b s a) Q := by
  obtain ⟨okb, h2H, hH6, h1T, hT99, e0, e1, e2, ek, ev, ekv, ez⟩ := id hM
  have hle := okb.le
  refine z_aload_n (j := 0) dX8_canGrow_0 rfl ?_
  refine z_aload_n (j := 0) dX8_canGrow_1 rfl ?_
  refine z_get (v := .ref (b + 1)) (by omega) mW_obj fX8_7 rfl dX8_canGrow_2 ?_
  refine z_aload_n (j := 0) dX8_canGrow_5 rfl ?_
  refine z_get (v := .ref (b + 3)) (by omega) mW_obj fX8_16 rfl dX8_canGrow_6 ?_
  refine z_cVx [.ref (b + 1), .ref (b + 3)] none (fun g => ∃ a', g = mW h b s a' ∧ (∀ i, i < 137 → a' 2 i = a 0 i) ∧ (∀ q, q ≠ 2 → a' q = a q)) yoX8_copies yvX8_copies rfl (by decide) lX8_96 (by omega) mW_obj rfl rfl (Nat.le_of_ble_eq_true rfl) (Nat.le_of_ble_eq_true rfl) dX8_canGrow_9 (z_room (by omega) (Nat.le_refl _) (Nat.le_refl _) (r_copies (d := 0) (j := 0) (j2 := 2) hb (by decide) rfl rfl (by decide) rfl rfl (by decide) (fun a' h1 h2 => ⟨rfl, rfl, a', rfl, h1, h2⟩))) (fun g hg => ?_)
  obtain ⟨a1, rfl, hd1, hr1⟩ := hg
  have h10 : a1 0 = a 0 := hr1 0 (by decide)
  have hM1 : mV B H T K V (a1 0) := by rw [h10]; exact hM
  refine z_aload_n (j := 0) dX8_canGrow_12 rfl ?_
  refine z_iconst (v := 2) dX8_canGrow_13 (by decide) ?_
  refine z_aload_n (j := 0) dX8_canGrow_14 rfl ?_
  refine z_get (v := .ref (b + 1)) (by omega) mW_obj fX8_7 rfl dX8_canGrow_15 ?_
  refine z_iconst (v := 0) dX8_canGrow_18 (by decide) ?_
  refine m_aldN 0 137 0 (by decide) rfl rfl hb rfl (by omega) (by decide) dX8_canGrow_19 ?_
  refine z_imul dX8_canGrow_20 ?_
  rw [show 2 * a1 0 0 = nI (2 ^ (7 - (wid B))) from by rw [(wid_2 okb).2, h10, e0, show (2 : Int32) = nI 2 from rfl, pk_mul]]
  rcases hrb2 : rbR H T (entL K V B) (wid B) with _ | ⟨B2, K2, V2, c2⟩
  · refine z_cVx [.int (nI (2 ^ (7 - (wid B))))] (some (.int 0)) (fun g => ∃ s' a', g = mW h b s' a' ∧ (∀ k, k ≠ 10 → s' k = s k) ∧ (∀ q, q ≠ 0 → q ≠ 4 → q ≠ 7 → q ≠ 8 → a' q = a1 q)) yoX8_rebuilds yvX8_rebuilds rfl (by decide) lX8_142 (by omega) mW_obj rfl rfl (Nat.le_of_ble_eq_true rfl) (Nat.le_of_ble_eq_true rfl) dX8_canGrow_21 (z_room (by omega) (Nat.le_refl _) (Nat.le_refl _) (r_rebuilds (d := 0) hb hM1 (by have := (wid_2 okb).1; omega) (fun s' a' e h1 h2 => ⟨rfl, rfl, s', a', rfl, h1, h2⟩) (fun B' K' V' c' s' a' e h1 h2 h3 h4 h5 h6 => by rw [hrb2] at e; cases e))) (fun g hg => ?_)
    obtain ⟨s2, a2, rfl, hs2, hr2⟩ := hg
    refine z_istore_n [1, 0] [(0, .ref b), (1, .int 0)] dX8_canGrow_24 (by decide) rfl ?_
    refine z_aload_n (j := 0) dX8_canGrow_25 rfl ?_
    refine z_aload_n (j := 0) dX8_canGrow_26 rfl ?_
    refine z_get (v := .ref (b + 3)) (by omega) mW_obj fX8_16 rfl dX8_canGrow_27 ?_
    refine z_aload_n (j := 0) dX8_canGrow_30 rfl ?_
    refine z_get (v := .ref (b + 1)) (by omega) mW_obj fX8_7 rfl dX8_canGrow_31 ?_
    refine z_cVx [.ref (b + 3), .ref (b + 1)] none (fun g => ∃ a', g = mW h b s2 a' ∧ (∀ i, i < 137 → a' 0 i = a2 2 i) ∧ (∀ q, q ≠ 0 → a' q = a2 q)) yoX8_copies yvX8_copies rfl (by decide) lX8_96 (by omega) mW_obj rfl rfl (Nat.le_of_ble_eq_true rfl) (Nat.le_of_ble_eq_true rfl) dX8_canGrow_34 (z_room (by omega) (Nat.le_refl _) (Nat.le_refl _) (r_copies (d := 0) (j := 2) (j2 := 0) hb (by decide) rfl rfl (by decide) rfl rfl (by decide) (fun a' h1 h2 => ⟨rfl, rfl, a', rfl, h1, h2⟩))) (fun g hg => ?_)
    obtain ⟨a3, rfl, hd3, hr3⟩ := hg
    refine z_iload_n (j := 1) dX8_canGrow_37 rfl ?_
    exact z_zret rfl rfl dX8_canGrow_38 (by
        rw [show rbR H T (entL K V B) (wid B) = none from hrb2] at hq
        exact hq s2 a3 (fun i hi => by rw [hd3 i hi, hr2 2 (by decide) (by decide) (by decide) (by decide), hd1 i hi]) hs2 (fun q q0 q2 q3 q4 q7 q8 => by rw [hr3 q q0, hr2 q q0 q4 q7 q8, hr1 q q2]))
  · refine z_cVx [.int (nI (2 ^ (7 - (wid B))))] (some (.int 1)) (fun g => ∃ s' a', g = mW h b s' a' ∧ mV B2 H T K2 V2 (a' 0) ∧ a' 0 4 = c2 ∧ a' 0 6 = a1 0 6 + nI (dbl B2 4 B) ∧ (∀ k, k < 9 → k ≠ 0 → k ≠ 4 → k ≠ 6 → a' 0 k = a1 0 k) ∧ (∀ k, k ≠ 10 → s' k = s k) ∧ (∀ q, q ≠ 0 → q ≠ 4 → q ≠ 7 → q ≠ 8 → a' q = a1 q)) yoX8_rebuilds yvX8_rebuilds rfl (by decide) lX8_142 (by omega) mW_obj rfl rfl (Nat.le_of_ble_eq_true rfl) (Nat.le_of_ble_eq_true rfl) dX8_canGrow_21 (z_room (by omega) (Nat.le_refl _) (Nat.le_refl _) (r_rebuilds (d := 0) hb hM1 (by have := (wid_2 okb).1; omega) (fun s' a' e h1 h2 => by rw [hrb2] at e; cases e) (fun B' K' V' c' s' a' e h1 h2 h3 h4 h5 h6 => by
        rw [hrb2] at e
        cases e
        exact ⟨rfl, rfl, s', a', rfl, h1, h2, h3, h4, h5, h6⟩))) (fun g hg => ?_)
    obtain ⟨s2, a2, rfl, hM2, h42, h62, h92, hs2, hr2⟩ := hg
    refine z_istore_n [1, 0] [(0, .ref b), (1, .int 1)] dX8_canGrow_24 (by decide) rfl ?_
    refine z_aload_n (j := 0) dX8_canGrow_25 rfl ?_
    refine z_aload_n (j := 0) dX8_canGrow_26 rfl ?_
    refine z_get (v := .ref (b + 3)) (by omega) mW_obj fX8_16 rfl dX8_canGrow_27 ?_
    refine z_aload_n (j := 0) dX8_canGrow_30 rfl ?_
    refine z_get (v := .ref (b + 1)) (by omega) mW_obj fX8_7 rfl dX8_canGrow_31 ?_
    refine z_cVx [.ref (b + 3), .ref (b + 1)] none (fun g => ∃ a', g = mW h b s2 a' ∧ (∀ i, i < 137 → a' 0 i = a2 2 i) ∧ (∀ q, q ≠ 0 → a' q = a2 q)) yoX8_copies yvX8_copies rfl (by decide) lX8_96 (by omega) mW_obj rfl rfl (Nat.le_of_ble_eq_true rfl) (Nat.le_of_ble_eq_true rfl) dX8_canGrow_34 (z_room (by omega) (Nat.le_refl _) (Nat.le_refl _) (r_copies (d := 0) (j := 2) (j2 := 0) hb (by decide) rfl rfl (by decide) rfl rfl (by decide) (fun a' h1 h2 => ⟨rfl, rfl, a', rfl, h1, h2⟩))) (fun g hg => ?_)
    obtain ⟨a3, rfl, hd3, hr3⟩ := hg
    refine z_iload_n (j := 1) dX8_canGrow_37 rfl ?_
    exact z_zret rfl rfl dX8_canGrow_38 (by
        rw [show rbR H T (entL K V B) (wid B) = some (B2, K2, V2, c2) from hrb2] at hq
        exact hq s2 a3 (fun i hi => by rw [hd3 i hi, hr2 2 (by decide) (by decide) (by decide) (by decide), hd1 i hi]) hs2 (fun q q0 q2 q3 q4 q7 q8 => by rw [hr3 q q0, hr2 q q0 q4 q7 q8, hr1 q q2]))

set_option maxHeartbeats 4000000 in
set_option maxRecDepth 100000 in
theorem r_grows {l : zL} {d kc ks n b B H T : Nat} {h : Nat → va_E} {K V : Nat → Nat} {s : Nat → Int32} {a : Nat → Nat → Int32} {Q : zQ} (hb : b + 14 ≤ n) (hM : mV B H T K V (a 0)) (hqF : ∀ r s' a', rbR H T (entL K V B) (wid B) = none → (∀ k, k ≠ 10 → s' k = s k) → (∀ q, q ≠ 0 → q ≠ 4 → q ≠ 7 → q ≠ 8 → a' q = a q) → Q (.inl (some (.int r))) n (mW h b s' a')) (hqT : ∀ B' K' V' c' s' a', rbR H T (entL K V B) (wid B) = some (B', K', V', c') → mV B' H T K' V' (a' 0) → a' 0 4 = c' → a' 0 6 = a 0 6 + nI (dbl B' 4 B) → (∀ k, k < 9 → k ≠ 0 → k ≠ 4 → k ≠ 6 → a' 0 k = a 0 k) → (∀ k, k ≠ 10 → s' k = s k) → (∀ q, q ≠ 0 → q ≠ 4 → q ≠ 7 → q ≠ 8 → a' q = a q) → Q (.inl (some (.int (nI B')))) n (mW h b s' a')) : Zj l mX8_grows (d + 7) kc ks 0 [(0, .ref b)] [] n (mW h b s a) Q := by
  obtain ⟨okb, h2H, hH6, h1T, hT99, e0, e1, e2, ek, ev, ekv, ez⟩ := id hM
  have hle := okb.le
  refine z_aload_n (j := 0) dX8_grows_0 rfl ?_
  refine z_iconst (v := 2) dX8_grows_1 (by decide) ?_
  refine z_aload_n (j := 0) dX8_grows_2 rfl ?_
  refine z_get (v := .ref (b + 1)) (by omega) mW_obj fX8_7 rfl dX8_grows_3 ?_
  refine z_iconst (v := 0) dX8_grows_6 (by decide) ?_
  refine m_aldN 0 137 0 (by decide) rfl rfl hb rfl (by omega) (by decide) dX8_grows_7 ?_
  refine z_imul dX8_grows_8 ?_
  rw [show 2 * a 0 0 = nI (2 ^ (7 - (wid B))) from by rw [(wid_2 okb).2, e0, show (2 : Int32) = nI 2 from rfl, pk_mul]]
  rcases hrb1 : rbR H T (entL K V B) (wid B) with _ | ⟨B1, K1, V1, c1⟩
  · refine z_cVx [.int (nI (2 ^ (7 - (wid B))))] (some (.int 0)) (fun g => ∃ s' a', g = mW h b s' a' ∧ (∀ k, k ≠ 10 → s' k = s k) ∧ (∀ q, q ≠ 0 → q ≠ 4 → q ≠ 7 → q ≠ 8 → a' q = a q)) yoX8_rebuilds yvX8_rebuilds rfl (by decide) lX8_142 (by omega) mW_obj rfl rfl (Nat.le_of_ble_eq_true rfl) (Nat.le_of_ble_eq_true rfl) dX8_grows_9 (z_room (by omega) (Nat.le_refl _) (Nat.le_refl _) (r_rebuilds (d := 0) hb hM (by have := (wid_2 okb).1; omega) (fun s' a' e h1 h2 => ⟨rfl, rfl, s', a', rfl, h1, h2⟩) (fun B' K' V' c' s' a' e h1 h2 h3 h4 h5 h6 => by rw [hrb1] at e; cases e))) (fun g hg => ?_)
    obtain ⟨s1, a1, rfl, hs1, hr1⟩ := hg
    refine z_pop rfl dX8_grows_12 ?_
    refine z_aload_n (j := 0) dX8_grows_13 rfl ?_
    refine z_get (v := .ref (b + 1)) (by omega) mW_obj fX8_7 rfl dX8_grows_14 ?_
    refine z_iconst (v := 0) dX8_grows_17 (by decide) ?_
    refine m_aldN 0 137 0 (by decide) rfl rfl hb rfl (by omega) (by decide) dX8_grows_18 ?_
    exact z_iret rfl dX8_grows_19 (hqF _ s1 a1 hrb1 hs1 hr1)
  · refine z_cVx [.int (nI (2 ^ (7 - (wid B))))] (some (.int 1)) (fun g => ∃ s' a', g = mW h b s' a' ∧ mV B1 H T K1 V1 (a' 0) ∧ a' 0 4 = c1 ∧ a' 0 6 = a 0 6 + nI (dbl B1 4 B) ∧ (∀ k, k < 9 → k ≠ 0 → k ≠ 4 → k ≠ 6 → a' 0 k = a 0 k) ∧ (∀ k, k ≠ 10 → s' k = s k) ∧ (∀ q, q ≠ 0 → q ≠ 4 → q ≠ 7 → q ≠ 8 → a' q = a q)) yoX8_rebuilds yvX8_rebuilds rfl (by decide) lX8_142 (by omega) mW_obj rfl rfl (Nat.le_of_ble_eq_true rfl) (Nat.le_of_ble_eq_true rfl) dX8_grows_9 (z_room (by omega) (Nat.le_refl _) (Nat.le_refl _) (r_rebuilds (d := 0) hb hM (by have := (wid_2 okb).1; omega) (fun s' a' e h1 h2 => by rw [hrb1] at e; cases e) (fun B' K' V' c' s' a' e h1 h2 h3 h4 h5 h6 => by
        rw [hrb1] at e
        cases e
        exact ⟨rfl, rfl, s', a', rfl, h1, h2, h3, h4, h5, h6⟩))) (fun g hg => ?_)
    obtain ⟨s1, a1, rfl, hM1, h41, h61, h91, hs1, hr1⟩ := hg
    refine z_pop rfl dX8_grows_12 ?_
    refine z_aload_n (j := 0) dX8_grows_13 rfl ?_
    refine z_get (v := .ref (b + 1)) (by omega) mW_obj fX8_7 rfl dX8_grows_14 ?_
    refine z_iconst (v := 0) dX8_grows_17 (by decide) ?_
    refine m_aldN 0 137 0 (by decide) rfl rfl hb rfl (by omega) (by decide) dX8_grows_18 ?_
    exact z_iret rfl dX8_grows_19 (by
        rw [hM1.2.2.2.2.2.1]
        exact hqT B1 K1 V1 c1 s1 a1 hrb1 hM1 h41 h61 h91 hs1 hr1)

set_option maxHeartbeats 4000000 in
set_option maxRecDepth 100000 in
theorem r_canReset1 {l : zL} {d kc ks n b B H T : Nat} {h : Nat → va_E} {K V : Nat → Nat} {s : Nat → Int32} {a : Nat → Nat → Int32} {Q : zQ} {H2 : Nat} (hb : b + 14 ≤ n) (hM : mV B H T K V (a 0)) (hlo : 2 ≤ H2) (hhi : H2 ≤ 6) (hq : ∀ s' a', (∀ i, i < 137 → a' 0 i = a 0 i) → (∀ k, k ≠ 10 → s' k = s k) → (∀ q, q ≠ 0 → q ≠ 2 → q ≠ 3 → q ≠ 4 → q ≠ 7 → q ≠ 8 → a' q = a q) → Q (.inl (some (.int (oI (rbR H2 T (entL K V B) (wid B + 1)))))) n (mW h b s' a')) : Zj l mX8_canReset (d + 8) kc ks 0 [(0, .ref b), (1, .int 1), (2, .int ((nI H2)))] [] n (mW h b s a) Q := by
  obtain ⟨okb, h2H, hH6, h1T, hT99, e0, e1, e2, ek, ev, ekv, ez⟩ := id hM
  have hle := okb.le
  refine z_aload_n (j := 0) dX8_canReset_0 rfl ?_
  refine z_aload_n (j := 0) dX8_canReset_1 rfl ?_
  refine z_get (v := .ref (b + 1)) (by omega) mW_obj fX8_7 rfl dX8_canReset_2 ?_
  refine z_aload_n (j := 0) dX8_canReset_5 rfl ?_
  refine z_get (v := .ref (b + 3)) (by omega) mW_obj fX8_16 rfl dX8_canReset_6 ?_
  refine z_cVx [.ref (b + 1), .ref (b + 3)] none (fun g => ∃ a', g = mW h b s a' ∧ (∀ i, i < 137 → a' 2 i = a 0 i) ∧ (∀ q, q ≠ 2 → a' q = a q)) yoX8_copies yvX8_copies rfl (by decide) lX8_96 (by omega) mW_obj rfl rfl (Nat.le_of_ble_eq_true rfl) (Nat.le_of_ble_eq_true rfl) dX8_canReset_9 (z_room (by omega) (Nat.le_refl _) (Nat.le_refl _) (r_copies (d := 0) (j := 0) (j2 := 2) hb (by decide) rfl rfl (by decide) rfl rfl (by decide) (fun a' h1 h2 => ⟨rfl, rfl, a', rfl, h1, h2⟩))) (fun g hg => ?_)
  obtain ⟨a1, rfl, hd1, hr1⟩ := hg
  have h10 : a1 0 = a 0 := hr1 0 (by decide)
  have hM1 : mV B H T K V (a1 0) := by rw [h10]; exact hM
  refine z_aload_n (j := 0) dX8_canReset_12 rfl ?_
  refine z_iload_n (j := 1) dX8_canReset_13 rfl ?_
  refine z_iload_n (j := 2) dX8_canReset_14 rfl ?_
  rcases hrb2 : rbR H2 T (entL K V B) (wid B + 1) with _ | ⟨B2, K2, V2, c2⟩
  · refine z_cVx [.int 1, .int (nI H2)] (some (.int 0)) (fun g => ∃ s' a', g = mW h b s' a' ∧ (∀ k, k ≠ 10 → s' k = s k) ∧ (∀ q, q ≠ 0 → q ≠ 4 → q ≠ 7 → q ≠ 8 → a' q = a1 q)) yoX8_resets yvX8_resets rfl (by decide) lX8_145 (by omega) mW_obj rfl rfl (Nat.le_of_ble_eq_true rfl) (Nat.le_of_ble_eq_true rfl) dX8_canReset_15 (z_room (by omega) (Nat.le_refl _) (Nat.le_refl _) (r_resets1 (d := 0) hb hM1 hlo hhi (fun s' a' e h1 h2 => ⟨rfl, rfl, s', a', rfl, h1, h2⟩) (fun B' K' V' c' s' a' e h1 h2 h3 h4 h5 h6 => by rw [hrb2] at e; cases e))) (fun g hg => ?_)
    obtain ⟨s2, a2, rfl, hs2, hr2⟩ := hg
    refine z_istore_n [1, 2, 3, 0] [(0, .ref b), (1, .int 1), (2, .int ((nI H2))), (3, .int 0)] dX8_canReset_18 (by decide) rfl ?_
    refine z_aload_n (j := 0) dX8_canReset_19 rfl ?_
    refine z_aload_n (j := 0) dX8_canReset_20 rfl ?_
    refine z_get (v := .ref (b + 3)) (by omega) mW_obj fX8_16 rfl dX8_canReset_21 ?_
    refine z_aload_n (j := 0) dX8_canReset_24 rfl ?_
    refine z_get (v := .ref (b + 1)) (by omega) mW_obj fX8_7 rfl dX8_canReset_25 ?_
    refine z_cVx [.ref (b + 3), .ref (b + 1)] none (fun g => ∃ a', g = mW h b s2 a' ∧ (∀ i, i < 137 → a' 0 i = a2 2 i) ∧ (∀ q, q ≠ 0 → a' q = a2 q)) yoX8_copies yvX8_copies rfl (by decide) lX8_96 (by omega) mW_obj rfl rfl (Nat.le_of_ble_eq_true rfl) (Nat.le_of_ble_eq_true rfl) dX8_canReset_28 (z_room (by omega) (Nat.le_refl _) (Nat.le_refl _) (r_copies (d := 0) (j := 2) (j2 := 0) hb (by decide) rfl rfl (by decide) rfl rfl (by decide) (fun a' h1 h2 => ⟨rfl, rfl, a', rfl, h1, h2⟩))) (fun g hg => ?_)
    obtain ⟨a3, rfl, hd3, hr3⟩ := hg
    refine z_iload_n (j := 3) dX8_canReset_31 rfl ?_
    exact z_zret rfl rfl dX8_canReset_32 (by
        rw [show rbR H2 T (entL K V B) (wid B + 1) = none from hrb2] at hq
        exact hq s2 a3 (fun i hi => by rw [hd3 i hi, hr2 2 (by decide) (by decide) (by decide) (by decide), hd1 i hi]) hs2 (fun q q0 q2 q3 q4 q7 q8 => by rw [hr3 q q0, hr2 q q0 q4 q7 q8, hr1 q q2]))
  · refine z_cVx [.int 1, .int (nI H2)] (some (.int 1)) (fun g => ∃ s' a', g = mW h b s' a' ∧ (∀ k, k ≠ 10 → s' k = s k) ∧ (∀ q, q ≠ 0 → q ≠ 4 → q ≠ 7 → q ≠ 8 → a' q = a1 q)) yoX8_resets yvX8_resets rfl (by decide) lX8_145 (by omega) mW_obj rfl rfl (Nat.le_of_ble_eq_true rfl) (Nat.le_of_ble_eq_true rfl) dX8_canReset_15 (z_room (by omega) (Nat.le_refl _) (Nat.le_refl _) (r_resets1 (d := 0) hb hM1 hlo hhi (fun s' a' e h1 h2 => by rw [hrb2] at e; cases e) (fun B' K' V' c' s' a' e h1 h2 h3 h4 h5 h6 => by
        rw [hrb2] at e
        cases e
        exact ⟨rfl, rfl, s', a', rfl, h5, h6⟩))) (fun g hg => ?_)
    obtain ⟨s2, a2, rfl, hs2, hr2⟩ := hg
    refine z_istore_n [1, 2, 3, 0] [(0, .ref b), (1, .int 1), (2, .int ((nI H2))), (3, .int 1)] dX8_canReset_18 (by decide) rfl ?_
    refine z_aload_n (j := 0) dX8_canReset_19 rfl ?_
    refine z_aload_n (j := 0) dX8_canReset_20 rfl ?_
    refine z_get (v := .ref (b + 3)) (by omega) mW_obj fX8_16 rfl dX8_canReset_21 ?_
    refine z_aload_n (j := 0) dX8_canReset_24 rfl ?_
    refine z_get (v := .ref (b + 1)) (by omega) mW_obj fX8_7 rfl dX8_canReset_25 ?_
    refine z_cVx [.ref (b + 3), .ref (b + 1)] none (fun g => ∃ a', g = mW h b s2 a' ∧ (∀ i, i < 137 → a' 0 i = a2 2 i) ∧ (∀ q, q ≠ 0 → a' q = a2 q)) yoX8_copies yvX8_copies rfl (by decide) lX8_96 (by omega) mW_obj rfl rfl (Nat.le_of_ble_eq_true rfl) (Nat.le_of_ble_eq_true rfl) dX8_canReset_28 (z_room (by omega) (Nat.le_refl _) (Nat.le_refl _) (r_copies (d := 0) (j := 2) (j2 := 0) hb (by decide) rfl rfl (by decide) rfl rfl (by decide) (fun a' h1 h2 => ⟨rfl, rfl, a', rfl, h1, h2⟩))) (fun g hg => ?_)
    obtain ⟨a3, rfl, hd3, hr3⟩ := hg
    refine z_iload_n (j := 3) dX8_canReset_31 rfl ?_
    exact z_zret rfl rfl dX8_canReset_32 (by
        rw [show rbR H2 T (entL K V B) (wid B + 1) = some (B2, K2, V2, c2) from hrb2] at hq
        exact hq s2 a3 (fun i hi => by rw [hd3 i hi, hr2 2 (by decide) (by decide) (by decide) (by decide), hd1 i hi]) hs2 (fun q q0 q2 q3 q4 q7 q8 => by rw [hr3 q q0, hr2 q q0 q4 q7 q8, hr1 q q2]))

set_option maxHeartbeats 4000000 in
set_option maxRecDepth 100000 in
theorem r_canReset2 {l : zL} {d kc ks n b B H T : Nat} {h : Nat → va_E} {K V : Nat → Nat} {s : Nat → Int32} {a : Nat → Nat → Int32} {Q : zQ} {T2 : Nat} (hb : b + 14 ≤ n) (hM : mV B H T K V (a 0)) (hlo : 1 ≤ T2) (hhi : T2 ≤ 99) (hq : ∀ s' a', (∀ i, i < 137 → a' 0 i = a 0 i) → (∀ k, k ≠ 10 → s' k = s k) → (∀ q, q ≠ 0 → q ≠ 2 → q ≠ 3 → q ≠ 4 → q ≠ 7 → q ≠ 8 → a' q = a q) → Q (.inl (some (.int (oI (rbR H T2 (entL K V B) (wid B + 1)))))) n (mW h b s' a')) : Zj l mX8_canReset (d + 8) kc ks 0 [(0, .ref b), (1, .int 2), (2, .int ((nI T2)))] [] n (mW h b s a) Q := by
  obtain ⟨okb, h2H, hH6, h1T, hT99, e0, e1, e2, ek, ev, ekv, ez⟩ := id hM
  have hle := okb.le
  refine z_aload_n (j := 0) dX8_canReset_0 rfl ?_
  refine z_aload_n (j := 0) dX8_canReset_1 rfl ?_
  refine z_get (v := .ref (b + 1)) (by omega) mW_obj fX8_7 rfl dX8_canReset_2 ?_
  refine z_aload_n (j := 0) dX8_canReset_5 rfl ?_
  refine z_get (v := .ref (b + 3)) (by omega) mW_obj fX8_16 rfl dX8_canReset_6 ?_
  refine z_cVx [.ref (b + 1), .ref (b + 3)] none (fun g => ∃ a', g = mW h b s a' ∧ (∀ i, i < 137 → a' 2 i = a 0 i) ∧ (∀ q, q ≠ 2 → a' q = a q)) yoX8_copies yvX8_copies rfl (by decide) lX8_96 (by omega) mW_obj rfl rfl (Nat.le_of_ble_eq_true rfl) (Nat.le_of_ble_eq_true rfl) dX8_canReset_9 (z_room (by omega) (Nat.le_refl _) (Nat.le_refl _) (r_copies (d := 0) (j := 0) (j2 := 2) hb (by decide) rfl rfl (by decide) rfl rfl (by decide) (fun a' h1 h2 => ⟨rfl, rfl, a', rfl, h1, h2⟩))) (fun g hg => ?_)
  obtain ⟨a1, rfl, hd1, hr1⟩ := hg
  have h10 : a1 0 = a 0 := hr1 0 (by decide)
  have hM1 : mV B H T K V (a1 0) := by rw [h10]; exact hM
  refine z_aload_n (j := 0) dX8_canReset_12 rfl ?_
  refine z_iload_n (j := 1) dX8_canReset_13 rfl ?_
  refine z_iload_n (j := 2) dX8_canReset_14 rfl ?_
  rcases hrb2 : rbR H T2 (entL K V B) (wid B + 1) with _ | ⟨B2, K2, V2, c2⟩
  · refine z_cVx [.int 2, .int (nI T2)] (some (.int 0)) (fun g => ∃ s' a', g = mW h b s' a' ∧ (∀ k, k ≠ 10 → s' k = s k) ∧ (∀ q, q ≠ 0 → q ≠ 4 → q ≠ 7 → q ≠ 8 → a' q = a1 q)) yoX8_resets yvX8_resets rfl (by decide) lX8_145 (by omega) mW_obj rfl rfl (Nat.le_of_ble_eq_true rfl) (Nat.le_of_ble_eq_true rfl) dX8_canReset_15 (z_room (by omega) (Nat.le_refl _) (Nat.le_refl _) (r_resets2 (d := 0) hb hM1 hlo hhi (fun s' a' e h1 h2 => ⟨rfl, rfl, s', a', rfl, h1, h2⟩) (fun B' K' V' c' s' a' e h1 h2 h3 h4 h5 h6 => by rw [hrb2] at e; cases e))) (fun g hg => ?_)
    obtain ⟨s2, a2, rfl, hs2, hr2⟩ := hg
    refine z_istore_n [1, 2, 3, 0] [(0, .ref b), (1, .int 2), (2, .int ((nI T2))), (3, .int 0)] dX8_canReset_18 (by decide) rfl ?_
    refine z_aload_n (j := 0) dX8_canReset_19 rfl ?_
    refine z_aload_n (j := 0) dX8_canReset_20 rfl ?_
    refine z_get (v := .ref (b + 3)) (by omega) mW_obj fX8_16 rfl dX8_canReset_21 ?_
    refine z_aload_n (j := 0) dX8_canReset_24 rfl ?_
    refine z_get (v := .ref (b + 1)) (by omega) mW_obj fX8_7 rfl dX8_canReset_25 ?_
    refine z_cVx [.ref (b + 3), .ref (b + 1)] none (fun g => ∃ a', g = mW h b s2 a' ∧ (∀ i, i < 137 → a' 0 i = a2 2 i) ∧ (∀ q, q ≠ 0 → a' q = a2 q)) yoX8_copies yvX8_copies rfl (by decide) lX8_96 (by omega) mW_obj rfl rfl (Nat.le_of_ble_eq_true rfl) (Nat.le_of_ble_eq_true rfl) dX8_canReset_28 (z_room (by omega) (Nat.le_refl _) (Nat.le_refl _) (r_copies (d := 0) (j := 2) (j2 := 0) hb (by decide) rfl rfl (by decide) rfl rfl (by decide) (fun a' h1 h2 => ⟨rfl, rfl, a', rfl, h1, h2⟩))) (fun g hg => ?_)
    obtain ⟨a3, rfl, hd3, hr3⟩ := hg
    refine z_iload_n (j := 3) dX8_canReset_31 rfl ?_
    exact z_zret rfl rfl dX8_canReset_32 (by
        rw [show rbR H T2 (entL K V B) (wid B + 1) = none from hrb2] at hq
        exact hq s2 a3 (fun i hi => by rw [hd3 i hi, hr2 2 (by decide) (by decide) (by decide) (by decide), hd1 i hi]) hs2 (fun q q0 q2 q3 q4 q7 q8 => by rw [hr3 q q0, hr2 q q0 q4 q7 q8, hr1 q q2]))
  · refine z_cVx [.int 2, .int (nI T2)] (some (.int 1)) (fun g => ∃ s' a', g = mW h b s' a' ∧ (∀ k, k ≠ 10 → s' k = s k) ∧ (∀ q, q ≠ 0 → q ≠ 4 → q ≠ 7 → q ≠ 8 → a' q = a1 q)) yoX8_resets yvX8_resets rfl (by decide) lX8_145 (by omega) mW_obj rfl rfl (Nat.le_of_ble_eq_true rfl) (Nat.le_of_ble_eq_true rfl) dX8_canReset_15 (z_room (by omega) (Nat.le_refl _) (Nat.le_refl _) (r_resets2 (d := 0) hb hM1 hlo hhi (fun s' a' e h1 h2 => by rw [hrb2] at e; cases e) (fun B' K' V' c' s' a' e h1 h2 h3 h4 h5 h6 => by
        rw [hrb2] at e
        cases e
        exact ⟨rfl, rfl, s', a', rfl, h5, h6⟩))) (fun g hg => ?_)
    obtain ⟨s2, a2, rfl, hs2, hr2⟩ := hg
    refine z_istore_n [1, 2, 3, 0] [(0, .ref b), (1, .int 2), (2, .int ((nI T2))), (3, .int 1)] dX8_canReset_18 (by decide) rfl ?_
    refine z_aload_n (j := 0) dX8_canReset_19 rfl ?_
    refine z_aload_n (j := 0) dX8_canReset_20 rfl ?_
    refine z_get (v := .ref (b + 3)) (by omega) mW_obj fX8_16 rfl dX8_canReset_21 ?_
    refine z_aload_n (j := 0) dX8_canReset_24 rfl ?_
    refine z_get (v := .ref (b + 1)) (by omega) mW_obj fX8_7 rfl dX8_canReset_25 ?_
    refine z_cVx [.ref (b + 3), .ref (b + 1)] none (fun g => ∃ a', g = mW h b s2 a' ∧ (∀ i, i < 137 → a' 0 i = a2 2 i) ∧ (∀ q, q ≠ 0 → a' q = a2 q)) yoX8_copies yvX8_copies rfl (by decide) lX8_96 (by omega) mW_obj rfl rfl (Nat.le_of_ble_eq_true rfl) (Nat.le_of_ble_eq_true rfl) dX8_canReset_28 (z_room (by omega) (Nat.le_refl _) (Nat.le_refl _) (r_copies (d := 0) (j := 2) (j2 := 0) hb (by decide) rfl rfl (by decide) rfl rfl (by decide) (fun a' h1 h2 => ⟨rfl, rfl, a', rfl, h1, h2⟩))) (fun g hg => ?_)
    obtain ⟨a3, rfl, hd3, hr3⟩ := hg
    refine z_iload_n (j := 3) dX8_canReset_31 rfl ?_
    exact z_zret rfl rfl dX8_canReset_32 (by
        rw [show rbR H T2 (entL K V B) (wid B + 1) = some (B2, K2, V2, c2) from hrb2] at hq
        exact hq s2 a3 (fun i hi => by rw [hd3 i hi, hr2 2 (by decide) (by decide) (by decide) (by decide), hd1 i hi]) hs2 (fun q q0 q2 q3 q4 q7 q8 => by rw [hr3 q q0, hr2 q q0 q4 q7 q8, hr1 q q2]))

theorem rowR_jl {H T step : Nat} : ∀ m key j B K V c x j' B' K' V' c' x', rowR H T step m key j B K V c x = some (j', B', K', V', c', x') → j' ≤ j + m
  | 0, key, j, B, K, V, c, x, j', B', K', V', c', x', e => by simp [rowR] at e; omega
  | m + 1, key, j, B, K, V, c, x, j', B', K', V', c', x', e => by
    cases hb : bwS B K key with
    | some bk =>
      rw [rowR_in hb] at e
      have := rowR_jl m _ _ _ _ _ _ _ _ _ _ _ _ _ e
      omega
    | none =>
      cases hi : insR B H T K V c key 0 with
      | none => rw [rowR_no hb hi] at e; cases e
      | some q =>
        obtain ⟨bk, B1, K1, V1, c1⟩ := q
        rw [rowR_yes hb hi] at e
        have := rowR_jl m _ _ _ _ _ _ _ _ _ _ _ _ _ e
        omega
theorem rowR_j {H T step m key B : Nat} {K V : Nat → Nat} {c x : Int32} {j' B' : Nat} {K' V' : Nat → Nat} {c' x' : Int32} (e : rowR H T step m key 0 B K V c x = some (j', B', K', V', c', x')) : j' ≤ m := by
  have := rowR_jl m _ _ _ _ _ _ _ _ _ _ _ _ _ e
  omega

set_option maxHeartbeats 4000000 in
set_option maxRecDepth 100000 in
theorem r_canRow {l : zL} {d kc ks n b B H T : Nat} {h : Nat → va_E} {K V : Nat → Nat} {s : Nat → Int32} {a : Nat → Nat → Int32} {Q : zQ} {key step count : Nat} (hb : b + 14 ≤ n) (hM : mV B H T K V (a 0)) (hks : ∀ i, i < count → key + i * step ≤ 9999) (hct : count ≤ 20) (hq : ∀ s' a', (∀ i, i < 137 → a' 0 i = a 0 i) → (∀ k, k ≠ 10 → s' k = s k) → (∀ q, q ≠ 0 → q ≠ 2 → q ≠ 3 → q ≠ 4 → q ≠ 7 → q ≠ 8 → a' q = a q) → Q (.inl (some (.int (oI (rowR H T step count key 0 B K V (a 0 4) (a 0 6)))))) n (mW h b s' a')) : Zj l mX8_canRow (d + 8) kc ks 0 [(0, .ref b), (1, .int ((nI key))), (2, .int ((nI step))), (3, .int ((nI count)))] [] n (mW h b s a) Q := by
  obtain ⟨okb, h2H, hH6, h1T, hT99, e0, e1, e2, ek, ev, ekv, ez⟩ := id hM
  have hle := okb.le
  refine z_aload_n (j := 0) dX8_canRow_0 rfl ?_
  refine z_aload_n (j := 0) dX8_canRow_1 rfl ?_
  refine z_get (v := .ref (b + 1)) (by omega) mW_obj fX8_7 rfl dX8_canRow_2 ?_
  refine z_aload_n (j := 0) dX8_canRow_5 rfl ?_
  refine z_get (v := .ref (b + 3)) (by omega) mW_obj fX8_16 rfl dX8_canRow_6 ?_
  refine z_cVx [.ref (b + 1), .ref (b + 3)] none (fun g => ∃ a', g = mW h b s a' ∧ (∀ i, i < 137 → a' 2 i = a 0 i) ∧ (∀ q, q ≠ 2 → a' q = a q)) yoX8_copies yvX8_copies rfl (by decide) lX8_96 (by omega) mW_obj rfl rfl (Nat.le_of_ble_eq_true rfl) (Nat.le_of_ble_eq_true rfl) dX8_canRow_9 (z_room (by omega) (Nat.le_refl _) (Nat.le_refl _) (r_copies (d := 0) (j := 0) (j2 := 2) hb (by decide) rfl rfl (by decide) rfl rfl (by decide) (fun a' h1 h2 => ⟨rfl, rfl, a', rfl, h1, h2⟩))) (fun g hg => ?_)
  obtain ⟨a1, rfl, hd1, hr1⟩ := hg
  have h10 : a1 0 = a 0 := hr1 0 (by decide)
  have hM1 : mV B H T K V (a1 0) := by rw [h10]; exact hM
  refine z_aload_n (j := 0) dX8_canRow_12 rfl ?_
  refine z_iload_n (j := 1) dX8_canRow_13 rfl ?_
  refine z_iload_n (j := 2) dX8_canRow_14 rfl ?_
  refine z_iload_n (j := 3) dX8_canRow_15 rfl ?_
  rcases hrw : rowR H T step count key 0 B K V (a 0 4) (a 0 6) with _ | ⟨j2, B2, K2, V2, c2, x2⟩
  · refine z_cVx [.int (nI key), .int (nI step), .int (nI count)] (some (.int (-1))) (fun g => ∃ s' a', g = mW h b s' a' ∧ (∀ k, k ≠ 10 → s' k = s k) ∧ (∀ q, q ≠ 0 → q ≠ 3 → q ≠ 4 → q ≠ 7 → q ≠ 8 → a' q = a1 q)) yoX8_rows yvX8_rows rfl (by decide) lX8_135 (by omega) mW_obj rfl rfl (Nat.le_of_ble_eq_true rfl) (Nat.le_of_ble_eq_true rfl) dX8_canRow_16 (z_room (by omega) (Nat.le_refl _) (Nat.le_refl _) (r_rows (d := 0) hb hM1 hks hct (fun s' a' e h1 h2 => ⟨rfl, rfl, s', a', rfl, h1, h2⟩) (fun j' B' K' V' c' x' s' a' e h1 h2 h3 h4 h5 h6 h7 => by rw [h10] at e; rw [hrw] at e; cases e))) (fun g hg => ?_)
    obtain ⟨s2, a2, rfl, hs2, hr2⟩ := hg
    refine z_iconst (v := (-1)) dX8_canRow_19 (by decide) ?_
    refine z_icmp_eq (tgt := 27) dX8_canRow_20 (by decide) (fun c_20 => ?_) (fun c_20 => absurd rfl c_20)
    refine z_iconst (v := 0) dX8_canRow_27 (by decide) ?_
    refine z_istore [1, 2, 3, 4, 0] [(0, .ref b), (1, .int ((nI key))), (2, .int ((nI step))), (3, .int ((nI count))), (4, .int 0)] dX8_canRow_28 (by decide) rfl ?_
    refine z_aload_n (j := 0) dX8_canRow_30 rfl ?_
    refine z_aload_n (j := 0) dX8_canRow_31 rfl ?_
    refine z_get (v := .ref (b + 3)) (by omega) mW_obj fX8_16 rfl dX8_canRow_32 ?_
    refine z_aload_n (j := 0) dX8_canRow_35 rfl ?_
    refine z_get (v := .ref (b + 1)) (by omega) mW_obj fX8_7 rfl dX8_canRow_36 ?_
    refine z_cVx [.ref (b + 3), .ref (b + 1)] none (fun g => ∃ a', g = mW h b s2 a' ∧ (∀ i, i < 137 → a' 0 i = a2 2 i) ∧ (∀ q, q ≠ 0 → a' q = a2 q)) yoX8_copies yvX8_copies rfl (by decide) lX8_96 (by omega) mW_obj rfl rfl (Nat.le_of_ble_eq_true rfl) (Nat.le_of_ble_eq_true rfl) dX8_canRow_39 (z_room (by omega) (Nat.le_refl _) (Nat.le_refl _) (r_copies (d := 0) (j := 2) (j2 := 0) hb (by decide) rfl rfl (by decide) rfl rfl (by decide) (fun a' h1 h2 => ⟨rfl, rfl, a', rfl, h1, h2⟩))) (fun g hg => ?_)
    obtain ⟨a3, rfl, hd3, hr3⟩ := hg
    refine z_iload (j := 4) dX8_canRow_42 rfl ?_
    exact z_zret rfl rfl dX8_canRow_44 (by
        rw [hrw] at hq
        exact hq s2 a3 (fun i hi => by rw [hd3 i hi, hr2 2 (by decide) (by decide) (by decide) (by decide) (by decide), hd1 i hi]) hs2 (fun q q0 q2 q3 q4 q7 q8 => by rw [hr3 q q0, hr2 q q0 q3 q4 q7 q8, hr1 q q2]))
  · refine z_cVx [.int (nI key), .int (nI step), .int (nI count)] (some (.int (nI j2))) (fun g => ∃ s' a', g = mW h b s' a' ∧ (∀ k, k ≠ 10 → s' k = s k) ∧ (∀ q, q ≠ 0 → q ≠ 3 → q ≠ 4 → q ≠ 7 → q ≠ 8 → a' q = a1 q)) yoX8_rows yvX8_rows rfl (by decide) lX8_135 (by omega) mW_obj rfl rfl (Nat.le_of_ble_eq_true rfl) (Nat.le_of_ble_eq_true rfl) dX8_canRow_16 (z_room (by omega) (Nat.le_refl _) (Nat.le_refl _) (r_rows (d := 0) hb hM1 hks hct (fun s' a' e h1 h2 => by rw [h10] at e; rw [hrw] at e; cases e) (fun j' B' K' V' c' x' s' a' e h1 h2 h3 h4 h5 h6 h7 => by
        rw [h10] at e
        rw [hrw] at e
        cases e
        exact ⟨rfl, rfl, s', a', rfl, h6, h7⟩))) (fun g hg => ?_)
    obtain ⟨s2, a2, rfl, hs2, hr2⟩ := hg
    have hj2 := rowR_j hrw
    refine z_iconst (v := (-1)) dX8_canRow_19 (by decide) ?_
    refine z_icmp_eq (tgt := 27) dX8_canRow_20 (by decide) (fun c_20 => absurd c_20 (nI_neg1 (by omega))) (fun c_20 => ?_)
    refine z_iconst (v := 1) dX8_canRow_23 (by decide) ?_
    refine z_goto (tgt := 28) dX8_canRow_24 (by decide) ?_
    refine z_istore [1, 2, 3, 4, 0] [(0, .ref b), (1, .int ((nI key))), (2, .int ((nI step))), (3, .int ((nI count))), (4, .int 1)] dX8_canRow_28 (by decide) rfl ?_
    refine z_aload_n (j := 0) dX8_canRow_30 rfl ?_
    refine z_aload_n (j := 0) dX8_canRow_31 rfl ?_
    refine z_get (v := .ref (b + 3)) (by omega) mW_obj fX8_16 rfl dX8_canRow_32 ?_
    refine z_aload_n (j := 0) dX8_canRow_35 rfl ?_
    refine z_get (v := .ref (b + 1)) (by omega) mW_obj fX8_7 rfl dX8_canRow_36 ?_
    refine z_cVx [.ref (b + 3), .ref (b + 1)] none (fun g => ∃ a', g = mW h b s2 a' ∧ (∀ i, i < 137 → a' 0 i = a2 2 i) ∧ (∀ q, q ≠ 0 → a' q = a2 q)) yoX8_copies yvX8_copies rfl (by decide) lX8_96 (by omega) mW_obj rfl rfl (Nat.le_of_ble_eq_true rfl) (Nat.le_of_ble_eq_true rfl) dX8_canRow_39 (z_room (by omega) (Nat.le_refl _) (Nat.le_refl _) (r_copies (d := 0) (j := 2) (j2 := 0) hb (by decide) rfl rfl (by decide) rfl rfl (by decide) (fun a' h1 h2 => ⟨rfl, rfl, a', rfl, h1, h2⟩))) (fun g hg => ?_)
    obtain ⟨a3, rfl, hd3, hr3⟩ := hg
    refine z_iload (j := 4) dX8_canRow_42 rfl ?_
    exact z_zret rfl rfl dX8_canRow_44 (by
        rw [hrw] at hq
        exact hq s2 a3 (fun i hi => by rw [hd3 i hi, hr2 2 (by decide) (by decide) (by decide) (by decide) (by decide), hd1 i hi]) hs2 (fun q q0 q2 q3 q4 q7 q8 => by rw [hr3 q q0, hr2 q q0 q3 q4 q7 q8, hr1 q q2]))
