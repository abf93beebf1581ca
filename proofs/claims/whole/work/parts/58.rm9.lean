set_option maxHeartbeats 4000000 in
set_option maxRecDepth 100000 in
theorem r_clears {l : zL} {d kc ks n b B H T : Nat} {h : Nat → va_E} {K V : Nat → Nat} {s : Nat → Int32} {a : Nat → Nat → Int32} {Q : zQ} (hb : b + 14 ≤ n) (hM : mV B H T K V (a 0)) (hq : ∀ a', mV B H T kz kz (a' 0) → a' 0 4 = 0 → a' 0 8 = a 0 8 + nI (cnt K B) → (∀ k, k < 9 → k ≠ 4 → k ≠ 8 → a' 0 k = a 0 k) → (∀ q, q ≠ 0 → a' q = a q) → Q (.inl (some (.int (nI (cnt K B))))) n (mW h b s a')) : Zj l mX8_clears (d + 2) kc ks 0 [(0, .ref b)] [] n (mW h b s a) Q := by
  obtain ⟨okb, h2H, hH6, h1T, hT99, e0, e1, e2, ek, ev, ekv, ez⟩ := id hM
  have hle := okb.le
  refine z_aload_n (j := 0) dX8_clears_0 rfl ?_
  refine z_cV [] (some (.int ((nI (cnt K B))))) yoX8_entries yvX8_entries rfl (by decide) lX8_148 (by omega) mW_obj rfl rfl (Nat.le_of_ble_eq_true rfl) (Nat.le_of_ble_eq_true rfl) dX8_clears_1 (z_room (by omega) (Nat.le_refl _) (Nat.le_refl _) (r_entries (d := 0) hb hM ⟨rfl, rfl, rfl⟩)) ?_
  refine z_istore_n [1, 0] [(0, .ref b), (1, .int ((nI (cnt K B))))] dX8_clears_4 (by decide) rfl ?_
  refine z_aload_n (j := 0) dX8_clears_5 rfl ?_
  refine z_cVx [] none (fun g => ∃ a1, g = mW h b s a1 ∧ (∀ i, i < 64 → a1 0 (9 + i) = 0 ∧ a1 0 (73 + i) = 0) ∧ (∀ k, k < 9 → a1 0 k = a 0 k) ∧ (∀ q, q ≠ 0 → a1 q = a q)) yoX8_empties yvX8_empties rfl (by decide) lX8_113 (by omega) mW_obj rfl rfl (Nat.le_of_ble_eq_true rfl) (Nat.le_of_ble_eq_true rfl) dX8_clears_6 (z_room (by omega) (Nat.le_refl _) (Nat.le_refl _) (r_empties (d := 0) hb (fun a' h1 h2 h3 => ⟨rfl, rfl, a', rfl, h1, h2, h3⟩))) (fun g hg => ?_)
  obtain ⟨a1, rfl, hz1, h91, hr1⟩ := hg
  refine z_aload_n (j := 0) dX8_clears_9 rfl ?_
  refine z_get (v := .ref (b + 1)) (by omega) mW_obj fX8_7 rfl dX8_clears_10 ?_
  refine z_bipush (v := 8) dX8_clears_13 (by decide) ?_
  refine z_dup2 rfl rfl dX8_clears_15 ?_
  refine m_aldN 0 137 8 (by decide) rfl rfl hb rfl (by omega) (by decide) dX8_clears_16 ?_
  refine z_iload_n (j := 1) dX8_clears_17 rfl ?_
  refine z_iadd dX8_clears_18 ?_
  refine m_astN 0 137 8 (by decide) rfl rfl hb rfl (by omega) (by decide) dX8_clears_19 ?_
  refine z_aload_n (j := 0) dX8_clears_20 rfl ?_
  refine z_get (v := .ref (b + 1)) (by omega) mW_obj fX8_7 rfl dX8_clears_21 ?_
  refine z_iconst (v := 4) dX8_clears_24 (by decide) ?_
  refine z_iconst (v := 0) dX8_clears_25 (by decide) ?_
  refine m_astN 0 137 4 (by decide) rfl rfl hb rfl (by omega) (by decide) dX8_clears_26 ?_
  refine z_iload_n (j := 1) dX8_clears_27 rfl ?_
  exact z_iret rfl dX8_clears_28 (by
      refine hq _ (mV_nil okb h2H hH6 h1T hT99 (by simp [va_up, h91, e0]) (by simp [va_up, h91, e1]) (by simp [va_up, h91, e2]) (fun i hi => ?_)) (by simp [va_up]) (by simp [va_up, h91]) (fun k hk k4 k8 => by simp [va_up, k4, k8, h91 k hk]) (fun q q0 => by simp [va_up, q0, hr1 q q0])
      have x1 : ¬ 9 + i = 4 := by omega
      have x2 : ¬ 9 + i = 8 := by omega
      have x3 : ¬ 73 + i = 4 := by omega
      have x4 : ¬ 73 + i = 8 := by omega
      simp [va_up, x1, x2, x3, x4, hz1 i hi])

set_option maxHeartbeats 4000000 in
set_option maxRecDepth 100000 in
theorem r_puts {l : zL} {d kc ks n b B H T : Nat} {h : Nat → va_E} {K V : Nat → Nat} {s : Nat → Int32} {a : Nat → Nat → Int32} {Q : zQ} {key v : Nat} (hb : b + 14 ≤ n) (hM : mV B H T K V (a 0)) (hkey : key ≤ 9999) (hv : v ≤ 999) (hqP : ∀ bk a', bwS B K key = some bk → mV B H T K (va_up V bk v) (a' 0) → (∀ k, k < 9 → a' 0 k = a 0 k) → (∀ q, q ≠ 0 → a' q = a q) → Q (.inl (some (.int (nI (V bk))))) n (mW h b s a')) (hqN : ∀ s' a', bwS B K key = none → insR B H T K V (a 0 4) key v = none → (∀ i, i < 137 → a' 0 i = a 0 i) → (∀ k, k ≠ 10 → s' k = s k) → (∀ q, q ≠ 0 → q ≠ 3 → q ≠ 4 → q ≠ 7 → q ≠ 8 → a' q = a q) → Q (.inl (some (.int (-1)))) n (mW h b s' a')) (hqS : ∀ bk B' K' V' c' s' a', bwS B K key = none → insR B H T K V (a 0 4) key v = some (bk, B', K', V', c') → mV B' H T K' V' (a' 0) → bk < B' → a' 0 4 = c' → a' 0 6 = a 0 6 + nI (dbl B' 4 B) → a' 0 7 = a 0 7 + 1 → (∀ k, k < 9 → k ≠ 0 → k ≠ 4 → k ≠ 6 → k ≠ 7 → a' 0 k = a 0 k) → (∀ k, k ≠ 10 → s' k = s k) → (∀ q, q ≠ 0 → q ≠ 3 → q ≠ 4 → q ≠ 7 → q ≠ 8 → a' q = a q) → Q (.inl (some (.int (-1)))) n (mW h b s' a')) : Zj l mX8_puts (d + 7) kc ks 0 [(0, .ref b), (1, .int ((nI key))), (2, .int ((nI v)))] [] n (mW h b s a) Q := by
  obtain ⟨okb, h2H, hH6, h1T, hT99, e0, e1, e2, ek, ev, ekv, ez⟩ := id hM
  have hle := okb.le
  refine z_aload_n (j := 0) dX8_puts_0 rfl ?_
  refine z_iload_n (j := 1) dX8_puts_1 rfl ?_
  refine z_cV [.int ((nI key))] (some (.int ((optI (bwS B K key))))) yoX8_bucketWith yvX8_bucketWith rfl (by decide) lX8_129 (by omega) mW_obj rfl rfl (Nat.le_of_ble_eq_true rfl) (Nat.le_of_ble_eq_true rfl) dX8_puts_2 (z_room (by omega) (Nat.le_refl _) (Nat.le_refl _) (r_bucketWith (d := 0) hb hM hkey ⟨rfl, rfl, rfl⟩)) ?_
  rcases hbw : bwS B K key with _ | bk0
  · rw [show optI none = -1 from rfl]
    refine z_istore_n [1, 2, 3, 0] [(0, .ref b), (1, .int ((nI key))), (2, .int ((nI v))), (3, .int ((-1)))] dX8_puts_5 (by decide) rfl ?_
    refine z_iload_n (j := 3) dX8_puts_6 rfl ?_
    refine z_iconst (v := (-1)) dX8_puts_7 (by decide) ?_
    refine z_icmp_ne (tgt := 20) dX8_puts_8 (by decide) (fun c_8 => absurd rfl c_8) (fun c_8 => ?_)
    refine z_aload_n (j := 0) dX8_puts_11 rfl ?_
    refine z_iload_n (j := 1) dX8_puts_12 rfl ?_
    refine z_iload_n (j := 2) dX8_puts_13 rfl ?_
    rcases hif1 : insR B H T K V (a 0 4) key v with _ | ⟨bk1, B1, K1, V1, c1⟩
    · refine z_cVx [.int (nI key), .int (nI v)] (some (.int (-1))) (fun g => ∃ s' a', g = mW h b s' a' ∧ (∀ i, i < 137 → a' 0 i = a 0 i) ∧ (∀ k, k ≠ 10 → s' k = s k) ∧ (∀ q, q ≠ 0 → q ≠ 3 → q ≠ 4 → q ≠ 7 → q ≠ 8 → a' q = a q)) yoX8_adds yvX8_adds rfl (by decide) lX8_132 (by omega) mW_obj rfl rfl (Nat.le_of_ble_eq_true rfl) (Nat.le_of_ble_eq_true rfl) dX8_puts_14 (z_room (by omega) (Nat.le_refl _) (Nat.le_refl _) (r_adds (d := 0) (key := key) (v := v) hb hM hkey hv (fun s' a' e h1 h2 h3 => ⟨rfl, rfl, s', a', rfl, h1, h2, h3⟩) (fun bk' B' K' V' c' s' a' e h1 h2 h3 h4 h5 h6 h7 h8 => by rw [hif1] at e; cases e))) (fun g hg => ?_)
      obtain ⟨s1, a1, rfl, hd1, hs1, hr1⟩ := hg
      refine z_pop rfl dX8_puts_17 ?_
      refine z_iconst (v := (-1)) dX8_puts_18 (by decide) ?_
      exact z_iret rfl dX8_puts_19 (hqN s1 a1 hbw hif1 hd1 hs1 hr1)
    · refine z_cVx [.int (nI key), .int (nI v)] (some (.int (nI bk1))) (fun g => ∃ s' a', g = mW h b s' a' ∧ mV B1 H T K1 V1 (a' 0) ∧ bk1 < B1 ∧ a' 0 4 = c1 ∧ a' 0 6 = a 0 6 + nI (dbl B1 4 B) ∧ a' 0 7 = a 0 7 + 1 ∧ (∀ k, k < 9 → k ≠ 0 → k ≠ 4 → k ≠ 6 → k ≠ 7 → a' 0 k = a 0 k) ∧ (∀ k, k ≠ 10 → s' k = s k) ∧ (∀ q, q ≠ 0 → q ≠ 3 → q ≠ 4 → q ≠ 7 → q ≠ 8 → a' q = a q)) yoX8_adds yvX8_adds rfl (by decide) lX8_132 (by omega) mW_obj rfl rfl (Nat.le_of_ble_eq_true rfl) (Nat.le_of_ble_eq_true rfl) dX8_puts_14 (z_room (by omega) (Nat.le_refl _) (Nat.le_refl _) (r_adds (d := 0) (key := key) (v := v) hb hM hkey hv (fun s' a' e h1 h2 h3 => by rw [hif1] at e; cases e) (fun bk' B' K' V' c' s' a' e h1 h2 h3 h4 h5 h6 h7 h8 => by
          rw [hif1] at e
          cases e
          exact ⟨rfl, rfl, s', a', rfl, h1, h2, h3, h4, h5, h6, h7, h8⟩))) (fun g hg => ?_)
      obtain ⟨s1, a1, rfl, hM1, hbk1, h41, h61, h71, h91, hs1, hr1⟩ := hg
      refine z_pop rfl dX8_puts_17 ?_
      refine z_iconst (v := (-1)) dX8_puts_18 (by decide) ?_
      exact z_iret rfl dX8_puts_19 (hqS bk1 B1 K1 V1 c1 s1 a1 hbw hif1 hM1 hbk1 h41 h61 h71 h91 hs1 hr1)
  · rw [show optI (some bk0) = nI bk0 from rfl]
    obtain ⟨hbB, hKb⟩ := bwS_lt hbw
    refine z_istore_n [1, 2, 3, 0] [(0, .ref b), (1, .int ((nI key))), (2, .int ((nI v))), (3, .int ((nI bk0)))] dX8_puts_5 (by decide) rfl ?_
    refine z_iload_n (j := 3) dX8_puts_6 rfl ?_
    refine z_iconst (v := (-1)) dX8_puts_7 (by decide) ?_
    refine z_icmp_ne (tgt := 20) dX8_puts_8 (by decide) (fun c_8 => ?_) (fun c_8 => absurd c_8 (nI_neg1 (by omega)))
    refine z_aload_n (j := 0) dX8_puts_20 rfl ?_
    refine z_get (v := .ref (b + 1)) (by omega) mW_obj fX8_7 rfl dX8_puts_21 ?_
    refine z_bipush (v := 73) dX8_puts_24 (by decide) ?_
    refine z_iload_n (j := 3) dX8_puts_26 rfl ?_
    refine z_iadd dX8_puts_27 ?_
    refine m_aldN 0 137 (73 + bk0) (by decide) rfl rfl hb (nI_add 73 _) (by omega) (by decide) dX8_puts_28 ?_
    refine z_istore [1, 2, 3, 4, 0] [(0, .ref b), (1, .int ((nI key))), (2, .int ((nI v))), (3, .int ((nI bk0))), (4, .int ((a 0 (73 + bk0))))] dX8_puts_29 (by decide) rfl ?_
    refine z_aload_n (j := 0) dX8_puts_31 rfl ?_
    refine z_get (v := .ref (b + 1)) (by omega) mW_obj fX8_7 rfl dX8_puts_32 ?_
    refine z_bipush (v := 73) dX8_puts_35 (by decide) ?_
    refine z_iload_n (j := 3) dX8_puts_37 rfl ?_
    refine z_iadd dX8_puts_38 ?_
    refine z_iload_n (j := 2) dX8_puts_39 rfl ?_
    refine m_astN 0 137 (73 + bk0) (by decide) rfl rfl hb (nI_add 73 _) (by omega) (by decide) dX8_puts_40 ?_
    refine z_iload (j := 4) dX8_puts_41 rfl ?_
    exact z_iret rfl dX8_puts_43 (by
        rw [ev bk0 (by omega)]
        refine hqP bk0 _ hbw (mV_val (r := a 0) hM hv (fun k hk => ?_) (fun i hi => ?_) (fun i hi => ?_)) (fun k hk => ?_) (fun q q0 => by simp [va_up, q0])
        · have x1 : ¬ k = 73 + bk0 := by omega
          simp [va_up, x1]
        · have x1 : ¬ 9 + i = 73 + bk0 := by omega
          simp [va_up, x1]
        · by_cases y : i = bk0
          · subst y; simp [va_up]
          · simp [va_up, y]
        · have x1 : ¬ k = 73 + bk0 := by omega
          simp [va_up, x1])

set_option maxHeartbeats 4000000 in
set_option maxRecDepth 100000 in
theorem r_resets1 {l : zL} {d kc ks n b B H T : Nat} {h : Nat → va_E} {K V : Nat → Nat} {s : Nat → Int32} {a : Nat → Nat → Int32} {Q : zQ} {H2 : Nat} (hb : b + 14 ≤ n) (hM : mV B H T K V (a 0)) (hlo : 2 ≤ H2) (hhi : H2 ≤ 6) (hqF : ∀ s' a', rbR H2 T (entL K V B) (wid B + 1) = none → (∀ k, k ≠ 10 → s' k = s k) → (∀ q, q ≠ 0 → q ≠ 4 → q ≠ 7 → q ≠ 8 → a' q = a q) → Q (.inl (some (.int 0))) n (mW h b s' a')) (hqT : ∀ B' K' V' c' s' a', rbR H2 T (entL K V B) (wid B + 1) = some (B', K', V', c') → mV B' H2 T K' V' (a' 0) → a' 0 4 = c' → a' 0 6 = a 0 6 + nI (dbl B' 4 B) → (∀ k, k < 9 → k ≠ 0 → k ≠ 4 → k ≠ 6 → k ≠ 1 → a' 0 k = a 0 k) → (∀ k, k ≠ 10 → s' k = s k) → (∀ q, q ≠ 0 → q ≠ 4 → q ≠ 7 → q ≠ 8 → a' q = a q) → Q (.inl (some (.int 1))) n (mW h b s' a')) : Zj l mX8_resets (d + 7) kc ks 0 [(0, .ref b), (1, .int 1), (2, .int ((nI H2)))] [] n (mW h b s a) Q := by
  obtain ⟨okb, h2H, hH6, h1T, hT99, e0, e1, e2, ek, ev, ekv, ez⟩ := id hM
  have hle := okb.le
  have hM2 : mV B H2 T K V (va_up (a 0) 1 (nI H2)) := by
    refine ⟨okb, hlo, hhi, h1T, hT99, by simp [va_up, e0], by simp [va_up], by simp [va_up, e2], fun i hi => ?_, fun i hi => ?_, ekv, ez⟩
    · have x1 : ¬ 9 + i = 1 := by omega
      simp [va_up, x1, ek i hi]
    · have x1 : ¬ 73 + i = 1 := by omega
      simp [va_up, x1, ev i hi]
  refine z_aload_n (j := 0) dX8_resets_0 rfl ?_
  refine z_get (v := .ref (b + 1)) (by omega) mW_obj fX8_7 rfl dX8_resets_1 ?_
  refine z_iload_n (j := 1) dX8_resets_4 rfl ?_
  refine z_iload_n (j := 2) dX8_resets_5 rfl ?_
  refine m_astN 0 137 1 (by decide) rfl rfl hb rfl (by omega) (by decide) dX8_resets_6 ?_
  refine z_aload_n (j := 0) dX8_resets_7 rfl ?_
  refine z_aload_n (j := 0) dX8_resets_8 rfl ?_
  refine z_get (v := .ref (b + 1)) (by omega) mW_obj fX8_7 rfl dX8_resets_9 ?_
  refine z_iconst (v := 0) dX8_resets_12 (by decide) ?_
  refine m_aldN 0 137 0 (by decide) rfl rfl hb rfl (by omega) (by decide) dX8_resets_13 ?_
  rw [show (va_up a 0 (va_up (a 0) 1 (nI H2))) 0 0 = nI (2 ^ (7 - (wid B + 1))) from by rw [wid_1 okb]; simp [va_up, e0]]
  rcases hrb1 : rbR H2 T (entL K V B) (wid B + 1) with _ | ⟨B1, K1, V1, c1⟩
  · refine z_cVx [.int (nI (2 ^ (7 - (wid B + 1))))] (some (.int 0)) (fun g => ∃ s' a', g = mW h b s' a' ∧ (∀ k, k ≠ 10 → s' k = s k) ∧ (∀ q, q ≠ 0 → q ≠ 4 → q ≠ 7 → q ≠ 8 → a' q = (va_up a 0 (va_up (a 0) 1 (nI H2))) q)) yoX8_rebuilds yvX8_rebuilds rfl (by decide) lX8_142 (by omega) mW_obj rfl rfl (Nat.le_of_ble_eq_true rfl) (Nat.le_of_ble_eq_true rfl) dX8_resets_14 (z_room (by omega) (Nat.le_refl _) (Nat.le_refl _) (r_rebuilds (d := 0) hb (by simpa [va_up] using hM2) (by have := (wid_2 okb).1; omega) (fun s' a' e h1 h2 => ⟨rfl, rfl, s', a', rfl, h1, h2⟩) (fun B' K' V' c' s' a' e h1 h2 h3 h4 h5 h6 => by rw [hrb1] at e; cases e))) (fun g hg => ?_)
    obtain ⟨s1, a1, rfl, hs1, hr1⟩ := hg
    exact z_zret rfl rfl dX8_resets_17 (hqF s1 a1 hrb1 hs1 (fun q q0 q4 q7 q8 => by rw [hr1 q q0 q4 q7 q8]; simp [va_up, q0]))
  · refine z_cVx [.int (nI (2 ^ (7 - (wid B + 1))))] (some (.int 1)) (fun g => ∃ s' a', g = mW h b s' a' ∧ mV B1 H2 T K1 V1 (a' 0) ∧ a' 0 4 = c1 ∧ a' 0 6 = (va_up a 0 (va_up (a 0) 1 (nI H2))) 0 6 + nI (dbl B1 4 B) ∧ (∀ k, k < 9 → k ≠ 0 → k ≠ 4 → k ≠ 6 → a' 0 k = (va_up a 0 (va_up (a 0) 1 (nI H2))) 0 k) ∧ (∀ k, k ≠ 10 → s' k = s k) ∧ (∀ q, q ≠ 0 → q ≠ 4 → q ≠ 7 → q ≠ 8 → a' q = (va_up a 0 (va_up (a 0) 1 (nI H2))) q)) yoX8_rebuilds yvX8_rebuilds rfl (by decide) lX8_142 (by omega) mW_obj rfl rfl (Nat.le_of_ble_eq_true rfl) (Nat.le_of_ble_eq_true rfl) dX8_resets_14 (z_room (by omega) (Nat.le_refl _) (Nat.le_refl _) (r_rebuilds (d := 0) hb (by simpa [va_up] using hM2) (by have := (wid_2 okb).1; omega) (fun s' a' e h1 h2 => by rw [hrb1] at e; cases e) (fun B' K' V' c' s' a' e h1 h2 h3 h4 h5 h6 => by
        rw [hrb1] at e
        cases e
        exact ⟨rfl, rfl, s', a', rfl, h1, h2, h3, h4, h5, h6⟩))) (fun g hg => ?_)
    obtain ⟨s1, a1, rfl, hM1, h41, h61, h91, hs1, hr1⟩ := hg
    exact z_zret rfl rfl dX8_resets_17 (hqT B1 K1 V1 c1 s1 a1 hrb1 hM1 h41 (by rw [h61]; simp [va_up]) (fun k hk k0 k4 k6 kp => by rw [h91 k hk k0 k4 k6]; simp [va_up, kp]) hs1 (fun q q0 q4 q7 q8 => by rw [hr1 q q0 q4 q7 q8]; simp [va_up, q0]))

set_option maxHeartbeats 4000000 in
set_option maxRecDepth 100000 in
theorem r_resets2 {l : zL} {d kc ks n b B H T : Nat} {h : Nat → va_E} {K V : Nat → Nat} {s : Nat → Int32} {a : Nat → Nat → Int32} {Q : zQ} {T2 : Nat} (hb : b + 14 ≤ n) (hM : mV B H T K V (a 0)) (hlo : 1 ≤ T2) (hhi : T2 ≤ 99) (hqF : ∀ s' a', rbR H T2 (entL K V B) (wid B + 1) = none → (∀ k, k ≠ 10 → s' k = s k) → (∀ q, q ≠ 0 → q ≠ 4 → q ≠ 7 → q ≠ 8 → a' q = a q) → Q (.inl (some (.int 0))) n (mW h b s' a')) (hqT : ∀ B' K' V' c' s' a', rbR H T2 (entL K V B) (wid B + 1) = some (B', K', V', c') → mV B' H T2 K' V' (a' 0) → a' 0 4 = c' → a' 0 6 = a 0 6 + nI (dbl B' 4 B) → (∀ k, k < 9 → k ≠ 0 → k ≠ 4 → k ≠ 6 → k ≠ 2 → a' 0 k = a 0 k) → (∀ k, k ≠ 10 → s' k = s k) → (∀ q, q ≠ 0 → q ≠ 4 → q ≠ 7 → q ≠ 8 → a' q = a q) → Q (.inl (some (.int 1))) n (mW h b s' a')) : Zj l mX8_resets (d + 7) kc ks 0 [(0, .ref b), (1, .int 2), (2, .int ((nI T2)))] [] n (mW h b s a) Q := by
  obtain ⟨okb, h2H, hH6, h1T, hT99, e0, e1, e2, ek, ev, ekv, ez⟩ := id hM
  have hle := okb.le
  have hM2 : mV B H T2 K V (va_up (a 0) 2 (nI T2)) := by
    refine ⟨okb, h2H, hH6, hlo, hhi, by simp [va_up, e0], by simp [va_up, e1], by simp [va_up], fun i hi => ?_, fun i hi => ?_, ekv, ez⟩
    · have x1 : ¬ 9 + i = 2 := by omega
      simp [va_up, x1, ek i hi]
    · have x1 : ¬ 73 + i = 2 := by omega
      simp [va_up, x1, ev i hi]
  refine z_aload_n (j := 0) dX8_resets_0 rfl ?_
  refine z_get (v := .ref (b + 1)) (by omega) mW_obj fX8_7 rfl dX8_resets_1 ?_
  refine z_iload_n (j := 1) dX8_resets_4 rfl ?_
  refine z_iload_n (j := 2) dX8_resets_5 rfl ?_
  refine m_astN 0 137 2 (by decide) rfl rfl hb rfl (by omega) (by decide) dX8_resets_6 ?_
  refine z_aload_n (j := 0) dX8_resets_7 rfl ?_
  refine z_aload_n (j := 0) dX8_resets_8 rfl ?_
  refine z_get (v := .ref (b + 1)) (by omega) mW_obj fX8_7 rfl dX8_resets_9 ?_
  refine z_iconst (v := 0) dX8_resets_12 (by decide) ?_
  refine m_aldN 0 137 0 (by decide) rfl rfl hb rfl (by omega) (by decide) dX8_resets_13 ?_
  rw [show (va_up a 0 (va_up (a 0) 2 (nI T2))) 0 0 = nI (2 ^ (7 - (wid B + 1))) from by rw [wid_1 okb]; simp [va_up, e0]]
  rcases hrb1 : rbR H T2 (entL K V B) (wid B + 1) with _ | ⟨B1, K1, V1, c1⟩
  · refine z_cVx [.int (nI (2 ^ (7 - (wid B + 1))))] (some (.int 0)) (fun g => ∃ s' a', g = mW h b s' a' ∧ (∀ k, k ≠ 10 → s' k = s k) ∧ (∀ q, q ≠ 0 → q ≠ 4 → q ≠ 7 → q ≠ 8 → a' q = (va_up a 0 (va_up (a 0) 2 (nI T2))) q)) yoX8_rebuilds yvX8_rebuilds rfl (by decide) lX8_142 (by omega) mW_obj rfl rfl (Nat.le_of_ble_eq_true rfl) (Nat.le_of_ble_eq_true rfl) dX8_resets_14 (z_room (by omega) (Nat.le_refl _) (Nat.le_refl _) (r_rebuilds (d := 0) hb (by simpa [va_up] using hM2) (by have := (wid_2 okb).1; omega) (fun s' a' e h1 h2 => ⟨rfl, rfl, s', a', rfl, h1, h2⟩) (fun B' K' V' c' s' a' e h1 h2 h3 h4 h5 h6 => by rw [hrb1] at e; cases e))) (fun g hg => ?_)
    obtain ⟨s1, a1, rfl, hs1, hr1⟩ := hg
    exact z_zret rfl rfl dX8_resets_17 (hqF s1 a1 hrb1 hs1 (fun q q0 q4 q7 q8 => by rw [hr1 q q0 q4 q7 q8]; simp [va_up, q0]))
  · refine z_cVx [.int (nI (2 ^ (7 - (wid B + 1))))] (some (.int 1)) (fun g => ∃ s' a', g = mW h b s' a' ∧ mV B1 H T2 K1 V1 (a' 0) ∧ a' 0 4 = c1 ∧ a' 0 6 = (va_up a 0 (va_up (a 0) 2 (nI T2))) 0 6 + nI (dbl B1 4 B) ∧ (∀ k, k < 9 → k ≠ 0 → k ≠ 4 → k ≠ 6 → a' 0 k = (va_up a 0 (va_up (a 0) 2 (nI T2))) 0 k) ∧ (∀ k, k ≠ 10 → s' k = s k) ∧ (∀ q, q ≠ 0 → q ≠ 4 → q ≠ 7 → q ≠ 8 → a' q = (va_up a 0 (va_up (a 0) 2 (nI T2))) q)) yoX8_rebuilds yvX8_rebuilds rfl (by decide) lX8_142 (by omega) mW_obj rfl rfl (Nat.le_of_ble_eq_true rfl) (Nat.le_of_ble_eq_true rfl) dX8_resets_14 (z_room (by omega) (Nat.le_refl _) (Nat.le_refl _) (r_rebuilds (d := 0) hb (by simpa [va_up] using hM2) (by have := (wid_2 okb).1; omega) (fun s' a' e h1 h2 => by rw [hrb1] at e; cases e) (fun B' K' V' c' s' a' e h1 h2 h3 h4 h5 h6 => by
        rw [hrb1] at e
        cases e
        exact ⟨rfl, rfl, s', a', rfl, h1, h2, h3, h4, h5, h6⟩))) (fun g hg => ?_)
    obtain ⟨s1, a1, rfl, hM1, h41, h61, h91, hs1, hr1⟩ := hg
    exact z_zret rfl rfl dX8_resets_17 (hqT B1 K1 V1 c1 s1 a1 hrb1 hM1 h41 (by rw [h61]; simp [va_up]) (fun k hk k0 k4 k6 kp => by rw [h91 k hk k0 k4 k6]; simp [va_up, kp]) hs1 (fun q q0 q4 q7 q8 => by rw [hr1 q q0 q4 q7 q8]; simp [va_up, q0]))
