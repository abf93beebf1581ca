set_option maxHeartbeats 4000000 in
set_option maxRecDepth 100000 in
theorem r_builds_l {l : zL} {d kc ks n b B H T : Nat} {h : Nat → va_E} {L : List (Nat × Nat)} {s : Nat → Int32} {Q : zQ} (hb : b + 14 ≤ n) : ∀ m i (K V : Nat → Nat) (a : Nat → Nat → Int32), i + m = L.length → mV B H T K V (a 0) → qN s a L → (∀ K' V' c' a', bldF B H T (L.drop i) K V (a 0 4) = (false, K', V', c') → (∀ k, k < 9 → k ≠ 0 → k ≠ 4 → a' 0 k = a 0 k) → (∀ q, q ≠ 0 → q ≠ 4 → a' q = a q) → Q (.inl (some (.int 0))) n (mW h b s a')) → (∀ K' V' c' a', bldF B H T (L.drop i) K V (a 0 4) = (true, K', V', c') → mV B H T K' V' (a' 0) → a' 0 4 = c' → (∀ k, k < 9 → k ≠ 0 → k ≠ 4 → a' 0 k = a 0 k) → (∀ q, q ≠ 0 → q ≠ 4 → a' q = a q) → Q (.inl (some (.int 1))) n (mW h b s a')) → Zj l mX8_builds (d + 4) kc ks 20 [(0, .ref b), (1, .int ((nI B))), (2, .int ((nI i)))] [] n (mW h b s a) Q := by
  intro m
  induction m with
  | zero =>
    intro i K V a hi hM hqu hqF hqT
    have hll := hqu.2.1
    obtain ⟨okb, h2H, hH6, h1T, hT99, e0, e1, e2, ek, ev, ekv, ez⟩ := id hM
    have hle := okb.le
    refine z_iload_n (j := 2) dX8_builds_20 rfl ?_
    refine z_aload_n (j := 0) dX8_builds_21 rfl ?_
    refine z_get (v := .int (s 10)) (by omega) mW_obj fX8_110 rfl dX8_builds_22 ?_
    refine z_icmp_ge (tgt := 56) dX8_builds_25 (by decide) (fun c_25 => ?_) (fun c_25 => absurd (by rw [hqu.1]; exact nI_le (by omega) (by omega)) c_25)
    refine z_iconst (v := 1) dX8_builds_56 (by decide) ?_
    exact z_zret rfl rfl dX8_builds_57 (hqT K V (a 0 4) a (by rw [List.drop_eq_nil_of_le (by omega)]; first | done | rfl) hM rfl (fun _ _ _ _ => rfl) (fun _ _ _ => rfl))
  | succ m ih =>
    intro i K V a hi hM hqu hqF hqT
    obtain ⟨okb, h2H, hH6, h1T, hT99, e0, e1, e2, ek, ev, ekv, ez⟩ := id hM
    have hle := okb.le
    have hll := hqu.2.1
    obtain ⟨⟨k, v⟩, hLi⟩ : ∃ q, L[i]? = some q := ⟨L[i]'(by omega), List.getElem?_eq_getElem (by omega)⟩
    obtain ⟨hq3, hq4⟩ := hqu.2.2.1 i k v hLi
    have hkv := hqu.2.2.2 _ (List.mem_of_getElem? hLi)
    refine z_iload_n (j := 2) dX8_builds_20 rfl ?_
    refine z_aload_n (j := 0) dX8_builds_21 rfl ?_
    refine z_get (v := .int (s 10)) (by omega) mW_obj fX8_110 rfl dX8_builds_22 ?_
    refine z_icmp_ge (tgt := 56) dX8_builds_25 (by decide) (fun c_25 => absurd c_25 (by rw [hqu.1]; exact nI_ge (by omega) (by omega))) (fun c_25 => ?_)
    refine z_aload_n (j := 0) dX8_builds_28 rfl ?_
    refine z_aload_n (j := 0) dX8_builds_29 rfl ?_
    refine z_get (v := .ref (b + 8)) (by omega) mW_obj fX8_31 rfl dX8_builds_30 ?_
    refine z_iload_n (j := 2) dX8_builds_33 rfl ?_
    refine m_aldN 7 64 i (by decide) rfl rfl hb rfl (by omega) (by decide) dX8_builds_34 ?_
    rw [show (a 7 i) = (nI k) from hq3]
    refine z_aload_n (j := 0) dX8_builds_35 rfl ?_
    refine z_get (v := .ref (b + 9)) (by omega) mW_obj fX8_34 rfl dX8_builds_36 ?_
    refine z_iload_n (j := 2) dX8_builds_39 rfl ?_
    refine m_aldN 8 64 i (by decide) rfl rfl hb rfl (by omega) (by decide) dX8_builds_40 ?_
    rw [show (a 8 i) = (nI v) from hq4]
    rcases hpf1 : placeF B H T K V (a 0 4) k v with ⟨_ | bk1, K1, V1, c1⟩
    · refine z_cVx [.int (nI k), .int (nI v)] (some (.int (-1))) (fun g => ∃ a', g = mW h b s a' ∧ (∀ i, i < 137 → a' 0 i = a 0 i) ∧ (∀ q, q ≠ 0 → q ≠ 4 → a' q = a q)) yoX8_lays yvX8_lays rfl (by decide) lX8_116 (by omega) mW_obj rfl rfl (Nat.le_of_ble_eq_true rfl) (Nat.le_of_ble_eq_true rfl) dX8_builds_41 (z_room (by omega) (Nat.le_refl _) (Nat.le_refl _) (r_lays (d := 0) hb hM hkv.1 hkv.2 (fun a' e h1 h2 => ⟨rfl, rfl, a', rfl, h1, h2⟩) (fun bk' K' V' c' a' e h1 h2 h3 h4 => by rw [hpf1] at e; cases e))) (fun g hg => ?_)
      obtain ⟨a1, rfl, hd1, hr1⟩ := hg
      refine z_iconst (v := (-1)) dX8_builds_44 (by decide) ?_
      refine z_icmp_ne (tgt := 50) dX8_builds_45 (by decide) (fun c_45 => absurd rfl c_45) (fun c_45 => ?_)
      refine z_iconst (v := 0) dX8_builds_48 (by decide) ?_
      exact z_zret rfl rfl dX8_builds_49 (hqF K1 V1 c1 a1 (by rw [drop_at hLi]; simp [bldF, hpf1]) (fun k hk _ _ => hd1 k (by omega)) hr1)
    · refine z_cVx [.int (nI k), .int (nI v)] (some (.int (nI bk1))) (fun g => ∃ a', g = mW h b s a' ∧ mV B H T K1 V1 (a' 0) ∧ a' 0 4 = c1 ∧ (∀ k, k < 9 → k ≠ 4 → a' 0 k = a 0 k) ∧ (∀ q, q ≠ 0 → q ≠ 4 → a' q = a q)) yoX8_lays yvX8_lays rfl (by decide) lX8_116 (by omega) mW_obj rfl rfl (Nat.le_of_ble_eq_true rfl) (Nat.le_of_ble_eq_true rfl) dX8_builds_41 (z_room (by omega) (Nat.le_refl _) (Nat.le_refl _) (r_lays (d := 0) hb hM hkv.1 hkv.2 (fun a' e h1 h2 => by rw [hpf1] at e; cases e) (fun bk' K' V' c' a' e h1 h2 h3 h4 => by
          rw [hpf1] at e
          cases e
          exact ⟨rfl, rfl, a', rfl, h1, h2, h3, h4⟩))) (fun g hg => ?_)
      obtain ⟨a1, rfl, hM1, h41, h91, hr1⟩ := hg
      have hbk1 := placeF_lt okb hpf1
      refine z_iconst (v := (-1)) dX8_builds_44 (by decide) ?_
      refine z_icmp_ne (tgt := 50) dX8_builds_45 (by decide) (fun c_45 => ?_) (fun c_45 => absurd c_45 (nI_neg1 (by omega)))
      skip
      refine z_iinc ((nI (i + 1))) [1, 2, 0] [(0, .ref b), (1, .int ((nI B))), (2, .int ((nI (i + 1))))] dX8_builds_50 (j := 2) rfl (nI_1 i) (by decide) rfl ?_
      refine z_goto (tgt := 20) dX8_builds_53 (by decide) ?_
      have hbd : bldF B H T (L.drop i) K V (a 0 4) = bldF B H T (L.drop (i + 1)) K1 V1 (a1 0 4) := by rw [drop_at hLi, h41]; simp [bldF, hpf1]
      exact ih (i + 1) K1 V1 a1 (by omega) hM1 (hqu.same rfl (hr1 7 (by decide) (by decide)) (hr1 8 (by decide) (by decide))) (fun K' V' c' a' e h1 h2 => hqF K' V' c' a' (hbd.trans e) (fun k hk k0 k4 => (h1 k hk k0 k4).trans (h91 k hk k4)) (fun q q0 q4 => (h2 q q0 q4).trans (hr1 q q0 q4))) (fun K' V' c' a' e h1 h2 h3 h4 => hqT K' V' c' a' (hbd.trans e) h1 h2 (fun k hk k0 k4 => (h3 k hk k0 k4).trans (h91 k hk k4)) (fun q q0 q4 => (h4 q q0 q4).trans (hr1 q q0 q4)))

set_option maxHeartbeats 4000000 in
set_option maxRecDepth 100000 in
theorem r_builds {l : zL} {d kc ks n b B H T : Nat} {h : Nat → va_E} {L : List (Nat × Nat)} {s : Nat → Int32} {a : Nat → Nat → Int32} {Q : zQ} (hb : b + 14 ≤ n) (okB1 : okB B) (h2H : 2 ≤ H) (hH6 : H ≤ 6) (h1T : 1 ≤ T) (hT99 : T ≤ 99) (e1 : a 0 1 = nI H) (e2 : a 0 2 = nI T) (hqu : qN s a L) (hqF : ∀ K' V' c' a', bldF B H T L kz kz 0 = (false, K', V', c') → (∀ k, k < 9 → k ≠ 0 → k ≠ 4 → a' 0 k = a 0 k) → (∀ q, q ≠ 0 → q ≠ 4 → a' q = a q) → Q (.inl (some (.int 0))) n (mW h b s a')) (hqT : ∀ K' V' c' a', bldF B H T L kz kz 0 = (true, K', V', c') → mV B H T K' V' (a' 0) → a' 0 4 = c' → (∀ k, k < 9 → k ≠ 0 → k ≠ 4 → a' 0 k = a 0 k) → (∀ q, q ≠ 0 → q ≠ 4 → a' q = a q) → Q (.inl (some (.int 1))) n (mW h b s a')) : Zj l mX8_builds (d + 4) kc ks 0 [(0, .ref b), (1, .int ((nI B)))] [] n (mW h b s a) Q := by
  refine z_aload_n (j := 0) dX8_builds_0 rfl ?_
  refine z_cVx [] none (fun g => ∃ a1, g = mW h b s a1 ∧ (∀ i, i < 64 → a1 0 (9 + i) = 0 ∧ a1 0 (73 + i) = 0) ∧ (∀ k, k < 9 → a1 0 k = a 0 k) ∧ (∀ q, q ≠ 0 → a1 q = a q)) yoX8_empties yvX8_empties rfl (by decide) lX8_113 (by omega) mW_obj rfl rfl (Nat.le_of_ble_eq_true rfl) (Nat.le_of_ble_eq_true rfl) dX8_builds_1 (z_room (by omega) (Nat.le_refl _) (Nat.le_refl _) (r_empties (d := 0) hb (fun a' h1 h2 h3 => ⟨rfl, rfl, a', rfl, h1, h2, h3⟩))) (fun g hg => ?_)
  obtain ⟨a1, rfl, hz1, h91, hr1⟩ := hg
  refine z_aload_n (j := 0) dX8_builds_4 rfl ?_
  refine z_get (v := .ref (b + 1)) (by omega) mW_obj fX8_7 rfl dX8_builds_5 ?_
  refine z_iconst (v := 0) dX8_builds_8 (by decide) ?_
  refine z_iload_n (j := 1) dX8_builds_9 rfl ?_
  refine m_astN 0 137 0 (by decide) rfl rfl hb rfl (by omega) (by decide) dX8_builds_10 ?_
  refine z_aload_n (j := 0) dX8_builds_11 rfl ?_
  refine z_get (v := .ref (b + 1)) (by omega) mW_obj fX8_7 rfl dX8_builds_12 ?_
  refine z_iconst (v := 4) dX8_builds_15 (by decide) ?_
  refine z_iconst (v := 0) dX8_builds_16 (by decide) ?_
  refine m_astN 0 137 4 (by decide) rfl rfl hb rfl (by omega) (by decide) dX8_builds_17 ?_
  refine z_iconst (v := 0) dX8_builds_18 (by decide) ?_
  refine z_istore_n [1, 2, 0] [(0, .ref b), (1, .int ((nI B))), (2, .int 0)] dX8_builds_19 (by decide) rfl ?_
  refine r_builds_l hb L.length 0 kz kz _ (by omega) (mV_nil okB1 h2H hH6 h1T hT99 (by simp [va_up]) (by simp [va_up, h91, e1]) (by simp [va_up, h91, e2]) (fun i hi => ?_)) (hqu.same rfl (by simp [va_up, hr1]) (by simp [va_up, hr1])) (fun K' V' c' a' e h1 h2 => hqF K' V' c' a' e (fun k hk k0 k4 => ?_) (fun q q0 q4 => ?_)) (fun K' V' c' a' e h1 h2 h3 h4 => hqT K' V' c' a' e h1 h2 (fun k hk k0 k4 => ?_) (fun q q0 q4 => ?_))
  · have x1 : ¬ 9 + i = 4 := by omega
    have x2 : ¬ 9 + i = 0 := by omega
    have x3 : ¬ 73 + i = 4 := by omega
    have x4 : ¬ 73 + i = 0 := by omega
    simp [va_up, x1, x3, hz1 i hi]
  · rw [h1 k hk k0 k4]; simp [va_up, k0, k4, h91 k hk]
  · rw [h2 q q0 q4]; simp [va_up, q0, hr1 q q0]
  · rw [h3 k hk k0 k4]; simp [va_up, k0, k4, h91 k hk]
  · rw [h4 q q0 q4]; simp [va_up, q0, hr1 q q0]
