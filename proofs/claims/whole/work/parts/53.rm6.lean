set_option maxHeartbeats 4000000 in
set_option maxRecDepth 100000 in
theorem r_rb_l {l : zL} {d kc ks n b H T B0 : Nat} {h : Nat → va_E} {L : List (Nat × Nat)} {s : Nat → Int32} {Q : zQ} {x : Int32} (hb : b + 14 ≤ n) (h2H : 2 ≤ H) (hH6 : H ≤ 6) (h1T : 1 ≤ T) (hT99 : T ≤ 99) (h8 : 8 ≤ B0) (h64 : B0 ≤ 64) : ∀ m (a : Nat → Nat → Int32), m ≤ 4 → a 0 1 = nI H → a 0 2 = nI T → qN s a L → (∀ a', rbR H T L m = none → (∀ q, q ≠ 0 → q ≠ 4 → a' q = a q) → Q (.inl (some (.int 0))) n (mW h b s a')) → (∀ B' K' V' c' a', rbR H T L m = some (B', K', V', c') → mV B' H T K' V' (a' 0) → a' 0 4 = c' → a' 0 6 = a 0 6 + nI (dbl B' 4 B0) → (∀ k, k < 9 → k ≠ 0 → k ≠ 4 → k ≠ 6 → a' 0 k = a 0 k) → (∀ q, q ≠ 0 → q ≠ 4 → a' q = a q) → Q (.inl (some (.int 1))) n (mW h b s a')) → Zj l mX8_rebuilds (d + 5) kc ks 13 [(0, .ref b), (1, .int x), (2, .int ((nI B0))), (3, .int ((nI (2 ^ (7 - m)))))] [] n (mW h b s a) Q := by
  intro m
  induction m with
  | zero =>
    intro a hm e1 e2 hqu hqF hqT
    refine z_iload_n (j := 3) dX8_rebuilds_13 rfl ?_
    refine z_bipush (v := 64) dX8_rebuilds_14 (by decide) ?_
    refine z_icmp_gt (tgt := 41) dX8_rebuilds_16 (by decide) (fun c_16 => ?_) (fun c_16 => absurd (by decide) c_16)
    refine z_iconst (v := 0) dX8_rebuilds_41 (by decide) ?_
    exact z_zret rfl rfl dX8_rebuilds_42 (hqF a rfl (fun _ _ _ => rfl))
  | succ m ih =>
    intro a hm e1 e2 hqu hqF hqT
    have okB1 : okB (2 ^ (6 - m)) := okB_w (m := m) (by omega)
    have hw64 : 2 ^ (6 - m) ≤ 64 := okB1.le.2
    rw [show 7 - (m + 1) = 6 - m by omega]
    refine z_iload_n (j := 3) dX8_rebuilds_13 rfl ?_
    refine z_bipush (v := 64) dX8_rebuilds_14 (by decide) ?_
    refine z_icmp_gt (tgt := 41) dX8_rebuilds_16 (by decide) (fun c_16 => absurd c_16 (nI_nlt (a := 64) hw64 (by omega))) (fun c_16 => ?_)
    refine z_aload_n (j := 0) dX8_rebuilds_19 rfl ?_
    refine z_iload_n (j := 3) dX8_rebuilds_20 rfl ?_
    rcases hbf1 : bldF (2 ^ (6 - m)) H T L kz kz 0 with ⟨_ | _, K1, V1, c1⟩
    · refine z_cVx [.int (nI (2 ^ (6 - m)))] (some (.int 0)) (fun g => ∃ a', g = mW h b s a' ∧ (∀ k, k < 9 → k ≠ 0 → k ≠ 4 → a' 0 k = a 0 k) ∧ (∀ q, q ≠ 0 → q ≠ 4 → a' q = a q)) yoX8_builds yvX8_builds rfl (by decide) lX8_122 (by omega) mW_obj rfl rfl (Nat.le_of_ble_eq_true rfl) (Nat.le_of_ble_eq_true rfl) dX8_rebuilds_21 (z_room (by omega) (Nat.le_refl _) (Nat.le_refl _) (r_builds (d := 0) hb okB1 h2H hH6 h1T hT99 e1 e2 hqu (fun K' V' c' a' e h3 h4 => ⟨rfl, rfl, a', rfl, h3, h4⟩) (fun K' V' c' a' e h1 h2 h3 h4 => by rw [hbf1] at e; cases e))) (fun g hg => ?_)
      obtain ⟨a1, rfl, h91, hr1⟩ := hg
      refine z_if_eq (tgt := 34) dX8_rebuilds_24 (by decide) (fun c_24 => ?_) (fun c_24 => absurd rfl c_24)
      refine z_iload_n (j := 3) dX8_rebuilds_34 rfl ?_
      refine z_iconst (v := 2) dX8_rebuilds_35 (by decide) ?_
      refine z_imul dX8_rebuilds_36 ?_
      rw [w_next (m := m) (by omega)]
      refine z_istore_n [1, 2, 3, 0] [(0, .ref b), (1, .int x), (2, .int ((nI B0))), (3, .int ((nI (2 ^ (7 - m)))))] dX8_rebuilds_37 (by decide) rfl ?_
      refine z_goto (tgt := 13) dX8_rebuilds_38 (by decide) ?_
      have hgr := rbR_no hbf1
      exact ih a1 (by omega) ((h91 1 (by omega) (by omega) (by omega)).trans e1) ((h91 2 (by omega) (by omega) (by omega)).trans e2) (hqu.same rfl (hr1 7 (by decide) (by decide)) (hr1 8 (by decide) (by decide))) (fun a' e h1 => hqF a' (hgr.trans e) (fun q q0 q4 => (h1 q q0 q4).trans (hr1 q q0 q4))) (fun B' K' V' c' a' e h1 h2 h3 h4 h5 => hqT B' K' V' c' a' (hgr.trans e) h1 h2 (by rw [h3, h91 6 (by omega) (by omega) (by omega)]) (fun k hk k0 k4 k6 => (h4 k hk k0 k4 k6).trans (h91 k hk k0 k4)) (fun q q0 q4 => (h5 q q0 q4).trans (hr1 q q0 q4)))
    · refine z_cVx [.int (nI (2 ^ (6 - m)))] (some (.int 1)) (fun g => ∃ a', g = mW h b s a' ∧ mV (2 ^ (6 - m)) H T K1 V1 (a' 0) ∧ a' 0 4 = c1 ∧ (∀ k, k < 9 → k ≠ 0 → k ≠ 4 → a' 0 k = a 0 k) ∧ (∀ q, q ≠ 0 → q ≠ 4 → a' q = a q)) yoX8_builds yvX8_builds rfl (by decide) lX8_122 (by omega) mW_obj rfl rfl (Nat.le_of_ble_eq_true rfl) (Nat.le_of_ble_eq_true rfl) dX8_rebuilds_21 (z_room (by omega) (Nat.le_refl _) (Nat.le_refl _) (r_builds (d := 0) hb okB1 h2H hH6 h1T hT99 e1 e2 hqu (fun K' V' c' a' e h3 h4 => by rw [hbf1] at e; cases e) (fun K' V' c' a' e h1 h2 h3 h4 => by
          rw [hbf1] at e
          cases e
          exact ⟨rfl, rfl, a', rfl, h1, h2, h3, h4⟩))) (fun g hg => ?_)
      obtain ⟨a1, rfl, hM1, h41, h91, hr1⟩ := hg
      have e01 := hM1.2.2.2.2.2.1
      refine z_if_eq (tgt := 34) dX8_rebuilds_24 (by decide) (fun c_24 => absurd c_24 (by decide)) (fun c_24 => ?_)
      refine z_aload_n (j := 0) dX8_rebuilds_27 rfl ?_
      refine z_iload_n (j := 2) dX8_rebuilds_28 rfl ?_
      refine z_cVx [.int (nI B0)] none (fun g => ∃ a', g = mW h b s a' ∧ a' 0 6 = a1 0 6 + nI (dbl (2 ^ (6 - m)) 4 B0) ∧ (∀ k, k ≠ 6 → a' 0 k = a1 0 k) ∧ (∀ q, q ≠ 0 → a' q = a1 q)) yoX8_counts yvX8_counts rfl (by decide) lX8_125 (by omega) mW_obj rfl rfl (Nat.le_of_ble_eq_true rfl) (Nat.le_of_ble_eq_true rfl) dX8_rebuilds_29 (z_room (by omega) (Nat.le_refl _) (Nat.le_refl _) (r_counts (d := 0) hb hw64 h8 h64 e01 (fun a' h1 h2 h3 => ⟨rfl, rfl, a', rfl, h1, h2, h3⟩))) (fun g hg => ?_)
      obtain ⟨a2, rfl, h62, hk2, hr2⟩ := hg
      refine z_iconst (v := 1) dX8_rebuilds_32 (by decide) ?_
      exact z_zret rfl rfl dX8_rebuilds_33 (hqT (2 ^ (6 - m)) K1 V1 c1 a2 (rbR_yes hbf1) (mV_same hM1 (fun k _ _ _ _ k6 _ _ => hk2 k k6)) (by rw [hk2 4 (by decide), h41]) (by rw [h62, h91 6 (by omega) (by omega) (by omega)]) (fun k hk k0 k4 k6 => (hk2 k k6).trans (h91 k hk k0 k4)) (fun q q0 q4 => (hr2 q q0).trans (hr1 q q0 q4)))

set_option maxHeartbeats 4000000 in
set_option maxRecDepth 100000 in
theorem r_rebuilds {l : zL} {d kc ks n b B H T : Nat} {h : Nat → va_E} {K V : Nat → Nat} {s : Nat → Int32} {a : Nat → Nat → Int32} {Q : zQ} {m : Nat} (hb : b + 14 ≤ n) (hM : mV B H T K V (a 0)) (hm : m ≤ 4) (hqF : ∀ s' a', rbR H T (entL K V B) m = none → (∀ k, k ≠ 10 → s' k = s k) → (∀ q, q ≠ 0 → q ≠ 4 → q ≠ 7 → q ≠ 8 → a' q = a q) → Q (.inl (some (.int 0))) n (mW h b s' a')) (hqT : ∀ B' K' V' c' s' a', rbR H T (entL K V B) m = some (B', K', V', c') → mV B' H T K' V' (a' 0) → a' 0 4 = c' → a' 0 6 = a 0 6 + nI (dbl B' 4 B) → (∀ k, k < 9 → k ≠ 0 → k ≠ 4 → k ≠ 6 → a' 0 k = a 0 k) → (∀ k, k ≠ 10 → s' k = s k) → (∀ q, q ≠ 0 → q ≠ 4 → q ≠ 7 → q ≠ 8 → a' q = a q) → Q (.inl (some (.int 1))) n (mW h b s' a')) : Zj l mX8_rebuilds (d + 6) kc ks 0 [(0, .ref b), (1, .int ((nI (2 ^ (7 - m)))))] [] n (mW h b s a) Q := by
  obtain ⟨okb, h2H, hH6, h1T, hT99, e0, e1, e2, ek, ev, ekv, ez⟩ := id hM
  have hle := okb.le
  refine z_aload_n (j := 0) dX8_rebuilds_0 rfl ?_
  refine z_get (v := .ref (b + 1)) (by omega) mW_obj fX8_7 rfl dX8_rebuilds_1 ?_
  refine z_iconst (v := 0) dX8_rebuilds_4 (by decide) ?_
  refine m_aldN 0 137 0 (by decide) rfl rfl hb rfl (by omega) (by decide) dX8_rebuilds_5 ?_
  rw [show (a 0 0) = (nI B) from e0]
  refine z_istore_n [1, 2, 0] [(0, .ref b), (1, .int ((nI (2 ^ (7 - m))))), (2, .int ((nI B)))] dX8_rebuilds_6 (by decide) rfl ?_
  refine z_aload_n (j := 0) dX8_rebuilds_7 rfl ?_
  refine z_cVx [] none (fun g => ∃ s' a', g = mW h b s' a' ∧ qN s' a' (entL K V B) ∧ (∀ k, k ≠ 10 → s' k = s k) ∧ (∀ q, q ≠ 7 → q ≠ 8 → a' q = a q)) yoX8_notes yvX8_notes rfl (by decide) lX8_119 (by omega) mW_obj rfl rfl (Nat.le_of_ble_eq_true rfl) (Nat.le_of_ble_eq_true rfl) dX8_rebuilds_8 (z_room (by omega) (Nat.le_refl _) (Nat.le_refl _) (r_notes (d := 0) hb hM (fun s' a' h1 h2 h3 => ⟨rfl, rfl, s', a', rfl, h1, h2, h3⟩))) (fun g hg => ?_)
  obtain ⟨s1, a1, rfl, hqu1, hs1, hr1⟩ := hg
  refine z_iload_n (j := 1) dX8_rebuilds_11 rfl ?_
  refine z_istore_n [1, 2, 3, 0] [(0, .ref b), (1, .int ((nI (2 ^ (7 - m))))), (2, .int ((nI B))), (3, .int ((nI (2 ^ (7 - m)))))] dX8_rebuilds_12 (by decide) rfl ?_
  have h10 : a1 0 = a 0 := hr1 0 (by decide) (by decide)
  exact r_rb_l hb h2H hH6 h1T hT99 hle.1 hle.2 m a1 hm (by rw [h10]; exact e1) (by rw [h10]; exact e2) hqu1 (fun a' e h1 => hqF s1 a' e hs1 (fun q q0 q4 q7 q8 => (h1 q q0 q4).trans (hr1 q q7 q8))) (fun B' K' V' c' a' e h1 h2 h3 h4 h5 => hqT B' K' V' c' s1 a' e h1 h2 (by rw [h3, h10]) (fun k hk k0 k4 k6 => by rw [h4 k hk k0 k4 k6, h10]) hs1 (fun q q0 q4 q7 q8 => (h5 q q0 q4).trans (hr1 q q7 q8)))
