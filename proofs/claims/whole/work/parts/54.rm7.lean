set_option maxHeartbeats 4000000 in
set_option maxRecDepth 100000 in
theorem r_adds_f {l : zL} {d kc ks n b B H T B0 key v bk : Nat} {h : Nat → va_E} {K V : Nat → Nat} {s : Nat → Int32} {a : Nat → Nat → Int32} {Q : zQ} {z : Nat} (hb : b + 14 ≤ n) (hM : mV B H T K V (a 0)) (hbk : bk < 64) (h8 : 8 ≤ B0) (h64 : B0 ≤ 64) (hq : ∀ a', a' 0 6 = a 0 6 + nI (dbl B 4 B0) → a' 0 7 = a 0 7 + 1 → (∀ k, k ≠ 6 → k ≠ 7 → a' 0 k = a 0 k) → (∀ q, q ≠ 0 → a' q = a q) → Q (.inl (some (.int (nI bk)))) n (mW h b s a')) : Zj l mX8_adds (d + 1) kc ks 85 [(0, .ref b), (1, .int ((nI key))), (2, .int ((nI v))), (3, .int ((nI B0))), (4, .int ((nI bk))), (5, .int ((nI z)))] [] n (mW h b s a) Q := by
  obtain ⟨okb, h2H, hH6, h1T, hT99, e0, e1, e2, ek, ev, ekv, ez⟩ := id hM
  have hle := okb.le
  refine z_iload (j := 4) dX8_adds_85 rfl ?_
  refine z_iconst (v := (-1)) dX8_adds_87 (by decide) ?_
  refine z_icmp_ne (tgt := 105) dX8_adds_88 (by decide) (fun c_88 => ?_) (fun c_88 => absurd c_88 (nI_neg1 (by omega)))
  refine z_aload_n (j := 0) dX8_adds_105 rfl ?_
  refine z_iload_n (j := 3) dX8_adds_106 rfl ?_
  refine z_cVx [.int (nI B0)] none (fun g => ∃ a', g = mW h b s a' ∧ a' 0 6 = a 0 6 + nI (dbl B 4 B0) ∧ (∀ k, k ≠ 6 → a' 0 k = a 0 k) ∧ (∀ q, q ≠ 0 → a' q = a q)) yoX8_counts yvX8_counts rfl (by decide) lX8_125 (by omega) mW_obj rfl rfl (Nat.le_of_ble_eq_true rfl) (Nat.le_of_ble_eq_true rfl) dX8_adds_107 (z_room (by omega) (Nat.le_refl _) (Nat.le_refl _) (r_counts (d := 0) hb hle.2 h8 h64 e0 (fun a' h1 h2 h3 => ⟨rfl, rfl, a', rfl, h1, h2, h3⟩))) (fun g hg => ?_)
  obtain ⟨a2, rfl, h62, hk2, hr2⟩ := hg
  refine z_aload_n (j := 0) dX8_adds_110 rfl ?_
  refine z_get (v := .ref (b + 1)) (by omega) mW_obj fX8_7 rfl dX8_adds_111 ?_
  refine z_bipush (v := 7) dX8_adds_114 (by decide) ?_
  refine z_dup2 rfl rfl dX8_adds_116 ?_
  refine m_aldN 0 137 7 (by decide) rfl rfl hb rfl (by omega) (by decide) dX8_adds_117 ?_
  refine z_iconst (v := 1) dX8_adds_118 (by decide) ?_
  refine z_iadd dX8_adds_119 ?_
  refine m_astN 0 137 7 (by decide) rfl rfl hb rfl (by omega) (by decide) dX8_adds_120 ?_
  refine z_iload (j := 4) dX8_adds_121 rfl ?_
  exact z_iret rfl dX8_adds_123 (hq _ (by simp [va_up, h62]) (by simp [va_up, hk2]) (fun k k6 k7 => by simp [va_up, k7, hk2 k k6]) (fun q q0 => by simp [va_up, q0, hr2 q q0]))

set_option maxHeartbeats 4000000 in
set_option maxRecDepth 100000 in
theorem r_adds_d {l : zL} {d kc ks n b B H T B0 key v bk : Nat} {h : Nat → va_E} {K V : Nat → Nat} {s : Nat → Int32} {a : Nat → Nat → Int32} {Q : zQ} {z : Nat} (hb : b + 14 ≤ n) (hM : mV B H T K V (a 0)) (hbk : bk < 64) (h8 : 8 ≤ B0) (h64 : B0 ≤ 64) (hq : ∀ a', a' 0 6 = a 0 6 + nI (dbl B 4 B0) → a' 0 7 = a 0 7 + 1 → (∀ k, k ≠ 6 → k ≠ 7 → a' 0 k = a 0 k) → (∀ q, q ≠ 0 → a' q = a q) → Q (.inl (some (.int (nI bk)))) n (mW h b s a')) : Zj l mX8_adds (d + 1) kc ks 42 [(0, .ref b), (1, .int ((nI key))), (2, .int ((nI v))), (3, .int ((nI B0))), (4, .int ((nI bk))), (5, .int ((nI z)))] [] n (mW h b s a) Q := by
  refine z_iload (j := 5) dX8_adds_42 rfl ?_
  refine z_bipush (v := 64) dX8_adds_44 (by decide) ?_
  refine z_icmp_gt (tgt := 85) dX8_adds_46 (by decide) (fun c_46 => ?_) (fun c_46 => ?_)
  · exact r_adds_f hb hM hbk h8 h64 hq
  · refine z_iload (j := 4) dX8_adds_49 rfl ?_
    refine z_iconst (v := (-1)) dX8_adds_51 (by decide) ?_
    refine z_icmp_ne (tgt := 85) dX8_adds_52 (by decide) (fun c_52 => ?_) (fun c_52 => absurd c_52 (nI_neg1 (by omega)))
    exact r_adds_f hb hM hbk h8 h64 hq

set_option maxHeartbeats 4000000 in
set_option maxRecDepth 100000 in
theorem r_adds_n {l : zL} {d kc ks n b B0 key v z : Nat} {h : Nat → va_E} {s : Nat → Int32} {a : Nat → Nat → Int32} {Q : zQ} (hb : b + 14 ≤ n) (hq : ∀ a', (∀ i, i < 137 → a' 0 i = a 3 i) → (∀ q, q ≠ 0 → a' q = a q) → Q (.inl (some (.int (-1)))) n (mW h b s a')) : Zj l mX8_adds (d + 1) kc ks 85 [(0, .ref b), (1, .int ((nI key))), (2, .int ((nI v))), (3, .int ((nI B0))), (4, .int ((-1))), (5, .int ((nI z)))] [] n (mW h b s a) Q := by
  refine z_iload (j := 4) dX8_adds_85 rfl ?_
  refine z_iconst (v := (-1)) dX8_adds_87 (by decide) ?_
  refine z_icmp_ne (tgt := 105) dX8_adds_88 (by decide) (fun c_88 => absurd rfl c_88) (fun c_88 => ?_)
  refine z_aload_n (j := 0) dX8_adds_91 rfl ?_
  refine z_aload_n (j := 0) dX8_adds_92 rfl ?_
  refine z_get (v := .ref (b + 4)) (by omega) mW_obj fX8_19 rfl dX8_adds_93 ?_
  refine z_aload_n (j := 0) dX8_adds_96 rfl ?_
  refine z_get (v := .ref (b + 1)) (by omega) mW_obj fX8_7 rfl dX8_adds_97 ?_
  refine z_cVx [.ref (b + 4), .ref (b + 1)] none (fun g => ∃ a', g = mW h b s a' ∧ (∀ i, i < 137 → a' 0 i = a 3 i) ∧ (∀ q, q ≠ 0 → a' q = a q)) yoX8_copies yvX8_copies rfl (by decide) lX8_96 (by omega) mW_obj rfl rfl (Nat.le_of_ble_eq_true rfl) (Nat.le_of_ble_eq_true rfl) dX8_adds_100 (z_room (by omega) (Nat.le_refl _) (Nat.le_refl _) (r_copies (d := 0) (j := 3) (j2 := 0) hb (by decide) rfl rfl (by decide) rfl rfl (by decide) (fun a' h1 h2 => ⟨rfl, rfl, a', rfl, h1, h2⟩))) (fun g hg => ?_)
  obtain ⟨a2, rfl, hd2, hr2⟩ := hg
  refine z_iconst (v := (-1)) dX8_adds_103 (by decide) ?_
  exact z_iret rfl dX8_adds_104 (hq a2 hd2 hr2)

set_option maxHeartbeats 4000000 in
set_option maxRecDepth 100000 in
theorem r_adds_l {l : zL} {d kc ks n b H T B0 key v : Nat} {h : Nat → va_E} {L : List (Nat × Nat)} {s : Nat → Int32} {Q : zQ} {r0 : Nat → Int32} (hb : b + 14 ≤ n) (hkey : key ≤ 9999) (hv : v ≤ 999) (h2H : 2 ≤ H) (hH6 : H ≤ 6) (h1T : 1 ≤ T) (hT99 : T ≤ 99) (h8 : 8 ≤ B0) (h64 : B0 ≤ 64) : ∀ m (a : Nat → Nat → Int32), m ≤ 4 → a 0 1 = nI H → a 0 2 = nI T → qN s a L → (∀ i, i < 137 → a 3 i = r0 i) → (∀ a', grR H T L key v m = none → (∀ i, i < 137 → a' 0 i = r0 i) → (∀ q, q ≠ 0 → q ≠ 4 → a' q = a q) → Q (.inl (some (.int (-1)))) n (mW h b s a')) → (∀ bk B' K' V' c' a', grR H T L key v m = some (bk, B', K', V', c') → mV B' H T K' V' (a' 0) → bk < B' → a' 0 4 = c' → a' 0 6 = a 0 6 + nI (dbl B' 4 B0) → a' 0 7 = a 0 7 + 1 → (∀ k, k < 9 → k ≠ 0 → k ≠ 4 → k ≠ 6 → k ≠ 7 → a' 0 k = a 0 k) → (∀ q, q ≠ 0 → q ≠ 4 → a' q = a q) → Q (.inl (some (.int (nI bk)))) n (mW h b s a')) → Zj l mX8_adds (d + 5) kc ks 42 [(0, .ref b), (1, .int ((nI key))), (2, .int ((nI v))), (3, .int ((nI B0))), (4, .int ((-1))), (5, .int ((nI (2 ^ (7 - m)))))] [] n (mW h b s a) Q := by
  intro m
  induction m with
  | zero =>
    intro a hm e1 e2 hqu hsf hqN hqS
    refine z_iload (j := 5) dX8_adds_42 rfl ?_
    refine z_bipush (v := 64) dX8_adds_44 (by decide) ?_
    refine z_icmp_gt (tgt := 85) dX8_adds_46 (by decide) (fun c_46 => ?_) (fun c_46 => absurd (by decide) c_46)
    exact r_adds_n hb (fun a' h1 h2 => hqN a' rfl (fun i hi => (h1 i hi).trans (hsf i hi)) (fun q q0 _ => h2 q q0))
  | succ m ih =>
    intro a hm e1 e2 hqu hsf hqN hqS
    have okB1 : okB (2 ^ (6 - m)) := okB_w (m := m) (by omega)
    have hw64 : 2 ^ (6 - m) ≤ 64 := okB1.le.2
    rw [show 7 - (m + 1) = 6 - m by omega]
    refine z_iload (j := 5) dX8_adds_42 rfl ?_
    refine z_bipush (v := 64) dX8_adds_44 (by decide) ?_
    refine z_icmp_gt (tgt := 85) dX8_adds_46 (by decide) (fun c_46 => absurd c_46 (nI_nlt (a := 64) hw64 (by omega))) (fun c_46 => ?_)
    refine z_iload (j := 4) dX8_adds_49 rfl ?_
    refine z_iconst (v := (-1)) dX8_adds_51 (by decide) ?_
    refine z_icmp_ne (tgt := 85) dX8_adds_52 (by decide) (fun c_52 => absurd rfl c_52) (fun c_52 => ?_)
    refine z_aload_n (j := 0) dX8_adds_55 rfl ?_
    refine z_iload (j := 5) dX8_adds_56 rfl ?_
    rcases hbf1 : bldF (2 ^ (6 - m)) H T L kz kz 0 with ⟨_ | _, K1, V1, c1⟩
    · refine z_cVx [.int (nI (2 ^ (6 - m)))] (some (.int 0)) (fun g => ∃ a', g = mW h b s a' ∧ (∀ k, k < 9 → k ≠ 0 → k ≠ 4 → a' 0 k = a 0 k) ∧ (∀ q, q ≠ 0 → q ≠ 4 → a' q = a q)) yoX8_builds yvX8_builds rfl (by decide) lX8_122 (by omega) mW_obj rfl rfl (Nat.le_of_ble_eq_true rfl) (Nat.le_of_ble_eq_true rfl) dX8_adds_58 (z_room (by omega) (Nat.le_refl _) (Nat.le_refl _) (r_builds (d := 0) hb okB1 h2H hH6 h1T hT99 e1 e2 hqu (fun K' V' c' a' e h3 h4 => ⟨rfl, rfl, a', rfl, h3, h4⟩) (fun K' V' c' a' e h1 h2 h3 h4 => by rw [hbf1] at e; cases e))) (fun g hg => ?_)
      obtain ⟨a1, rfl, h91, hr1⟩ := hg
      refine z_if_eq (tgt := 73) dX8_adds_61 (by decide) (fun c_61 => ?_) (fun c_61 => absurd rfl c_61)
      refine z_iconst (v := (-1)) dX8_adds_73 (by decide) ?_
      refine z_istore [1, 2, 3, 4, 0, 5] [(0, .ref b), (1, .int ((nI key))), (2, .int ((nI v))), (3, .int ((nI B0))), (4, .int ((-1))), (5, .int ((nI (2 ^ (6 - m)))))] dX8_adds_74 (by decide) rfl ?_
      refine z_iload (j := 5) dX8_adds_76 rfl ?_
      refine z_iconst (v := 2) dX8_adds_78 (by decide) ?_
      refine z_imul dX8_adds_79 ?_
      rw [w_next (m := m) (by omega)]
      refine z_istore [1, 2, 3, 4, 5, 0] [(0, .ref b), (1, .int ((nI key))), (2, .int ((nI v))), (3, .int ((nI B0))), (4, .int ((-1))), (5, .int ((nI (2 ^ (7 - m)))))] dX8_adds_80 (by decide) rfl ?_
      refine z_goto (tgt := 42) dX8_adds_82 (by decide) ?_
      have hgr := grR_no (key := key) (v := v) hbf1
      exact ih a1 (by omega) ((h91 1 (by omega) (by omega) (by omega)).trans e1) ((h91 2 (by omega) (by omega) (by omega)).trans e2) (hqu.same rfl (hr1 7 (by decide) (by decide)) (hr1 8 (by decide) (by decide))) (fun i hi => by rw [hr1 3 (by decide) (by decide)]; exact hsf i hi) (fun a' e h1 h2 => hqN a' (hgr.trans e) h1 (fun q q0 q4 => (h2 q q0 q4).trans (hr1 q q0 q4))) (fun bk B' K' V' c' a' e h1 h2 h3 h4 h5 h6 h7 => hqS bk B' K' V' c' a' (hgr.trans e) h1 h2 h3 (by rw [h4, h91 6 (by omega) (by omega) (by omega)]) (by rw [h5, h91 7 (by omega) (by omega) (by omega)]) (fun k hk k0 k4 k6 k7 => (h6 k hk k0 k4 k6 k7).trans (h91 k hk k0 k4)) (fun q q0 q4 => (h7 q q0 q4).trans (hr1 q q0 q4)))
    · refine z_cVx [.int (nI (2 ^ (6 - m)))] (some (.int 1)) (fun g => ∃ a', g = mW h b s a' ∧ mV (2 ^ (6 - m)) H T K1 V1 (a' 0) ∧ a' 0 4 = c1 ∧ (∀ k, k < 9 → k ≠ 0 → k ≠ 4 → a' 0 k = a 0 k) ∧ (∀ q, q ≠ 0 → q ≠ 4 → a' q = a q)) yoX8_builds yvX8_builds rfl (by decide) lX8_122 (by omega) mW_obj rfl rfl (Nat.le_of_ble_eq_true rfl) (Nat.le_of_ble_eq_true rfl) dX8_adds_58 (z_room (by omega) (Nat.le_refl _) (Nat.le_refl _) (r_builds (d := 0) hb okB1 h2H hH6 h1T hT99 e1 e2 hqu (fun K' V' c' a' e h3 h4 => by rw [hbf1] at e; cases e) (fun K' V' c' a' e h1 h2 h3 h4 => by
          rw [hbf1] at e
          cases e
          exact ⟨rfl, rfl, a', rfl, h1, h2, h3, h4⟩))) (fun g hg => ?_)
      obtain ⟨a1, rfl, hM1, h41, h91, hr1⟩ := hg
      refine z_if_eq (tgt := 73) dX8_adds_61 (by decide) (fun c_61 => absurd c_61 (by decide)) (fun c_61 => ?_)
      refine z_aload_n (j := 0) dX8_adds_64 rfl ?_
      refine z_iload_n (j := 1) dX8_adds_65 rfl ?_
      refine z_iload_n (j := 2) dX8_adds_66 rfl ?_
      rcases hpf2 : placeF (2 ^ (6 - m)) H T K1 V1 c1 key v with ⟨_ | bk2, K2, V2, c2⟩
      · refine z_cVx [.int (nI key), .int (nI v)] (some (.int (-1))) (fun g => ∃ a', g = mW h b s a' ∧ (∀ i, i < 137 → a' 0 i = a1 0 i) ∧ (∀ q, q ≠ 0 → q ≠ 4 → a' q = a1 q)) yoX8_lays yvX8_lays rfl (by decide) lX8_116 (by omega) mW_obj rfl rfl (Nat.le_of_ble_eq_true rfl) (Nat.le_of_ble_eq_true rfl) dX8_adds_67 (z_room (by omega) (Nat.le_refl _) (Nat.le_refl _) (r_lays (d := 0) hb hM1 hkey hv (fun a' e h1 h2 => ⟨rfl, rfl, a', rfl, h1, h2⟩) (fun bk' K' V' c' a' e h1 h2 h3 h4 => by rw [h41] at e; rw [hpf2] at e; cases e))) (fun g hg => ?_)
        obtain ⟨a2, rfl, hd2, hr2⟩ := hg
        have h92 : ∀ k, k < 9 → k ≠ 0 → k ≠ 4 → a2 0 k = a 0 k := fun k hk k0 k4 => (hd2 k (by omega)).trans (h91 k hk k0 k4)
        have hr2' : ∀ q, q ≠ 0 → q ≠ 4 → a2 q = a q := fun q q0 q4 => (hr2 q q0 q4).trans (hr1 q q0 q4)
        refine z_goto (tgt := 74) dX8_adds_70 (by decide) ?_
        refine z_istore [1, 2, 3, 4, 0, 5] [(0, .ref b), (1, .int ((nI key))), (2, .int ((nI v))), (3, .int ((nI B0))), (4, .int ((-1))), (5, .int ((nI (2 ^ (6 - m)))))] dX8_adds_74 (by decide) rfl ?_
        refine z_iload (j := 5) dX8_adds_76 rfl ?_
        refine z_iconst (v := 2) dX8_adds_78 (by decide) ?_
        refine z_imul dX8_adds_79 ?_
        rw [w_next (m := m) (by omega)]
        refine z_istore [1, 2, 3, 4, 5, 0] [(0, .ref b), (1, .int ((nI key))), (2, .int ((nI v))), (3, .int ((nI B0))), (4, .int ((-1))), (5, .int ((nI (2 ^ (7 - m)))))] dX8_adds_80 (by decide) rfl ?_
        refine z_goto (tgt := 42) dX8_adds_82 (by decide) ?_
        have hgr := grR_no2 hbf1 hpf2
        exact ih a2 (by omega) ((h92 1 (by omega) (by omega) (by omega)).trans e1) ((h92 2 (by omega) (by omega) (by omega)).trans e2) (hqu.same rfl (hr2' 7 (by decide) (by decide)) (hr2' 8 (by decide) (by decide))) (fun i hi => by rw [hr2' 3 (by decide) (by decide)]; exact hsf i hi) (fun a' e h1 h2 => hqN a' (hgr.trans e) h1 (fun q q0 q4 => (h2 q q0 q4).trans (hr2' q q0 q4))) (fun bk B' K' V' c' a' e h1 h2 h3 h4 h5 h6 h7 => hqS bk B' K' V' c' a' (hgr.trans e) h1 h2 h3 (by rw [h4, h92 6 (by omega) (by omega) (by omega)]) (by rw [h5, h92 7 (by omega) (by omega) (by omega)]) (fun k hk k0 k4 k6 k7 => (h6 k hk k0 k4 k6 k7).trans (h92 k hk k0 k4)) (fun q q0 q4 => (h7 q q0 q4).trans (hr2' q q0 q4)))
      · refine z_cVx [.int (nI key), .int (nI v)] (some (.int (nI bk2))) (fun g => ∃ a', g = mW h b s a' ∧ mV (2 ^ (6 - m)) H T K2 V2 (a' 0) ∧ a' 0 4 = c2 ∧ (∀ k, k < 9 → k ≠ 4 → a' 0 k = a1 0 k) ∧ (∀ q, q ≠ 0 → q ≠ 4 → a' q = a1 q)) yoX8_lays yvX8_lays rfl (by decide) lX8_116 (by omega) mW_obj rfl rfl (Nat.le_of_ble_eq_true rfl) (Nat.le_of_ble_eq_true rfl) dX8_adds_67 (z_room (by omega) (Nat.le_refl _) (Nat.le_refl _) (r_lays (d := 0) hb hM1 hkey hv (fun a' e h1 h2 => by rw [h41] at e; rw [hpf2] at e; cases e) (fun bk' K' V' c' a' e h1 h2 h3 h4 => by
            rw [h41] at e
            rw [hpf2] at e
            cases e
            exact ⟨rfl, rfl, a', rfl, h1, h2, h3, h4⟩))) (fun g hg => ?_)
        obtain ⟨a2, rfl, hM2, h42, h92, hr2⟩ := hg
        have hbk2 := placeF_lt okB1 hpf2
        have hgr := grR_yes hbf1 hpf2
        refine z_goto (tgt := 74) dX8_adds_70 (by decide) ?_
        refine z_istore [1, 2, 3, 4, 0, 5] [(0, .ref b), (1, .int ((nI key))), (2, .int ((nI v))), (3, .int ((nI B0))), (4, .int ((nI bk2))), (5, .int ((nI (2 ^ (6 - m)))))] dX8_adds_74 (by decide) rfl ?_
        refine z_iload (j := 5) dX8_adds_76 rfl ?_
        refine z_iconst (v := 2) dX8_adds_78 (by decide) ?_
        refine z_imul dX8_adds_79 ?_
        rw [w_next (m := m) (by omega)]
        refine z_istore [1, 2, 3, 4, 5, 0] [(0, .ref b), (1, .int ((nI key))), (2, .int ((nI v))), (3, .int ((nI B0))), (4, .int ((nI bk2))), (5, .int ((nI (2 ^ (7 - m)))))] dX8_adds_80 (by decide) rfl ?_
        refine z_goto (tgt := 42) dX8_adds_82 (by decide) ?_
        exact r_adds_d hb hM2 (by omega) h8 h64 (fun a' h1 h2 h3 h4 => hqS bk2 (2 ^ (6 - m)) K2 V2 c2 a' hgr (mV_same hM2 (fun k _ _ _ _ k6 k7 _ => h3 k k6 k7)) hbk2 (by rw [h3 4 (by decide) (by decide), h42]) (by rw [h1, h92 6 (by omega) (by omega), h91 6 (by omega) (by omega) (by omega)]) (by rw [h2, h92 7 (by omega) (by omega), h91 7 (by omega) (by omega) (by omega)]) (fun k hk k0 k4 k6 k7 => by rw [h3 k k6 k7, h92 k hk k4, h91 k hk k0 k4]) (fun q q0 q4 => by rw [h4 q q0, hr2 q q0 q4, hr1 q q0 q4]))

set_option maxHeartbeats 4000000 in
set_option maxRecDepth 100000 in
theorem r_adds {l : zL} {d kc ks n b B H T : Nat} {h : Nat → va_E} {K V : Nat → Nat} {s : Nat → Int32} {a : Nat → Nat → Int32} {Q : zQ} {key v : Nat} (hb : b + 14 ≤ n) (hM : mV B H T K V (a 0)) (hkey : key ≤ 9999) (hv : v ≤ 999) (hqN : ∀ s' a', insR B H T K V (a 0 4) key v = none → (∀ i, i < 137 → a' 0 i = a 0 i) → (∀ k, k ≠ 10 → s' k = s k) → (∀ q, q ≠ 0 → q ≠ 3 → q ≠ 4 → q ≠ 7 → q ≠ 8 → a' q = a q) → Q (.inl (some (.int (-1)))) n (mW h b s' a')) (hqS : ∀ bk B' K' V' c' s' a', insR B H T K V (a 0 4) key v = some (bk, B', K', V', c') → mV B' H T K' V' (a' 0) → bk < B' → a' 0 4 = c' → a' 0 6 = a 0 6 + nI (dbl B' 4 B) → a' 0 7 = a 0 7 + 1 → (∀ k, k < 9 → k ≠ 0 → k ≠ 4 → k ≠ 6 → k ≠ 7 → a' 0 k = a 0 k) → (∀ k, k ≠ 10 → s' k = s k) → (∀ q, q ≠ 0 → q ≠ 3 → q ≠ 4 → q ≠ 7 → q ≠ 8 → a' q = a q) → Q (.inl (some (.int (nI bk)))) n (mW h b s' a')) : Zj l mX8_adds (d + 6) kc ks 0 [(0, .ref b), (1, .int ((nI key))), (2, .int ((nI v)))] [] n (mW h b s a) Q := by
  obtain ⟨okb, h2H, hH6, h1T, hT99, e0, e1, e2, ek, ev, ekv, ez⟩ := id hM
  have hle := okb.le
  refine z_aload_n (j := 0) dX8_adds_0 rfl ?_
  refine z_get (v := .ref (b + 1)) (by omega) mW_obj fX8_7 rfl dX8_adds_1 ?_
  refine z_iconst (v := 0) dX8_adds_4 (by decide) ?_
  refine m_aldN 0 137 0 (by decide) rfl rfl hb rfl (by omega) (by decide) dX8_adds_5 ?_
  rw [show (a 0 0) = (nI B) from e0]
  refine z_istore_n [1, 2, 3, 0] [(0, .ref b), (1, .int ((nI key))), (2, .int ((nI v))), (3, .int ((nI B)))] dX8_adds_6 (by decide) rfl ?_
  refine z_aload_n (j := 0) dX8_adds_7 rfl ?_
  refine z_iload_n (j := 1) dX8_adds_8 rfl ?_
  refine z_iload_n (j := 2) dX8_adds_9 rfl ?_
  rcases hpf1 : placeF B H T K V (a 0 4) key v with ⟨_ | bk1, K1, V1, c1⟩
  · refine z_cVx [.int (nI key), .int (nI v)] (some (.int (-1))) (fun g => ∃ a', g = mW h b s a' ∧ (∀ i, i < 137 → a' 0 i = a 0 i) ∧ (∀ q, q ≠ 0 → q ≠ 4 → a' q = a q)) yoX8_lays yvX8_lays rfl (by decide) lX8_116 (by omega) mW_obj rfl rfl (Nat.le_of_ble_eq_true rfl) (Nat.le_of_ble_eq_true rfl) dX8_adds_10 (z_room (by omega) (Nat.le_refl _) (Nat.le_refl _) (r_lays (d := 0) hb hM hkey hv (fun a' e h1 h2 => ⟨rfl, rfl, a', rfl, h1, h2⟩) (fun bk' K' V' c' a' e h1 h2 h3 h4 => by rw [hpf1] at e; cases e))) (fun g hg => ?_)
    obtain ⟨a1, rfl, hd1, hr1⟩ := hg
    refine z_istore [1, 2, 3, 4, 0] [(0, .ref b), (1, .int ((nI key))), (2, .int ((nI v))), (3, .int ((nI B))), (4, .int ((-1)))] dX8_adds_13 (by decide) rfl ?_
    refine z_iload (j := 4) dX8_adds_15 rfl ?_
    refine z_iconst (v := (-1)) dX8_adds_17 (by decide) ?_
    refine z_icmp_ne (tgt := 37) dX8_adds_18 (by decide) (fun c_18 => absurd rfl c_18) (fun c_18 => ?_)
    refine z_aload_n (j := 0) dX8_adds_21 rfl ?_
    refine z_aload_n (j := 0) dX8_adds_22 rfl ?_
    refine z_get (v := .ref (b + 1)) (by omega) mW_obj fX8_7 rfl dX8_adds_23 ?_
    refine z_aload_n (j := 0) dX8_adds_26 rfl ?_
    refine z_get (v := .ref (b + 4)) (by omega) mW_obj fX8_19 rfl dX8_adds_27 ?_
    refine z_cVx [.ref (b + 1), .ref (b + 4)] none (fun g => ∃ a', g = mW h b s a' ∧ (∀ i, i < 137 → a' 3 i = a1 0 i) ∧ (∀ q, q ≠ 3 → a' q = a1 q)) yoX8_copies yvX8_copies rfl (by decide) lX8_96 (by omega) mW_obj rfl rfl (Nat.le_of_ble_eq_true rfl) (Nat.le_of_ble_eq_true rfl) dX8_adds_30 (z_room (by omega) (Nat.le_refl _) (Nat.le_refl _) (r_copies (d := 0) (j := 0) (j2 := 3) hb (by decide) rfl rfl (by decide) rfl rfl (by decide) (fun a' h1 h2 => ⟨rfl, rfl, a', rfl, h1, h2⟩))) (fun g hg => ?_)
    obtain ⟨a2, rfl, hd2, hr2⟩ := hg
    refine z_aload_n (j := 0) dX8_adds_33 rfl ?_
    refine z_cVx [] none (fun g => ∃ s' a', g = mW h b s' a' ∧ qN s' a' (entL K V B) ∧ (∀ k, k ≠ 10 → s' k = s k) ∧ (∀ q, q ≠ 7 → q ≠ 8 → a' q = a2 q)) yoX8_notes yvX8_notes rfl (by decide) lX8_119 (by omega) mW_obj rfl rfl (Nat.le_of_ble_eq_true rfl) (Nat.le_of_ble_eq_true rfl) dX8_adds_34 (z_room (by omega) (Nat.le_refl _) (Nat.le_refl _) (r_notes (d := 0) hb (show mV B H T K V (a2 0) from by rw [hr2 0 (by decide)]; exact mV_same hM (fun k hk _ _ _ _ _ _ => hd1 k hk)) (fun s' a' h1 h2 h3 => ⟨rfl, rfl, s', a', rfl, h1, h2, h3⟩))) (fun g hg => ?_)
    obtain ⟨s3, a3, rfl, hqu3, hs3, hr3⟩ := hg
    refine z_iconst (v := 2) dX8_adds_37 (by decide) ?_
    refine z_iload_n (j := 3) dX8_adds_38 rfl ?_
    refine z_imul dX8_adds_39 ?_
    rw [show (2 * (nI B)) = (nI (2 ^ (7 - wid B))) from by rw [(wid_2 okb).2, show (2 : Int32) = nI 2 from rfl, pk_mul]]
    refine z_istore [1, 2, 3, 4, 5, 0] [(0, .ref b), (1, .int ((nI key))), (2, .int ((nI v))), (3, .int ((nI B))), (4, .int ((-1))), (5, .int ((nI (2 ^ (7 - wid B)))))] dX8_adds_40 (by decide) rfl ?_
    have hw := (wid_2 okb).1
    have hin : insR B H T K V (a 0 4) key v = grR H T (entL K V B) key v (wid B) := by
      unfold insR
      rw [hpf1]
    have h30 : ∀ k, k < 137 → a3 0 k = a 0 k := fun k hk => by rw [hr3 0 (by decide) (by decide), hr2 0 (by decide)]; exact hd1 k hk
    refine r_adds_l (r0 := a 0) hb hkey hv h2H hH6 h1T hT99 hle.1 hle.2 (wid B) a3 (by omega) ((h30 1 (by omega)).trans e1) ((h30 2 (by omega)).trans e2) hqu3 (fun i hi => by rw [hr3 3 (by decide) (by decide), hd2 i hi]; exact hd1 i hi) (fun a' e h1 h2 => hqN s3 a' (hin.trans e) h1 hs3 (fun q q0 q3 q4 q7 q8 => by rw [h2 q q0 q4, hr3 q q7 q8, hr2 q q3, hr1 q q0 q4])) (fun bk B' K' V' c' a' e h1 h2 h3 h4 h5 h6 h7 => hqS bk B' K' V' c' s3 a' (hin.trans e) h1 h2 h3 (by rw [h4, h30 6 (by omega)]) (by rw [h5, h30 7 (by omega)]) (fun k hk k0 k4 k6 k7 => by rw [h6 k hk k0 k4 k6 k7, h30 k (by omega)]) hs3 (fun q q0 q3 q4 q7 q8 => by rw [h7 q q0 q4, hr3 q q7 q8, hr2 q q3, hr1 q q0 q4]))
  · refine z_cVx [.int (nI key), .int (nI v)] (some (.int (nI bk1))) (fun g => ∃ a', g = mW h b s a' ∧ mV B H T K1 V1 (a' 0) ∧ a' 0 4 = c1 ∧ (∀ k, k < 9 → k ≠ 4 → a' 0 k = a 0 k) ∧ (∀ q, q ≠ 0 → q ≠ 4 → a' q = a q)) yoX8_lays yvX8_lays rfl (by decide) lX8_116 (by omega) mW_obj rfl rfl (Nat.le_of_ble_eq_true rfl) (Nat.le_of_ble_eq_true rfl) dX8_adds_10 (z_room (by omega) (Nat.le_refl _) (Nat.le_refl _) (r_lays (d := 0) hb hM hkey hv (fun a' e h1 h2 => by rw [hpf1] at e; cases e) (fun bk' K' V' c' a' e h1 h2 h3 h4 => by
        rw [hpf1] at e
        cases e
        exact ⟨rfl, rfl, a', rfl, h1, h2, h3, h4⟩))) (fun g hg => ?_)
    obtain ⟨a1, rfl, hM1, h41, h91, hr1⟩ := hg
    have hbk1 := placeF_lt okb hpf1
    have hin : insR B H T K V (a 0 4) key v = some (bk1, B, K1, V1, c1) := by
      unfold insR
      rw [hpf1]
    refine z_istore [1, 2, 3, 4, 0] [(0, .ref b), (1, .int ((nI key))), (2, .int ((nI v))), (3, .int ((nI B))), (4, .int ((nI bk1)))] dX8_adds_13 (by decide) rfl ?_
    refine z_iload (j := 4) dX8_adds_15 rfl ?_
    refine z_iconst (v := (-1)) dX8_adds_17 (by decide) ?_
    refine z_icmp_ne (tgt := 37) dX8_adds_18 (by decide) (fun c_18 => ?_) (fun c_18 => absurd c_18 (nI_neg1 (by omega)))
    refine z_iconst (v := 2) dX8_adds_37 (by decide) ?_
    refine z_iload_n (j := 3) dX8_adds_38 rfl ?_
    refine z_imul dX8_adds_39 ?_
    rw [show (2 * (nI B)) = (nI (2 * B)) from by rw [show (2 : Int32) = nI 2 from rfl, pk_mul]]
    refine z_istore [1, 2, 3, 4, 5, 0] [(0, .ref b), (1, .int ((nI key))), (2, .int ((nI v))), (3, .int ((nI B))), (4, .int ((nI bk1))), (5, .int ((nI (2 * B))))] dX8_adds_40 (by decide) rfl ?_
    exact r_adds_d hb hM1 (by omega) hle.1 hle.2 (fun a' h1 h2 h3 h4 => hqS bk1 B K1 V1 c1 s a' hin (mV_same hM1 (fun k _ _ _ _ k6 k7 _ => h3 k k6 k7)) hbk1 (by rw [h3 4 (by decide) (by decide), h41]) (by rw [h1, h91 6 (by omega) (by omega)]) (by rw [h2, h91 7 (by omega) (by omega)]) (fun k hk k0 k4 k6 k7 => by rw [h3 k k6 k7, h91 k hk k4]) (fun _ _ => rfl) (fun q q0 q3 q4 q7 q8 => by rw [h4 q q0, hr1 q q0 q4]))
