set_option maxHeartbeats 4000000 in
set_option maxRecDepth 100000 in
theorem r_whyOut {l : zL} {d kc ks n b B H T : Nat} {h : Nat → va_E} {K V : Nat → Nat} {s : Nat → Int32} {a : Nat → Nat → Int32} {Q : zQ} {key : Nat} (hb : b + 14 ≤ n) (hM : mV B H T K V (a 0)) (hkey : key ≤ 9999) (hq : ∀ s' a', (∀ i, i < 137 → a' 0 i = a 0 i) → (∀ k, k ≠ 10 → s' k = s k) → (∀ q, q ≠ 0 → q ≠ 2 → q ≠ 3 → q ≠ 4 → q ≠ 7 → q ≠ 8 → a' q = a q) → Q (.inl (some (.int (whyR B H T K V (a 0 4) key)))) n (mW h b s' a')) : Zj l mX8_whyOut (d + 7) kc ks 0 [(0, .ref b), (1, .int ((nI key)))] [] n (mW h b s a) Q := by
  obtain ⟨okb, h2H, hH6, h1T, hT99, e0, e1, e2, ek, ev, ekv, ez⟩ := id hM
  have hle := okb.le
  refine z_aload_n (j := 0) dX8_whyOut_0 rfl ?_
  refine z_iload_n (j := 1) dX8_whyOut_1 rfl ?_
  refine z_cV [.int ((nI key))] (some (.int ((optI (bwS B K key))))) yoX8_bucketWith yvX8_bucketWith rfl (by decide) lX8_129 (by omega) mW_obj rfl rfl (Nat.le_of_ble_eq_true rfl) (Nat.le_of_ble_eq_true rfl) dX8_whyOut_2 (z_room (by omega) (Nat.le_refl _) (Nat.le_refl _) (r_bucketWith (d := 0) hb hM hkey ⟨rfl, rfl, rfl⟩)) ?_
  rcases hbw : bwS B K key with _ | bk0
  · rw [show optI none = -1 from rfl]
    refine z_iconst (v := (-1)) dX8_whyOut_5 (by decide) ?_
    refine z_icmp_eq (tgt := 11) dX8_whyOut_6 (by decide) (fun c_6 => ?_) (fun c_6 => absurd rfl c_6)
    refine z_aload_n (j := 0) dX8_whyOut_11 rfl ?_
    refine z_aload_n (j := 0) dX8_whyOut_12 rfl ?_
    refine z_get (v := .ref (b + 1)) (by omega) mW_obj fX8_7 rfl dX8_whyOut_13 ?_
    refine z_aload_n (j := 0) dX8_whyOut_16 rfl ?_
    refine z_get (v := .ref (b + 3)) (by omega) mW_obj fX8_16 rfl dX8_whyOut_17 ?_
    refine z_cVx [.ref (b + 1), .ref (b + 3)] none (fun g => ∃ a', g = mW h b s a' ∧ (∀ i, i < 137 → a' 2 i = a 0 i) ∧ (∀ q, q ≠ 2 → a' q = a q)) yoX8_copies yvX8_copies rfl (by decide) lX8_96 (by omega) mW_obj rfl rfl (Nat.le_of_ble_eq_true rfl) (Nat.le_of_ble_eq_true rfl) dX8_whyOut_20 (z_room (by omega) (Nat.le_refl _) (Nat.le_refl _) (r_copies (d := 0) (j := 0) (j2 := 2) hb (by decide) rfl rfl (by decide) rfl rfl (by decide) (fun a' h1 h2 => ⟨rfl, rfl, a', rfl, h1, h2⟩))) (fun g hg => ?_)
    obtain ⟨a1, rfl, hd1, hr1⟩ := hg
    have h10 : a1 0 = a 0 := hr1 0 (by decide)
    have hM1 : mV B H T K V (a1 0) := by rw [h10]; exact hM
    refine z_aload_n (j := 0) dX8_whyOut_23 rfl ?_
    refine z_iload_n (j := 1) dX8_whyOut_24 rfl ?_
    refine z_iconst (v := 0) dX8_whyOut_25 (by decide) ?_
    rcases hif2 : insR B H T K V (a 0 4) key 0 with _ | ⟨bk2, B2, K2, V2, c2⟩
    · refine z_cVx [.int (nI key), .int 0] (some (.int (-1))) (fun g => ∃ s' a', g = mW h b s' a' ∧ (∀ i, i < 137 → a' 0 i = a1 0 i) ∧ (∀ k, k ≠ 10 → s' k = s k) ∧ (∀ q, q ≠ 0 → q ≠ 3 → q ≠ 4 → q ≠ 7 → q ≠ 8 → a' q = a1 q)) yoX8_adds yvX8_adds rfl (by decide) lX8_132 (by omega) mW_obj rfl rfl (Nat.le_of_ble_eq_true rfl) (Nat.le_of_ble_eq_true rfl) dX8_whyOut_26 (z_room (by omega) (Nat.le_refl _) (Nat.le_refl _) (r_adds (d := 0) (key := key) (v := 0) hb hM1 hkey (by decide) (fun s' a' e h1 h2 h3 => ⟨rfl, rfl, s', a', rfl, h1, h2, h3⟩) (fun bk' B' K' V' c' s' a' e h1 h2 h3 h4 h5 h6 h7 h8 => by rw [h10] at e; rw [hif2] at e; cases e))) (fun g hg => ?_)
      obtain ⟨s2, a2, rfl, hd2, hs2, hr2⟩ := hg
      refine z_istore_n [1, 2, 0] [(0, .ref b), (1, .int ((nI key))), (2, .int ((-1)))] dX8_whyOut_29 (by decide) rfl ?_
      refine z_aload_n (j := 0) dX8_whyOut_30 rfl ?_
      refine z_aload_n (j := 0) dX8_whyOut_31 rfl ?_
      refine z_get (v := .ref (b + 3)) (by omega) mW_obj fX8_16 rfl dX8_whyOut_32 ?_
      refine z_aload_n (j := 0) dX8_whyOut_35 rfl ?_
      refine z_get (v := .ref (b + 1)) (by omega) mW_obj fX8_7 rfl dX8_whyOut_36 ?_
      refine z_cVx [.ref (b + 3), .ref (b + 1)] none (fun g => ∃ a', g = mW h b s2 a' ∧ (∀ i, i < 137 → a' 0 i = a2 2 i) ∧ (∀ q, q ≠ 0 → a' q = a2 q)) yoX8_copies yvX8_copies rfl (by decide) lX8_96 (by omega) mW_obj rfl rfl (Nat.le_of_ble_eq_true rfl) (Nat.le_of_ble_eq_true rfl) dX8_whyOut_39 (z_room (by omega) (Nat.le_refl _) (Nat.le_refl _) (r_copies (d := 0) (j := 2) (j2 := 0) hb (by decide) rfl rfl (by decide) rfl rfl (by decide) (fun a' h1 h2 => ⟨rfl, rfl, a', rfl, h1, h2⟩))) (fun g hg => ?_)
      obtain ⟨a3, rfl, hd3, hr3⟩ := hg
      refine z_iload_n (j := 2) dX8_whyOut_42 rfl ?_
      refine z_iconst (v := (-1)) dX8_whyOut_43 (by decide) ?_
      refine z_icmp_ne (tgt := 51) dX8_whyOut_44 (by decide) (fun c_44 => absurd rfl c_44) (fun c_44 => ?_)
      refine z_iconst (v := 2) dX8_whyOut_47 (by decide) ?_
      refine z_goto (tgt := 52) dX8_whyOut_48 (by decide) ?_
      exact z_iret rfl dX8_whyOut_52 (by
          have hy : whyR B H T K V (a 0 4) key = 2 := by simp only [whyR, hbw, hif2]
          rw [hy] at hq
          exact hq s2 a3 (fun i hi => by rw [hd3 i hi, hr2 2 (by decide) (by decide) (by decide) (by decide) (by decide), hd1 i hi]) hs2 (fun q q0 q2 q3 q4 q7 q8 => by rw [hr3 q q0, hr2 q q0 q3 q4 q7 q8, hr1 q q2]))
    · refine z_cVx [.int (nI key), .int 0] (some (.int (nI bk2))) (fun g => ∃ s' a', g = mW h b s' a' ∧ mV B2 H T K2 V2 (a' 0) ∧ bk2 < B2 ∧ a' 0 4 = c2 ∧ a' 0 6 = a1 0 6 + nI (dbl B2 4 B) ∧ a' 0 7 = a1 0 7 + 1 ∧ (∀ k, k < 9 → k ≠ 0 → k ≠ 4 → k ≠ 6 → k ≠ 7 → a' 0 k = a1 0 k) ∧ (∀ k, k ≠ 10 → s' k = s k) ∧ (∀ q, q ≠ 0 → q ≠ 3 → q ≠ 4 → q ≠ 7 → q ≠ 8 → a' q = a1 q)) yoX8_adds yvX8_adds rfl (by decide) lX8_132 (by omega) mW_obj rfl rfl (Nat.le_of_ble_eq_true rfl) (Nat.le_of_ble_eq_true rfl) dX8_whyOut_26 (z_room (by omega) (Nat.le_refl _) (Nat.le_refl _) (r_adds (d := 0) (key := key) (v := 0) hb hM1 hkey (by decide) (fun s' a' e h1 h2 h3 => by rw [h10] at e; rw [hif2] at e; cases e) (fun bk' B' K' V' c' s' a' e h1 h2 h3 h4 h5 h6 h7 h8 => by
          rw [h10] at e
          rw [hif2] at e
          cases e
          exact ⟨rfl, rfl, s', a', rfl, h1, h2, h3, h4, h5, h6, h7, h8⟩))) (fun g hg => ?_)
      obtain ⟨s2, a2, rfl, hM2, hbk2, h42, h62, h72, h92, hs2, hr2⟩ := hg
      have hle2 := hM2.1.le
      refine z_istore_n [1, 2, 0] [(0, .ref b), (1, .int ((nI key))), (2, .int ((nI bk2)))] dX8_whyOut_29 (by decide) rfl ?_
      refine z_aload_n (j := 0) dX8_whyOut_30 rfl ?_
      refine z_aload_n (j := 0) dX8_whyOut_31 rfl ?_
      refine z_get (v := .ref (b + 3)) (by omega) mW_obj fX8_16 rfl dX8_whyOut_32 ?_
      refine z_aload_n (j := 0) dX8_whyOut_35 rfl ?_
      refine z_get (v := .ref (b + 1)) (by omega) mW_obj fX8_7 rfl dX8_whyOut_36 ?_
      refine z_cVx [.ref (b + 3), .ref (b + 1)] none (fun g => ∃ a', g = mW h b s2 a' ∧ (∀ i, i < 137 → a' 0 i = a2 2 i) ∧ (∀ q, q ≠ 0 → a' q = a2 q)) yoX8_copies yvX8_copies rfl (by decide) lX8_96 (by omega) mW_obj rfl rfl (Nat.le_of_ble_eq_true rfl) (Nat.le_of_ble_eq_true rfl) dX8_whyOut_39 (z_room (by omega) (Nat.le_refl _) (Nat.le_refl _) (r_copies (d := 0) (j := 2) (j2 := 0) hb (by decide) rfl rfl (by decide) rfl rfl (by decide) (fun a' h1 h2 => ⟨rfl, rfl, a', rfl, h1, h2⟩))) (fun g hg => ?_)
      obtain ⟨a3, rfl, hd3, hr3⟩ := hg
      refine z_iload_n (j := 2) dX8_whyOut_42 rfl ?_
      refine z_iconst (v := (-1)) dX8_whyOut_43 (by decide) ?_
      refine z_icmp_ne (tgt := 51) dX8_whyOut_44 (by decide) (fun c_44 => ?_) (fun c_44 => absurd c_44 (nI_neg1 (by omega)))
      refine z_iconst (v := 0) dX8_whyOut_51 (by decide) ?_
      exact z_iret rfl dX8_whyOut_52 (by
          have hy : whyR B H T K V (a 0 4) key = 0 := by simp only [whyR, hbw, hif2]
          rw [hy] at hq
          exact hq s2 a3 (fun i hi => by rw [hd3 i hi, hr2 2 (by decide) (by decide) (by decide) (by decide) (by decide), hd1 i hi]) hs2 (fun q q0 q2 q3 q4 q7 q8 => by rw [hr3 q q0, hr2 q q0 q3 q4 q7 q8, hr1 q q2]))
  · rw [show optI (some bk0) = nI bk0 from rfl]
    obtain ⟨hbB, hKb⟩ := bwS_lt hbw
    refine z_iconst (v := (-1)) dX8_whyOut_5 (by decide) ?_
    refine z_icmp_eq (tgt := 11) dX8_whyOut_6 (by decide) (fun c_6 => absurd c_6 (nI_neg1 (by omega))) (fun c_6 => ?_)
    refine z_iconst (v := 1) dX8_whyOut_9 (by decide) ?_
    exact z_iret rfl dX8_whyOut_10 (by
        have hy : whyR B H T K V (a 0 4) key = 1 := by simp only [whyR, hbw]
        rw [hy] at hq
        exact hq s a (fun _ _ => rfl) (fun _ _ => rfl) (fun _ _ _ _ _ _ _ => rfl))

set_option maxHeartbeats 4000000 in
set_option maxRecDepth 100000 in
theorem r_pulled_i {l : zL} {d kc ks n b B H T : Nat} {h : Nat → va_E} {K V : Nat → Nat} {s : Nat → Int32} {a : Nat → Nat → Int32} {Q : zQ} {free : Nat} {j : Nat} (hb : b + 14 ≤ n) (hM : mV B H T K V (a 0)) (hfr : free < B) (hjH : j < H) : ∀ m, j + m < H → fndD (fun k => isO B T K ((((free + B - j) % B) + k) % B) ((free + B - j) % B)) j m = pulI B H T K free j → (pulI B H T K free j = none → Zj l mX8_pulled (d + 2) kc ks 9 [(0, .ref b), (1, .int (nI free)), (2, .int (bkI j))] [] n (mW h b s a) Q) → (∀ k, pulI B H T K free j = some k → Q (.inl (some (.int (nI (mvSrc B free j k))))) n (mW h b s a)) → Zj l mX8_pulled (d + 2) kc ks 31 [(0, .ref b), (1, .int ((nI free))), (2, .int ((nI j))), (3, .int ((nI ((free + B - j) % B)))), (4, .int ((nI (j + m))))] [] n (mW h b s a) Q := by
  obtain ⟨okb, h2H, hH6, h1T, hT99, e0, e1, e2, ek, ev, ekv, ez⟩ := id hM
  have hle := okb.le
  intro m
  induction m with
  | zero =>
    intro hk hq0 hqN hqS
    rw [show fndD _ j 0 = none from rfl] at hq0
    refine z_iload (j := 4) dX8_pulled_31 rfl ?_
    refine z_iload_n (j := 2) dX8_pulled_33 rfl ?_
    refine z_icmp_le (tgt := 66) dX8_pulled_34 (by decide) (fun c_34 => ?_) (fun c_34 => absurd (nI_le (by omega) (by omega)) c_34)
    skip
    refine z_iinc ((bkI j)) [1, 2, 0, 3, 4] [(0, .ref b), (1, .int ((nI free))), (2, .int ((bkI j))), (3, .int ((nI ((free + B - j) % B)))), (4, .int ((nI (j + 0))))] dX8_pulled_66 (j := 2) rfl (bkI_dec j) (by decide) rfl ?_
    refine z_goto (tgt := 9) dX8_pulled_69 (by decide) ?_
    refine z_lv [(0, .ref b), (1, .int ((nI free))), (2, .int ((bkI j)))] [0, 1, 2] rfl ?_
    exact hqN hq0.symm
  | succ m ih =>
    intro hk hq0 hqN hqS
    have hhm : ((free + B - j) % B) < B := mod_lt' okb
    refine z_iload (j := 4) dX8_pulled_31 rfl ?_
    refine z_iload_n (j := 2) dX8_pulled_33 rfl ?_
    refine z_icmp_le (tgt := 66) dX8_pulled_34 (by decide) (fun c_34 => absurd c_34 (nI_nle2 (by omega) (by omega))) (fun c_34 => ?_)
    refine z_aload_n (j := 0) dX8_pulled_37 rfl ?_
    refine z_aload_n (j := 0) dX8_pulled_38 rfl ?_
    refine z_iload_n (j := 3) dX8_pulled_39 rfl ?_
    refine z_iload (j := 4) dX8_pulled_40 rfl ?_
    refine z_cV [.int ((nI ((free + B - j) % B))), .int ((nI (j + (m + 1))))] (some (.int ((nI ((((free + B - j) % B) + (j + (m + 1))) % B))))) yoX8_behind yvX8_behind rfl (by decide) lX8_86 (by omega) mW_obj rfl rfl (Nat.le_of_ble_eq_true rfl) (Nat.le_of_ble_eq_true rfl) dX8_pulled_42 (z_room (by omega) (Nat.le_refl _) (Nat.le_refl _) (r_behind (d := 0) hb hM (by omega) (by omega) ⟨rfl, rfl, rfl⟩)) ?_
    refine z_iload_n (j := 3) dX8_pulled_45 rfl ?_
    refine z_cV [.int ((nI ((((free + B - j) % B) + (j + (m + 1))) % B))), .int ((nI ((free + B - j) % B)))] (some (.int ((bI (isO B T K ((((free + B - j) % B) + (j + (m + 1))) % B) ((free + B - j) % B) = true))))) yoX8_isOf yvX8_isOf rfl (by decide) lX8_89 (by omega) mW_obj rfl rfl (Nat.le_of_ble_eq_true rfl) (Nat.le_of_ble_eq_true rfl) dX8_pulled_46 (z_room (by omega) (Nat.le_refl _) (Nat.le_refl _) (r_isOf (d := 0) hb hM (mod_lt' okb) hhm ⟨rfl, rfl, rfl⟩)) ?_
    refine z_if_eq (tgt := 60) dX8_pulled_49 (by decide) (fun c_49 => ?_) (fun c_49 => ?_)
    · skip
      refine z_iinc ((nI (j + m))) [1, 2, 3, 4, 0] [(0, .ref b), (1, .int ((nI free))), (2, .int ((nI j))), (3, .int ((nI ((free + B - j) % B)))), (4, .int ((nI (j + m))))] dX8_pulled_60 (j := 4) rfl (pk_m1 (j + m)) (by decide) rfl ?_
      refine z_goto (tgt := 31) dX8_pulled_63 (by decide) ?_
      exact ih (by omega) (by rw [← hq0]; exact (fndD_no (p := (fun k => isO B T K ((((free + B - j) % B) + k) % B) ((free + B - j) % B))) (by simpa using bI_0.mp c_49)).symm) hqN hqS
    · refine z_aload_n (j := 0) dX8_pulled_52 rfl ?_
      refine z_iload_n (j := 3) dX8_pulled_53 rfl ?_
      refine z_iload (j := 4) dX8_pulled_54 rfl ?_
      refine z_cV [.int ((nI ((free + B - j) % B))), .int ((nI (j + (m + 1))))] (some (.int ((nI ((((free + B - j) % B) + (j + (m + 1))) % B))))) yoX8_behind yvX8_behind rfl (by decide) lX8_86 (by omega) mW_obj rfl rfl (Nat.le_of_ble_eq_true rfl) (Nat.le_of_ble_eq_true rfl) dX8_pulled_56 (z_room (by omega) (Nat.le_refl _) (Nat.le_refl _) (r_behind (d := 0) hb hM (by omega) (by omega) ⟨rfl, rfl, rfl⟩)) ?_
      exact z_iret rfl dX8_pulled_59 (by
          have hr : some (j + (m + 1)) = pulI B H T K free j := (fndD_yes (p := (fun k => isO B T K ((((free + B - j) % B) + k) % B) ((free + B - j) % B))) (bI_n.mp c_49)).symm.trans hq0
          exact hqS _ hr.symm)

set_option maxHeartbeats 4000000 in
set_option maxRecDepth 100000 in
theorem r_pulled_l {l : zL} {d kc ks n b B H T : Nat} {h : Nat → va_E} {K V : Nat → Nat} {s : Nat → Int32} {a : Nat → Nat → Int32} {Q : zQ} {free : Nat} (hb : b + 14 ≤ n) (hM : mV B H T K V (a 0)) (hfr : free < B) : ∀ m, m ≤ H → Q (.inl (some (.int (optI (pulR B H T K free m))))) n (mW h b s a) → Zj l mX8_pulled (d + 2) kc ks 9 [(0, .ref b), (1, .int (nI free)), (2, .int (bkI m))] [] n (mW h b s a) Q := by
  obtain ⟨okb, h2H, hH6, h1T, hT99, e0, e1, e2, ek, ev, ekv, ez⟩ := id hM
  have hle := okb.le
  intro m
  induction m with
  | zero =>
    intro hm hq
    refine z_iload_n (j := 2) dX8_pulled_9 rfl ?_
    refine z_if_lt (tgt := 72) dX8_pulled_10 (by decide) (fun c_10 => ?_) (fun c_10 => absurd (by decide) c_10)
    refine z_iconst (v := (-1)) dX8_pulled_72 (by decide) ?_
    exact z_iret rfl dX8_pulled_73 (hq)
  | succ m ih =>
    intro hm hq
    rw [show bkI (m + 1) = nI m from rfl]
    refine z_iload_n (j := 2) dX8_pulled_9 rfl ?_
    refine z_if_lt (tgt := 72) dX8_pulled_10 (by decide) (fun c_10 => absurd c_10 (nI_pos (by omega))) (fun c_10 => ?_)
    refine z_aload_n (j := 0) dX8_pulled_13 rfl ?_
    refine z_iload_n (j := 1) dX8_pulled_14 rfl ?_
    refine z_iload_n (j := 2) dX8_pulled_15 rfl ?_
    refine z_ineg dX8_pulled_16 ?_
    refine z_cV [.int ((nI free)), .int ((-(nI m)))] (some (.int ((nI ((free + B - m) % B))))) yoX8_behind yvX8_behind rfl (by decide) lX8_86 (by omega) mW_obj rfl rfl (Nat.le_of_ble_eq_true rfl) (Nat.le_of_ble_eq_true rfl) dX8_pulled_17 (z_room (by omega) (Nat.le_refl _) (Nat.le_refl _) (r_behindN (d := 0) hb hM (by omega) (by omega) ⟨rfl, rfl, rfl⟩)) ?_
    refine z_istore_n [1, 2, 3, 0] [(0, .ref b), (1, .int ((nI free))), (2, .int ((nI m))), (3, .int ((nI ((free + B - m) % B))))] dX8_pulled_20 (by decide) rfl ?_
    refine z_aload_n (j := 0) dX8_pulled_21 rfl ?_
    refine z_get (v := .ref (b + 1)) (by omega) mW_obj fX8_7 rfl dX8_pulled_22 ?_
    refine z_iconst (v := 1) dX8_pulled_25 (by decide) ?_
    refine m_aldN 0 137 1 (by decide) rfl rfl hb rfl (by omega) (by decide) dX8_pulled_26 ?_
    refine z_iconst (v := 1) dX8_pulled_27 (by decide) ?_
    refine z_isub dX8_pulled_28 ?_
    rw [show ((a 0 1) - 1) = (nI (m + (H - 1 - m))) from by rw [e1, show m + (H - 1 - m) = H - 1 by omega, show (1 : Int32) = nI 1 from rfl]; exact pk_sub (by omega)]
    refine z_istore [1, 2, 3, 4, 0] [(0, .ref b), (1, .int ((nI free))), (2, .int ((nI m))), (3, .int ((nI ((free + B - m) % B)))), (4, .int ((nI (m + (H - 1 - m)))))] dX8_pulled_29 (by decide) rfl ?_
    refine r_pulled_i (j := m) hb hM hfr (by omega) (H - 1 - m) (by omega) rfl (fun hn => ?_) (fun k hs => ?_)
    · rw [pulR, pulS_no hn] at hq
      exact ih (by omega) hq
    · rw [pulR, pulS_yes hs] at hq
      exact hq

set_option maxHeartbeats 4000000 in
set_option maxRecDepth 100000 in
theorem r_pulled {l : zL} {d kc ks n b B H T : Nat} {h : Nat → va_E} {K V : Nat → Nat} {s : Nat → Int32} {a : Nat → Nat → Int32} {Q : zQ} {free : Nat} (hb : b + 14 ≤ n) (hM : mV B H T K V (a 0)) (hfr : free < B) (hq : Q (.inl (some (.int (optI (pulR B H T K free H))))) n (mW h b s a)) : Zj l mX8_pulled (d + 2) kc ks 0 [(0, .ref b), (1, .int ((nI free)))] [] n (mW h b s a) Q := by
  obtain ⟨okb, h2H, hH6, h1T, hT99, e0, e1, e2, ek, ev, ekv, ez⟩ := id hM
  have hle := okb.le
  refine z_aload_n (j := 0) dX8_pulled_0 rfl ?_
  refine z_get (v := .ref (b + 1)) (by omega) mW_obj fX8_7 rfl dX8_pulled_1 ?_
  refine z_iconst (v := 1) dX8_pulled_4 (by decide) ?_
  refine m_aldN 0 137 1 (by decide) rfl rfl hb rfl (by omega) (by decide) dX8_pulled_5 ?_
  refine z_iconst (v := 1) dX8_pulled_6 (by decide) ?_
  refine z_isub dX8_pulled_7 ?_
  rw [show ((a 0 1) - 1) = (bkI H) from by rw [e1]; exact bkI_pred (by omega)]
  refine z_istore_n [1, 2, 0] [(0, .ref b), (1, .int ((nI free))), (2, .int ((bkI H)))] dX8_pulled_8 (by decide) rfl ?_
  exact r_pulled_l hb hM hfr H (by omega) hq
