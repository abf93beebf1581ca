set_option maxHeartbeats 4000000 in
set_option maxRecDepth 100000 in
theorem r_copies_l {l : zL} {d kc ks n b j j2 : Nat} {h : Nat → va_E} {s : Nat → Int32} {a0 : Nat → Nat → Int32} {Q : zQ} (hb : b + 14 ≤ n) (hj13 : j < 13) (hjc : mC j = 0) (hjL : mL j = 137) (hj213 : j2 < 13) (hj2c : mC j2 = 0) (hj2L : mL j2 = 137) (hjj : j ≠ j2) : ∀ m k (a : Nat → Nat → Int32), k + m = 137 → (∀ i, i < k → a j2 i = a0 j i) → (∀ q, q ≠ j2 → a q = a0 q) → (∀ a', (∀ i, i < 137 → a' j2 i = a0 j i) → (∀ q, q ≠ j2 → a' q = a0 q) → Q (.inl none) n (mW h b s a')) → Zj l mX8_copies d kc ks 2 [(0, .ref b), (1, .ref ((b + (j + 1)))), (2, .ref ((b + (j2 + 1)))), (3, .int ((nI k)))] [] n (mW h b s a) Q := by
  intro m
  induction m with
  | zero =>
    intro k a hk h1 h2 hq
    refine z_iload_n (j := 3) dX8_copies_2 rfl ?_
    refine z_sipush (v := 137) dX8_copies_3 (by decide) ?_
    refine z_icmp_ge (tgt := 21) dX8_copies_6 (by decide) (fun c_6 => ?_) (fun c_6 => absurd (nI_le (a := 137) (b := k) (by omega) (by omega)) c_6)
    exact z_vret rfl dX8_copies_21 (hq a (fun i hi => h1 i (by omega)) h2)
  | succ m ih =>
    intro k a hk h1 h2 hq
    refine z_iload_n (j := 3) dX8_copies_2 rfl ?_
    refine z_sipush (v := 137) dX8_copies_3 (by decide) ?_
    refine z_icmp_ge (tgt := 21) dX8_copies_6 (by decide) (fun c_6 => absurd c_6 (nI_ge (b := 137) (by omega) (by decide))) (fun c_6 => ?_)
    refine z_aload_n (j := 2) dX8_copies_9 rfl ?_
    refine z_iload_n (j := 3) dX8_copies_10 rfl ?_
    refine z_aload_n (j := 1) dX8_copies_11 rfl ?_
    refine z_iload_n (j := 3) dX8_copies_12 rfl ?_
    refine m_aldN j 137 k hj13 hjc hjL hb rfl (by omega) (by decide) dX8_copies_13 ?_
    refine m_astN j2 137 k hj213 hj2c hj2L hb rfl (by omega) (by decide) dX8_copies_14 ?_
    skip
    refine z_iinc ((nI (k + 1))) [1, 2, 3, 0] [(0, .ref b), (1, .ref ((b + (j + 1)))), (2, .ref ((b + (j2 + 1)))), (3, .int ((nI (k + 1))))] dX8_copies_15 (j := 3) rfl (nI_1 k) (by decide) rfl ?_
    refine z_goto (tgt := 2) dX8_copies_18 (by decide) ?_
    refine ih (k + 1) _ (by omega) (fun i hi => ?_) (fun q hq2 => ?_) hq
    · by_cases hik : i = k
      · subst hik; simp [va_up, h2 j hjj]
      · simp [va_up, hik, h1 i (by omega)]
    · simp [va_up, hq2, h2 q hq2]

set_option maxHeartbeats 4000000 in
set_option maxRecDepth 100000 in
theorem r_copies {l : zL} {d kc ks n b j j2 : Nat} {h : Nat → va_E} {s : Nat → Int32} {a0 : Nat → Nat → Int32} {Q : zQ} (hb : b + 14 ≤ n) (hj13 : j < 13) (hjc : mC j = 0) (hjL : mL j = 137) (hj213 : j2 < 13) (hj2c : mC j2 = 0) (hj2L : mL j2 = 137) (hjj : j ≠ j2) (hq : ∀ a', (∀ i, i < 137 → a' j2 i = a0 j i) → (∀ q, q ≠ j2 → a' q = a0 q) → Q (.inl none) n (mW h b s a')) : Zj l mX8_copies d kc ks 0 [(0, .ref b), (1, .ref ((b + (j + 1)))), (2, .ref ((b + (j2 + 1))))] [] n (mW h b s a0) Q := by
  refine z_iconst (v := 0) dX8_copies_0 (by decide) ?_
  refine z_istore_n [1, 2, 3, 0] [(0, .ref b), (1, .ref ((b + (j + 1)))), (2, .ref ((b + (j2 + 1)))), (3, .int 0)] dX8_copies_1 (by decide) rfl ?_
  exact r_copies_l hb hj13 hjc hjL hj213 hj2c hj2L hjj 137 0 a0 (by omega) (fun i hi => absurd hi (Nat.not_lt_zero i)) (fun _ _ => rfl) hq

set_option maxHeartbeats 4000000 in
set_option maxRecDepth 100000 in
theorem r_moves {l : zL} {d kc ks n b B H T : Nat} {h : Nat → va_E} {K V : Nat → Nat} {s : Nat → Int32} {a : Nat → Nat → Int32} {Q : zQ} {src tgt : Nat} (hb : b + 14 ≤ n) (hM : mV B H T K V (a 0)) (hs : src < B) (ht : tgt < B) (hst : src ≠ tgt) (hq : ∀ a', mV B H T (mvK K src tgt) (mvK V src tgt) (a' 0) → (∀ k, k < 9 → a' 0 k = a 0 k) → (∀ q, q ≠ 0 → a' q = a q) → Q (.inl none) n (mW h b s a')) : Zj l mX8_moves d kc ks 0 [(0, .ref b), (1, .int ((nI src))), (2, .int ((nI tgt)))] [] n (mW h b s a) Q := by
  obtain ⟨okb, h2H, hH6, h1T, hT99, e0, e1, e2, ek, ev, ekv, ez⟩ := id hM
  have hle := okb.le
  refine z_aload_n (j := 0) dX8_moves_0 rfl ?_
  refine z_get (v := .ref (b + 1)) (by omega) mW_obj fX8_7 rfl dX8_moves_1 ?_
  refine z_bipush (v := 9) dX8_moves_4 (by decide) ?_
  refine z_iload_n (j := 2) dX8_moves_6 rfl ?_
  refine z_iadd dX8_moves_7 ?_
  refine z_aload_n (j := 0) dX8_moves_8 rfl ?_
  refine z_get (v := .ref (b + 1)) (by omega) mW_obj fX8_7 rfl dX8_moves_9 ?_
  refine z_bipush (v := 9) dX8_moves_12 (by decide) ?_
  refine z_iload_n (j := 1) dX8_moves_14 rfl ?_
  refine z_iadd dX8_moves_15 ?_
  refine m_aldN 0 137 (9 + src) (by decide) rfl rfl hb (nI_add 9 _) (by omega) (by decide) dX8_moves_16 ?_
  refine m_astN 0 137 (9 + tgt) (by decide) rfl rfl hb (nI_add 9 _) (by omega) (by decide) dX8_moves_17 ?_
  refine z_aload_n (j := 0) dX8_moves_18 rfl ?_
  refine z_get (v := .ref (b + 1)) (by omega) mW_obj fX8_7 rfl dX8_moves_19 ?_
  refine z_bipush (v := 73) dX8_moves_22 (by decide) ?_
  refine z_iload_n (j := 2) dX8_moves_24 rfl ?_
  refine z_iadd dX8_moves_25 ?_
  refine z_aload_n (j := 0) dX8_moves_26 rfl ?_
  refine z_get (v := .ref (b + 1)) (by omega) mW_obj fX8_7 rfl dX8_moves_27 ?_
  refine z_bipush (v := 73) dX8_moves_30 (by decide) ?_
  refine z_iload_n (j := 1) dX8_moves_32 rfl ?_
  refine z_iadd dX8_moves_33 ?_
  refine m_aldN 0 137 (73 + src) (by decide) rfl rfl hb (nI_add 73 _) (by omega) (by decide) dX8_moves_34 ?_
  refine m_astN 0 137 (73 + tgt) (by decide) rfl rfl hb (nI_add 73 _) (by omega) (by decide) dX8_moves_35 ?_
  refine z_aload_n (j := 0) dX8_moves_36 rfl ?_
  refine z_get (v := .ref (b + 1)) (by omega) mW_obj fX8_7 rfl dX8_moves_37 ?_
  refine z_bipush (v := 9) dX8_moves_40 (by decide) ?_
  refine z_iload_n (j := 1) dX8_moves_42 rfl ?_
  refine z_iadd dX8_moves_43 ?_
  refine z_iconst (v := 0) dX8_moves_44 (by decide) ?_
  refine m_astN 0 137 (9 + src) (by decide) rfl rfl hb (nI_add 9 _) (by omega) (by decide) dX8_moves_45 ?_
  refine z_aload_n (j := 0) dX8_moves_46 rfl ?_
  refine z_get (v := .ref (b + 1)) (by omega) mW_obj fX8_7 rfl dX8_moves_47 ?_
  refine z_bipush (v := 73) dX8_moves_50 (by decide) ?_
  refine z_iload_n (j := 1) dX8_moves_52 rfl ?_
  refine z_iadd dX8_moves_53 ?_
  refine z_iconst (v := 0) dX8_moves_54 (by decide) ?_
  refine m_astN 0 137 (73 + src) (by decide) rfl rfl hb (nI_add 73 _) (by omega) (by decide) dX8_moves_55 ?_
  exact z_vret rfl dX8_moves_56 (by
      refine hq _ (mV_mv (r := a 0) hM ht hst (fun k hk => ?_) (fun i hi => ?_) (fun i hi => ?_) (by omega)) (fun k hk => ?_) (fun q h0 => by simp [va_up, h0])
      · have x1 : ¬ k = 9 + src := by omega
        have x2 : ¬ k = 9 + tgt := by omega
        have x3 : ¬ k = 73 + src := by omega
        have x4 : ¬ k = 73 + tgt := by omega
        simp [va_up, x1, x2, x3, x4]
      · have x1 : ¬ 9 + i = 73 + src := by omega
        have x2 : ¬ 9 + i = 73 + tgt := by omega
        have x5 : ¬ 9 + src = 73 + tgt := by omega
        by_cases y1 : i = src
        · subst y1; simp [va_up, x1, x2]
        · by_cases y2 : i = tgt
          · subst y2; have x6 : ¬ 9 + i = 9 + src := by omega
            simp [va_up, x1, x2, y1, x6]
          · have x6 : ¬ 9 + i = 9 + src := by omega
            have x7 : ¬ 9 + i = 9 + tgt := by omega
            simp [va_up, x1, x2, y1, y2, x6, x7]
      · have x1 : ¬ 73 + i = 9 + src := by omega
        have x2 : ¬ 73 + i = 9 + tgt := by omega
        have x5 : ¬ 73 + src = 9 + tgt := by omega
        by_cases y1 : i = src
        · subst y1; simp [va_up, x1, x2]
        · by_cases y2 : i = tgt
          · subst y2; have x6 : ¬ 73 + i = 73 + src := by omega
            simp [va_up, x1, x2, y1, x6, x5]
          · have x6 : ¬ 73 + i = 73 + src := by omega
            have x7 : ¬ 73 + i = 73 + tgt := by omega
            simp [va_up, x1, x2, y1, y2, x6, x7]
      · have x1 : ¬ k = 9 + src := by omega
        have x2 : ¬ k = 9 + tgt := by omega
        have x3 : ¬ k = 73 + src := by omega
        have x4 : ¬ k = 73 + tgt := by omega
        simp [va_up, x1, x2, x3, x4])

set_option maxHeartbeats 4000000 in
set_option maxRecDepth 100000 in
theorem r_mover_i {l : zL} {d kc ks n b B H T : Nat} {h : Nat → va_E} {K V : Nat → Nat} {s : Nat → Int32} {a : Nat → Nat → Int32} {Q : zQ} {free : Nat} {j : Nat} (hb : b + 14 ≤ n) (hM : mV B H T K V (a 0)) (hfr : free < B) (hjH : j + 1 < H) : ∀ m k, k + m = j + 1 → fnd (fun k => isO B T K ((((free + B - (j + 1)) % B) + k) % B) ((free + B - (j + 1)) % B)) m k = movB B T K free (j + 1) → (movB B T K free (j + 1) = none → Zj l mX8_mover (d + 2) kc ks 9 [(0, .ref b), (1, .int (nI free)), (2, .int (nI j))] [] n (mW h b s a) Q) → (∀ k, movB B T K free (j + 1) = some k → Q (.inl (some (.int (nI (mvSrc B free (j + 1) k))))) n (mW h b s a)) → Zj l mX8_mover (d + 2) kc ks 24 [(0, .ref b), (1, .int ((nI free))), (2, .int ((nI (j + 1)))), (3, .int ((nI ((free + B - (j + 1)) % B)))), (4, .int ((nI k)))] [] n (mW h b s a) Q := by
  obtain ⟨okb, h2H, hH6, h1T, hT99, e0, e1, e2, ek, ev, ekv, ez⟩ := id hM
  have hle := okb.le
  intro m
  induction m with
  | zero =>
    intro k hk hq0 hqN hqS
    rw [show fnd _ 0 k = none from rfl] at hq0
    refine z_iload (j := 4) dX8_mover_24 rfl ?_
    refine z_iload_n (j := 2) dX8_mover_26 rfl ?_
    refine z_icmp_ge (tgt := 59) dX8_mover_27 (by decide) (fun c_27 => ?_) (fun c_27 => absurd (nI_le (by omega) (by omega)) c_27)
    skip
    refine z_iinc ((nI j)) [1, 2, 0, 3, 4] [(0, .ref b), (1, .int ((nI free))), (2, .int ((nI j))), (3, .int ((nI ((free + B - (j + 1)) % B)))), (4, .int ((nI k)))] dX8_mover_59 (j := 2) rfl (pk_m1 j) (by decide) rfl ?_
    refine z_goto (tgt := 9) dX8_mover_62 (by decide) ?_
    refine z_lv [(0, .ref b), (1, .int ((nI free))), (2, .int ((nI j)))] [0, 1, 2] rfl ?_
    exact hqN hq0.symm
  | succ m ih =>
    intro k hk hq0 hqN hqS
    have hhm : ((free + B - (j + 1)) % B) < B := mod_lt' okb
    refine z_iload (j := 4) dX8_mover_24 rfl ?_
    refine z_iload_n (j := 2) dX8_mover_26 rfl ?_
    refine z_icmp_ge (tgt := 59) dX8_mover_27 (by decide) (fun c_27 => absurd c_27 (nI_ge (by omega) (by omega))) (fun c_27 => ?_)
    refine z_aload_n (j := 0) dX8_mover_30 rfl ?_
    refine z_aload_n (j := 0) dX8_mover_31 rfl ?_
    refine z_iload_n (j := 3) dX8_mover_32 rfl ?_
    refine z_iload (j := 4) dX8_mover_33 rfl ?_
    refine z_cV [.int ((nI ((free + B - (j + 1)) % B))), .int ((nI k))] (some (.int ((nI ((((free + B - (j + 1)) % B) + k) % B))))) yoX8_behind yvX8_behind rfl (by decide) lX8_86 (by omega) mW_obj rfl rfl (Nat.le_of_ble_eq_true rfl) (Nat.le_of_ble_eq_true rfl) dX8_mover_35 (z_room (by omega) (Nat.le_refl _) (Nat.le_refl _) (r_behind (d := 0) hb hM (by omega) (by omega) ⟨rfl, rfl, rfl⟩)) ?_
    refine z_iload_n (j := 3) dX8_mover_38 rfl ?_
    refine z_cV [.int ((nI ((((free + B - (j + 1)) % B) + k) % B))), .int ((nI ((free + B - (j + 1)) % B)))] (some (.int ((bI (isO B T K ((((free + B - (j + 1)) % B) + k) % B) ((free + B - (j + 1)) % B) = true))))) yoX8_isOf yvX8_isOf rfl (by decide) lX8_89 (by omega) mW_obj rfl rfl (Nat.le_of_ble_eq_true rfl) (Nat.le_of_ble_eq_true rfl) dX8_mover_39 (z_room (by omega) (Nat.le_refl _) (Nat.le_refl _) (r_isOf (d := 0) hb hM (mod_lt' okb) hhm ⟨rfl, rfl, rfl⟩)) ?_
    refine z_if_eq (tgt := 53) dX8_mover_42 (by decide) (fun c_42 => ?_) (fun c_42 => ?_)
    · skip
      refine z_iinc ((nI (k + 1))) [1, 2, 3, 4, 0] [(0, .ref b), (1, .int ((nI free))), (2, .int ((nI (j + 1)))), (3, .int ((nI ((free + B - (j + 1)) % B)))), (4, .int ((nI (k + 1))))] dX8_mover_53 (j := 4) rfl (nI_1 k) (by decide) rfl ?_
      refine z_goto (tgt := 24) dX8_mover_56 (by decide) ?_
      exact ih (k + 1) (by omega) (by rw [← hq0]; exact (fnd_no (p := (fun k => isO B T K ((((free + B - (j + 1)) % B) + k) % B) ((free + B - (j + 1)) % B))) (by simpa using bI_0.mp c_42)).symm) hqN hqS
    · refine z_aload_n (j := 0) dX8_mover_45 rfl ?_
      refine z_iload_n (j := 3) dX8_mover_46 rfl ?_
      refine z_iload (j := 4) dX8_mover_47 rfl ?_
      refine z_cV [.int ((nI ((free + B - (j + 1)) % B))), .int ((nI k))] (some (.int ((nI ((((free + B - (j + 1)) % B) + k) % B))))) yoX8_behind yvX8_behind rfl (by decide) lX8_86 (by omega) mW_obj rfl rfl (Nat.le_of_ble_eq_true rfl) (Nat.le_of_ble_eq_true rfl) dX8_mover_49 (z_room (by omega) (Nat.le_refl _) (Nat.le_refl _) (r_behind (d := 0) hb hM (by omega) (by omega) ⟨rfl, rfl, rfl⟩)) ?_
      exact z_iret rfl dX8_mover_52 (by
          have hr : some k = movB B T K free (j + 1) := (fnd_yes (p := (fun k => isO B T K ((((free + B - (j + 1)) % B) + k) % B) ((free + B - (j + 1)) % B))) (bI_n.mp c_42)).symm.trans hq0
          exact hqS k hr.symm)

set_option maxHeartbeats 4000000 in
set_option maxRecDepth 100000 in
theorem r_mover_l {l : zL} {d kc ks n b B H T : Nat} {h : Nat → va_E} {K V : Nat → Nat} {s : Nat → Int32} {a : Nat → Nat → Int32} {Q : zQ} {free : Nat} (hb : b + 14 ≤ n) (hM : mV B H T K V (a 0)) (hfr : free < B) : ∀ m, m < H → Q (.inl (some (.int (optI (movR B T K free m))))) n (mW h b s a) → Zj l mX8_mover (d + 2) kc ks 9 [(0, .ref b), (1, .int (nI free)), (2, .int (nI m))] [] n (mW h b s a) Q := by
  obtain ⟨okb, h2H, hH6, h1T, hT99, e0, e1, e2, ek, ev, ekv, ez⟩ := id hM
  have hle := okb.le
  intro m
  induction m with
  | zero =>
    intro hm hq
    refine z_iload_n (j := 2) dX8_mover_9 rfl ?_
    refine z_if_le (tgt := 65) dX8_mover_10 (by decide) (fun c_10 => ?_) (fun c_10 => absurd (by decide) c_10)
    refine z_iconst (v := (-1)) dX8_mover_65 (by decide) ?_
    exact z_iret rfl dX8_mover_66 (hq)
  | succ m ih =>
    intro hm hq
    refine z_iload_n (j := 2) dX8_mover_9 rfl ?_
    refine z_if_le (tgt := 65) dX8_mover_10 (by decide) (fun c_10 => absurd c_10 (nI_nle (by omega) (by omega))) (fun c_10 => ?_)
    refine z_aload_n (j := 0) dX8_mover_13 rfl ?_
    refine z_iload_n (j := 1) dX8_mover_14 rfl ?_
    refine z_iload_n (j := 2) dX8_mover_15 rfl ?_
    refine z_ineg dX8_mover_16 ?_
    refine z_cV [.int ((nI free)), .int ((-(nI (m + 1))))] (some (.int ((nI ((free + B - (m + 1)) % B))))) yoX8_behind yvX8_behind rfl (by decide) lX8_86 (by omega) mW_obj rfl rfl (Nat.le_of_ble_eq_true rfl) (Nat.le_of_ble_eq_true rfl) dX8_mover_17 (z_room (by omega) (Nat.le_refl _) (Nat.le_refl _) (r_behindN (d := 0) hb hM (by omega) (by omega) ⟨rfl, rfl, rfl⟩)) ?_
    refine z_istore_n [1, 2, 3, 0] [(0, .ref b), (1, .int ((nI free))), (2, .int ((nI (m + 1)))), (3, .int ((nI ((free + B - (m + 1)) % B))))] dX8_mover_20 (by decide) rfl ?_
    refine z_iconst (v := 0) dX8_mover_21 (by decide) ?_
    refine z_istore [1, 2, 3, 4, 0] [(0, .ref b), (1, .int ((nI free))), (2, .int ((nI (m + 1)))), (3, .int ((nI ((free + B - (m + 1)) % B)))), (4, .int 0)] dX8_mover_22 (by decide) rfl ?_
    refine r_mover_i (j := m) hb hM hfr (by omega) (m + 1) 0 (by omega) rfl (fun hn => ?_) (fun k hs => ?_)
    · rw [movR, movS_no hn] at hq
      exact ih (by omega) hq
    · rw [movR, movS_yes hs] at hq
      exact hq

set_option maxHeartbeats 4000000 in
set_option maxRecDepth 100000 in
theorem r_mover {l : zL} {d kc ks n b B H T : Nat} {h : Nat → va_E} {K V : Nat → Nat} {s : Nat → Int32} {a : Nat → Nat → Int32} {Q : zQ} {free : Nat} (hb : b + 14 ≤ n) (hM : mV B H T K V (a 0)) (hfr : free < B) (hq : Q (.inl (some (.int (optI (movR B T K free (H - 1)))))) n (mW h b s a)) : Zj l mX8_mover (d + 2) kc ks 0 [(0, .ref b), (1, .int ((nI free)))] [] n (mW h b s a) Q := by
  obtain ⟨okb, h2H, hH6, h1T, hT99, e0, e1, e2, ek, ev, ekv, ez⟩ := id hM
  have hle := okb.le
  refine z_aload_n (j := 0) dX8_mover_0 rfl ?_
  refine z_get (v := .ref (b + 1)) (by omega) mW_obj fX8_7 rfl dX8_mover_1 ?_
  refine z_iconst (v := 1) dX8_mover_4 (by decide) ?_
  refine m_aldN 0 137 1 (by decide) rfl rfl hb rfl (by omega) (by decide) dX8_mover_5 ?_
  refine z_iconst (v := 1) dX8_mover_6 (by decide) ?_
  refine z_isub dX8_mover_7 ?_
  rw [show ((a 0 1) - 1) = (nI (H - 1)) from by rw [e1, show (1 : Int32) = nI 1 from rfl]; exact pk_sub (by omega)]
  refine z_istore_n [1, 2, 0] [(0, .ref b), (1, .int ((nI free))), (2, .int ((nI (H - 1))))] dX8_mover_8 (by decide) rfl ?_
  exact r_mover_l hb hM hfr (H - 1) (by omega) hq
