set_option maxHeartbeats 4000000 in
set_option maxRecDepth 100000 in
theorem w_insert {l : zL} {d kc ks n b B H T : Nat} {h : Nat → va_E} {K V : Nat → Nat} {s : Nat → Int32} {a : Nat → Nat → Int32} {Q : zQ} {key v : Nat} (hb : b + 6 ≤ n) (hR : tR B H T K V s a) (hk : key ≤ 9999) (hv : v ≤ 999) (he : s 10 = nI (entL K V B).length) (hqN : ∀ B' K' V' c' x' s' a', insF B H T K V (s 11) (s 13) key v = (none, B', K', V', c', x') → Q (.inl (some (.int (-1)))) n (tW h b s' a')) (hqS : ∀ bk B' K' V' c' x' s' a', insF B H T K V (s 11) (s 13) key v = (some bk, B', K', V', c', x') → tR B' H T K' V' s' a' → bk < B' → s' 10 = s 10 + 1 → s' 11 = c' → s' 13 = x' → s' 14 = s 14 + 1 → (∀ k, k ≠ 5 → k ≠ 6 → k ≠ 10 → k ≠ 11 → k ≠ 13 → k ≠ 14 → s' k = s k) → Q (.inl (some (.int (nI bk)))) n (tW h b s' a')) : Zj l mX6_insert (d + 6) kc ks 0 [(0, .ref b), (1, .int ((nI key))), (2, .int ((nI v)))] [] n (tW h b s a) Q := by
  obtain ⟨okb, h2H, hH6, h1T, hT99, e6, e7, e8, ek, ev, eh, ekv, ez⟩ := id hR
  have hle := okb.le
  refine z_aload_n (j := 0) dX6_insert_0 rfl ?_
  refine z_cVx [] none (fun g => ∃ s0 a0, g = tW h b s0 a0 ∧ tR B H T K V s0 a0 ∧ qR s0 a0 (entL K V B) ∧ (∀ k, k ≠ 5 → s0 k = s k)) yoX6_queueAll yvX6_queueAll rfl (by decide) lX6_73 (by omega) tW_obj rfl rfl (Nat.le_of_ble_eq_true rfl) (Nat.le_of_ble_eq_true rfl) dX6_insert_1 (z_room (by omega) (Nat.le_refl _) (Nat.le_refl _) (w_queueAll (d := 0) hb hR.k (fun s' a' h1 h2 h4 h5 h6 h3 => ⟨rfl, rfl, s', a', rfl, hR.same (h3 6 (by decide)) (h3 7 (by decide)) (h3 8 (by decide)) h4 h5 h6, h2, h3⟩))) (fun g hg => ?_)
  obtain ⟨s0, a0, rfl, hR0, hq0, hs0⟩ := hg
  have h11 : s0 11 = s 11 := hs0 11 (by decide)
  refine z_aload_n (j := 0) dX6_insert_4 rfl ?_
  refine z_iload_n (j := 1) dX6_insert_5 rfl ?_
  refine z_iload_n (j := 2) dX6_insert_6 rfl ?_
  rcases hpf : placeF B H T K V (s 11) key v with ⟨_ | bk, K1, V1, c1⟩
  · refine z_cVx [.int (nI key), .int (nI v)] (some (.int (-1))) (fun g => ∃ s2 a2, g = tW h b s2 a2 ∧ tQ B H T K1 V1 s0 a0 (s0 10) c1 s2 a2) yoX6_place yvX6_place rfl (by decide) lX6_76 (by omega) tW_obj rfl rfl (Nat.le_of_ble_eq_true rfl) (Nat.le_of_ble_eq_true rfl) dX6_insert_7 (z_room (by omega) (Nat.le_refl _) (Nat.le_refl _) (w_place (d := 0) hb hR0 hk hv (fun K' V' c' s' a' e hT => by
      rw [h11, hpf] at e
      cases e
      exact ⟨rfl, rfl, s', a', rfl, hT⟩) (fun bk' K' V' c' s' a' e hT => by rw [h11, hpf] at e; cases e))) (fun g hg => ?_)
    obtain ⟨s2, a2, rfl, hT⟩ := hg
    refine z_istore_n [1, 2, 3, 0] [(0, .ref b), (1, .int ((nI key))), (2, .int ((nI v))), (3, .int ((-1)))] dX6_insert_10 (by decide) rfl ?_
    refine z_bipush (v := 8) dX6_insert_11 (by decide) ?_
    refine z_istore [1, 2, 3, 4, 0] [(0, .ref b), (1, .int ((nI key))), (2, .int ((nI v))), (3, .int ((-1))), (4, .int 8)] dX6_insert_13 (by decide) rfl ?_
    have hin : insF B H T K V (s 11) (s 13) key v = grF H T (entL K V B) key v 4 B K1 V1 (s2 11) (s2 13) := by
      unfold insF
      rw [hpf]
      simp only [hT.2.2.1, hT.2.2.2.1 13 (by decide) (by decide), hs0 13 (by decide)]
    refine w_insert_l hb hk hv 4 B K1 V1 s2 a2 (by omega) hT.1 (hq0.same (hT.2.2.2.1 5 (by decide) (by decide)) hT.2.2.2.2.1 hT.2.2.2.2.2) (fun B' K' V' c' x' s' a' e _ _ _ _ => hqN B' K' V' c' x' s' a' (hin.trans e)) (fun bk B' K' V' c' x' s' a' e h1 h2 h3 h4 h5 h6 h7 => hqS bk B' K' V' c' x' s' a' (hin.trans e) h1 h2 (by rw [h3, he]; exact (nI_1 _).symm) h4 h5 (by rw [h6, hT.2.2.2.1 14 (by decide) (by decide), hs0 14 (by decide)]) (fun k x5 x6 x10 x11 x13 x14 => by rw [h7 k x6 x10 x11 x13 x14, hT.2.2.2.1 k x10 x11, hs0 k x5]))
  · refine z_cVx [.int (nI key), .int (nI v)] (some (.int (nI bk))) (fun g => ∃ s2 a2, g = tW h b s2 a2 ∧ tQ B H T K1 V1 s0 a0 (s0 10 + 1) c1 s2 a2) yoX6_place yvX6_place rfl (by decide) lX6_76 (by omega) tW_obj rfl rfl (Nat.le_of_ble_eq_true rfl) (Nat.le_of_ble_eq_true rfl) dX6_insert_7 (z_room (by omega) (Nat.le_refl _) (Nat.le_refl _) (w_place (d := 0) hb hR0 hk hv (fun K' V' c' s' a' e hT => by rw [h11, hpf] at e; cases e) (fun bk' K' V' c' s' a' e hT => by
      rw [h11, hpf] at e
      cases e
      exact ⟨rfl, rfl, s', a', rfl, hT⟩))) (fun g hg => ?_)
    obtain ⟨s2, a2, rfl, hT⟩ := hg
    have hlt := placeF_lt okb hpf
    have hin : insF B H T K V (s 11) (s 13) key v = (some bk, B, K1, V1, c1, s 13) := by
      unfold insF
      rw [hpf]
    refine z_istore_n [1, 2, 3, 0] [(0, .ref b), (1, .int ((nI key))), (2, .int ((nI v))), (3, .int ((nI bk)))] dX6_insert_10 (by decide) rfl ?_
    refine z_bipush (v := 8) dX6_insert_11 (by decide) ?_
    refine z_istore [1, 2, 3, 4, 0] [(0, .ref b), (1, .int ((nI key))), (2, .int ((nI v))), (3, .int ((nI bk))), (4, .int 8)] dX6_insert_13 (by decide) rfl ?_
    refine w_insert_d hb (by omega) (hqS bk B K1 V1 c1 (s 13) (va_up s2 14 (s2 14 + 1)) a2 hin (tR_s hT.1 (by simp [va_up]) (by simp [va_up]) (by simp [va_up])) hlt ?_ ?_ ?_ ?_ (fun k x5 x6 x10 x11 x13 x14 => ?_)) 4 (by omega)
    · rw [va_up, if_neg (by decide), hT.2.1, hs0 10 (by decide)]
    · rw [va_up, if_neg (by decide), hT.2.2.1]
    · rw [va_up, if_neg (by decide), hT.2.2.2.1 13 (by decide) (by decide), hs0 13 (by decide)]
    · rw [va_up, if_pos rfl, hT.2.2.2.1 14 (by decide) (by decide), hs0 14 (by decide)]
    · rw [va_up, if_neg x14, hT.2.2.2.1 k x10 x11, hs0 k x5]

set_option maxHeartbeats 4000000 in
set_option maxRecDepth 100000 in
theorem w_build {l : zL} {d kc ks n b B H T : Nat} {h : Nat → va_E} {L : List (Nat × Nat)} {Q : zQ} {K V : Nat → Nat} {s : Nat → Int32} {a : Nat → Nat → Int32} {B0 : Nat} (hb : b + 6 ≤ n) (okB1 : okB B) (hR : tK B0 H T K V s a) (hqu : qR s a L) (hqF : ∀ K' V' c' s' a', bldF B H T L kz kz 0 = (false, K', V', c') → tR B H T K' V' s' a' → qR s' a' L → s' 11 = c' → s' 13 = (if B = B0 then s 13 else s 13 + 1) → (∀ k, k ≠ 6 → k ≠ 10 → k ≠ 11 → k ≠ 13 → s' k = s k) → Q (.inl (some (.int 0))) n (tW h b s' a')) (hqT : ∀ K' V' c' s' a', bldF B H T L kz kz 0 = (true, K', V', c') → tR B H T K' V' s' a' → qR s' a' L → s' 10 = nI L.length → s' 11 = c' → s' 13 = (if B = B0 then s 13 else s 13 + 1) → (∀ k, k ≠ 6 → k ≠ 10 → k ≠ 11 → k ≠ 13 → s' k = s k) → Q (.inl (some (.int 1))) n (tW h b s' a')) : Zj l mX6_build (d + 4) kc ks 0 [(0, .ref b), (1, .int ((nI B)))] [] n (tW h b s a) Q := by
  by_cases hne : B = B0
  · rw [if_pos hne] at hqF hqT
    exact w_build_same hb okB1 hR hqu hne hqF hqT
  · rw [if_neg hne] at hqF hqT
    exact w_build_new hb okB1 hR hqu hne hqF hqT

set_option maxHeartbeats 4000000 in
set_option maxRecDepth 100000 in
theorem w_rb_l {l : zL} {d kc ks n b H T : Nat} {h : Nat → va_E} {L : List (Nat × Nat)} {Q : zQ} {newB : Nat} (hb : b + 6 ≤ n) (hnb : newB ≤ 128) : ∀ m (B : Nat) (K V : Nat → Nat) (s : Nat → Int32) (a : Nat → Nat → Int32), m ≤ 4 → tK B H T K V s a → qR s a L → (∀ B' K' V' c' x' s' a', rbF H T L newB m B K V (s 11) (s 13) = (false, B', K', V', c', x') → Q (.inl (some (.int 0))) n (tW h b s' a')) → (∀ B' K' V' c' x' s' a', rbF H T L newB m B K V (s 11) (s 13) = (true, B', K', V', c', x') → tR B' H T K' V' s' a' → s' 10 = nI L.length → s' 11 = c' → s' 13 = x' → (∀ k, k ≠ 6 → k ≠ 10 → k ≠ 11 → k ≠ 13 → s' k = s k) → Q (.inl (some (.int 1))) n (tW h b s' a')) → Zj l mX6_buildAnew (d + 5) kc ks 7 [(0, .ref b), (1, .int ((nI newB))), (2, .int ((nI (2 ^ (7 - m)))))] [] n (tW h b s a) Q := by
  intro m
  induction m with
  | zero =>
    intro B K V s a hm hR hqu hqF hqT
    refine z_iload_n (j := 2) dX6_buildAnew_7 rfl ?_
    refine z_bipush (v := 64) dX6_buildAnew_8 (by decide) ?_
    refine z_icmp_gt (tgt := 35) dX6_buildAnew_10 (by decide) (fun c_10 => ?_) (fun c_10 => absurd (by decide) c_10)
    refine z_iconst (v := 0) dX6_buildAnew_35 (by decide) ?_
    exact z_zret rfl rfl dX6_buildAnew_36 (hqF B K V (s 11) (s 13) s a rfl)
  | succ m ih =>
    intro B K V s a hm hR hqu hqF hqT
    have okB1 : okB (2 ^ (6 - m)) := okB_w (m := m) (by omega)
    have hw64 : 2 ^ (6 - m) ≤ 64 := okB1.le.2
    rw [show 7 - (m + 1) = 6 - m by omega]
    refine z_iload_n (j := 2) dX6_buildAnew_7 rfl ?_
    refine z_bipush (v := 64) dX6_buildAnew_8 (by decide) ?_
    refine z_icmp_gt (tgt := 35) dX6_buildAnew_10 (by decide) (fun c_10 => absurd c_10 (nI_nlt (a := 64) hw64 (by omega))) (fun c_10 => ?_)
    refine z_iload_n (j := 2) dX6_buildAnew_13 rfl ?_
    refine z_iload_n (j := 1) dX6_buildAnew_14 rfl ?_
    refine z_icmp_lt (tgt := 28) dX6_buildAnew_15 (by decide) (fun c_15 => ?_) (fun c_15 => ?_)
    · have hwB : 2 ^ (6 - m) < newB := (nI_ltI (by omega) (by omega)).mp c_15
      refine z_iload_n (j := 2) dX6_buildAnew_28 rfl ?_
      refine z_iconst (v := 2) dX6_buildAnew_29 (by decide) ?_
      refine z_imul dX6_buildAnew_30 ?_
      rw [w_next (m := m) (by omega)]
      refine z_istore_n [1, 2, 0] [(0, .ref b), (1, .int ((nI newB))), (2, .int ((nI (2 ^ (7 - m)))))] dX6_buildAnew_31 (by decide) rfl ?_
      refine z_goto (tgt := 7) dX6_buildAnew_32 (by decide) ?_
      have hgr : rbF H T L newB (m + 1) B K V (s 11) (s 13) = rbF H T L newB m B K V (s 11) (s 13) := by rw [rbF, if_pos hwB]
      refine ih B K V s a (by omega) hR hqu (fun B' K' V' c' x' s' a' e => hqF B' K' V' c' x' s' a' (hgr.trans e)) (fun B' K' V' c' x' s' a' e h1 h2 h3 h4 h5 => hqT B' K' V' c' x' s' a' (hgr.trans e) h1 h2 h3 h4 (fun k x6 x10 x11 x13 => (h5 k x6 x10 x11 x13).trans ((fun _ _ _ _ _ => rfl) k x6 x10 x11 x13)))
    · have hwB : ¬ 2 ^ (6 - m) < newB := fun e => c_15 (nI_lt e (by omega))
      refine z_aload_n (j := 0) dX6_buildAnew_18 rfl ?_
      refine z_iload_n (j := 2) dX6_buildAnew_19 rfl ?_
      rcases hbf : bldF (2 ^ (6 - m)) H T L kz kz 0 with ⟨_ | _, K1, V1, c1⟩
      · refine z_cVx [.int (nI (2 ^ (6 - m)))] (some (.int 0)) (fun g => ∃ s1 a1, g = tW h b s1 a1 ∧ tR (2 ^ (6 - m)) H T K1 V1 s1 a1 ∧ qR s1 a1 L ∧ s1 11 = c1 ∧ s1 13 = (if 2 ^ (6 - m) = B then s 13 else s 13 + 1) ∧ (∀ k, k ≠ 6 → k ≠ 10 → k ≠ 11 → k ≠ 13 → s1 k = s k)) yoX6_build yvX6_build rfl (by decide) lX6_80 (by omega) tW_obj rfl rfl (Nat.le_of_ble_eq_true rfl) (Nat.le_of_ble_eq_true rfl) dX6_buildAnew_20 (z_room (by omega) (Nat.le_refl _) (Nat.le_refl _) (w_build (d := 0) hb okB1 hR hqu (fun K' V' c' s' a' e h1 h2 h3 h4 h5 => by
            rw [hbf] at e
            cases e
            exact ⟨rfl, rfl, s', a', rfl, h1, h2, h3, h4, h5⟩) (fun K' V' c' s' a' e h1 h2 h9 h3 h4 h5 => by rw [hbf] at e; cases e))) (fun g hg => ?_)
        obtain ⟨s1, a1, rfl, hR1, hq1, h11, h13, hrs⟩ := hg
        refine z_if_eq (tgt := 28) dX6_buildAnew_23 (by decide) (fun c_23 => ?_) (fun c_23 => absurd rfl c_23)
        skip
        refine z_iload_n (j := 2) dX6_buildAnew_28 rfl ?_
        refine z_iconst (v := 2) dX6_buildAnew_29 (by decide) ?_
        refine z_imul dX6_buildAnew_30 ?_
        rw [w_next (m := m) (by omega)]
        refine z_istore_n [1, 2, 0] [(0, .ref b), (1, .int ((nI newB))), (2, .int ((nI (2 ^ (7 - m)))))] dX6_buildAnew_31 (by decide) rfl ?_
        refine z_goto (tgt := 7) dX6_buildAnew_32 (by decide) ?_
        have hgr : rbF H T L newB (m + 1) B K V (s 11) (s 13) = rbF H T L newB m (2 ^ (6 - m)) K1 V1 (s1 11) (s1 13) := by rw [rbF, if_neg hwB, hbf, h11, h13]
        refine ih (2 ^ (6 - m)) K1 V1 s1 a1 (by omega) hR1.k hq1 (fun B' K' V' c' x' s' a' e => hqF B' K' V' c' x' s' a' (hgr.trans e)) (fun B' K' V' c' x' s' a' e h1 h2 h3 h4 h5 => hqT B' K' V' c' x' s' a' (hgr.trans e) h1 h2 h3 h4 (fun k x6 x10 x11 x13 => (h5 k x6 x10 x11 x13).trans (hrs k x6 x10 x11 x13)))
      · refine z_cVx [.int (nI (2 ^ (6 - m)))] (some (.int 1)) (fun g => ∃ s1 a1, g = tW h b s1 a1 ∧ tR (2 ^ (6 - m)) H T K1 V1 s1 a1 ∧ qR s1 a1 L ∧ s1 11 = c1 ∧ s1 13 = (if 2 ^ (6 - m) = B then s 13 else s 13 + 1) ∧ (∀ k, k ≠ 6 → k ≠ 10 → k ≠ 11 → k ≠ 13 → s1 k = s k) ∧ s1 10 = nI L.length) yoX6_build yvX6_build rfl (by decide) lX6_80 (by omega) tW_obj rfl rfl (Nat.le_of_ble_eq_true rfl) (Nat.le_of_ble_eq_true rfl) dX6_buildAnew_20 (z_room (by omega) (Nat.le_refl _) (Nat.le_refl _) (w_build (d := 0) hb okB1 hR hqu (fun K' V' c' s' a' e h1 h2 h3 h4 h5 => by rw [hbf] at e; cases e) (fun K' V' c' s' a' e h1 h2 h9 h3 h4 h5 => by
            rw [hbf] at e
            cases e
            exact ⟨rfl, rfl, s', a', rfl, h1, h2, h3, h4, h5, h9⟩))) (fun g hg => ?_)
        obtain ⟨s1, a1, rfl, hR1, hq1, h11, h13, hrs, h10⟩ := hg
        refine z_if_eq (tgt := 28) dX6_buildAnew_23 (by decide) (fun c_23 => absurd c_23 (by decide)) (fun c_23 => ?_)
        refine z_iconst (v := 1) dX6_buildAnew_26 (by decide) ?_
        exact z_zret rfl rfl dX6_buildAnew_27 (hqT (2 ^ (6 - m)) K1 V1 c1 (if 2 ^ (6 - m) = B then s 13 else s 13 + 1) s1 a1 (by rw [rbF, if_neg hwB, hbf]) hR1 h10 h11 h13 hrs)

set_option maxHeartbeats 4000000 in
set_option maxRecDepth 100000 in
theorem w_buildAnew {l : zL} {d kc ks n b B H T : Nat} {h : Nat → va_E} {K V : Nat → Nat} {s : Nat → Int32} {a : Nat → Nat → Int32} {Q : zQ} {newB : Nat} (hb : b + 6 ≤ n) (hR : tK B H T K V s a) (hnb : newB ≤ 128) (hqF : ∀ B' K' V' c' x' s' a', rbF H T (entL K V B) newB 4 B K V (s 11) (s 13) = (false, B', K', V', c', x') → Q (.inl (some (.int 0))) n (tW h b s' a')) (hqT : ∀ B' K' V' c' x' s' a', rbF H T (entL K V B) newB 4 B K V (s 11) (s 13) = (true, B', K', V', c', x') → tR B' H T K' V' s' a' → s' 10 = nI (entL K V B).length → s' 11 = c' → s' 13 = x' → (∀ k, k ≠ 5 → k ≠ 6 → k ≠ 10 → k ≠ 11 → k ≠ 13 → s' k = s k) → Q (.inl (some (.int 1))) n (tW h b s' a')) : Zj l mX6_buildAnew (d + 6) kc ks 0 [(0, .ref b), (1, .int ((nI newB)))] [] n (tW h b s a) Q := by
  obtain ⟨okb, h2H, hH6, h1T, hT99, e6, e7, e8, ek, ev, eh, ekv, ez⟩ := id hR
  have hle := okb.le
  refine z_aload_n (j := 0) dX6_buildAnew_0 rfl ?_
  refine z_cVx [] none (fun g => ∃ s0 a0, g = tW h b s0 a0 ∧ tK B H T K V s0 a0 ∧ qR s0 a0 (entL K V B) ∧ (∀ k, k ≠ 5 → s0 k = s k)) yoX6_queueAll yvX6_queueAll rfl (by decide) lX6_73 (by omega) tW_obj rfl rfl (Nat.le_of_ble_eq_true rfl) (Nat.le_of_ble_eq_true rfl) dX6_buildAnew_1 (z_room (by omega) (Nat.le_refl _) (Nat.le_refl _) (w_queueAll (d := 0) hb hR (fun s' a' h1 h2 _ _ _ h3 => ⟨rfl, rfl, s', a', rfl, h1, h2, h3⟩))) (fun g hg => ?_)
  obtain ⟨s0, a0, rfl, hR0, hq0, hs0⟩ := hg
  refine z_bipush (v := 8) dX6_buildAnew_4 (by decide) ?_
  refine z_istore_n [1, 2, 0] [(0, .ref b), (1, .int ((nI newB))), (2, .int 8)] dX6_buildAnew_6 (by decide) rfl ?_
  have hin : rbF H T (entL K V B) newB 4 B K V (s 11) (s 13) = rbF H T (entL K V B) newB 4 B K V (s0 11) (s0 13) := by rw [hs0 11 (by decide), hs0 13 (by decide)]
  exact w_rb_l hb hnb 4 B K V s0 a0 (by omega) hR0 hq0 (fun B' K' V' c' x' s' a' e => hqF B' K' V' c' x' s' a' (hin.trans e)) (fun B' K' V' c' x' s' a' e h1 h2 h3 h4 h5 => hqT B' K' V' c' x' s' a' (hin.trans e) h1 h2 h3 h4 (fun k x5 x6 x10 x11 x13 => by rw [h5 k x6 x10 x11 x13, hs0 k x5]))
