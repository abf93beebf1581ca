set_option maxHeartbeats 4000000 in
set_option maxRecDepth 100000 in
theorem w_insert_d {l : zL} {d kc ks n b : Nat} {h : Nat → va_E} {Q : zQ} {key v bk : Nat} {s : Nat → Int32} {a : Nat → Nat → Int32} (hb : b + 6 ≤ n) (hk : bk < 64) (hq : Q (.inl (some (.int (nI bk)))) n (tW h b (va_up s 14 (s 14 + 1)) a)) : ∀ m, m ≤ 4 → Zj l mX6_insert d kc ks 15 [(0, .ref b), (1, .int ((nI key))), (2, .int ((nI v))), (3, .int ((nI bk))), (4, .int ((nI (2 ^ (7 - m)))))] [] n (tW h b s a) Q := by
  intro m
  induction m with
  | zero =>
    intro hm
    refine z_iload (j := 4) dX6_insert_15 rfl ?_
    refine z_bipush (v := 64) dX6_insert_17 (by decide) ?_
    refine z_icmp_gt (tgt := 61) dX6_insert_19 (by decide) (fun c_19 => ?_) (fun c_19 => absurd (by decide) c_19)
    refine z_iload_n (j := 3) dX6_insert_61 rfl ?_
    refine z_iconst (v := (-1)) dX6_insert_62 (by decide) ?_
    refine z_icmp_eq (tgt := 76) dX6_insert_63 (by decide) (fun c_63 => absurd c_63 (fun e => nI_neg1 (by omega) e)) (fun c_63 => ?_)
    refine z_aload_n (j := 0) dX6_insert_66 rfl ?_
    refine z_dup rfl dX6_insert_67 ?_
    refine z_get (v := .int (s 14)) (by omega) tW_obj fX6_48 rfl dX6_insert_68 ?_
    refine z_iconst (v := 1) dX6_insert_71 (by decide) ?_
    refine z_iadd dX6_insert_72 ?_
    refine t_put (k := 14) (by omega) fX6_48 (by decide) (by decide) (by decide) dX6_insert_73 ?_
    refine z_iload_n (j := 3) dX6_insert_76 rfl ?_
    exact z_iret rfl dX6_insert_77 (hq)
  | succ m ih =>
    intro hm
    have hw64 : 2 ^ (6 - m) ≤ 64 := (okB_w (m := m) (by omega)).le.2
    rw [show 7 - (m + 1) = 6 - m by omega]
    refine z_iload (j := 4) dX6_insert_15 rfl ?_
    refine z_bipush (v := 64) dX6_insert_17 (by decide) ?_
    refine z_icmp_gt (tgt := 61) dX6_insert_19 (by decide) (fun c_19 => absurd c_19 (nI_nlt (a := 64) hw64 (by omega))) (fun c_19 => ?_)
    refine z_iload_n (j := 3) dX6_insert_22 rfl ?_
    refine z_iconst (v := (-1)) dX6_insert_23 (by decide) ?_
    refine z_icmp_ne (tgt := 52) dX6_insert_24 (by decide) (fun c_24 => ?_) (fun c_24 => absurd c_24 (nI_neg1 (by omega)))
    refine z_iload (j := 4) dX6_insert_52 rfl ?_
    refine z_iconst (v := 2) dX6_insert_54 (by decide) ?_
    refine z_imul dX6_insert_55 ?_
    rw [w_next (m := m) (by omega)]
    refine z_istore [1, 2, 3, 4, 0] [(0, .ref b), (1, .int ((nI key))), (2, .int ((nI v))), (3, .int ((nI bk))), (4, .int ((nI (2 ^ (7 - m)))))] dX6_insert_56 (by decide) rfl ?_
    refine z_goto (tgt := 15) dX6_insert_58 (by decide) ?_
    exact ih (by omega)

set_option maxHeartbeats 4000000 in
set_option maxRecDepth 100000 in
theorem w_insert_l {l : zL} {d kc ks n b H T : Nat} {h : Nat → va_E} {L : List (Nat × Nat)} {Q : zQ} {key v : Nat} (hb : b + 6 ≤ n) (hk : key ≤ 9999) (hv : v ≤ 999) : ∀ m (B : Nat) (K V : Nat → Nat) (s : Nat → Int32) (a : Nat → Nat → Int32), m ≤ 4 → tR B H T K V s a → qR s a L → (∀ B' K' V' c' x' s' a', grF H T L key v m B K V (s 11) (s 13) = (none, B', K', V', c', x') → tR B' H T K' V' s' a' → s' 11 = c' → s' 13 = x' → (∀ k, k ≠ 6 → k ≠ 10 → k ≠ 11 → k ≠ 13 → k ≠ 14 → s' k = s k) → Q (.inl (some (.int (-1)))) n (tW h b s' a')) → (∀ bk B' K' V' c' x' s' a', grF H T L key v m B K V (s 11) (s 13) = (some bk, B', K', V', c', x') → tR B' H T K' V' s' a' → bk < B' → s' 10 = nI (L.length + 1) → s' 11 = c' → s' 13 = x' → s' 14 = s 14 + 1 → (∀ k, k ≠ 6 → k ≠ 10 → k ≠ 11 → k ≠ 13 → k ≠ 14 → s' k = s k) → Q (.inl (some (.int (nI bk)))) n (tW h b s' a')) → Zj l mX6_insert (d + 5) kc ks 15 [(0, .ref b), (1, .int ((nI key))), (2, .int ((nI v))), (3, .int ((-1))), (4, .int ((nI (2 ^ (7 - m)))))] [] n (tW h b s a) Q := by
  intro m
  induction m with
  | zero =>
    intro B K V s a hm hR hqu hqN hqS
    obtain ⟨okb, h2H, hH6, h1T, hT99, e6, e7, e8, ek, ev, eh, ekv, ez⟩ := id hR
    have hle := okb.le
    refine z_iload (j := 4) dX6_insert_15 rfl ?_
    refine z_bipush (v := 64) dX6_insert_17 (by decide) ?_
    refine z_icmp_gt (tgt := 61) dX6_insert_19 (by decide) (fun c_19 => ?_) (fun c_19 => absurd (by decide) c_19)
    refine z_iload_n (j := 3) dX6_insert_61 rfl ?_
    refine z_iconst (v := (-1)) dX6_insert_62 (by decide) ?_
    refine z_icmp_eq (tgt := 76) dX6_insert_63 (by decide) (fun c_63 => ?_) (fun c_63 => absurd rfl c_63)
    refine z_iload_n (j := 3) dX6_insert_76 rfl ?_
    exact z_iret rfl dX6_insert_77 (hqN B K V (s 11) (s 13) s a rfl hR rfl rfl (fun _ _ _ _ _ _ => rfl))
  | succ m ih =>
    intro B K V s a hm hR hqu hqN hqS
    obtain ⟨okb, h2H, hH6, h1T, hT99, e6, e7, e8, ek, ev, eh, ekv, ez⟩ := id hR
    have hle := okb.le
    have okB1 : okB (2 ^ (6 - m)) := okB_w (m := m) (by omega)
    have hw64 : 2 ^ (6 - m) ≤ 64 := okB1.le.2
    rw [show 7 - (m + 1) = 6 - m by omega]
    refine z_iload (j := 4) dX6_insert_15 rfl ?_
    refine z_bipush (v := 64) dX6_insert_17 (by decide) ?_
    refine z_icmp_gt (tgt := 61) dX6_insert_19 (by decide) (fun c_19 => absurd c_19 (nI_nlt (a := 64) hw64 (by omega))) (fun c_19 => ?_)
    refine z_iload_n (j := 3) dX6_insert_22 rfl ?_
    refine z_iconst (v := (-1)) dX6_insert_23 (by decide) ?_
    refine z_icmp_ne (tgt := 52) dX6_insert_24 (by decide) (fun c_24 => absurd rfl c_24) (fun c_24 => ?_)
    refine z_iload (j := 4) dX6_insert_27 rfl ?_
    refine z_aload_n (j := 0) dX6_insert_29 rfl ?_
    refine z_get (v := .int (s 6)) (by omega) tW_obj fX6_64 rfl dX6_insert_30 ?_
    refine z_icmp_le (tgt := 52) dX6_insert_33 (by decide) (fun c_33 => ?_) (fun c_33 => ?_)
    · have hwB : 2 ^ (6 - m) ≤ B := by
        rw [e6] at c_33
        exact (nI_leI (by omega) (by omega)).mp c_33
      refine z_iload (j := 4) dX6_insert_52 rfl ?_
      refine z_iconst (v := 2) dX6_insert_54 (by decide) ?_
      refine z_imul dX6_insert_55 ?_
      rw [w_next (m := m) (by omega)]
      refine z_istore [1, 2, 3, 4, 0] [(0, .ref b), (1, .int ((nI key))), (2, .int ((nI v))), (3, .int ((-1))), (4, .int ((nI (2 ^ (7 - m)))))] dX6_insert_56 (by decide) rfl ?_
      refine z_goto (tgt := 15) dX6_insert_58 (by decide) ?_
      have hgr : grF H T L key v (m + 1) B K V (s 11) (s 13) = grF H T L key v m B K V (s 11) (s 13) := by rw [grF, if_pos hwB]
      refine ih B K V s a (by omega) hR hqu (fun B' K' V' c' x' s' a' e h1 h2 h3 h4 => hqN B' K' V' c' x' s' a' (hgr.trans e) h1 h2 h3 (fun k x6 x10 x11 x13 x14 => (h4 k x6 x10 x11 x13 x14).trans ((fun _ _ _ _ _ _ => rfl) k x6 x10 x11 x13 x14))) (fun bk B' K' V' c' x' s' a' e h1 h2 h3 h4 h5 h6 h7 => hqS bk B' K' V' c' x' s' a' (hgr.trans e) h1 h2 h3 h4 h5 (h6.trans rfl) (fun k x6 x10 x11 x13 x14 => (h7 k x6 x10 x11 x13 x14).trans ((fun _ _ _ _ _ _ => rfl) k x6 x10 x11 x13 x14)))
    · have hwB : ¬ 2 ^ (6 - m) ≤ B := fun e => c_33 (by rw [e6]; exact nI_le e (by omega))
      have hwn : ¬ 2 ^ (6 - m) = B := fun e => hwB (by omega)
      refine z_aload_n (j := 0) dX6_insert_36 rfl ?_
      refine z_iload (j := 4) dX6_insert_37 rfl ?_
      rcases hbf : bldF (2 ^ (6 - m)) H T L kz kz 0 with ⟨_ | _, K1, V1, c1⟩
      · refine z_cVx [.int (nI (2 ^ (6 - m)))] (some (.int 0)) (fun g => ∃ s1 a1, g = tW h b s1 a1 ∧ tR (2 ^ (6 - m)) H T K1 V1 s1 a1 ∧ qR s1 a1 L ∧ s1 11 = c1 ∧ s1 13 = s 13 + 1 ∧ (∀ k, k ≠ 6 → k ≠ 10 → k ≠ 11 → k ≠ 13 → s1 k = s k)) yoX6_build yvX6_build rfl (by decide) lX6_80 (by omega) tW_obj rfl rfl (Nat.le_of_ble_eq_true rfl) (Nat.le_of_ble_eq_true rfl) dX6_insert_39 (z_room (by omega) (Nat.le_refl _) (Nat.le_refl _) (w_build_new (d := 0) hb okB1 hR.k hqu hwn (fun K' V' c' s' a' e h1 h2 h3 h4 h5 => by
            rw [hbf] at e
            cases e
            exact ⟨rfl, rfl, s', a', rfl, h1, h2, h3, h4, h5⟩) (fun K' V' c' s' a' e h1 h2 h9 h3 h4 h5 => by rw [hbf] at e; cases e))) (fun g hg => ?_)
        obtain ⟨s1, a1, rfl, hR1, hq1, h11, h13, hrs⟩ := hg
        refine z_if_eq (tgt := 52) dX6_insert_42 (by decide) (fun c_42 => ?_) (fun c_42 => absurd rfl c_42)
        skip
        refine z_iload (j := 4) dX6_insert_52 rfl ?_
        refine z_iconst (v := 2) dX6_insert_54 (by decide) ?_
        refine z_imul dX6_insert_55 ?_
        rw [w_next (m := m) (by omega)]
        refine z_istore [1, 2, 3, 4, 0] [(0, .ref b), (1, .int ((nI key))), (2, .int ((nI v))), (3, .int ((-1))), (4, .int ((nI (2 ^ (7 - m)))))] dX6_insert_56 (by decide) rfl ?_
        refine z_goto (tgt := 15) dX6_insert_58 (by decide) ?_
        have hgr : grF H T L key v (m + 1) B K V (s 11) (s 13) = grF H T L key v m (2 ^ (6 - m)) K1 V1 (s1 11) (s1 13) := by rw [grF, if_neg hwB, hbf]; simp only [h11, h13]
        refine ih (2 ^ (6 - m)) K1 V1 s1 a1 (by omega) hR1 hq1 (fun B' K' V' c' x' s' a' e h1 h2 h3 h4 => hqN B' K' V' c' x' s' a' (hgr.trans e) h1 h2 h3 (fun k x6 x10 x11 x13 x14 => (h4 k x6 x10 x11 x13 x14).trans ((fun k x6 x10 x11 x13 _ => hrs k x6 x10 x11 x13) k x6 x10 x11 x13 x14))) (fun bk B' K' V' c' x' s' a' e h1 h2 h3 h4 h5 h6 h7 => hqS bk B' K' V' c' x' s' a' (hgr.trans e) h1 h2 h3 h4 h5 (h6.trans (by rw [hrs 14 (by decide) (by decide) (by decide) (by decide)])) (fun k x6 x10 x11 x13 x14 => (h7 k x6 x10 x11 x13 x14).trans ((fun k x6 x10 x11 x13 _ => hrs k x6 x10 x11 x13) k x6 x10 x11 x13 x14)))
      · refine z_cVx [.int (nI (2 ^ (6 - m)))] (some (.int 1)) (fun g => ∃ s1 a1, g = tW h b s1 a1 ∧ tR (2 ^ (6 - m)) H T K1 V1 s1 a1 ∧ qR s1 a1 L ∧ s1 11 = c1 ∧ s1 13 = s 13 + 1 ∧ (∀ k, k ≠ 6 → k ≠ 10 → k ≠ 11 → k ≠ 13 → s1 k = s k) ∧ s1 10 = nI L.length) yoX6_build yvX6_build rfl (by decide) lX6_80 (by omega) tW_obj rfl rfl (Nat.le_of_ble_eq_true rfl) (Nat.le_of_ble_eq_true rfl) dX6_insert_39 (z_room (by omega) (Nat.le_refl _) (Nat.le_refl _) (w_build_new (d := 0) hb okB1 hR.k hqu hwn (fun K' V' c' s' a' e h1 h2 h3 h4 h5 => by rw [hbf] at e; cases e) (fun K' V' c' s' a' e h1 h2 h9 h3 h4 h5 => by
            rw [hbf] at e
            cases e
            exact ⟨rfl, rfl, s', a', rfl, h1, h2, h3, h4, h5, h9⟩))) (fun g hg => ?_)
        obtain ⟨s1, a1, rfl, hR1, hq1, h11, h13, hrs, h10⟩ := hg
        refine z_if_eq (tgt := 52) dX6_insert_42 (by decide) (fun c_42 => absurd c_42 (by decide)) (fun c_42 => ?_)
        refine z_aload_n (j := 0) dX6_insert_45 rfl ?_
        refine z_iload_n (j := 1) dX6_insert_46 rfl ?_
        refine z_iload_n (j := 2) dX6_insert_47 rfl ?_
        rcases hpf : placeF (2 ^ (6 - m)) H T K1 V1 c1 key v with ⟨_ | bk, K2, V2, c2⟩
        · refine z_cVx [.int (nI key), .int (nI v)] (some (.int (-1))) (fun g => ∃ s2 a2, g = tW h b s2 a2 ∧ tQ (2 ^ (6 - m)) H T K2 V2 s1 a1 (s1 10) c2 s2 a2) yoX6_place yvX6_place rfl (by decide) lX6_76 (by omega) tW_obj rfl rfl (Nat.le_of_ble_eq_true rfl) (Nat.le_of_ble_eq_true rfl) dX6_insert_48 (z_room (by omega) (Nat.le_refl _) (Nat.le_refl _) (w_place (d := 0) hb hR1 hk hv (fun K' V' c' s' a' e hT => by
            rw [h11, hpf] at e
            cases e
            exact ⟨rfl, rfl, s', a', rfl, hT⟩) (fun bk' K' V' c' s' a' e hT => by rw [h11, hpf] at e; cases e))) (fun g hg => ?_)
          obtain ⟨s2, a2, rfl, hT⟩ := hg
          refine z_istore_n [1, 2, 3, 0, 4] [(0, .ref b), (1, .int ((nI key))), (2, .int ((nI v))), (3, .int ((-1))), (4, .int ((nI (2 ^ (6 - m)))))] dX6_insert_51 (by decide) rfl ?_
          skip
          refine z_iload (j := 4) dX6_insert_52 rfl ?_
          refine z_iconst (v := 2) dX6_insert_54 (by decide) ?_
          refine z_imul dX6_insert_55 ?_
          rw [w_next (m := m) (by omega)]
          refine z_istore [1, 2, 3, 4, 0] [(0, .ref b), (1, .int ((nI key))), (2, .int ((nI v))), (3, .int ((-1))), (4, .int ((nI (2 ^ (7 - m)))))] dX6_insert_56 (by decide) rfl ?_
          refine z_goto (tgt := 15) dX6_insert_58 (by decide) ?_
          have hgr : grF H T L key v (m + 1) B K V (s 11) (s 13) = grF H T L key v m (2 ^ (6 - m)) K2 V2 (s2 11) (s2 13) := by rw [grF, if_neg hwB, hbf]; simp only [hpf]; rw [hT.2.2.1, hT.2.2.2.1 13 (by decide) (by decide), h13]
          refine ih (2 ^ (6 - m)) K2 V2 s2 a2 (by omega) hT.1 (hq1.same (hT.2.2.2.1 5 (by decide) (by decide)) hT.2.2.2.2.1 hT.2.2.2.2.2) (fun B' K' V' c' x' s' a' e h1 h2 h3 h4 => hqN B' K' V' c' x' s' a' (hgr.trans e) h1 h2 h3 (fun k x6 x10 x11 x13 x14 => (h4 k x6 x10 x11 x13 x14).trans ((fun k x6 x10 x11 x13 _ => (hT.2.2.2.1 k x10 x11).trans (hrs k x6 x10 x11 x13)) k x6 x10 x11 x13 x14))) (fun bk B' K' V' c' x' s' a' e h1 h2 h3 h4 h5 h6 h7 => hqS bk B' K' V' c' x' s' a' (hgr.trans e) h1 h2 h3 h4 h5 (h6.trans (by rw [hT.2.2.2.1 14 (by decide) (by decide), hrs 14 (by decide) (by decide) (by decide) (by decide)])) (fun k x6 x10 x11 x13 x14 => (h7 k x6 x10 x11 x13 x14).trans ((fun k x6 x10 x11 x13 _ => (hT.2.2.2.1 k x10 x11).trans (hrs k x6 x10 x11 x13)) k x6 x10 x11 x13 x14)))
        · refine z_cVx [.int (nI key), .int (nI v)] (some (.int (nI bk))) (fun g => ∃ s2 a2, g = tW h b s2 a2 ∧ tQ (2 ^ (6 - m)) H T K2 V2 s1 a1 (s1 10 + 1) c2 s2 a2) yoX6_place yvX6_place rfl (by decide) lX6_76 (by omega) tW_obj rfl rfl (Nat.le_of_ble_eq_true rfl) (Nat.le_of_ble_eq_true rfl) dX6_insert_48 (z_room (by omega) (Nat.le_refl _) (Nat.le_refl _) (w_place (d := 0) hb hR1 hk hv (fun K' V' c' s' a' e hT => by rw [h11, hpf] at e; cases e) (fun bk' K' V' c' s' a' e hT => by
            rw [h11, hpf] at e
            cases e
            exact ⟨rfl, rfl, s', a', rfl, hT⟩))) (fun g hg => ?_)
          obtain ⟨s2, a2, rfl, hT⟩ := hg
          have hlt := placeF_lt okB1 hpf
          have hle1 := okB1.le
          refine z_istore_n [1, 2, 3, 0, 4] [(0, .ref b), (1, .int ((nI key))), (2, .int ((nI v))), (3, .int ((nI bk))), (4, .int ((nI (2 ^ (6 - m)))))] dX6_insert_51 (by decide) rfl ?_
          skip
          refine z_iload (j := 4) dX6_insert_52 rfl ?_
          refine z_iconst (v := 2) dX6_insert_54 (by decide) ?_
          refine z_imul dX6_insert_55 ?_
          rw [w_next (m := m) (by omega)]
          refine z_istore [1, 2, 3, 4, 0] [(0, .ref b), (1, .int ((nI key))), (2, .int ((nI v))), (3, .int ((nI bk))), (4, .int ((nI (2 ^ (7 - m)))))] dX6_insert_56 (by decide) rfl ?_
          refine z_goto (tgt := 15) dX6_insert_58 (by decide) ?_
          refine w_insert_d hb (by omega) (hqS bk (2 ^ (6 - m)) K2 V2 c2 (s 13 + 1) (va_up s2 14 (s2 14 + 1)) a2 (by rw [grF, if_neg hwB, hbf]; simp only [hpf]) (tR_s hT.1 (by simp [va_up]) (by simp [va_up]) (by simp [va_up])) hlt ?_ ?_ ?_ ?_ (fun k x6 x10 x11 x13 x14 => ?_)) m (by omega)
          · rw [va_up, if_neg (by decide), hT.2.1, h10]; exact nI_1 _
          · rw [va_up, if_neg (by decide), hT.2.2.1]
          · rw [va_up, if_neg (by decide), hT.2.2.2.1 13 (by decide) (by decide), h13]
          · rw [va_up, if_pos rfl, hT.2.2.2.1 14 (by decide) (by decide), hrs 14 (by decide) (by decide) (by decide) (by decide)]
          · rw [va_up, if_neg x14, hT.2.2.2.1 k x10 x11, hrs k x6 x10 x11 x13]
