set_option maxHeartbeats 4000000 in
set_option maxRecDepth 100000 in
theorem w_store {l : zL} {d kc ks n b B H T : Nat} {h : Nat → va_E} {K V : Nat → Nat} {s : Nat → Int32} {a : Nat → Nat → Int32} {Q : zQ} (hb : b + 6 ≤ n) (hR : tR B H T K V s a) {key v : Nat} (hkey : key ≤ 9999) (hv : v ≤ 999) (he : s 10 = nI (cnt K B)) (hqP : ∀ bk a', bw B H T K key = some bk → tR B H T K (va_up V bk v) s a' → Q (.inl (some (.int 1))) n (tW h b s a')) (hqN : ∀ {B' K' V' c' x'} s' a', bw B H T K key = none → insF B H T K V (s 11) (s 13) key v = (none, B', K', V', c', x') → Q (.inl (some (.int 0))) n (tW h b s' a')) (hqS : ∀ bk B' K' V' c' x' s' a', bw B H T K key = none → insF B H T K V (s 11) (s 13) key v = (some bk, B', K', V', c', x') → tR B' H T K' V' s' a' → s' 10 = nI (cnt K' B') → s' 11 = c' → s' 13 = x' → s' 14 = s 14 + 1 → (∀ k, k ≠ 5 → k ≠ 6 → k ≠ 10 → k ≠ 11 → k ≠ 13 → k ≠ 14 → s' k = s k) → Q (.inl (some (.int 1))) n (tW h b s' a')) : Zj l mX6_store (d + 7) kc ks 0 [(0, .ref b), (1, .int ((nI key))), (2, .int ((nI v)))] [] n (tW h b s a) Q := by
  obtain ⟨okb, h2H, hH6, h1T, hT99, e6, e7, e8, ek, ev, eh, ekv, ez⟩ := id hR
  have hle := okb.le
  refine z_aload_n (j := 0) dX6_store_0 rfl ?_
  refine z_iload_n (j := 1) dX6_store_1 rfl ?_
  refine z_cV [.int ((nI key))] (some (.int ((optI (bw B H T K key))))) yoX6_bucketWith yvX6_bucketWith rfl (by decide) lX6_84 (by omega) tW_obj rfl rfl (Nat.le_of_ble_eq_true rfl) (Nat.le_of_ble_eq_true rfl) dX6_store_2 (z_room (by omega) (Nat.le_refl _) (Nat.le_refl _) (w_bucketWith (d := 0) hb hR hkey ⟨rfl, rfl, rfl⟩)) ?_
  rcases hbw : bw B H T K key with _ | bk
  · rw [show optI none = -1 from rfl]
    refine z_istore_n [1, 2, 3, 0] [(0, .ref b), (1, .int ((nI key))), (2, .int ((nI v))), (3, .int ((-1)))] dX6_store_5 (by decide) rfl ?_
    refine z_aload_n (j := 0) dX6_store_6 rfl ?_
    refine z_iload_n (j := 3) dX6_store_7 rfl ?_
    refine z_cV [.int ((-1))] (some (.int 0)) yoX6_hasBucket yvX6_hasBucket rfl (by decide) lX6_91 (by omega) tW_obj rfl rfl (Nat.le_of_ble_eq_true rfl) (Nat.le_of_ble_eq_true rfl) dX6_store_8 (z_room (by omega) (Nat.le_refl _) (Nat.le_refl _) (w_hasBucketN (d := 0) hb ⟨rfl, rfl, rfl⟩)) ?_
    refine z_if_eq (tgt := 23) dX6_store_11 (by decide) (fun c_11 => ?_) (fun c_11 => absurd rfl c_11)
    refine z_aload_n (j := 0) dX6_store_23 rfl ?_
    refine z_iload_n (j := 1) dX6_store_24 rfl ?_
    refine z_iload_n (j := 2) dX6_store_25 rfl ?_
    rcases hif : insF B H T K V (s 11) (s 13) key v with ⟨_ | bk, B1, K1, V1, c1, x1⟩
    · refine z_cVx [.int (nI key), .int (nI v)] (some (.int (-1))) (fun g => ∃ s1 a1, g = tW h b s1 a1) yoX6_insert yvX6_insert rfl (by decide) lX6_88 (by omega) tW_obj rfl rfl (Nat.le_of_ble_eq_true rfl) (Nat.le_of_ble_eq_true rfl) dX6_store_26 (z_room (by omega) (Nat.le_refl _) (Nat.le_refl _) (w_insert (d := 0) (key := key) (v := v) hb hR hkey hv (by rw [entL_cnt]; exact he) (fun B' K' V' c' x' s' a' e => ⟨rfl, rfl, s', a', rfl⟩) (fun bk' B' K' V' c' x' s' a' e h1 h2 h3 h4 h5 h6 h7 => by rw [hif] at e; cases e))) (fun g hg => ?_)
      obtain ⟨s1, a1, rfl⟩ := hg
      refine z_iconst (v := (-1)) dX6_store_29 (by decide) ?_
      refine z_icmp_eq (tgt := 37) dX6_store_30 (by decide) (fun c_30 => ?_) (fun c_30 => absurd rfl c_30)
      refine z_iconst (v := 0) dX6_store_37 (by decide) ?_
      exact z_zret rfl rfl dX6_store_38 (hqN s1 a1 hbw hif)
    · refine z_cVx [.int (nI key), .int (nI v)] (some (.int (nI bk))) (fun g => ∃ s1 a1, g = tW h b s1 a1 ∧ tR B1 H T K1 V1 s1 a1 ∧ bk < B1 ∧ s1 10 = s 10 + 1 ∧ s1 11 = c1 ∧ s1 13 = x1 ∧ s1 14 = s 14 + 1 ∧ (∀ k, k ≠ 5 → k ≠ 6 → k ≠ 10 → k ≠ 11 → k ≠ 13 → k ≠ 14 → s1 k = s k)) yoX6_insert yvX6_insert rfl (by decide) lX6_88 (by omega) tW_obj rfl rfl (Nat.le_of_ble_eq_true rfl) (Nat.le_of_ble_eq_true rfl) dX6_store_26 (z_room (by omega) (Nat.le_refl _) (Nat.le_refl _) (w_insert (d := 0) (key := key) (v := v) hb hR hkey hv (by rw [entL_cnt]; exact he) (fun B' K' V' c' x' s' a' e => by rw [hif] at e; cases e) (fun bk' B' K' V' c' x' s' a' e h1 h2 h3 h4 h5 h6 h7 => by
          rw [hif] at e
          cases e
          exact ⟨rfl, rfl, s', a', rfl, h1, h2, h3, h4, h5, h6, h7⟩))) (fun g hg => ?_)
      obtain ⟨s1, a1, rfl, hR1, hbk1, h10, h11, h13, h14, hrs⟩ := hg
      have hle1 := hR1.1.le
      refine z_iconst (v := (-1)) dX6_store_29 (by decide) ?_
      refine z_icmp_eq (tgt := 37) dX6_store_30 (by decide) (fun c_30 => absurd c_30 (nI_neg1 (by omega))) (fun c_30 => ?_)
      refine z_iconst (v := 1) dX6_store_33 (by decide) ?_
      refine z_goto (tgt := 38) dX6_store_34 (by decide) ?_
      exact z_zret rfl rfl dX6_store_38 (hqS bk B1 K1 V1 c1 x1 s1 a1 hbw hif hR1 (by rw [h10, he, insF_cnt okb hH6 hif]; exact nI_1 _) h11 h13 h14 hrs)
  · rw [show optI (some bk) = nI bk from rfl]
    obtain ⟨hbB, hKb⟩ := bw_lt okb hbw
    have hcb : (nI bk).toNatClampNeg = bk := nI_clamp (by omega)
    refine z_istore_n [1, 2, 3, 0] [(0, .ref b), (1, .int ((nI key))), (2, .int ((nI v))), (3, .int ((nI bk)))] dX6_store_5 (by decide) rfl ?_
    refine z_aload_n (j := 0) dX6_store_6 rfl ?_
    refine z_iload_n (j := 3) dX6_store_7 rfl ?_
    refine z_cV [.int ((nI bk))] (some (.int 1)) yoX6_hasBucket yvX6_hasBucket rfl (by decide) lX6_91 (by omega) tW_obj rfl rfl (Nat.le_of_ble_eq_true rfl) (Nat.le_of_ble_eq_true rfl) dX6_store_8 (z_room (by omega) (Nat.le_refl _) (Nat.le_refl _) (w_hasBucket (d := 0) hb hR hbB ⟨rfl, rfl, rfl⟩)) ?_
    refine z_if_eq (tgt := 23) dX6_store_11 (by decide) (fun c_11 => absurd c_11 (by decide)) (fun c_11 => ?_)
    refine z_aload_n (j := 0) dX6_store_14 rfl ?_
    refine z_get (v := .ref (b + 2)) (by omega) tW_obj fX6_15 rfl dX6_store_15 ?_
    refine z_iload_n (j := 3) dX6_store_18 rfl ?_
    refine z_iload_n (j := 2) dX6_store_19 rfl ?_
    refine t_ast 1 (by decide) hb (vp_in_nI (by omega) (by decide)) dX6_store_20 ?_
    refine z_iconst (v := 1) dX6_store_21 (by decide) ?_
    exact z_zret rfl rfl dX6_store_22 (by
        simp only [hcb]
        exact hqP bk _ hbw (tR_val hR (by omega) hv (by simp [va_up]) (fun i hi => by simp [va_up]) (by simp [va_up])))

set_option maxHeartbeats 4000000 in
set_option maxRecDepth 100000 in
theorem w_insertRow_l {l : zL} {d kc ks n b H T key step count : Nat} {h : Nat → va_E} {Q : zQ} {x14 : Int32} (hb : b + 6 ≤ n) (hks : ∀ i, i < count → key + i * step ≤ 9999) (hct : count ≤ 20) : ∀ m i j (B : Nat) (K V : Nat → Nat) (s : Nat → Int32) (a : Nat → Nat → Int32), i + m = count → tR B H T K V s a → s 10 = nI (cnt K B) → s 14 = x14 + nI j → j ≤ i → (∀ s' a', rowF H T step m (key + i * step) j B K V (s 11) (s 13) = none → Q (.inl (some (.int (-1)))) n (tW h b s' a')) → (∀ j' B' K' V' c' x' s' a', rowF H T step m (key + i * step) j B K V (s 11) (s 13) = some (j', B', K', V', c', x') → tR B' H T K' V' s' a' → s' 10 = nI (cnt K' B') → s' 11 = c' → s' 13 = x' → s' 14 = x14 + nI j' → (∀ k, k ≠ 5 → k ≠ 6 → k ≠ 10 → k ≠ 11 → k ≠ 13 → k ≠ 14 → s' k = s k) → Q (.inl (some (.int (nI j')))) n (tW h b s' a')) → Zj l mX6_insertRow (d + 7) kc ks 6 [(0, .ref b), (1, .int ((nI key))), (2, .int ((nI step))), (3, .int ((nI count))), (4, .int ((nI j))), (5, .int ((nI i)))] [] n (tW h b s a) Q := by
  intro m
  induction m with
  | zero =>
    intro i j B K V s a hi hR he h14 hji hqN hqS
    refine z_iload (j := 5) dX6_insertRow_6 rfl ?_
    refine z_iload_n (j := 3) dX6_insertRow_8 rfl ?_
    refine z_icmp_ge (tgt := 55) dX6_insertRow_9 (by decide) (fun c_9 => ?_) (fun c_9 => absurd (nI_le (by omega) (by omega)) c_9)
    refine z_iload (j := 4) dX6_insertRow_55 rfl ?_
    exact z_iret rfl dX6_insertRow_57 (hqS j B K V (s 11) (s 13) s a rfl hR he rfl rfl h14 (fun _ _ _ _ _ _ _ => rfl))
  | succ m ih =>
    intro i j B K V s a hi hR he h14' hji hqN hqS
    obtain ⟨okb, h2H, hH6, h1T, hT99, e6, e7, e8, ek, ev, eh, ekv, ez⟩ := id hR
    have hle := okb.le
    have hki := hks i (by omega)
    refine z_iload (j := 5) dX6_insertRow_6 rfl ?_
    refine z_iload_n (j := 3) dX6_insertRow_8 rfl ?_
    refine z_icmp_ge (tgt := 55) dX6_insertRow_9 (by decide) (fun c_9 => absurd c_9 (nI_ge (by omega) (by omega))) (fun c_9 => ?_)
    refine z_iload_n (j := 1) dX6_insertRow_12 rfl ?_
    refine z_iload (j := 5) dX6_insertRow_13 rfl ?_
    refine z_iload_n (j := 2) dX6_insertRow_15 rfl ?_
    refine z_imul dX6_insertRow_16 ?_
    refine z_iadd dX6_insertRow_17 ?_
    rw [show ((nI key) + ((nI i) * (nI step))) = (nI (key + i * step)) from by rw [pk_mul, nI_add]]
    refine z_istore [1, 2, 3, 4, 5, 6, 0] [(0, .ref b), (1, .int ((nI key))), (2, .int ((nI step))), (3, .int ((nI count))), (4, .int ((nI j))), (5, .int ((nI i))), (6, .int ((nI (key + i * step))))] dX6_insertRow_18 (by decide) rfl ?_
    refine z_aload_n (j := 0) dX6_insertRow_20 rfl ?_
    refine z_iload (j := 6) dX6_insertRow_21 rfl ?_
    refine z_cV [.int ((nI (key + i * step)))] (some (.int ((optI (bw B H T K (key + i * step)))))) yoX6_bucketWith yvX6_bucketWith rfl (by decide) lX6_84 (by omega) tW_obj rfl rfl (Nat.le_of_ble_eq_true rfl) (Nat.le_of_ble_eq_true rfl) dX6_insertRow_23 (z_room (by omega) (Nat.le_refl _) (Nat.le_refl _) (w_bucketWith (d := 0) hb hR hki ⟨rfl, rfl, rfl⟩)) ?_
    rcases hbw : bw B H T K (key + i * step) with _ | bk0
    · rw [show optI none = -1 from rfl]
      refine z_iconst (v := (-1)) dX6_insertRow_26 (by decide) ?_
      refine z_icmp_eq (tgt := 33) dX6_insertRow_27 (by decide) (fun c_27 => ?_) (fun c_27 => absurd rfl c_27)
      refine z_aload_n (j := 0) dX6_insertRow_33 rfl ?_
      refine z_iload (j := 6) dX6_insertRow_34 rfl ?_
      refine z_iconst (v := 0) dX6_insertRow_36 (by decide) ?_
      rcases hif : insF B H T K V (s 11) (s 13) (key + i * step) 0 with ⟨_ | bk, B1, K1, V1, c1, x1⟩
      · refine z_cVx [.int (nI (key + i * step)), .int 0] (some (.int (-1))) (fun g => ∃ s1 a1, g = tW h b s1 a1) yoX6_insert yvX6_insert rfl (by decide) lX6_88 (by omega) tW_obj rfl rfl (Nat.le_of_ble_eq_true rfl) (Nat.le_of_ble_eq_true rfl) dX6_insertRow_37 (z_room (by omega) (Nat.le_refl _) (Nat.le_refl _) (w_insert (d := 0) (key := (key + i * step)) (v := 0) hb hR hki (by decide) (by rw [entL_cnt]; exact he) (fun B' K' V' c' x' s' a' e => ⟨rfl, rfl, s', a', rfl⟩) (fun bk' B' K' V' c' x' s' a' e h1 h2 h3 h4 h5 h6 h7 => by rw [hif] at e; cases e))) (fun g hg => ?_)
        obtain ⟨s1, a1, rfl⟩ := hg
        refine z_iconst (v := (-1)) dX6_insertRow_40 (by decide) ?_
        refine z_icmp_ne (tgt := 46) dX6_insertRow_41 (by decide) (fun c_41 => absurd rfl c_41) (fun c_41 => ?_)
        refine z_iconst (v := (-1)) dX6_insertRow_44 (by decide) ?_
        exact z_iret rfl dX6_insertRow_45 (hqN s1 a1 (rowF_no hbw hif))
      · refine z_cVx [.int (nI (key + i * step)), .int 0] (some (.int (nI bk))) (fun g => ∃ s1 a1, g = tW h b s1 a1 ∧ tR B1 H T K1 V1 s1 a1 ∧ bk < B1 ∧ s1 10 = s 10 + 1 ∧ s1 11 = c1 ∧ s1 13 = x1 ∧ s1 14 = s 14 + 1 ∧ (∀ k, k ≠ 5 → k ≠ 6 → k ≠ 10 → k ≠ 11 → k ≠ 13 → k ≠ 14 → s1 k = s k)) yoX6_insert yvX6_insert rfl (by decide) lX6_88 (by omega) tW_obj rfl rfl (Nat.le_of_ble_eq_true rfl) (Nat.le_of_ble_eq_true rfl) dX6_insertRow_37 (z_room (by omega) (Nat.le_refl _) (Nat.le_refl _) (w_insert (d := 0) (key := (key + i * step)) (v := 0) hb hR hki (by decide) (by rw [entL_cnt]; exact he) (fun B' K' V' c' x' s' a' e => by rw [hif] at e; cases e) (fun bk' B' K' V' c' x' s' a' e h1 h2 h3 h4 h5 h6 h7 => by
            rw [hif] at e
            cases e
            exact ⟨rfl, rfl, s', a', rfl, h1, h2, h3, h4, h5, h6, h7⟩))) (fun g hg => ?_)
        obtain ⟨s1, a1, rfl, hR1, hbk1, h10, h11, h13, h14, hrs⟩ := hg
        have hle1 := hR1.1.le
        refine z_iconst (v := (-1)) dX6_insertRow_40 (by decide) ?_
        refine z_icmp_ne (tgt := 46) dX6_insertRow_41 (by decide) (fun c_41 => ?_) (fun c_41 => absurd c_41 (nI_neg1 (by omega)))
        skip
        refine z_iinc ((nI (j + 1))) [1, 2, 3, 4, 0, 5, 6] [(0, .ref b), (1, .int ((nI key))), (2, .int ((nI step))), (3, .int ((nI count))), (4, .int ((nI (j + 1)))), (5, .int ((nI i))), (6, .int ((nI (key + i * step))))] dX6_insertRow_46 (j := 4) rfl (nI_1 j) (by decide) rfl ?_
        skip
        refine z_iinc ((nI (i + 1))) [1, 2, 3, 4, 5, 0, 6] [(0, .ref b), (1, .int ((nI key))), (2, .int ((nI step))), (3, .int ((nI count))), (4, .int ((nI (j + 1)))), (5, .int ((nI (i + 1)))), (6, .int ((nI (key + i * step))))] dX6_insertRow_49 (j := 5) rfl (nI_1 i) (by decide) rfl ?_
        refine z_goto (tgt := 6) dX6_insertRow_52 (by decide) ?_
        refine z_lv [(0, .ref b), (1, .int ((nI key))), (2, .int ((nI step))), (3, .int ((nI count))), (4, .int ((nI (j + 1)))), (5, .int ((nI (i + 1))))] [0, 1, 2, 3, 4, 5] rfl ?_
        have hgr : rowF H T step (m + 1) (key + i * step) j B K V (s 11) (s 13) = rowF H T step m (key + (i + 1) * step) (j + 1) B1 K1 V1 (s1 11) (s1 13) := by rw [rowF_yes hbw hif, h11, h13, show key + (i + 1) * step = key + i * step + step by rw [Nat.add_mul]; omega]
        refine ih (i + 1) (j + 1) B1 K1 V1 s1 a1 (by omega) hR1 (by rw [h10, he, insF_cnt okb hH6 hif]; exact nI_1 _) (by rw [h14, h14', Int32.add_assoc, nI_1]) (by omega) (fun s' a' e => hqN s' a' (hgr.trans e)) (fun j' B' K' V' c' x' s' a' e h1 h2 h3 h4 h5 h6 => hqS j' B' K' V' c' x' s' a' (hgr.trans e) h1 h2 h3 h4 h5 (fun k x5 x6 x10 x11 x13 x14 => (h6 k x5 x6 x10 x11 x13 x14).trans (hrs k x5 x6 x10 x11 x13 x14)))
    · rw [show optI (some bk0) = nI bk0 from rfl]
      obtain ⟨hbB, hKb⟩ := bw_lt okb hbw
      refine z_iconst (v := (-1)) dX6_insertRow_26 (by decide) ?_
      refine z_icmp_eq (tgt := 33) dX6_insertRow_27 (by decide) (fun c_27 => absurd c_27 (nI_neg1 (by omega))) (fun c_27 => ?_)
      refine z_goto (tgt := 49) dX6_insertRow_30 (by decide) ?_
      skip
      refine z_iinc ((nI (i + 1))) [1, 2, 3, 4, 5, 0, 6] [(0, .ref b), (1, .int ((nI key))), (2, .int ((nI step))), (3, .int ((nI count))), (4, .int ((nI j))), (5, .int ((nI (i + 1)))), (6, .int ((nI (key + i * step))))] dX6_insertRow_49 (j := 5) rfl (nI_1 i) (by decide) rfl ?_
      refine z_goto (tgt := 6) dX6_insertRow_52 (by decide) ?_
      refine z_lv [(0, .ref b), (1, .int ((nI key))), (2, .int ((nI step))), (3, .int ((nI count))), (4, .int ((nI j))), (5, .int ((nI (i + 1))))] [0, 1, 2, 3, 4, 5] rfl ?_
      have hgr : rowF H T step (m + 1) (key + i * step) j B K V (s 11) (s 13) = rowF H T step m (key + (i + 1) * step) j B K V (s 11) (s 13) := by rw [rowF_in hbw, show key + (i + 1) * step = key + i * step + step by rw [Nat.add_mul]; omega]
      exact ih (i + 1) j B K V s a (by omega) hR he h14' (by omega) (fun s' a' e => hqN s' a' (hgr.trans e)) (fun j' B' K' V' c' x' s' a' e => hqS j' B' K' V' c' x' s' a' (hgr.trans e))

set_option maxHeartbeats 4000000 in
set_option maxRecDepth 100000 in
theorem w_insertRow {l : zL} {d kc ks n b B H T : Nat} {h : Nat → va_E} {K V : Nat → Nat} {s : Nat → Int32} {a : Nat → Nat → Int32} {Q : zQ} {key step count : Nat} (hb : b + 6 ≤ n) (hR : tR B H T K V s a) (hks : ∀ i, i < count → key + i * step ≤ 9999) (hct : count ≤ 20) (he : s 10 = nI (cnt K B)) (hqN : ∀ s' a', rowF H T step count key 0 B K V (s 11) (s 13) = none → Q (.inl (some (.int (-1)))) n (tW h b s' a')) (hqS : ∀ j' B' K' V' c' x' s' a', rowF H T step count key 0 B K V (s 11) (s 13) = some (j', B', K', V', c', x') → tR B' H T K' V' s' a' → s' 10 = nI (cnt K' B') → s' 11 = c' → s' 13 = x' → s' 14 = s 14 + nI j' → (∀ k, k ≠ 5 → k ≠ 6 → k ≠ 10 → k ≠ 11 → k ≠ 13 → k ≠ 14 → s' k = s k) → Q (.inl (some (.int (nI j')))) n (tW h b s' a')) : Zj l mX6_insertRow (d + 7) kc ks 0 [(0, .ref b), (1, .int ((nI key))), (2, .int ((nI step))), (3, .int ((nI count)))] [] n (tW h b s a) Q := by
  refine z_iconst (v := 0) dX6_insertRow_0 (by decide) ?_
  refine z_istore [1, 2, 3, 4, 0] [(0, .ref b), (1, .int ((nI key))), (2, .int ((nI step))), (3, .int ((nI count))), (4, .int 0)] dX6_insertRow_1 (by decide) rfl ?_
  refine z_iconst (v := 0) dX6_insertRow_3 (by decide) ?_
  refine z_istore [1, 2, 3, 4, 5, 0] [(0, .ref b), (1, .int ((nI key))), (2, .int ((nI step))), (3, .int ((nI count))), (4, .int 0), (5, .int 0)] dX6_insertRow_4 (by decide) rfl ?_
  have e0 : key + 0 * step = key := by omega
  refine w_insertRow_l (x14 := s 14) hb hks hct count 0 0 B K V s a (by omega) hR he (by rw [show nI 0 = 0 from rfl, Int32.add_zero]) (Nat.le_refl _) ?_ ?_
  · rw [e0]; exact hqN
  · rw [e0]; exact hqS
