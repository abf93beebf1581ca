set_option maxHeartbeats 4000000 in
set_option maxRecDepth 100000 in
theorem w_store {l : zL} {d kc ks n b B H T : Nat} {h : Nat → va_E} {K V : Nat → Nat} {s : Nat → Int32} {a : Nat → Nat → Int32} {Q : zQ} (hb : b + 6 ≤ n) (hR : tR B H T K V s a) {key v : Nat} (hkey : key ≤ 9999) (hv : v ≤ 999) (he : s 10 = nI (cnt K B)) (hqP : ∀ bk a', bw B H T K key = some bk → tR B H T K (va_up V bk v) s a' → Q (.inl (some (.int 1))) n (tW h b s a')) (hqN : ∀ {B' K' V' c' x'} s' a', bw B H T K key = none → insF B H T K V (s 11) (s 13) key v = (none, B', K', V', c', x') → Q (.inl (some (.int 0))) n (tW h b s' a')) (hqS : ∀ bk B' K' V' c' x' s' a', bw B H T K key = none → insF B H T K V (s 11) (s 13) key v = (some bk, B', K', V', c', x') → tR B' H T K' V' s' a' → s' 10 = nI (cnt K' B') → s' 11 = c' → s' 13 = x' → s' 14 = s 14 + 1 → (∀ k, k ≠ 5 → k ≠ 6 → k ≠ 10 → k ≠ 11 → k ≠ 13 → k ≠ 14 → s' k = s k) → Q (.inl (some (.int 1))) n (tW h b s' a')) : Zj l mX6_store (d + 7) kc ks 0 [(0, .ref b), (1, .int ((nI key))), (2, .int ((nI v)))] [] n (tW h b s a) Q := by
  obtain ⟨okb, h2H, hH6, h1T, hT99, e6, e7, e8, ek, ev, eh, ekv, ez⟩ := id hR
  have hle := okb.le
  refine z_aload_n (j := 0) dX6_store_0 rfl ?_
  refine z_iload_n (j := 1) dX6_store_1 rfl ?_
  refine z_cV [.int ((nI key))] (some (.int ((optI (bw B H T K key))))) yoX6_bucketWith yvX6_bucketWith rfl (by decide) lX6_84 (by omega) tW_obj rfl rfl (Nat.le_of_ble_eq_true rfl) (Nat.le_of_ble_eq_true rfl) dX6_store_2 (z_room (by omega) (Nat.le_refl _) (Nat.le_refl _) (w_bucketWith (d := 0) hb hR hkey ⟨rfl, rfl, rfl⟩)) ?_
  rcases hbw : bw B H T K key with _ | bk
  · rw [show optI none = -1 from rfl]
    refine z_istore_n [1, 2, 3, 0] [(0, .ref b), (1, .int ((nI key))), (2, .int ((nI v))), (3, .int ((-1)))] dX6_store_5 (by decide) rfl ?_
    refine z_aload_n (j := 0) dX6_store_6 rfl ?_
    refine z_iload_n (j := 3) dX6_store_7 rfl ?_
    refine z_cV [.int ((-1))] (some (.int 0)) yoX6_hasBucket yvX6_hasBucket rfl (by decide) lX6_91 (by omega) tW_obj rfl rfl (Nat.le_of_ble_eq_true rfl) (Nat.le_of_ble_eq_true rfl) dX6_store_8 (z_room (by omega) (Nat.le_refl _) (Nat.le_refl _) (w_hasBucketN (d := 0) hb ⟨rfl, rfl, rfl⟩)) ?_
    refine z_if_eq (tgt := 23) dX6_store_11 (by decide) (fun c_11 => ?_) (fun c_11 => absurd rfl c_11)
    refine z_aload_n (j := 0) dX6_store_23 rfl ?_
    refine z_iload_n (j := 1) dX6_store_24 rfl ?_
    refine z_iload_n (j := 2) dX6_store_25 rfl ?_
    rcases hif : insF B H T K V (s 11) (s 13) key v with ⟨_ | bk, B1, K1, V1, c1, x1⟩
    · refine z_cVx [.int (nI key), .int (nI v)] (some (.int (-1))) (fun g => ∃ s1 a1, g = tW h b s1 a1) yoX6_insert yvX6_insert rfl (by decide) lX6_88 (by omega) tW_obj rfl rfl (Nat.le_of_ble_eq_true rfl) (Nat.le_of_ble_eq_true rfl) dX6_store_26 (z_room (by omega) (Nat.le_refl _) (Nat.le_refl _) (w_insert (d := 0) (key := key) (v := v) hb hR hkey hv (by rw [entL_cnt]; exact he) (fun B' K' V' c' x' s' a' e => ⟨rfl, rfl, s', a', rfl⟩) (fun bk' B' K' V' c' x' s' a' e h1 h2 h3 h4 h5 h6 h7 => by rw [hif] at e; cases e))) (fun g hg => ?_)
      obtain ⟨s1, a1, rfl⟩ := hg
      refine z_iconst (v := (-1)) dX6_store_29 (by decide) ?_
      refine z_icmp_eq (tgt := 37) dX6_store_30 (by decide) (fun c_30 => ?_) (fun c_30 => absurd rfl c_30)
      refine z_iconst (v := 0) dX6_store_37 (by decide) ?_
      exact z_zret rfl rfl dX6_store_38 (hqN s1 a1 hbw hif)
    · refine z_cVx [.int (nI key), .int (nI v)] (some (.int (nI bk))) (fun g => ∃ s1 a1, g = tW h b s1 a1 ∧ tR B1 H T K1 V1 s1 a1 ∧ bk < B1 ∧ s1 10 = s 10 + 1 ∧ s1 11 = c1 ∧ s1 13 = x1 ∧ s1 14 = s 14 + 1 ∧ (∀ k, k ≠ 5 → k ≠ 6 → k ≠ 10 → k ≠ 11 → k ≠ 13 → k ≠ 14 → s1 k = s k)) yoX6_insert yvX6_insert rfl (by decide) lX6_88 (by omega) tW_obj rfl rfl (Nat.le_of_ble_eq_true rfl) (Nat.le_of_ble_eq_true rfl) dX6_store_26 (z_room (by omega) (Nat.le_refl _) (Nat.le_refl _) (w_insert (d := 0) (key := key) (v := v) hb hR hkey hv (by rw [entL_cnt]; exact he) (fun B' K' V' c' x' s' a' e => by rw [hif] at e; cases e) (fun bk' B' K' V' c' x' s' a' e h1 h2 h3 h4 h5 h6 h7 => by
          rw [hif] at e
          cases e
          exact ⟨rfl, rfl, s', a', rfl, h1, h2, h3, h4, h5, h6, h7⟩))) (fun g hg => ?_)
      obtain ⟨s1, a1, rfl, hR1, hbk1, h10, h11, h13, h14, hrs⟩ := hg
      have hle1 := hR1.1.le
      refine z_iconst (v := (-1)) dX6_store_29 (by decide) ?_
      refine z_icmp_eq (tgt := 37) dX6_store_30 (by decide) (fun c_30 => absurd c_30 (nI_neg1 (by omega))) (fun c_30 => ?_)
      refine z_iconst (v := 1) dX6_store_33 (by decide) ?_
      refine z_goto (tgt := 38) dX6_store_34 (by decide) ?_
      exact z_zret rfl rfl dX6_store_38 (hqS bk B1 K1 V1 c1 x1 s1 a1 hbw hif hR1 (by rw [h10, he, insF_cnt okb hH6 hif]; exact nI_1 _) h11 h13 h14 hrs)
  · rw [show optI (some bk) = nI bk from rfl]
    obtain ⟨hbB, hKb⟩ := bw_lt okb hbw
    have hcb : (nI bk).toNatClampNeg = bk := nI_clamp (by omega)
    refine z_istore_n [1, 2, 3, 0] [(0, .ref b), (1, .int ((nI key))), (2, .int ((nI v))), (3, .int ((nI bk)))] dX6_store_5 (by decide) rfl ?_
    refine z_aload_n (j := 0) dX6_store_6 rfl ?_
    refine z_iload_n (j := 3) dX6_store_7 rfl ?_
    refine z_cV [.int ((nI bk))] (some (.int 1)) yoX6_hasBucket yvX6_hasBucket rfl (by decide) lX6_91 (by omega) tW_obj rfl rfl (Nat.le_of_ble_eq_true rfl) (Nat.le_of_ble_eq_true rfl) dX6_store_8 (z_room (by omega) (Nat.le_refl _) (Nat.le_refl _) (w_hasBucket (d := 0) hb hR hbB ⟨rfl, rfl, rfl⟩)) ?_
    refine z_if_eq (tgt := 23) dX6_store_11 (by decide) (fun c_11 => absurd c_11 (by decide)) (fun c_11 => ?_)
    refine z_aload_n (j := 0) dX6_store_14 rfl ?_
    refine z_get (v := .ref (b + 2)) (by omega) tW_obj fX6_15 rfl dX6_store_15 ?_
    refine z_iload_n (j := 3) dX6_store_18 rfl ?_
    refine z_iload_n (j := 2) dX6_store_19 rfl ?_
    refine t_ast 1 (by decide) hb (vp_in_nI (by omega) (by decide)) dX6_store_20 ?_
    refine z_iconst (v := 1) dX6_store_21 (by decide) ?_
    exact z_zret rfl rfl dX6_store_22 (by
        simp only [hcb]
        exact hqP bk _ hbw (tR_val hR (by omega) hv (by simp [va_up]) (fun i hi => by simp [va_up]) (by simp [va_up])))
