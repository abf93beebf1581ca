set_option maxHeartbeats 4000000 in
set_option maxRecDepth 100000 in
theorem w_build_l {l : zL} {d kc ks n b B H T : Nat} {h : Nat → va_E} {L : List (Nat × Nat)} {Q : zQ} (hb : b + 6 ≤ n) : ∀ m i (K V : Nat → Nat) (s : Nat → Int32) (a : Nat → Nat → Int32), i + m = L.length → tR B H T K V s a → qR s a L → s 10 = nI i → (∀ K' V' c' s' a', bldF B H T (L.drop i) K V (s 11) = (false, K', V', c') → tR B H T K' V' s' a' → qR s' a' L → s' 11 = c' → s' 13 = s 13 → (∀ k, k ≠ 6 → k ≠ 10 → k ≠ 11 → k ≠ 13 → s' k = s k) → Q (.inl (some (.int 0))) n (tW h b s' a')) → (∀ K' V' c' s' a', bldF B H T (L.drop i) K V (s 11) = (true, K', V', c') → tR B H T K' V' s' a' → qR s' a' L → s' 10 = nI L.length → s' 11 = c' → s' 13 = s 13 → (∀ k, k ≠ 6 → k ≠ 10 → k ≠ 11 → k ≠ 13 → s' k = s k) → Q (.inl (some (.int 1))) n (tW h b s' a')) → Zj l mX6_build (d + 4) kc ks 25 [(0, .ref b), (1, .int ((nI B))), (2, .int ((nI i)))] [] n (tW h b s a) Q := by
  intro m
  induction m with
  | zero =>
    intro i K V s a hi hR hqu h10 hqF hqT
    have hll := hqu.2.1
    obtain ⟨okb, h2H, hH6, h1T, hT99, e6, e7, e8, ek, ev, eh, ekv, ez⟩ := id hR
    have hle := okb.le
    refine z_iload_n (j := 2) dX6_build_25 rfl ?_
    refine z_aload_n (j := 0) dX6_build_26 rfl ?_
    refine z_get (v := .int (s 5)) (by omega) tW_obj fX6_106 rfl dX6_build_27 ?_
    refine z_icmp_ge (tgt := 70) dX6_build_30 (by decide) (fun c_30 => ?_) (fun c_30 => absurd (by rw [hqu.1]; exact nI_le (by omega) (by omega)) c_30)
    refine z_iconst (v := 1) dX6_build_70 (by decide) ?_
    exact z_zret rfl rfl dX6_build_71 (hqT K V (s 11) s a (by rw [List.drop_eq_nil_of_le (by omega)]; first | done | rfl) hR hqu (by rw [h10, show i = L.length by omega]) rfl rfl (fun _ _ _ _ _ => rfl))
  | succ m ih =>
    intro i K V s a hi hR hqu h10 hqF hqT
    obtain ⟨okb, h2H, hH6, h1T, hT99, e6, e7, e8, ek, ev, eh, ekv, ez⟩ := id hR
    have hle := okb.le
    have hll := hqu.2.1
    have hci : (nI i).toNatClampNeg = i := nI_clamp (by omega)
    obtain ⟨⟨k, v⟩, hLi⟩ : ∃ q, L[i]? = some q := ⟨L[i]'(by omega), List.getElem?_eq_getElem (by omega)⟩
    obtain ⟨hq3, hq4⟩ := hqu.2.2.1 i k v hLi
    have hkv := hqu.2.2.2 _ (List.mem_of_getElem? hLi)
    refine z_iload_n (j := 2) dX6_build_25 rfl ?_
    refine z_aload_n (j := 0) dX6_build_26 rfl ?_
    refine z_get (v := .int (s 5)) (by omega) tW_obj fX6_106 rfl dX6_build_27 ?_
    refine z_icmp_ge (tgt := 70) dX6_build_30 (by decide) (fun c_30 => absurd c_30 (by rw [hqu.1]; exact nI_ge (by omega) (by omega))) (fun c_30 => ?_)
    refine z_iload_n (j := 2) dX6_build_33 rfl ?_
    refine z_aload_n (j := 0) dX6_build_34 rfl ?_
    refine z_get (v := .ref (b + 4)) (by omega) tW_obj fX6_21 rfl dX6_build_35 ?_
    refine t_alen 3 (by decide) hb dX6_build_38 ?_
    refine z_icmp_ge (tgt := 70) dX6_build_39 (by decide) (fun c_39 => absurd c_39 (nI_ge (b := 64) (by omega) (by decide))) (fun c_39 => ?_)
    refine z_aload_n (j := 0) dX6_build_42 rfl ?_
    refine z_aload_n (j := 0) dX6_build_43 rfl ?_
    refine z_get (v := .ref (b + 4)) (by omega) tW_obj fX6_21 rfl dX6_build_44 ?_
    refine z_iload_n (j := 2) dX6_build_47 rfl ?_
    refine t_ald 3 (by decide) hb (vp_in_nI (by omega) (by decide)) dX6_build_48 ?_
    refine z_aload_n (j := 0) dX6_build_49 rfl ?_
    refine z_get (v := .ref (b + 5)) (by omega) tW_obj fX6_24 rfl dX6_build_50 ?_
    refine z_iload_n (j := 2) dX6_build_53 rfl ?_
    refine t_ald 4 (by decide) hb (vp_in_nI (by omega) (by decide)) dX6_build_54 ?_
    rw [hci, hq3, hq4]
    rcases hpf : placeF B H T K V (s 11) k v with ⟨_ | bk, K1, V1, c1⟩
    · refine z_cVx [.int (nI k), .int (nI v)] (some (.int (-1))) (fun g => ∃ s1 a1, g = tW h b s1 a1 ∧ tQ B H T K1 V1 s a (s 10) c1 s1 a1) yoX6_place yvX6_place rfl (by decide) lX6_76 (by omega) tW_obj rfl rfl (Nat.le_of_ble_eq_true rfl) (Nat.le_of_ble_eq_true rfl) dX6_build_55 (z_room (by omega) (Nat.le_refl _) (Nat.le_refl _) (w_place (d := 0) hb hR hkv.1 hkv.2 (fun K' V' c' s' a' e hT => by
        rw [hpf] at e
        cases e
        exact ⟨rfl, rfl, s', a', rfl, hT⟩) (fun bk' K' V' c' s' a' e hT => by rw [hpf] at e; cases e))) (fun g hg => ?_)
      obtain ⟨s1, a1, rfl, hT1⟩ := hg
      refine z_iconst (v := (-1)) dX6_build_58 (by decide) ?_
      refine z_icmp_ne (tgt := 64) dX6_build_59 (by decide) (fun c_59 => absurd rfl c_59) (fun c_59 => ?_)
      refine z_iconst (v := 0) dX6_build_62 (by decide) ?_
      exact z_zret rfl rfl dX6_build_63 (by
          refine hqF K1 V1 c1 s1 a1 (by rw [drop_at hLi]; simp [bldF, hpf]) hT1.1 (hqu.same (hT1.2.2.2.1 5 (by decide) (by decide)) hT1.2.2.2.2.1 hT1.2.2.2.2.2) hT1.2.2.1 (hT1.2.2.2.1 13 (by decide) (by decide)) (fun k _ h1 h2 _ => hT1.2.2.2.1 k h1 h2))
    · refine z_cVx [.int (nI k), .int (nI v)] (some (.int (nI bk))) (fun g => ∃ s1 a1, g = tW h b s1 a1 ∧ tQ B H T K1 V1 s a (s 10 + 1) c1 s1 a1) yoX6_place yvX6_place rfl (by decide) lX6_76 (by omega) tW_obj rfl rfl (Nat.le_of_ble_eq_true rfl) (Nat.le_of_ble_eq_true rfl) dX6_build_55 (z_room (by omega) (Nat.le_refl _) (Nat.le_refl _) (w_place (d := 0) hb hR hkv.1 hkv.2 (fun K' V' c' s' a' e hT => by rw [hpf] at e; cases e) (fun bk' K' V' c' s' a' e hT => by
        rw [hpf] at e
        cases e
        exact ⟨rfl, rfl, s', a', rfl, hT⟩))) (fun g hg => ?_)
      obtain ⟨s1, a1, rfl, hT1⟩ := hg
      refine z_iconst (v := (-1)) dX6_build_58 (by decide) ?_
      refine z_icmp_ne (tgt := 64) dX6_build_59 (by decide) (fun c_59 => ?_) (fun c_59 => absurd c_59 (nI_neg1 (by have := placeF_lt okb hpf; omega)))
      skip
      refine z_iinc ((nI (i + 1))) [1, 2, 0] [(0, .ref b), (1, .int ((nI B))), (2, .int ((nI (i + 1))))] dX6_build_64 (j := 2) rfl (nI_1 i) (by decide) rfl ?_
      refine z_goto (tgt := 25) dX6_build_67 (by decide) ?_
      have hbd : bldF B H T (L.drop i) K V (s 11) = bldF B H T (L.drop (i + 1)) K1 V1 (s1 11) := by rw [drop_at hLi, hT1.2.2.1]; simp [bldF, hpf]
      refine ih (i + 1) K1 V1 s1 a1 (by omega) hT1.1 (hqu.same (hT1.2.2.2.1 5 (by decide) (by decide)) hT1.2.2.2.2.1 hT1.2.2.2.2.2) (by rw [hT1.2.1, h10]; exact nI_1 i) (fun K' V' c' s' a' e h1 h2 h3 h4 h5 => hqF K' V' c' s' a' (hbd.trans e) h1 h2 h3 (h4.trans (hT1.2.2.2.1 13 (by decide) (by decide))) (fun k x6 x10 x11 x13 => (h5 k x6 x10 x11 x13).trans (hT1.2.2.2.1 k x10 x11))) (fun K' V' c' s' a' e h1 h2 h9 h3 h4 h5 => hqT K' V' c' s' a' (hbd.trans e) h1 h2 h9 h3 (h4.trans (hT1.2.2.2.1 13 (by decide) (by decide))) (fun k x6 x10 x11 x13 => (h5 k x6 x10 x11 x13).trans (hT1.2.2.2.1 k x10 x11)))

set_option maxHeartbeats 4000000 in
set_option maxRecDepth 100000 in
theorem w_build_same {l : zL} {d kc ks n b B H T : Nat} {h : Nat → va_E} {L : List (Nat × Nat)} {Q : zQ} {K V : Nat → Nat} {s : Nat → Int32} {a : Nat → Nat → Int32} {B0 : Nat} (hb : b + 6 ≤ n) (okB1 : okB B) (hR : tK B0 H T K V s a) (hqu : qR s a L) (hne : B = B0) (hqF : ∀ K' V' c' s' a', bldF B H T L kz kz 0 = (false, K', V', c') → tR B H T K' V' s' a' → qR s' a' L → s' 11 = c' → s' 13 = s 13 → (∀ k, k ≠ 6 → k ≠ 10 → k ≠ 11 → k ≠ 13 → s' k = s k) → Q (.inl (some (.int 0))) n (tW h b s' a')) (hqT : ∀ K' V' c' s' a', bldF B H T L kz kz 0 = (true, K', V', c') → tR B H T K' V' s' a' → qR s' a' L → s' 10 = nI L.length → s' 11 = c' → s' 13 = s 13 → (∀ k, k ≠ 6 → k ≠ 10 → k ≠ 11 → k ≠ 13 → s' k = s k) → Q (.inl (some (.int 1))) n (tW h b s' a')) : Zj l mX6_build (d + 4) kc ks 0 [(0, .ref b), (1, .int ((nI B)))] [] n (tW h b s a) Q := by
  obtain ⟨okb, h2H, hH6, h1T, hT99, e6, e7, e8, ek, ev, eh, ekv, ez⟩ := id hR
  have hle := okb.le
  subst hne
  refine z_iload_n (j := 1) dX6_build_0 rfl ?_
  refine z_aload_n (j := 0) dX6_build_1 rfl ?_
  refine z_get (v := .int (s 6)) (by omega) tW_obj fX6_64 rfl dX6_build_2 ?_
  refine z_icmp_eq (tgt := 18) dX6_build_5 (by decide) (fun c_5 => ?_) (fun c_5 => absurd (by rw [e6]) c_5)
  refine z_aload_n (j := 0) dX6_build_18 rfl ?_
  refine z_iload_n (j := 1) dX6_build_19 rfl ?_
  refine z_cVx [.int (nI B)] none (fun g => ∃ s1 a1, g = tW h b s1 a1 ∧ tR B H T kz kz s1 a1 ∧ s1 10 = 0 ∧ s1 11 = 0 ∧ (∀ k, k ≠ 6 → k ≠ 10 → k ≠ 11 → s1 k = s k) ∧ a1 3 = a 3 ∧ a1 4 = a 4) yoX6_empty yvX6_empty rfl (by decide) lX6_54 (by omega) tW_obj rfl rfl (Nat.le_of_ble_eq_true rfl) (Nat.le_of_ble_eq_true rfl) dX6_build_20 (z_room (by omega) (Nat.le_refl _) (Nat.le_refl _) (w_empty (d := 0) hb okB1 h2H hH6 h1T hT99 (by simp [va_up, e7]) (by simp [va_up, e8]) (fun s' a' h1 h2 h3 h4 h5 h6 => ⟨rfl, rfl, s', a', rfl, h1, h2, h3, h4, h5, h6⟩))) (fun g hg => ?_)
  obtain ⟨s1, a1, rfl, hR1, h10, h11, hsk, ha3, ha4⟩ := hg
  refine z_iconst (v := 0) dX6_build_23 (by decide) ?_
  refine z_istore_n [1, 2, 0] [(0, .ref b), (1, .int ((nI B))), (2, .int 0)] dX6_build_24 (by decide) rfl ?_
  refine w_build_l hb L.length 0 kz kz s1 a1 (by omega) hR1 (hqu.same (by rw [hsk 5 (by decide) (by decide) (by decide)]) ha3 ha4) h10 (fun K' V' c' s' a' e h1 h2 h3 h4 h5 => ?_) (fun K' V' c' s' a' e h1 h2 h9 h3 h4 h5 => ?_)
  · rw [h11] at e
    exact hqF K' V' c' s' a' e h1 h2 h3 (by rw [h4, hsk 13 (by decide) (by decide) (by decide)]) (fun k x6 x10 x11 x13 => by rw [h5 k x6 x10 x11 x13, hsk k x6 x10 x11])
  · rw [h11] at e
    exact hqT K' V' c' s' a' e h1 h2 h9 h3 (by rw [h4, hsk 13 (by decide) (by decide) (by decide)]) (fun k x6 x10 x11 x13 => by rw [h5 k x6 x10 x11 x13, hsk k x6 x10 x11])

set_option maxHeartbeats 4000000 in
set_option maxRecDepth 100000 in
theorem w_build_new {l : zL} {d kc ks n b B H T : Nat} {h : Nat → va_E} {L : List (Nat × Nat)} {Q : zQ} {K V : Nat → Nat} {s : Nat → Int32} {a : Nat → Nat → Int32} {B0 : Nat} (hb : b + 6 ≤ n) (okB1 : okB B) (hR : tK B0 H T K V s a) (hqu : qR s a L) (hne : ¬ B = B0) (hqF : ∀ K' V' c' s' a', bldF B H T L kz kz 0 = (false, K', V', c') → tR B H T K' V' s' a' → qR s' a' L → s' 11 = c' → s' 13 = s 13 + 1 → (∀ k, k ≠ 6 → k ≠ 10 → k ≠ 11 → k ≠ 13 → s' k = s k) → Q (.inl (some (.int 0))) n (tW h b s' a')) (hqT : ∀ K' V' c' s' a', bldF B H T L kz kz 0 = (true, K', V', c') → tR B H T K' V' s' a' → qR s' a' L → s' 10 = nI L.length → s' 11 = c' → s' 13 = s 13 + 1 → (∀ k, k ≠ 6 → k ≠ 10 → k ≠ 11 → k ≠ 13 → s' k = s k) → Q (.inl (some (.int 1))) n (tW h b s' a')) : Zj l mX6_build (d + 4) kc ks 0 [(0, .ref b), (1, .int ((nI B)))] [] n (tW h b s a) Q := by
  obtain ⟨okb, h2H, hH6, h1T, hT99, e6, e7, e8, ek, ev, eh, ekv, ez⟩ := id hR
  have hle := okb.le
  refine z_iload_n (j := 1) dX6_build_0 rfl ?_
  refine z_aload_n (j := 0) dX6_build_1 rfl ?_
  refine z_get (v := .int (s 6)) (by omega) tW_obj fX6_64 rfl dX6_build_2 ?_
  refine z_icmp_eq (tgt := 18) dX6_build_5 (by decide) (fun c_5 => absurd c_5 (fun e => hne ((nI_eq (by have := okB1.le; omega) (by omega)).mp (by rw [← e6]; exact e)))) (fun c_5 => ?_)
  refine z_aload_n (j := 0) dX6_build_8 rfl ?_
  refine z_dup rfl dX6_build_9 ?_
  refine z_get (v := .int (s 13)) (by omega) tW_obj fX6_45 rfl dX6_build_10 ?_
  refine z_iconst (v := 1) dX6_build_13 (by decide) ?_
  refine z_iadd dX6_build_14 ?_
  refine t_put (k := 13) (by omega) fX6_45 (by decide) (by decide) (by decide) dX6_build_15 ?_
  refine z_aload_n (j := 0) dX6_build_18 rfl ?_
  refine z_iload_n (j := 1) dX6_build_19 rfl ?_
  refine z_cVx [.int (nI B)] none (fun g => ∃ s1 a1, g = tW h b s1 a1 ∧ tR B H T kz kz s1 a1 ∧ s1 10 = 0 ∧ s1 11 = 0 ∧ (∀ k, k ≠ 6 → k ≠ 10 → k ≠ 11 → s1 k = (va_up s 13 (s 13 + 1)) k) ∧ a1 3 = a 3 ∧ a1 4 = a 4) yoX6_empty yvX6_empty rfl (by decide) lX6_54 (by omega) tW_obj rfl rfl (Nat.le_of_ble_eq_true rfl) (Nat.le_of_ble_eq_true rfl) dX6_build_20 (z_room (by omega) (Nat.le_refl _) (Nat.le_refl _) (w_empty (d := 0) hb okB1 h2H hH6 h1T hT99 (by simp [va_up, e7]) (by simp [va_up, e8]) (fun s' a' h1 h2 h3 h4 h5 h6 => ⟨rfl, rfl, s', a', rfl, h1, h2, h3, h4, h5, h6⟩))) (fun g hg => ?_)
  obtain ⟨s1, a1, rfl, hR1, h10, h11, hsk, ha3, ha4⟩ := hg
  refine z_iconst (v := 0) dX6_build_23 (by decide) ?_
  refine z_istore_n [1, 2, 0] [(0, .ref b), (1, .int ((nI B))), (2, .int 0)] dX6_build_24 (by decide) rfl ?_
  refine w_build_l hb L.length 0 kz kz s1 a1 (by omega) hR1 (hqu.same (by rw [hsk 5 (by decide) (by decide) (by decide)]; simp [va_up]) ha3 ha4) h10 (fun K' V' c' s' a' e h1 h2 h3 h4 h5 => ?_) (fun K' V' c' s' a' e h1 h2 h9 h3 h4 h5 => ?_)
  · rw [h11] at e
    exact hqF K' V' c' s' a' e h1 h2 h3 (by rw [h4, hsk 13 (by decide) (by decide) (by decide)]; simp [va_up]) (fun k x6 x10 x11 x13 => by rw [h5 k x6 x10 x11 x13, hsk k x6 x10 x11]; simp [va_up, x13])
  · rw [h11] at e
    exact hqT K' V' c' s' a' e h1 h2 h9 h3 (by rw [h4, hsk 13 (by decide) (by decide) (by decide)]; simp [va_up]) (fun k x6 x10 x11 x13 => by rw [h5 k x6 x10 x11 x13, hsk k x6 x10 x11]; simp [va_up, x13])
