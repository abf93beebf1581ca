/-! THE REFERENCE'S READER: commands, third part -/

theorem oAdd_no {S : zS} {k v : Nat} (h : ¬ sWhy S k = 0) : oAdd S k v = none := by
  unfold oAdd
  cases hf : sFind S k with
  | some b => rfl
  | none =>
    simp only
    cases ha : sAdd S k v with
    | none => rfl
    | some q =>
      exfalso
      have h0 : sAdd S k 0 ≠ none := fun e => by
        have := (sAdd_v (S := S) (key := k) v 0).mpr e
        rw [ha] at this
        cases this
      cases h9 : sAdd S k 0 with
      | none => exact h0 h9
      | some q2 => exact h (sWhy_0 hf h9)

set_option maxHeartbeats 4000000 in
set_option maxRecDepth 100000 in
theorem m_reads0 {l : zL} {d kc ks n b : Nat} {h : Nat → va_E} {a : Nat → Nat → Int32} {L : Nat} {x : Nat → Nat} {p : Nat} {S : zS} {Q : zQ} {s : Nat → Int32} (hb : b + 14 ≤ n) (hL : L ≤ 600) (hu : ∀ i, i < L → a 10 i = nI (x i)) (hx : ∀ i, x i < 256) (hp : p ≤ L) (h15 : s 15 = nI L) (h16 : s 16 = 0) (hT : rT L x (tS L x p) s) (hM : mT S (a 0)) (hqY : ∀ p' S', smp L x 0 p S = .inr (p', S') → ∀ s' a', mT S' (a' 0) → s' 23 = nI p' → s' 16 = 0 → s' 25 = s 25 → rF s a s' a' → Q (.inl (some (.int 1))) n (mW h b s' a')) (hqN : ∀ k off, smp L x 0 p S = .inl (k, off) → k ≠ 0 → k < 10 → ∀ s' a', s' 16 = nI k → s' 17 = nI off → rF s a s' a' → Q (.inl (some (.int 0))) n (mW h b s' a')) : Zj l mX8_readsAdd (d + 9) kc ks 0 [(0, .ref b)] [] n (mW h b s a) Q := by
  refine z_aload_n (j := 0) dX8_readsAdd_0 rfl ?_
  refine z_kV [] 0 0 kc ks yoX8_readsEntry yvX8_readsEntry rfl (by decide) lX8_194 (by omega) mW_obj rfl rfl (Nat.le_of_ble_eq_true rfl) (Nat.le_of_ble_eq_true rfl) dX8_readsAdd_1 (by omega) (by omega) (z_room (by omega) (Nat.le_refl _) (Nat.le_refl _) (m_entry (d := 0) hb hL hu hx hp h15 h16 hT (fun k v p2 htw hk9 hv9 hp2 s1 a1 hT1 e0 e1 g0 hf1 hR1 => ⟨rfl, ?_⟩) (fun k off htw g1 g2 s1 a1 e16 e17 hR1 => ⟨rfl, ?_⟩)))
  · refine z_if_eq (tgt := 32) dX8_readsAdd_4 (by decide) (fun czq4 => absurd czq4 (by decide)) (fun czq4 => ?_)
    refine z_aload_n (j := 0) dX8_readsAdd_7 rfl ?_
    refine z_aload_n (j := 0) dX8_readsAdd_8 rfl ?_
    refine z_aload_n (j := 0) dX8_readsAdd_9 rfl ?_
    refine z_get (v := .ref (b + 13)) (by omega) mW_obj fX8_51 rfl dX8_readsAdd_10 ?_
    refine z_iconst (v := 0) dX8_readsAdd_13 (by decide) ?_
    refine m_aldN 12 3 0 (by decide) rfl rfl hb rfl (by decide) (by decide) dX8_readsAdd_14 ?_
    rw [show (a1 12 0) = (nI k) from e0]
    refine z_kV [.int ((nI k))] 0 0 kc ks yoX8_whyOut yvX8_whyOut rfl (by decide) lX8_197 (by omega) mW_obj rfl rfl (Nat.le_of_ble_eq_true rfl) (Nat.le_of_ble_eq_true rfl) dX8_readsAdd_15 (by omega) (by omega) (z_room (by omega) (Nat.le_refl _) (Nat.le_refl _) (m_why2 (d := 0) (S := S) hb (show mT S (a1 0) by rw [g0]; exact hM) hk9 (fun s2 a2 hwe hF2 => ⟨rfl, ?_⟩)))
    have hM2 : mT S (a2 0) := (show mT S (a1 0) by rw [g0]; exact hM).cp hwe
    have hu2 : ∀ i, i < L → a2 10 i = nI (x i) := fun i hi => by rw [hF2.2 10 (by decide) (by decide) (by decide) (by decide) (by decide) (by decide), hR1.2.1 10 (by decide)]; exact hu i hi
    have h16b : s2 16 = 0 := (hF2.1 16 (by decide)).trans ((hf1 16 (by decide) (by decide) (by decide) (by decide)).trans h16)
    have h15b : s2 15 = nI L := (hF2.1 15 (by decide)).trans ((hf1 15 (by decide) (by decide) (by decide) (by decide)).trans h15)
    have hT2 := hT1.fr hF2.1
    have h12 : a2 12 = a1 12 := hF2.2 12 (by decide) (by decide) (by decide) (by decide) (by decide) (by decide)
    refine z_if_ne (tgt := 25) dX8_readsAdd_18 (by decide) (fun czq18 => ?_) (fun czq18 => ?_)
    · refine z_iconst (v := 0) dX8_readsAdd_25 (by decide) ?_
      refine z_kV [.int 0] 0 0 kc ks yoX8_stops yvX8_stops rfl (by decide) lX8_200 (by omega) mW_obj rfl rfl (Nat.le_of_ble_eq_true rfl) (Nat.le_of_ble_eq_true rfl) dX8_readsAdd_26 (by omega) (by omega) (z_room (by omega) (Nat.le_refl _) (Nat.le_refl _) (m_stops (d := 0) (L := L) (x := x) hb hL hu2 hx (tS_le (x := x) hp2).2 h15b h16b hT2 (fun hk5 hs9 => ⟨rfl, ?_⟩) (fun k9 hkk s3 he => ⟨rfl, ?_⟩)))
      · exact absurd rfl hs9
      · refine z_if_ne (tgt := 34) dX8_readsAdd_29 (by decide) (fun czq29 => absurd czq29 (fun z => z rfl)) (fun czq29 => ?_)
        refine z_iconst (v := 0) dX8_readsAdd_32 (by decide) ?_
        exact z_zret rfl rfl dX8_readsAdd_33 (by
            rcases hkk with ⟨hk5, rfl⟩ | ⟨hk5, hs9, rfl⟩
            · exact hqN 1 _ (by
              rw [smp_two 0 (by decide), htw]
              show fin L x p2 (oAdd S k v) = _
              exact fin_1 hk5) (by decide) (by decide) _ _ he.1 he.2.1 ((hR1.tr hF2.F).tr he.F)
            · exact hqN 3 _ (by
              rw [smp_two 0 (by decide), htw]
              show fin L x p2 (oAdd S k v) = _
              rw [show oAdd S k v = none from oAdd_no czq18]; exact fin_3 hk5) (by decide) (by decide) _ _ he.1 he.2.1 ((hR1.tr hF2.F).tr he.F))
    · refine z_iconst (v := 1) dX8_readsAdd_21 (by decide) ?_
      refine z_goto (tgt := 26) dX8_readsAdd_22 (by decide) ?_
      refine z_kV [.int 1] 0 0 kc ks yoX8_stops yvX8_stops rfl (by decide) lX8_200 (by omega) mW_obj rfl rfl (Nat.le_of_ble_eq_true rfl) (Nat.le_of_ble_eq_true rfl) dX8_readsAdd_26 (by omega) (by omega) (z_room (by omega) (Nat.le_refl _) (Nat.le_refl _) (m_stops (d := 0) (L := L) (x := x) hb hL hu2 hx (tS_le (x := x) hp2).2 h15b h16b hT2 (fun hk5 hs9 => ⟨rfl, ?_⟩) (fun k9 hkk s3 he => ⟨rfl, ?_⟩)))
      · refine z_if_ne (tgt := 34) dX8_readsAdd_29 (by decide) (fun czq29 => ?_) (fun czq29 => absurd czq29 (by decide))
        refine z_aload_n (j := 0) dX8_readsAdd_34 rfl ?_
        refine z_aload_n (j := 0) dX8_readsAdd_35 rfl ?_
        refine z_get (v := .ref (b + 13)) (by omega) mW_obj fX8_51 rfl dX8_readsAdd_36 ?_
        refine z_iconst (v := 0) dX8_readsAdd_39 (by decide) ?_
        refine m_aldN 12 3 0 (by decide) rfl rfl hb rfl (by decide) (by decide) dX8_readsAdd_40 ?_
        rw [show (a2 12 0) = (nI k) from by rw [h12]; exact e0]
        refine z_aload_n (j := 0) dX8_readsAdd_41 rfl ?_
        refine z_get (v := .ref (b + 13)) (by omega) mW_obj fX8_51 rfl dX8_readsAdd_42 ?_
        refine z_iconst (v := 1) dX8_readsAdd_45 (by decide) ?_
        refine m_aldN 12 3 1 (by decide) rfl rfl hb rfl (by decide) (by decide) dX8_readsAdd_46 ?_
        rw [show (a2 12 1) = (nI v) from by rw [h12]; exact e1]
        refine z_kV [.int ((nI k)), .int ((nI v))] 0 0 kc ks yoX8_adds yvX8_adds rfl (by decide) lX8_132 (by omega) mW_obj rfl rfl (Nat.le_of_ble_eq_true rfl) (Nat.le_of_ble_eq_true rfl) dX8_readsAdd_47 (by omega) (by omega) (z_room (by omega) (Nat.le_refl _) (Nat.le_refl _) (m_adds (d := 0) (S := S) hb hM2 hk9 hv9 (sWhy_z czq18).1 (fun s4 a4 ea hM4 hF4 => ⟨rfl, ?_⟩) (fun bk S' s4 a4 ea hM4 hF4 => ⟨rfl, ?_⟩)))
        · obtain ⟨-, q1, q2, hq9⟩ := sWhy_z czq18
          exact absurd ((sAdd_v v 0).mp ea) (by rw [hq9]; exact fun z => by cases z)
        · refine z_pop rfl dX8_readsAdd_50 ?_
          refine z_iconst (v := 1) dX8_readsAdd_51 (by decide) ?_
          exact z_zret rfl rfl dX8_readsAdd_52 (by
              exact hqY _ S' (by
                rw [smp_two 0 (by decide), htw]
                show fin L x p2 (oAdd S k v) = _
                rw [show oAdd S k v = some S' from by unfold oAdd; simp only [(sWhy_z czq18).1, ea] <;> rfl]; exact fin_y hk5) _ _ hM4 ((hF4.1 23 (by decide)).trans hT2.2.1) ((hF4.1 16 (by decide)).trans h16b) ((hF4.1 25 (by decide)).trans ((hF2.1 25 (by decide)).trans (hf1 25 (by decide) (by decide) (by decide) (by decide)))) ((hR1.tr hF2.F).tr hF4.f0.F))
      · refine z_if_ne (tgt := 34) dX8_readsAdd_29 (by decide) (fun czq29 => absurd czq29 (fun z => z rfl)) (fun czq29 => ?_)
        refine z_iconst (v := 0) dX8_readsAdd_32 (by decide) ?_
        exact z_zret rfl rfl dX8_readsAdd_33 (by
            rcases hkk with ⟨hk5, rfl⟩ | ⟨hk5, hs9, rfl⟩
            · exact hqN 1 _ (by
              rw [smp_two 0 (by decide), htw]
              show fin L x p2 (oAdd S k v) = _
              exact fin_1 hk5) (by decide) (by decide) _ _ he.1 he.2.1 ((hR1.tr hF2.F).tr he.F)
            · exact absurd hs9 (by decide))
  · refine z_if_eq (tgt := 32) dX8_readsAdd_4 (by decide) (fun czq4 => ?_) (fun czq4 => absurd rfl czq4)
    refine z_iconst (v := 0) dX8_readsAdd_32 (by decide) ?_
    exact z_zret rfl rfl dX8_readsAdd_33 (hqN k off (by rw [smp_two 0 (by decide), htw]) g1 g2 _ _ e16 e17 hR1)

set_option maxHeartbeats 4000000 in
set_option maxRecDepth 100000 in
theorem m_reads1 {l : zL} {d kc ks n b : Nat} {h : Nat → va_E} {a : Nat → Nat → Int32} {L : Nat} {x : Nat → Nat} {p : Nat} {S : zS} {Q : zQ} {s : Nat → Int32} (hb : b + 14 ≤ n) (hL : L ≤ 600) (hu : ∀ i, i < L → a 10 i = nI (x i)) (hx : ∀ i, x i < 256) (hp : p ≤ L) (h15 : s 15 = nI L) (h16 : s 16 = 0) (hT : rT L x (tS L x p) s) (hM : mT S (a 0)) (hqY : ∀ p' S', smp L x 1 p S = .inr (p', S') → ∀ s' a', mT S' (a' 0) → s' 23 = nI p' → s' 16 = 0 → s' 25 = s 25 → rF s a s' a' → Q (.inl (some (.int 1))) n (mW h b s' a')) (hqN : ∀ k off, smp L x 1 p S = .inl (k, off) → k ≠ 0 → k < 10 → ∀ s' a', s' 16 = nI k → s' 17 = nI off → rF s a s' a' → Q (.inl (some (.int 0))) n (mW h b s' a')) : Zj l mX8_readsPut (d + 9) kc ks 0 [(0, .ref b)] [] n (mW h b s a) Q := by
  refine z_aload_n (j := 0) dX8_readsPut_0 rfl ?_
  refine z_kV [] 0 0 kc ks yoX8_readsEntry yvX8_readsEntry rfl (by decide) lX8_194 (by omega) mW_obj rfl rfl (Nat.le_of_ble_eq_true rfl) (Nat.le_of_ble_eq_true rfl) dX8_readsPut_1 (by omega) (by omega) (z_room (by omega) (Nat.le_refl _) (Nat.le_refl _) (m_entry (d := 0) hb hL hu hx hp h15 h16 hT (fun k v p2 htw hk9 hv9 hp2 s1 a1 hT1 e0 e1 g0 hf1 hR1 => ⟨rfl, ?_⟩) (fun k off htw g1 g2 s1 a1 e16 e17 hR1 => ⟨rfl, ?_⟩)))
  · refine z_if_eq (tgt := 33) dX8_readsPut_4 (by decide) (fun czq4 => absurd czq4 (by decide)) (fun czq4 => ?_)
    refine z_aload_n (j := 0) dX8_readsPut_7 rfl ?_
    refine z_aload_n (j := 0) dX8_readsPut_8 rfl ?_
    refine z_aload_n (j := 0) dX8_readsPut_9 rfl ?_
    refine z_get (v := .ref (b + 13)) (by omega) mW_obj fX8_51 rfl dX8_readsPut_10 ?_
    refine z_iconst (v := 0) dX8_readsPut_13 (by decide) ?_
    refine m_aldN 12 3 0 (by decide) rfl rfl hb rfl (by decide) (by decide) dX8_readsPut_14 ?_
    rw [show (a1 12 0) = (nI k) from e0]
    refine z_kV [.int ((nI k))] 0 0 kc ks yoX8_whyOut yvX8_whyOut rfl (by decide) lX8_197 (by omega) mW_obj rfl rfl (Nat.le_of_ble_eq_true rfl) (Nat.le_of_ble_eq_true rfl) dX8_readsPut_15 (by omega) (by omega) (z_room (by omega) (Nat.le_refl _) (Nat.le_refl _) (m_why2 (d := 0) (S := S) hb (show mT S (a1 0) by rw [g0]; exact hM) hk9 (fun s2 a2 hwe hF2 => ⟨rfl, ?_⟩)))
    have hM2 : mT S (a2 0) := (show mT S (a1 0) by rw [g0]; exact hM).cp hwe
    have hu2 : ∀ i, i < L → a2 10 i = nI (x i) := fun i hi => by rw [hF2.2 10 (by decide) (by decide) (by decide) (by decide) (by decide) (by decide), hR1.2.1 10 (by decide)]; exact hu i hi
    have h16b : s2 16 = 0 := (hF2.1 16 (by decide)).trans ((hf1 16 (by decide) (by decide) (by decide) (by decide)).trans h16)
    have h15b : s2 15 = nI L := (hF2.1 15 (by decide)).trans ((hf1 15 (by decide) (by decide) (by decide) (by decide)).trans h15)
    have hT2 := hT1.fr hF2.1
    have h12 : a2 12 = a1 12 := hF2.2 12 (by decide) (by decide) (by decide) (by decide) (by decide) (by decide)
    refine z_iconst (v := 2) dX8_readsPut_18 (by decide) ?_
    refine z_icmp_eq (tgt := 26) dX8_readsPut_19 (by decide) (fun czq19 => ?_) (fun czq19 => ?_)
    · refine z_iconst (v := 0) dX8_readsPut_26 (by decide) ?_
      refine z_kV [.int 0] 0 0 kc ks yoX8_stops yvX8_stops rfl (by decide) lX8_200 (by omega) mW_obj rfl rfl (Nat.le_of_ble_eq_true rfl) (Nat.le_of_ble_eq_true rfl) dX8_readsPut_27 (by omega) (by omega) (z_room (by omega) (Nat.le_refl _) (Nat.le_refl _) (m_stops (d := 0) (L := L) (x := x) hb hL hu2 hx (tS_le (x := x) hp2).2 h15b h16b hT2 (fun hk5 hs9 => ⟨rfl, ?_⟩) (fun k9 hkk s3 he => ⟨rfl, ?_⟩)))
      · exact absurd rfl hs9
      · refine z_if_ne (tgt := 35) dX8_readsPut_30 (by decide) (fun czq30 => absurd czq30 (fun z => z rfl)) (fun czq30 => ?_)
        refine z_iconst (v := 0) dX8_readsPut_33 (by decide) ?_
        exact z_zret rfl rfl dX8_readsPut_34 (by
            rcases hkk with ⟨hk5, rfl⟩ | ⟨hk5, hs9, rfl⟩
            · exact hqN 1 _ (by
              rw [smp_two 1 (by decide), htw]
              show fin L x p2 ((sPut S k v).map (·.2)) = _
              exact fin_1 hk5) (by decide) (by decide) _ _ he.1 he.2.1 ((hR1.tr hF2.F).tr he.F)
            · exact hqN 3 _ (by
              rw [smp_two 1 (by decide), htw]
              show fin L x p2 ((sPut S k v).map (·.2)) = _
              rw [show (sPut S k v).map (·.2) = none from by rw [put_no czq19]; rfl]; exact fin_3 hk5) (by decide) (by decide) _ _ he.1 he.2.1 ((hR1.tr hF2.F).tr he.F))
    · refine z_iconst (v := 1) dX8_readsPut_22 (by decide) ?_
      refine z_goto (tgt := 27) dX8_readsPut_23 (by decide) ?_
      refine z_kV [.int 1] 0 0 kc ks yoX8_stops yvX8_stops rfl (by decide) lX8_200 (by omega) mW_obj rfl rfl (Nat.le_of_ble_eq_true rfl) (Nat.le_of_ble_eq_true rfl) dX8_readsPut_27 (by omega) (by omega) (z_room (by omega) (Nat.le_refl _) (Nat.le_refl _) (m_stops (d := 0) (L := L) (x := x) hb hL hu2 hx (tS_le (x := x) hp2).2 h15b h16b hT2 (fun hk5 hs9 => ⟨rfl, ?_⟩) (fun k9 hkk s3 he => ⟨rfl, ?_⟩)))
      · refine z_if_ne (tgt := 35) dX8_readsPut_30 (by decide) (fun czq30 => ?_) (fun czq30 => absurd czq30 (by decide))
        refine z_aload_n (j := 0) dX8_readsPut_35 rfl ?_
        refine z_aload_n (j := 0) dX8_readsPut_36 rfl ?_
        refine z_get (v := .ref (b + 13)) (by omega) mW_obj fX8_51 rfl dX8_readsPut_37 ?_
        refine z_iconst (v := 0) dX8_readsPut_40 (by decide) ?_
        refine m_aldN 12 3 0 (by decide) rfl rfl hb rfl (by decide) (by decide) dX8_readsPut_41 ?_
        rw [show (a2 12 0) = (nI k) from by rw [h12]; exact e0]
        refine z_aload_n (j := 0) dX8_readsPut_42 rfl ?_
        refine z_get (v := .ref (b + 13)) (by omega) mW_obj fX8_51 rfl dX8_readsPut_43 ?_
        refine z_iconst (v := 1) dX8_readsPut_46 (by decide) ?_
        refine m_aldN 12 3 1 (by decide) rfl rfl hb rfl (by decide) (by decide) dX8_readsPut_47 ?_
        rw [show (a2 12 1) = (nI v) from by rw [h12]; exact e1]
        refine z_kV [.int ((nI k)), .int ((nI v))] 0 0 kc ks yoX8_puts yvX8_puts rfl (by decide) lX8_204 (by omega) mW_obj rfl rfl (Nat.le_of_ble_eq_true rfl) (Nat.le_of_ble_eq_true rfl) dX8_readsPut_48 (by omega) (by omega) (z_room (by omega) (Nat.le_refl _) (Nat.le_refl _) (m_puts (d := 0) (S := S) hb hM2 hk9 hv9 (fun s4 a4 ea hM4 hF4 => ⟨rfl, ?_⟩) (fun z S' s4 a4 ea hM4 hF4 => ⟨rfl, ?_⟩)))
        · exact absurd ea (put_yes czq19)
        · refine z_pop rfl dX8_readsPut_51 ?_
          refine z_iconst (v := 1) dX8_readsPut_52 (by decide) ?_
          exact z_zret rfl rfl dX8_readsPut_53 (by
              exact hqY _ S' (by
                rw [smp_two 1 (by decide), htw]
                show fin L x p2 ((sPut S k v).map (·.2)) = _
                rw [show (sPut S k v).map (·.2) = some S' from by rw [ea]; rfl]; exact fin_y hk5) _ _ hM4 ((hF4.1 23 (by decide)).trans hT2.2.1) ((hF4.1 16 (by decide)).trans h16b) ((hF4.1 25 (by decide)).trans ((hF2.1 25 (by decide)).trans (hf1 25 (by decide) (by decide) (by decide) (by decide)))) ((hR1.tr hF2.F).tr hF4.f0.F))
      · refine z_if_ne (tgt := 35) dX8_readsPut_30 (by decide) (fun czq30 => absurd czq30 (fun z => z rfl)) (fun czq30 => ?_)
        refine z_iconst (v := 0) dX8_readsPut_33 (by decide) ?_
        exact z_zret rfl rfl dX8_readsPut_34 (by
            rcases hkk with ⟨hk5, rfl⟩ | ⟨hk5, hs9, rfl⟩
            · exact hqN 1 _ (by
              rw [smp_two 1 (by decide), htw]
              show fin L x p2 ((sPut S k v).map (·.2)) = _
              exact fin_1 hk5) (by decide) (by decide) _ _ he.1 he.2.1 ((hR1.tr hF2.F).tr he.F)
            · exact absurd hs9 (by decide))
  · refine z_if_eq (tgt := 33) dX8_readsPut_4 (by decide) (fun czq4 => ?_) (fun czq4 => absurd rfl czq4)
    refine z_iconst (v := 0) dX8_readsPut_33 (by decide) ?_
    exact z_zret rfl rfl dX8_readsPut_34 (hqN k off (by rw [smp_two 1 (by decide), htw]) g1 g2 _ _ e16 e17 hR1)
