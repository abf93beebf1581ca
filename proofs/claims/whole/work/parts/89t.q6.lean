/-! THE REFERENCE'S READER: commands, second part -/
theorem oKey_in (v : Nat) : oKey v = oIn 0 9999 v := by simp [oKey, oIn]
theorem oVal_in (v : Nat) : oVal v = oIn 0 999 v := by simp [oVal, oIn]

set_option maxHeartbeats 4000000 in
set_option maxRecDepth 100000 in
theorem m_reads6 {l : zL} {d kc ks n b : Nat} {h : Nat → va_E} {a : Nat → Nat → Int32} {L : Nat} {x : Nat → Nat} {p : Nat} {S : zS} {Q : zQ} {s : Nat → Int32} (hb : b + 14 ≤ n) (hL : L ≤ 600) (hu : ∀ i, i < L → a 10 i = nI (x i)) (hx : ∀ i, x i < 256) (hp : p ≤ L) (h15 : s 15 = nI L) (h16 : s 16 = 0) (hT : rT L x (tS L x p) s) (hM : mT S (a 0)) (hqY : ∀ p' S', smp L x 6 p S = .inr (p', S') → ∀ s' a', mT S' (a' 0) → s' 23 = nI p' → s' 16 = 0 → s' 25 = s 25 → rF s a s' a' → Q (.inl (some (.int 1))) n (mW h b s' a')) (hqN : ∀ k off, smp L x 6 p S = .inl (k, off) → k ≠ 0 → k < 10 → ∀ s' a', s' 16 = nI k → s' 17 = nI off → rF s a s' a' → Q (.inl (some (.int 0))) n (mW h b s' a')) : Zj l mX8_readsPulling (d + 9) kc ks 0 [(0, .ref b), (1, .int 1)] [] n (mW h b s a) Q := by
  obtain ⟨B, H, T, K, V, c⟩ := S
  refine z_aload_n (j := 0) dX8_readsPulling_0 rfl ?_
  refine z_iconst (v := 1) dX8_readsPulling_1 (by decide) ?_
  refine z_kV [.int 1] 0 0 kc ks yoX8_stops yvX8_stops rfl (by decide) lX8_200 (by omega) mW_obj rfl rfl (Nat.le_of_ble_eq_true rfl) (Nat.le_of_ble_eq_true rfl) dX8_readsPulling_2 (by omega) (by omega) (z_room (by omega) (Nat.le_refl _) (Nat.le_refl _) (m_stops (d := 0) (L := L) (x := x) hb hL hu hx (tS_le (x := x) hp).2 h15 h16 hT (fun hk5 hv => ⟨rfl, ?_⟩) (fun k hkk s3 he => ⟨rfl, ?_⟩)))
  · refine z_if_ne (tgt := 10) dX8_readsPulling_5 (by decide) (fun czq5 => ?_) (fun czq5 => absurd czq5 (by decide))
    refine z_aload_n (j := 0) dX8_readsPulling_10 rfl ?_
    refine z_get (v := .ref (b + 1)) (by omega) mW_obj fX8_7 rfl dX8_readsPulling_11 ?_
    refine z_iconst (v := 3) dX8_readsPulling_14 (by decide) ?_
    refine z_iload_n (j := 1) dX8_readsPulling_15 rfl ?_
    refine m_astN 0 137 3 (by decide) rfl rfl hb rfl (by decide) (by decide) dX8_readsPulling_16 ?_
    refine z_iconst (v := 1) dX8_readsPulling_17 (by decide) ?_
    exact z_zret rfl rfl dX8_readsPulling_18 (by
        exact hqY _ _ (fin_y hk5) _ _ (by
          rw [up_eq]
          exact hM.pull (fun j => by
            by_cases h3 : j = 3
            · subst h3; rw [up_eq, if_pos rfl]
            · rw [up_ne h3, if_neg h3]) (Or.inr rfl)) hT.2.1 h16 rfl ⟨fun _ _ _ _ _ _ _ _ _ => rfl, fun q hq9 => up_ne (by omega), fun z => ⟨rfl, z⟩⟩)
  · refine z_if_ne (tgt := 10) dX8_readsPulling_5 (by decide) (fun czq5 => absurd czq5 (fun z => z rfl)) (fun czq5 => ?_)
    refine z_iconst (v := 0) dX8_readsPulling_8 (by decide) ?_
    exact z_zret rfl rfl dX8_readsPulling_9 (by
        rcases hkk with ⟨hk5, rfl⟩ | ⟨hk5, hv, rfl⟩
        · exact hqN 1 _ (by show fin L x p (some (sPull (B, H, T, K, V, c) 1)) = _; exact fin_1 hk5) (by decide) (by decide) _ _ he.1 he.2.1 he.F
        · exact absurd hv (by decide))

set_option maxHeartbeats 4000000 in
set_option maxRecDepth 100000 in
theorem m_reads7 {l : zL} {d kc ks n b : Nat} {h : Nat → va_E} {a : Nat → Nat → Int32} {L : Nat} {x : Nat → Nat} {p : Nat} {S : zS} {Q : zQ} {s : Nat → Int32} (hb : b + 14 ≤ n) (hL : L ≤ 600) (hu : ∀ i, i < L → a 10 i = nI (x i)) (hx : ∀ i, x i < 256) (hp : p ≤ L) (h15 : s 15 = nI L) (h16 : s 16 = 0) (hT : rT L x (tS L x p) s) (hM : mT S (a 0)) (hqY : ∀ p' S', smp L x 7 p S = .inr (p', S') → ∀ s' a', mT S' (a' 0) → s' 23 = nI p' → s' 16 = 0 → s' 25 = s 25 → rF s a s' a' → Q (.inl (some (.int 1))) n (mW h b s' a')) (hqN : ∀ k off, smp L x 7 p S = .inl (k, off) → k ≠ 0 → k < 10 → ∀ s' a', s' 16 = nI k → s' 17 = nI off → rF s a s' a' → Q (.inl (some (.int 0))) n (mW h b s' a')) : Zj l mX8_readsPulling (d + 9) kc ks 0 [(0, .ref b), (1, .int 0)] [] n (mW h b s a) Q := by
  obtain ⟨B, H, T, K, V, c⟩ := S
  refine z_aload_n (j := 0) dX8_readsPulling_0 rfl ?_
  refine z_iconst (v := 1) dX8_readsPulling_1 (by decide) ?_
  refine z_kV [.int 1] 0 0 kc ks yoX8_stops yvX8_stops rfl (by decide) lX8_200 (by omega) mW_obj rfl rfl (Nat.le_of_ble_eq_true rfl) (Nat.le_of_ble_eq_true rfl) dX8_readsPulling_2 (by omega) (by omega) (z_room (by omega) (Nat.le_refl _) (Nat.le_refl _) (m_stops (d := 0) (L := L) (x := x) hb hL hu hx (tS_le (x := x) hp).2 h15 h16 hT (fun hk5 hv => ⟨rfl, ?_⟩) (fun k hkk s3 he => ⟨rfl, ?_⟩)))
  · refine z_if_ne (tgt := 10) dX8_readsPulling_5 (by decide) (fun czq5 => ?_) (fun czq5 => absurd czq5 (by decide))
    refine z_aload_n (j := 0) dX8_readsPulling_10 rfl ?_
    refine z_get (v := .ref (b + 1)) (by omega) mW_obj fX8_7 rfl dX8_readsPulling_11 ?_
    refine z_iconst (v := 3) dX8_readsPulling_14 (by decide) ?_
    refine z_iload_n (j := 1) dX8_readsPulling_15 rfl ?_
    refine m_astN 0 137 3 (by decide) rfl rfl hb rfl (by decide) (by decide) dX8_readsPulling_16 ?_
    refine z_iconst (v := 1) dX8_readsPulling_17 (by decide) ?_
    exact z_zret rfl rfl dX8_readsPulling_18 (by
        exact hqY _ _ (fin_y hk5) _ _ (by
          rw [up_eq]
          exact hM.pull (fun j => by
            by_cases h3 : j = 3
            · subst h3; rw [up_eq, if_pos rfl]
            · rw [up_ne h3, if_neg h3]) (Or.inl rfl)) hT.2.1 h16 rfl ⟨fun _ _ _ _ _ _ _ _ _ => rfl, fun q hq9 => up_ne (by omega), fun z => ⟨rfl, z⟩⟩)
  · refine z_if_ne (tgt := 10) dX8_readsPulling_5 (by decide) (fun czq5 => absurd czq5 (fun z => z rfl)) (fun czq5 => ?_)
    refine z_iconst (v := 0) dX8_readsPulling_8 (by decide) ?_
    exact z_zret rfl rfl dX8_readsPulling_9 (by
        rcases hkk with ⟨hk5, rfl⟩ | ⟨hk5, hv, rfl⟩
        · exact hqN 1 _ (by show fin L x p (some (sPull (B, H, T, K, V, c) 0)) = _; exact fin_1 hk5) (by decide) (by decide) _ _ he.1 he.2.1 he.F
        · exact absurd hv (by decide))

set_option maxHeartbeats 4000000 in
set_option maxRecDepth 100000 in
theorem m_reads9 {l : zL} {d kc ks n b : Nat} {h : Nat → va_E} {a : Nat → Nat → Int32} {L : Nat} {x : Nat → Nat} {p : Nat} {S : zS} {Q : zQ} {s : Nat → Int32} (hb : b + 14 ≤ n) (hL : L ≤ 600) (hu : ∀ i, i < L → a 10 i = nI (x i)) (hx : ∀ i, x i < 256) (hp : p ≤ L) (h15 : s 15 = nI L) (h16 : s 16 = 0) (hT : rT L x (tS L x p) s) (hM : mT S (a 0)) (hqY : ∀ p' S', smp L x 9 p S = .inr (p', S') → ∀ s' a', mT S' (a' 0) → s' 23 = nI p' → s' 16 = 0 → s' 25 = s 25 → rF s a s' a' → Q (.inl (some (.int 1))) n (mW h b s' a')) (hqN : ∀ k off, smp L x 9 p S = .inl (k, off) → k ≠ 0 → k < 10 → ∀ s' a', s' 16 = nI k → s' 17 = nI off → rF s a s' a' → Q (.inl (some (.int 0))) n (mW h b s' a')) : Zj l mX8_readsClear (d + 9) kc ks 0 [(0, .ref b)] [] n (mW h b s a) Q := by
  obtain ⟨B, H, T, K, V, c⟩ := S
  refine z_aload_n (j := 0) dX8_readsClear_0 rfl ?_
  refine z_iconst (v := 1) dX8_readsClear_1 (by decide) ?_
  refine z_kV [.int 1] 0 0 kc ks yoX8_stops yvX8_stops rfl (by decide) lX8_200 (by omega) mW_obj rfl rfl (Nat.le_of_ble_eq_true rfl) (Nat.le_of_ble_eq_true rfl) dX8_readsClear_2 (by omega) (by omega) (z_room (by omega) (Nat.le_refl _) (Nat.le_refl _) (m_stops (d := 0) (L := L) (x := x) hb hL hu hx (tS_le (x := x) hp).2 h15 h16 hT (fun hk5 hv => ⟨rfl, ?_⟩) (fun k hkk s3 he => ⟨rfl, ?_⟩)))
  · refine z_if_ne (tgt := 10) dX8_readsClear_5 (by decide) (fun czq5 => ?_) (fun czq5 => absurd czq5 (by decide))
    refine z_aload_n (j := 0) dX8_readsClear_10 rfl ?_
    refine z_kV [] 0 0 kc ks yoX8_clears yvX8_clears rfl (by decide) lX8_227 (by omega) mW_obj rfl rfl (Nat.le_of_ble_eq_true rfl) (Nat.le_of_ble_eq_true rfl) dX8_readsClear_11 (by omega) (by omega) (z_room (by omega) (Nat.le_refl _) (Nat.le_refl _) (m_clears (d := 0) (S := (B, H, T, K, V, c)) hb hM (fun a2 hM2 hr2 => ⟨rfl, ?_⟩)))
    refine z_pop rfl dX8_readsClear_14 ?_
    refine z_iconst (v := 1) dX8_readsClear_15 (by decide) ?_
    exact z_zret rfl rfl dX8_readsClear_16 (by
        exact hqY _ _ (fin_y hk5) _ _ hM2 hT.2.1 h16 rfl ⟨fun _ _ _ _ _ _ _ _ _ => rfl, fun q hq9 => hr2 q (by omega), fun z => ⟨rfl, z⟩⟩)
  · refine z_if_ne (tgt := 10) dX8_readsClear_5 (by decide) (fun czq5 => absurd czq5 (fun z => z rfl)) (fun czq5 => ?_)
    refine z_iconst (v := 0) dX8_readsClear_8 (by decide) ?_
    exact z_zret rfl rfl dX8_readsClear_9 (by
        rcases hkk with ⟨hk5, rfl⟩ | ⟨hk5, hv, rfl⟩
        · exact hqN 1 _ (by show fin L x p (some (sClear (B, H, T, K, V, c))) = _; exact fin_1 hk5) (by decide) (by decide) _ _ he.1 he.2.1 he.F
        · exact absurd hv (by decide))

set_option maxHeartbeats 4000000 in
set_option maxRecDepth 100000 in
theorem m_reads8 {l : zL} {d kc ks n b : Nat} {h : Nat → va_E} {a : Nat → Nat → Int32} {L : Nat} {x : Nat → Nat} {p : Nat} {S : zS} {Q : zQ} {s : Nat → Int32} (hb : b + 14 ≤ n) (hL : L ≤ 600) (hu : ∀ i, i < L → a 10 i = nI (x i)) (hx : ∀ i, x i < 256) (hp : p ≤ L) (h15 : s 15 = nI L) (h16 : s 16 = 0) (hT : rT L x (tS L x p) s) (hM : mT S (a 0)) (hqY : ∀ p' S', smp L x 8 p S = .inr (p', S') → ∀ s' a', mT S' (a' 0) → s' 23 = nI p' → s' 16 = 0 → s' 25 = s 25 → rF s a s' a' → Q (.inl (some (.int 1))) n (mW h b s' a')) (hqN : ∀ k off, smp L x 8 p S = .inl (k, off) → k ≠ 0 → k < 10 → ∀ s' a', s' 16 = nI k → s' 17 = nI off → rF s a s' a' → Q (.inl (some (.int 0))) n (mW h b s' a')) : Zj l mX8_readsGrow (d + 9) kc ks 0 [(0, .ref b)] [] n (mW h b s a) Q := by
  refine z_aload_n (j := 0) dX8_readsGrow_0 rfl ?_
  refine z_aload_n (j := 0) dX8_readsGrow_1 rfl ?_
  refine z_kV [] 0 0 kc ks yoX8_canGrow yvX8_canGrow rfl (by decide) lX8_221 (by omega) mW_obj rfl rfl (Nat.le_of_ble_eq_true rfl) (Nat.le_of_ble_eq_true rfl) dX8_readsGrow_2 (by omega) (by omega) (z_room (by omega) (Nat.le_refl _) (Nat.le_refl _) (m_canGrow2 (d := 0) (S := S) hb hM (fun s2 a2 hwe hF2 => ⟨rfl, ?_⟩)))
  have hM2 : mT S (a2 0) := hM.cp hwe
  have hu2 : ∀ i, i < L → a2 10 i = nI (x i) := fun i hi => by rw [hF2.2 10 (by decide) (by decide) (by decide) (by decide) (by decide) (by decide)]; exact hu i hi
  have h16b : s2 16 = 0 := (hF2.1 16 (by decide)).trans h16
  have h15b : s2 15 = nI L := (hF2.1 15 (by decide)).trans h15
  have hT2 := hT.fr hF2.1
  refine z_kV [.int ((oI (sGrow S)))] 0 0 kc ks yoX8_stops yvX8_stops rfl (by decide) lX8_200 (by omega) mW_obj rfl rfl (Nat.le_of_ble_eq_true rfl) (Nat.le_of_ble_eq_true rfl) dX8_readsGrow_5 (by omega) (by omega) (z_room (by omega) (Nat.le_refl _) (Nat.le_refl _) (m_stops (d := 0) (L := L) (x := x) hb hL hu2 hx (tS_le (x := x) hp).2 h15b h16b hT2 (fun hk5 hv => ⟨rfl, ?_⟩) (fun k hkk s3 he => ⟨rfl, ?_⟩)))
  · refine z_if_ne (tgt := 13) dX8_readsGrow_8 (by decide) (fun czq8 => ?_) (fun czq8 => absurd czq8 (by decide))
    refine z_aload_n (j := 0) dX8_readsGrow_13 rfl ?_
    refine z_kV [] 0 0 kc ks yoX8_grows yvX8_grows rfl (by decide) lX8_224 (by omega) mW_obj rfl rfl (Nat.le_of_ble_eq_true rfl) (Nat.le_of_ble_eq_true rfl) dX8_readsGrow_14 (by omega) (by omega) (z_room (by omega) (Nat.le_refl _) (Nat.le_refl _) (m_grows (d := 0) (S := S) hb hM2 (fun r s4 a4 ea hF4 => ⟨rfl, ?_⟩) (fun S' s4 a4 ea hM4 hF4 => ⟨rfl, ?_⟩)))
    · exact absurd (oI_0.mpr ea) hv
    · refine z_pop rfl dX8_readsGrow_17 ?_
      refine z_iconst (v := 1) dX8_readsGrow_18 (by decide) ?_
      exact z_zret rfl rfl dX8_readsGrow_19 (by
          exact hqY _ S' (by show fin L x p (sGrow S) = _; rw [ea]; exact fin_y hk5) _ _ hM4 ((hF4.1 23 (by decide)).trans hT2.2.1) ((hF4.1 16 (by decide)).trans h16b) ((hF4.1 25 (by decide)).trans (hF2.1 25 (by decide))) (hF2.F.tr hF4.f0.F))
  · refine z_if_ne (tgt := 13) dX8_readsGrow_8 (by decide) (fun czq8 => absurd czq8 (fun z => z rfl)) (fun czq8 => ?_)
    refine z_iconst (v := 0) dX8_readsGrow_11 (by decide) ?_
    exact z_zret rfl rfl dX8_readsGrow_12 (by
        rcases hkk with ⟨hk5, rfl⟩ | ⟨hk5, hv, rfl⟩
        · exact hqN 1 _ (fin_1 hk5) (by decide) (by decide) _ _ he.1 he.2.1 (hF2.F.tr he.F)
        · exact hqN 3 _ (by show fin L x p (sGrow S) = _; rw [oI_0.mp hv]; exact fin_3 hk5) (by decide) (by decide) _ _ he.1 he.2.1 (hF2.F.tr he.F))

def two (L : Nat) (x : Nat → Nat) (p : Nat) : zE2 ⊕ (Nat × Nat × Nat) := match rdN L x oKey p with
  | .inl e => .inl e
  | .inr (k, p1) => match rdN L x oVal p1 with
    | .inl e => .inl e
    | .inr (v, p2) => .inr (k, v, p2)
theorem smp_two {L : Nat} {x : Nat → Nat} {p : Nat} {S : zS} (w : Nat) (hw : w = 0 ∨ w = 1) : smp L x w p S = (match two L x p with
  | .inl e => .inl e
  | .inr (k, v, p2) => fin L x p2 (if w = 0 then oAdd S k v else (sPut S k v).map (·.2))) := by
  unfold two
  rcases hw with rfl | rfl
  · unfold smp
    cases h1 : rdN L x oKey p with
    | inl e => rfl
    | inr q =>
      obtain ⟨k, p1⟩ := q
      simp only
      cases h2 : rdN L x oVal p1 with
      | inl e => rfl
      | inr q2 => rfl
  · unfold smp
    cases h1 : rdN L x oKey p with
    | inl e => rfl
    | inr q =>
      obtain ⟨k, p1⟩ := q
      simp only
      cases h2 : rdN L x oVal p1 with
      | inl e => rfl
      | inr q2 => rfl

set_option maxHeartbeats 4000000 in
set_option maxRecDepth 100000 in
theorem m_entry {l : zL} {d kc ks n b : Nat} {h : Nat → va_E} {a : Nat → Nat → Int32} {L : Nat} {x : Nat → Nat} {p : Nat} {Q : zQ} {s : Nat → Int32} (hb : b + 14 ≤ n) (hL : L ≤ 600) (hu : ∀ i, i < L → a 10 i = nI (x i)) (hx : ∀ i, x i < 256) (hp : p ≤ L) (h15 : s 15 = nI L) (h16 : s 16 = 0) (hT : rT L x (tS L x p) s) (hqY : ∀ k v p2, two L x p = .inr (k, v, p2) → k ≤ 9999 → v ≤ 999 → p2 ≤ L → ∀ s' a', rT L x (tS L x p2) s' → a' 12 0 = nI k → a' 12 1 = nI v → a' 0 = a 0 → mfk s s' → rF s a s' a' → Q (.inl (some (.int 1))) n (mW h b s' a')) (hqN : ∀ k off, two L x p = .inl (k, off) → k ≠ 0 → k < 10 → ∀ s' a', s' 16 = nI k → s' 17 = nI off → rF s a s' a' → Q (.inl (some (.int 0))) n (mW h b s' a')) : Zj l mX8_readsEntry (d + 3) kc ks 0 [(0, .ref b)] [] n (mW h b s a) Q := by
  refine z_aload_n (j := 0) dX8_readsEntry_0 rfl ?_
  refine z_iconst (v := 0) dX8_readsEntry_1 (by decide) ?_
  refine z_iconst (v := 0) dX8_readsEntry_2 (by decide) ?_
  refine z_sipush (v := 9999) dX8_readsEntry_3 (by decide) ?_
  refine z_kV [.int 0, .int 0, .int 9999] 0 0 kc ks yoX8_number yvX8_number rfl (by decide) lX8_191 (by omega) mW_obj rfl rfl (Nat.le_of_ble_eq_true rfl) (Nat.le_of_ble_eq_true rfl) dX8_readsEntry_6 (by omega) (by omega) (z_room (by omega) (Nat.le_refl _) (Nat.le_refl _) (m_number (d := 0) (j := 0) (lo := 0) (hi := 9999) hb hL hu hx (tS_le (x := x) hp).2 h15 h16 hT (by decide) (by decide) (by decide) (fun hk0 hok s1 hT1 hf1 => ⟨rfl, ?_⟩) (fun k hkk0 s1 he => ⟨rfl, ?_⟩)))
  · have hu1 : ∀ i, i < L → (va_up a 12 (va_up (a 12) 0 (nI (tV L x (tS L x p))))) 10 i = nI (x i) := fun i hi => by rw [up_ne (by decide)]; exact hu i hi
    have h15b : s1 15 = nI L := (hf1 15 (by decide) (by decide) (by decide) (by decide)).trans h15
    have h16b : s1 16 = 0 := (hf1 16 (by decide) (by decide) (by decide) (by decide)).trans h16
    have hok0 : oKey (tV L x (tS L x p)) = true := by rw [oKey_in]; exact hok
    refine z_if_eq (tgt := 28) dX8_readsEntry_9 (by decide) (fun czq9 => absurd czq9 (by decide)) (fun czq9 => ?_)
    refine z_aload_n (j := 0) dX8_readsEntry_12 rfl ?_
    refine z_iconst (v := 1) dX8_readsEntry_13 (by decide) ?_
    refine z_iconst (v := 0) dX8_readsEntry_14 (by decide) ?_
    refine z_sipush (v := 999) dX8_readsEntry_15 (by decide) ?_
    refine z_kV [.int 1, .int 0, .int 999] 0 0 kc ks yoX8_number yvX8_number rfl (by decide) lX8_191 (by omega) mW_obj rfl rfl (Nat.le_of_ble_eq_true rfl) (Nat.le_of_ble_eq_true rfl) dX8_readsEntry_18 (by omega) (by omega) (z_room (by omega) (Nat.le_refl _) (Nat.le_refl _) (m_number (d := 0) (j := 1) (lo := 0) (hi := 999) hb hL hu1 hx (tS_le (x := x) (nx_le (x := x) hp).2).2 h15b h16b hT1 (by decide) (by decide) (by decide) (fun hk1 hok9 s2 hT2 hf2 => ⟨rfl, ?_⟩) (fun k hkk1 s2 he => ⟨rfl, ?_⟩)))
    · refine z_if_eq (tgt := 28) dX8_readsEntry_21 (by decide) (fun czq21 => absurd czq21 (by decide)) (fun czq21 => ?_)
      refine z_iconst (v := 1) dX8_readsEntry_24 (by decide) ?_
      refine z_goto (tgt := 29) dX8_readsEntry_25 (by decide) ?_
      exact z_zret rfl rfl dX8_readsEntry_29 (by
          have hok1 : oVal (tV L x (tS L x (nx L x p))) = true := by rw [oVal_in]; exact hok9
          refine hqY (tV L x (tS L x p)) (tV L x (tS L x (nx L x p))) (nx L x (nx L x p)) (by unfold two; simp only [rdN_3 (ok := oKey) hk0 hok0, rdN_3 (ok := oVal) hk1 hok1]) (by simpa [oKey] using hok0) (by simpa [oVal] using hok1) (nx_le (x := x) (nx_le (x := x) hp).2).2 _ _ hT2 (by rw [up_eq, up_ne (by decide), up_eq, up_eq]) (by rw [up_eq, up_eq]) (by rw [up_ne (by decide), up_ne (by decide)]) (fun q q1 q2 q3 q4 => (hf2 q q1 q2 q3 q4).trans (hf1 q q1 q2 q3 q4)) (((rF.num.tr hf1.F).tr rF.num).tr hf2.F))
    · refine z_if_eq (tgt := 28) dX8_readsEntry_21 (by decide) (fun czq21 => ?_) (fun czq21 => absurd rfl czq21)
      refine z_iconst (v := 0) dX8_readsEntry_28 (by decide) ?_
      exact z_zret rfl rfl dX8_readsEntry_29 (by
          rcases hkk1 with ⟨hk1, rfl⟩ | ⟨hk1, hno, rfl⟩
          · exact hqN 1 _ (by unfold two; simp only [rdN_3 (ok := oKey) hk0 hok0, rdN_1 (ok := oVal) hk1]) (by decide) (by decide) _ _ he.1 he.2.1 ((rF.num.tr hf1.F).tr he.F)
          · exact hqN 2 _ (by unfold two; simp only [rdN_3 (ok := oKey) hk0 hok0, rdN_2 (ok := oVal) hk1 (by rw [oVal_in]; exact hno)]) (by decide) (by decide) _ _ he.1 he.2.1 ((rF.num.tr hf1.F).tr he.F))
  · refine z_if_eq (tgt := 28) dX8_readsEntry_9 (by decide) (fun czq9 => ?_) (fun czq9 => absurd rfl czq9)
    refine z_iconst (v := 0) dX8_readsEntry_28 (by decide) ?_
    exact z_zret rfl rfl dX8_readsEntry_29 (by
        rcases hkk0 with ⟨hk0, rfl⟩ | ⟨hk0, hno, rfl⟩
        · exact hqN 1 _ (by unfold two; simp only [rdN_1 (ok := oKey) hk0]) (by decide) (by decide) _ _ he.1 he.2.1 he.F
        · exact hqN 2 _ (by unfold two; simp only [rdN_2 (ok := oKey) hk0 (by rw [oKey_in]; exact hno)]) (by decide) (by decide) _ _ he.1 he.2.1 he.F)
