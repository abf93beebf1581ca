set_option maxHeartbeats 4000000 in
set_option maxRecDepth 100000 in
theorem r_empties_l {l : zL} {d kc ks n b : Nat} {h : Nat → va_E} {s : Nat → Int32} {Q : zQ} (hb : b + 14 ≤ n) : ∀ m i (a : Nat → Nat → Int32), i + m = 64 → (∀ j, j < i → a 0 (9 + j) = 0 ∧ a 0 (73 + j) = 0) → (∀ a', (∀ i, i < 64 → a' 0 (9 + i) = 0 ∧ a' 0 (73 + i) = 0) → (∀ k, k < 9 → a' 0 k = a 0 k) → (∀ q, q ≠ 0 → a' q = a q) → Q (.inl none) n (mW h b s a')) → Zj l mX8_empties d kc ks 2 [(0, .ref b), (1, .int ((nI i)))] [] n (mW h b s a) Q := by
  intro m
  induction m with
  | zero =>
    intro i a hi hz hq
    refine z_iload_n (j := 1) dX8_empties_2 rfl ?_
    refine z_bipush (v := 64) dX8_empties_3 (by decide) ?_
    refine z_icmp_ge (tgt := 34) dX8_empties_5 (by decide) (fun c_5 => ?_) (fun c_5 => absurd (nI_le (a := 64) (b := i) (by omega) (by omega)) c_5)
    exact z_vret rfl dX8_empties_34 (hq a (fun j hj => hz j (by omega)) (fun _ _ => rfl) (fun _ _ => rfl))
  | succ m ih =>
    intro i a hi hz hq
    refine z_iload_n (j := 1) dX8_empties_2 rfl ?_
    refine z_bipush (v := 64) dX8_empties_3 (by decide) ?_
    refine z_icmp_ge (tgt := 34) dX8_empties_5 (by decide) (fun c_5 => absurd c_5 (nI_ge (b := 64) (by omega) (by decide))) (fun c_5 => ?_)
    refine z_aload_n (j := 0) dX8_empties_8 rfl ?_
    refine z_get (v := .ref (b + 1)) (by omega) mW_obj fX8_7 rfl dX8_empties_9 ?_
    refine z_bipush (v := 9) dX8_empties_12 (by decide) ?_
    refine z_iload_n (j := 1) dX8_empties_14 rfl ?_
    refine z_iadd dX8_empties_15 ?_
    refine z_iconst (v := 0) dX8_empties_16 (by decide) ?_
    refine m_astN 0 137 (9 + i) (by decide) rfl rfl hb (nI_add 9 _) (by omega) (by decide) dX8_empties_17 ?_
    refine z_aload_n (j := 0) dX8_empties_18 rfl ?_
    refine z_get (v := .ref (b + 1)) (by omega) mW_obj fX8_7 rfl dX8_empties_19 ?_
    refine z_bipush (v := 73) dX8_empties_22 (by decide) ?_
    refine z_iload_n (j := 1) dX8_empties_24 rfl ?_
    refine z_iadd dX8_empties_25 ?_
    refine z_iconst (v := 0) dX8_empties_26 (by decide) ?_
    refine m_astN 0 137 (73 + i) (by decide) rfl rfl hb (nI_add 73 _) (by omega) (by decide) dX8_empties_27 ?_
    skip
    refine z_iinc ((nI (i + 1))) [1, 0] [(0, .ref b), (1, .int ((nI (i + 1))))] dX8_empties_28 (j := 1) rfl (nI_1 i) (by decide) rfl ?_
    refine z_goto (tgt := 2) dX8_empties_31 (by decide) ?_
    refine ih (i + 1) _ (by omega) (fun j hj => ?_) (fun a' h1 h2 h3 => hq a' h1 (fun k hk => ?_) (fun q h0 => ?_))
    · have x1 : ¬ 9 + j = 73 + i := by omega
      have x2 : ¬ 73 + j = 9 + i := by omega
      by_cases hji : j = i
      · subst hji; simp [va_up, x1, x2]
      · have := hz j (by omega)
        simp [va_up, x1, x2, hji, this]
    · have x1 : ¬ k = 9 + i := by omega
      have x2 : ¬ k = 73 + i := by omega
      rw [h2 k hk]; simp [va_up, x1, x2]
    · rw [h3 q h0]; simp [va_up, h0]

set_option maxHeartbeats 4000000 in
set_option maxRecDepth 100000 in
theorem r_empties {l : zL} {d kc ks n b : Nat} {h : Nat → va_E} {s : Nat → Int32} {a : Nat → Nat → Int32} {Q : zQ} (hb : b + 14 ≤ n) (hq : ∀ a', (∀ i, i < 64 → a' 0 (9 + i) = 0 ∧ a' 0 (73 + i) = 0) → (∀ k, k < 9 → a' 0 k = a 0 k) → (∀ q, q ≠ 0 → a' q = a q) → Q (.inl none) n (mW h b s a')) : Zj l mX8_empties d kc ks 0 [(0, .ref b)] [] n (mW h b s a) Q := by
  refine z_iconst (v := 0) dX8_empties_0 (by decide) ?_
  refine z_istore_n [1, 0] [(0, .ref b), (1, .int 0)] dX8_empties_1 (by decide) rfl ?_
  exact r_empties_l hb 64 0 a (by omega) (fun j hj => absurd hj (Nat.not_lt_zero j)) hq

set_option maxHeartbeats 4000000 in
set_option maxRecDepth 100000 in
theorem r_notes_l {l : zL} {d kc ks n b B H T : Nat} {h : Nat → va_E} {K V : Nat → Nat} {Q : zQ} (hb : b + 14 ≤ n) : ∀ m i (s : Nat → Int32) (a : Nat → Nat → Int32), i + m = B → mV B H T K V (a 0) → qN s a (entL K V i) → (∀ s' a', qN s' a' (entL K V B) → (∀ k, k ≠ 10 → s' k = s k) → (∀ q, q ≠ 7 → q ≠ 8 → a' q = a q) → Q (.inl none) n (mW h b s' a')) → Zj l mX8_notes (d + 1) kc ks 7 [(0, .ref b), (1, .int ((nI i)))] [] n (mW h b s a) Q := by
  intro m
  induction m with
  | zero =>
    intro i s a hi hM hqu hq
    obtain ⟨okb, h2H, hH6, h1T, hT99, e0, e1, e2, ek, ev, ekv, ez⟩ := id hM
    have hle := okb.le
    refine z_iload_n (j := 1) dX8_notes_7 rfl ?_
    refine z_aload_n (j := 0) dX8_notes_8 rfl ?_
    refine z_get (v := .ref (b + 1)) (by omega) mW_obj fX8_7 rfl dX8_notes_9 ?_
    refine z_iconst (v := 0) dX8_notes_12 (by decide) ?_
    refine m_aldN 0 137 0 (by decide) rfl rfl hb rfl (by omega) (by decide) dX8_notes_13 ?_
    refine z_icmp_ge (tgt := 73) dX8_notes_14 (by decide) (fun c_14 => ?_) (fun c_14 => absurd (by rw [e0]; exact nI_le (by omega) (by omega)) c_14)
    exact z_vret rfl dX8_notes_73 (by
        obtain rfl : i = B := by omega
        exact hq s a hqu (fun _ _ => rfl) (fun _ _ _ => rfl))
  | succ m ih =>
    intro i s a hi hM hqu hq
    obtain ⟨okb, h2H, hH6, h1T, hT99, e0, e1, e2, ek, ev, ekv, ez⟩ := id hM
    have hle := okb.le
    have hll := entL_len K V i
    refine z_iload_n (j := 1) dX8_notes_7 rfl ?_
    refine z_aload_n (j := 0) dX8_notes_8 rfl ?_
    refine z_get (v := .ref (b + 1)) (by omega) mW_obj fX8_7 rfl dX8_notes_9 ?_
    refine z_iconst (v := 0) dX8_notes_12 (by decide) ?_
    refine m_aldN 0 137 0 (by decide) rfl rfl hb rfl (by omega) (by decide) dX8_notes_13 ?_
    refine z_icmp_ge (tgt := 73) dX8_notes_14 (by decide) (fun c_14 => absurd c_14 (by rw [e0]; exact nI_ge (by omega) (by omega))) (fun c_14 => ?_)
    refine z_aload_n (j := 0) dX8_notes_17 rfl ?_
    refine z_iload_n (j := 1) dX8_notes_18 rfl ?_
    refine z_cV [.int ((nI i))] (some (.int ((bI (K i = 0))))) yoX8_isFree yvX8_isFree rfl (by decide) lX8_82 (by omega) mW_obj rfl rfl (Nat.le_of_ble_eq_true rfl) (Nat.le_of_ble_eq_true rfl) dX8_notes_19 (z_room (by omega) (Nat.le_refl _) (Nat.le_refl _) (r_isFree (d := 0) hb hM (by omega) ⟨rfl, rfl, rfl⟩)) ?_
    refine z_if_ne (tgt := 67) dX8_notes_22 (by decide) (fun c_22 => ?_) (fun c_22 => ?_)
    · skip
      refine z_iinc ((nI (i + 1))) [1, 0] [(0, .ref b), (1, .int ((nI (i + 1))))] dX8_notes_67 (j := 1) rfl (nI_1 i) (by decide) rfl ?_
      refine z_goto (tgt := 7) dX8_notes_70 (by decide) ?_
      have hK : K i = 0 := bI_n.mp c_22
      exact ih (i + 1) s a (by omega) hM (by rw [entL_free hK]; exact hqu) hq
    · refine z_aload_n (j := 0) dX8_notes_25 rfl ?_
      refine z_get (v := .ref (b + 8)) (by omega) mW_obj fX8_31 rfl dX8_notes_26 ?_
      refine z_aload_n (j := 0) dX8_notes_29 rfl ?_
      refine z_get (v := .int (s 10)) (by omega) mW_obj fX8_110 rfl dX8_notes_30 ?_
      refine z_aload_n (j := 0) dX8_notes_33 rfl ?_
      refine z_iload_n (j := 1) dX8_notes_34 rfl ?_
      refine z_cV [.int ((nI i))] (some (.int ((tkey (K i))))) yoX8_key yvX8_key rfl (by decide) lX8_71 (by omega) mW_obj rfl rfl (Nat.le_of_ble_eq_true rfl) (Nat.le_of_ble_eq_true rfl) dX8_notes_35 (z_room (by omega) (Nat.le_refl _) (Nat.le_refl _) (r_key (d := 0) hb (by simpa [va_up] using hM) (by omega) ⟨rfl, rfl, rfl⟩)) ?_
      refine m_astN 7 64 (entL K V i).length (by decide) rfl rfl hb hqu.1 (by omega) (by decide) dX8_notes_38 ?_
      refine z_aload_n (j := 0) dX8_notes_39 rfl ?_
      refine z_get (v := .ref (b + 9)) (by omega) mW_obj fX8_34 rfl dX8_notes_40 ?_
      refine z_aload_n (j := 0) dX8_notes_43 rfl ?_
      refine z_get (v := .int (s 10)) (by omega) mW_obj fX8_110 rfl dX8_notes_44 ?_
      refine z_aload_n (j := 0) dX8_notes_47 rfl ?_
      refine z_get (v := .ref (b + 1)) (by omega) mW_obj fX8_7 rfl dX8_notes_48 ?_
      refine z_bipush (v := 73) dX8_notes_51 (by decide) ?_
      refine z_iload_n (j := 1) dX8_notes_53 rfl ?_
      refine z_iadd dX8_notes_54 ?_
      refine m_aldN 0 137 (73 + i) (by decide) rfl rfl hb (nI_add 73 _) (by omega) (by decide) dX8_notes_55 ?_
      refine m_astN 8 64 (entL K V i).length (by decide) rfl rfl hb hqu.1 (by omega) (by decide) dX8_notes_56 ?_
      refine z_aload_n (j := 0) dX8_notes_57 rfl ?_
      refine z_dup rfl dX8_notes_58 ?_
      refine z_get (v := .int (s 10)) (by omega) mW_obj fX8_110 rfl dX8_notes_59 ?_
      refine z_iconst (v := 1) dX8_notes_62 (by decide) ?_
      refine z_iadd dX8_notes_63 ?_
      refine m_put (k := 10) (by omega) fX8_110 (by unfold mS; omega) (by decide) dX8_notes_64 ?_
      skip
      refine z_iinc ((nI (i + 1))) [1, 0] [(0, .ref b), (1, .int ((nI (i + 1))))] dX8_notes_67 (j := 1) rfl (nI_1 i) (by decide) rfl ?_
      refine z_goto (tgt := 7) dX8_notes_70 (by decide) ?_
      have hK : K i ≠ 0 := bI_0.mp c_22
      refine ih (i + 1) _ _ (by omega) (by simpa [va_up] using hM) ?_ (fun s' a' h1 h2 h3 => hq s' a' h1 (fun k hk => by rw [h2 k hk]; simp [va_up, hk]) (fun q h7 h8 => by rw [h3 q h7 h8]; simp [va_up, h7, h8]))
      rw [entL_full hK]
      refine ⟨?_, by rw [List.length_append]; simp only [List.length_cons, List.length_nil]; omega, fun j k v hj => ?_, fun q hqm => ?_⟩
      · rw [List.length_append]
        simp only [va_up, if_true, hqu.1, List.length_cons, List.length_nil]
        exact nI_1 _
      · by_cases hjl : j < (entL K V i).length
        · rw [List.getElem?_append_left hjl] at hj
          have hne : ¬ j = (entL K V i).length := by omega
          have := hqu.2.2.1 j k v hj
          simp [va_up, hne, this]
        · rw [List.getElem?_append_right (by omega)] at hj
          have hj0 : j - (entL K V i).length = 0 := by
            rcases Nat.eq_zero_or_pos (j - (entL K V i).length) with h0 | h0
            · exact h0
            · rw [List.getElem?_eq_none (by simp; omega)] at hj; cases hj
          have hje : j = (entL K V i).length := by omega
          rw [hj0] at hj
          cases hj
          subst hje
          have hv := ev i (by omega)
          exact ⟨by simp [va_up, tkey_ne hK], by simp [va_up, hv]⟩
      · rcases List.mem_append.mp hqm with h1 | h1
        · exact hqu.2.2.2 q h1
        · have := ekv i
          rw [List.mem_singleton.mp h1]
          exact ⟨by show K i - 1 ≤ 9999; omega, this.2⟩

set_option maxHeartbeats 4000000 in
set_option maxRecDepth 100000 in
theorem r_notes {l : zL} {d kc ks n b B H T : Nat} {h : Nat → va_E} {K V : Nat → Nat} {s : Nat → Int32} {a : Nat → Nat → Int32} {Q : zQ} (hb : b + 14 ≤ n) (hM : mV B H T K V (a 0)) (hq : ∀ s' a', qN s' a' (entL K V B) → (∀ k, k ≠ 10 → s' k = s k) → (∀ q, q ≠ 7 → q ≠ 8 → a' q = a q) → Q (.inl none) n (mW h b s' a')) : Zj l mX8_notes (d + 1) kc ks 0 [(0, .ref b)] [] n (mW h b s a) Q := by
  refine z_aload_n (j := 0) dX8_notes_0 rfl ?_
  refine z_iconst (v := 0) dX8_notes_1 (by decide) ?_
  refine m_put (k := 10) (by omega) fX8_110 (by unfold mS; omega) (by decide) dX8_notes_2 ?_
  refine z_iconst (v := 0) dX8_notes_5 (by decide) ?_
  refine z_istore_n [1, 0] [(0, .ref b), (1, .int 0)] dX8_notes_6 (by decide) rfl ?_
  refine r_notes_l hb B 0 _ a (by omega) hM ⟨by simp [va_up, entL]; rfl, by simp [entL], fun j k v hj => by simp [entL] at hj, fun q hqm => by simp [entL] at hqm⟩ (fun s' a' h1 h2 h3 => hq s' a' h1 (fun k hk => by rw [h2 k hk]; simp [va_up, hk]) h3)

set_option maxHeartbeats 4000000 in
set_option maxRecDepth 100000 in
theorem r_counts_l {l : zL} {d kc ks n b B : Nat} {h : Nat → va_E} {s : Nat → Int32} {Q : zQ} {x : Int32} (hb : b + 14 ≤ n) (hB : B ≤ 64) : ∀ m z (a : Nat → Nat → Int32), z ≤ 1000 → B ≤ z * 2 ^ m → a 0 0 = nI B → (∀ a', a' 0 6 = a 0 6 + nI (dbl B m z) → (∀ k, k ≠ 6 → a' 0 k = a 0 k) → (∀ q, q ≠ 0 → a' q = a q) → Q (.inl none) n (mW h b s a')) → Zj l mX8_counts d kc ks 2 [(0, .ref b), (1, .int x), (2, .int ((nI z)))] [] n (mW h b s a) Q := by
  intro m
  induction m with
  | zero =>
    intro z a hz hzm e0 hq
    refine z_iload_n (j := 2) dX8_counts_2 rfl ?_
    refine z_aload_n (j := 0) dX8_counts_3 rfl ?_
    refine z_get (v := .ref (b + 1)) (by omega) mW_obj fX8_7 rfl dX8_counts_4 ?_
    refine z_iconst (v := 0) dX8_counts_7 (by decide) ?_
    refine m_aldN 0 137 0 (by decide) rfl rfl hb rfl (by omega) (by decide) dX8_counts_8 ?_
    refine z_icmp_ge (tgt := 30) dX8_counts_9 (by decide) (fun c_9 => ?_) (fun c_9 => absurd (by rw [e0]; exact nI_le (by omega) (by omega)) c_9)
    exact z_vret rfl dX8_counts_30 (hq a (by rw [dbl, show nI 0 = 0 from rfl, Int32.add_zero]) (fun _ _ => rfl) (fun _ _ => rfl))
  | succ m ih =>
    intro z a hz hzm e0 hq
    refine z_iload_n (j := 2) dX8_counts_2 rfl ?_
    refine z_aload_n (j := 0) dX8_counts_3 rfl ?_
    refine z_get (v := .ref (b + 1)) (by omega) mW_obj fX8_7 rfl dX8_counts_4 ?_
    refine z_iconst (v := 0) dX8_counts_7 (by decide) ?_
    refine m_aldN 0 137 0 (by decide) rfl rfl hb rfl (by omega) (by decide) dX8_counts_8 ?_
    refine z_icmp_ge (tgt := 30) dX8_counts_9 (by decide) (fun c_9 => ?_) (fun c_9 => ?_)
    · have hzB : ¬ z < B := by
        rw [e0] at c_9
        have := (nI_leI (by omega) (by omega)).mp c_9
        omega
      exact z_vret rfl dX8_counts_30 (hq a (by rw [dbl, if_neg hzB, show nI 0 = 0 from rfl, Int32.add_zero]) (fun _ _ => rfl) (fun _ _ => rfl))
    · have hzB : z < B := by
        rw [e0] at c_9
        by_cases h9 : z < B
        · exact h9
        · exact absurd (nI_le (show B ≤ z by omega) (by omega)) c_9
      refine z_aload_n (j := 0) dX8_counts_12 rfl ?_
      refine z_get (v := .ref (b + 1)) (by omega) mW_obj fX8_7 rfl dX8_counts_13 ?_
      refine z_bipush (v := 6) dX8_counts_16 (by decide) ?_
      refine z_dup2 rfl rfl dX8_counts_18 ?_
      refine m_aldN 0 137 6 (by decide) rfl rfl hb rfl (by omega) (by decide) dX8_counts_19 ?_
      refine z_iconst (v := 1) dX8_counts_20 (by decide) ?_
      refine z_iadd dX8_counts_21 ?_
      refine m_astN 0 137 6 (by decide) rfl rfl hb rfl (by omega) (by decide) dX8_counts_22 ?_
      refine z_iload_n (j := 2) dX8_counts_23 rfl ?_
      refine z_iconst (v := 2) dX8_counts_24 (by decide) ?_
      refine z_imul dX8_counts_25 ?_
      rw [show nI z * 2 = nI (2 * z) from by rw [show (2 : Int32) = nI 2 from rfl, pk_mul, Nat.mul_comm]]
      refine z_istore_n [1, 2, 0] [(0, .ref b), (1, .int x), (2, .int ((nI (2 * z))))] dX8_counts_26 (by decide) rfl ?_
      refine z_goto (tgt := 2) dX8_counts_27 (by decide) ?_
      refine ih (2 * z) _ (by omega) (by rw [Nat.pow_succ] at hzm; rw [Nat.mul_comm 2 z, Nat.mul_assoc, Nat.mul_comm 2]; exact hzm) (by simp [va_up, e0]) (fun a' h1 h2 h3 => hq a' ?_ (fun k hk => ?_) (fun q h0 => ?_))
      · rw [h1, dbl, if_pos hzB, ← nI_1]; simp only [va_up, if_true]; rw [Int32.add_assoc, Int32.add_comm 1]
      · rw [h2 k hk]; simp [va_up, hk]
      · rw [h3 q h0]; simp [va_up, h0]

set_option maxHeartbeats 4000000 in
set_option maxRecDepth 100000 in
theorem r_counts {l : zL} {d kc ks n b : Nat} {h : Nat → va_E} {s : Nat → Int32} {a : Nat → Nat → Int32} {Q : zQ} {B z : Nat} (hb : b + 14 ≤ n) (hB : B ≤ 64) (h8 : 8 ≤ z) (hz : z ≤ 64) (e0 : a 0 0 = nI B) (hq : ∀ a', a' 0 6 = a 0 6 + nI (dbl B 4 z) → (∀ k, k ≠ 6 → a' 0 k = a 0 k) → (∀ q, q ≠ 0 → a' q = a q) → Q (.inl none) n (mW h b s a')) : Zj l mX8_counts d kc ks 0 [(0, .ref b), (1, .int ((nI z)))] [] n (mW h b s a) Q := by
  refine z_iload_n (j := 1) dX8_counts_0 rfl ?_
  refine z_istore_n [1, 2, 0] [(0, .ref b), (1, .int ((nI z))), (2, .int ((nI z)))] dX8_counts_1 (by decide) rfl ?_
  exact r_counts_l hb hB 4 z a (by omega) (by omega) e0 hq
