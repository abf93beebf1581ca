set_option maxHeartbeats 4000000 in
set_option maxRecDepth 100000 in
theorem w_empty_l {l : zL} {d kc ks n b B : Nat} {h : Nat → va_E} {s : Nat → Int32} {Q : zQ} (hb : b + 6 ≤ n) : ∀ m i (a : Nat → Nat → Int32), i + m = 64 → (∀ j, j < i → a 0 j = -1 ∧ a 1 j = -1 ∧ a 2 j = 0) → (∀ a', (∀ j, j < 64 → a' 0 j = -1 ∧ a' 1 j = -1 ∧ a' 2 j = 0) → a' 3 = a 3 → a' 4 = a 4 → Q (.inl none) n (tW h b s a')) → Zj l mX6_empty d kc ks 17 [(0, .ref b), (1, .int ((nI B))), (2, .int ((nI i)))] [] n (tW h b s a) Q := by
  intro m
  induction m with
  | zero =>
    intro i a hi hinv hq
    refine z_iload_n (j := 2) dX6_empty_17 rfl ?_
    refine z_bipush (v := 64) dX6_empty_18 (by decide) ?_
    refine z_icmp_ge (tgt := 50) dX6_empty_20 (by decide) (fun c_20 => ?_) (fun c_20 => absurd (nI_le (a := 64) (b := i) (by omega) (by omega)) c_20)
    exact z_vret rfl dX6_empty_50 (hq a (fun j hj => hinv j (by omega)) rfl rfl)
  | succ m ih =>
    intro i a hi hinv hq
    refine z_iload_n (j := 2) dX6_empty_17 rfl ?_
    refine z_bipush (v := 64) dX6_empty_18 (by decide) ?_
    refine z_icmp_ge (tgt := 50) dX6_empty_20 (by decide) (fun c_20 => absurd c_20 (nI_ge (b := 64) (by omega) (by decide))) (fun c_20 => ?_)
    refine z_aload_n (j := 0) dX6_empty_23 rfl ?_
    refine z_get (v := .ref (b + 1)) (by omega) tW_obj fX6_9 rfl dX6_empty_24 ?_
    refine z_iload_n (j := 2) dX6_empty_27 rfl ?_
    refine z_iconst (v := (-1)) dX6_empty_28 (by decide) ?_
    refine t_ast 0 (by decide) hb (vp_in_nI (by omega) (by decide)) dX6_empty_29 ?_
    refine z_aload_n (j := 0) dX6_empty_30 rfl ?_
    refine z_get (v := .ref (b + 2)) (by omega) tW_obj fX6_15 rfl dX6_empty_31 ?_
    refine z_iload_n (j := 2) dX6_empty_34 rfl ?_
    refine z_iconst (v := (-1)) dX6_empty_35 (by decide) ?_
    refine t_ast 1 (by decide) hb (vp_in_nI (by omega) (by decide)) dX6_empty_36 ?_
    refine z_aload_n (j := 0) dX6_empty_37 rfl ?_
    refine z_get (v := .ref (b + 3)) (by omega) tW_obj fX6_18 rfl dX6_empty_38 ?_
    refine z_iload_n (j := 2) dX6_empty_41 rfl ?_
    refine z_iconst (v := 0) dX6_empty_42 (by decide) ?_
    refine t_ast 2 (by decide) hb (vp_in_nI (by omega) (by decide)) dX6_empty_43 ?_
    skip
    refine z_iinc ((nI (i + 1))) [1, 2, 0] [(0, .ref b), (1, .int ((nI B))), (2, .int ((nI (i + 1))))] dX6_empty_44 (j := 2) rfl (nI_1 i) (by decide) rfl ?_
    refine z_goto (tgt := 17) dX6_empty_47 (by decide) ?_
    have hci : (nI i).toNatClampNeg = i := nI_clamp (by omega)
    simp only [hci]
    refine ih (i + 1) _ (by omega) (fun j hj => ?_) (fun a' h1 h2 h3 => hq a' h1 (by rw [h2]; simp [va_up]) (by rw [h3]; simp [va_up]))
    by_cases hji : j = i
    · subst hji; simp [va_up]
    · have := hinv j (by omega)
      simp [va_up, hji, this]

set_option maxHeartbeats 4000000 in
set_option maxRecDepth 100000 in
theorem w_empty {l : zL} {d kc ks n b B H T : Nat} {h : Nat → va_E} {s : Nat → Int32} {a : Nat → Nat → Int32} {Q : zQ} (hb : b + 6 ≤ n) (okb : okB B) (h2H : 2 ≤ H) (hH6 : H ≤ 6) (h1T : 1 ≤ T) (hT99 : T ≤ 99) (e7 : s 7 = nI H) (e8 : s 8 = nI T) (hq : ∀ s' a', tR B H T kz kz s' a' → s' 10 = 0 → s' 11 = 0 → (∀ k, k ≠ 6 → k ≠ 10 → k ≠ 11 → s' k = s k) → a' 3 = a 3 → a' 4 = a 4 → Q (.inl none) n (tW h b s' a')) : Zj l mX6_empty d kc ks 0 [(0, .ref b), (1, .int ((nI B)))] [] n (tW h b s a) Q := by
  refine z_aload_n (j := 0) dX6_empty_0 rfl ?_
  refine z_iload_n (j := 1) dX6_empty_1 rfl ?_
  refine t_put (k := 6) (by omega) fX6_64 (by decide) (by decide) (by decide) dX6_empty_2 ?_
  refine z_aload_n (j := 0) dX6_empty_5 rfl ?_
  refine z_iconst (v := 0) dX6_empty_6 (by decide) ?_
  refine t_put (k := 10) (by omega) fX6_67 (by decide) (by decide) (by decide) dX6_empty_7 ?_
  refine z_aload_n (j := 0) dX6_empty_10 rfl ?_
  refine z_iconst (v := 0) dX6_empty_11 (by decide) ?_
  refine t_put (k := 11) (by omega) fX6_70 (by decide) (by decide) (by decide) dX6_empty_12 ?_
  refine z_iconst (v := 0) dX6_empty_15 (by decide) ?_
  refine z_istore_n [1, 2, 0] [(0, .ref b), (1, .int ((nI B))), (2, .int 0)] dX6_empty_16 (by decide) rfl ?_
  refine w_empty_l hb 64 0 a (by omega) (fun j hj => absurd hj (Nat.not_lt_zero j)) (fun a' h1 h2 h3 => hq _ a' (tR_nil okb h2H hH6 h1T hT99 (by simp [va_up]) (by simp [va_up, e7]) (by simp [va_up, e8]) h1) (by simp [va_up]) (by simp [va_up]) (fun k h6 h10 h11 => by simp [va_up, h6, h10, h11]) h2 h3)

set_option maxHeartbeats 4000000 in
set_option maxRecDepth 100000 in
theorem w_queueAll_l {l : zL} {d kc ks n b B H T : Nat} {h : Nat → va_E} {K V : Nat → Nat} {Q : zQ} (hb : b + 6 ≤ n) : ∀ m i (s : Nat → Int32) (a : Nat → Nat → Int32), i + m = B → tK B H T K V s a → qR s a (entL K V i) → (∀ s' a', tK B H T K V s' a' → qR s' a' (entL K V B) → a' 0 = a 0 → a' 1 = a 1 → a' 2 = a 2 → (∀ k, k ≠ 5 → s' k = s k) → Q (.inl none) n (tW h b s' a')) → Zj l mX6_queueAll d kc ks 7 [(0, .ref b), (1, .int ((nI i)))] [] n (tW h b s a) Q := by
  intro m
  induction m with
  | zero =>
    intro i s a hi hR hqu hq
    obtain ⟨okb, h2H, hH6, h1T, hT99, e6, e7, e8, ek, ev, eh, ekv, ez⟩ := id hR
    have hle := okb.le
    refine z_iload_n (j := 1) dX6_queueAll_7 rfl ?_
    refine z_aload_n (j := 0) dX6_queueAll_8 rfl ?_
    refine z_get (v := .int (s 6)) (by omega) tW_obj fX6_64 rfl dX6_queueAll_9 ?_
    refine z_icmp_ge (tgt := 99) dX6_queueAll_12 (by decide) (fun c_12 => ?_) (fun c_12 => absurd (by rw [e6]; exact nI_le (by omega) (by omega)) c_12)
    exact z_vret rfl dX6_queueAll_99 (by
        obtain rfl : i = B := by omega
        exact hq s a hR hqu rfl rfl rfl (fun _ _ => rfl))
  | succ m ih =>
    intro i s a hi hR hqu hq
    obtain ⟨okb, h2H, hH6, h1T, hT99, e6, e7, e8, ek, ev, eh, ekv, ez⟩ := id hR
    have hle := okb.le
    have hll := entL_len K V i
    have hci : (nI i).toNatClampNeg = i := nI_clamp (by omega)
    have hcq : (s 5).toNatClampNeg = (entL K V i).length := by rw [hqu.1]; exact nI_clamp (by omega)
    refine z_iload_n (j := 1) dX6_queueAll_7 rfl ?_
    refine z_aload_n (j := 0) dX6_queueAll_8 rfl ?_
    refine z_get (v := .int (s 6)) (by omega) tW_obj fX6_64 rfl dX6_queueAll_9 ?_
    refine z_icmp_ge (tgt := 99) dX6_queueAll_12 (by decide) (fun c_12 => absurd c_12 (by rw [e6]; exact nI_ge (by omega) (by omega))) (fun c_12 => ?_)
    refine z_iload_n (j := 1) dX6_queueAll_15 rfl ?_
    refine z_aload_n (j := 0) dX6_queueAll_16 rfl ?_
    refine z_get (v := .ref (b + 1)) (by omega) tW_obj fX6_9 rfl dX6_queueAll_17 ?_
    refine t_alen 0 (by decide) hb dX6_queueAll_20 ?_
    refine z_icmp_ge (tgt := 99) dX6_queueAll_21 (by decide) (fun c_21 => absurd c_21 (nI_ge (b := 64) (by omega) (by decide))) (fun c_21 => ?_)
    refine z_aload_n (j := 0) dX6_queueAll_24 rfl ?_
    refine z_get (v := .ref (b + 1)) (by omega) tW_obj fX6_9 rfl dX6_queueAll_25 ?_
    refine z_iload_n (j := 1) dX6_queueAll_28 rfl ?_
    refine t_ald 0 (by decide) hb (vp_in_nI (by omega) (by decide)) dX6_queueAll_29 ?_
    refine z_iconst (v := (-1)) dX6_queueAll_30 (by decide) ?_
    refine z_icmp_eq (tgt := 93) dX6_queueAll_31 (by decide) (fun c_31 => ?_) (fun c_31 => ?_)
    · skip
      refine z_iinc ((nI (i + 1))) [1, 0] [(0, .ref b), (1, .int ((nI (i + 1))))] dX6_queueAll_93 (j := 1) rfl (nI_1 i) (by decide) rfl ?_
      refine z_goto (tgt := 7) dX6_queueAll_96 (by decide) ?_
      have hK : K i = 0 := by
        rw [hci, ek i (by omega)] at c_31
        exact (tkey_eq (ekv i).1).mp c_31
      exact ih (i + 1) s a (by omega) hR (by rw [entL_free hK]; exact hqu) hq
    · refine z_aload_n (j := 0) dX6_queueAll_34 rfl ?_
      refine z_get (v := .int (s 5)) (by omega) tW_obj fX6_106 rfl dX6_queueAll_35 ?_
      refine z_if_lt (tgt := 93) dX6_queueAll_38 (by decide) (fun c_38 => absurd c_38 (by rw [hqu.1]; exact nI_pos (by omega))) (fun c_38 => ?_)
      refine z_aload_n (j := 0) dX6_queueAll_41 rfl ?_
      refine z_get (v := .int (s 5)) (by omega) tW_obj fX6_106 rfl dX6_queueAll_42 ?_
      refine z_aload_n (j := 0) dX6_queueAll_45 rfl ?_
      refine z_get (v := .ref (b + 4)) (by omega) tW_obj fX6_21 rfl dX6_queueAll_46 ?_
      refine t_alen 3 (by decide) hb dX6_queueAll_49 ?_
      refine z_icmp_ge (tgt := 93) dX6_queueAll_50 (by decide) (fun c_50 => absurd c_50 (by rw [hqu.1]; exact nI_ge (b := 64) (by omega) (by decide))) (fun c_50 => ?_)
      refine z_aload_n (j := 0) dX6_queueAll_53 rfl ?_
      refine z_get (v := .ref (b + 4)) (by omega) tW_obj fX6_21 rfl dX6_queueAll_54 ?_
      refine z_aload_n (j := 0) dX6_queueAll_57 rfl ?_
      refine z_get (v := .int (s 5)) (by omega) tW_obj fX6_106 rfl dX6_queueAll_58 ?_
      refine z_aload_n (j := 0) dX6_queueAll_61 rfl ?_
      refine z_get (v := .ref (b + 1)) (by omega) tW_obj fX6_9 rfl dX6_queueAll_62 ?_
      refine z_iload_n (j := 1) dX6_queueAll_65 rfl ?_
      refine t_ald 0 (by decide) hb (vp_in_nI (by omega) (by decide)) dX6_queueAll_66 ?_
      refine t_ast 3 (by decide) hb (by rw [hqu.1]; exact vp_in_nI (by omega) (by decide)) dX6_queueAll_67 ?_
      refine z_aload_n (j := 0) dX6_queueAll_68 rfl ?_
      refine z_get (v := .ref (b + 5)) (by omega) tW_obj fX6_24 rfl dX6_queueAll_69 ?_
      refine z_aload_n (j := 0) dX6_queueAll_72 rfl ?_
      refine z_get (v := .int (s 5)) (by omega) tW_obj fX6_106 rfl dX6_queueAll_73 ?_
      refine z_aload_n (j := 0) dX6_queueAll_76 rfl ?_
      refine z_get (v := .ref (b + 2)) (by omega) tW_obj fX6_15 rfl dX6_queueAll_77 ?_
      refine z_iload_n (j := 1) dX6_queueAll_80 rfl ?_
      refine t_ald 1 (by decide) hb (vp_in_nI (by omega) (by decide)) dX6_queueAll_81 ?_
      refine t_ast 4 (by decide) hb (by rw [hqu.1]; exact vp_in_nI (by omega) (by decide)) dX6_queueAll_82 ?_
      refine z_aload_n (j := 0) dX6_queueAll_83 rfl ?_
      refine z_dup rfl dX6_queueAll_84 ?_
      refine z_get (v := .int (s 5)) (by omega) tW_obj fX6_106 rfl dX6_queueAll_85 ?_
      refine z_iconst (v := 1) dX6_queueAll_88 (by decide) ?_
      refine z_iadd dX6_queueAll_89 ?_
      refine t_put (k := 5) (by omega) fX6_106 (by decide) (by decide) (by decide) dX6_queueAll_90 ?_
      skip
      refine z_iinc ((nI (i + 1))) [1, 0] [(0, .ref b), (1, .int ((nI (i + 1))))] dX6_queueAll_93 (j := 1) rfl (nI_1 i) (by decide) rfl ?_
      refine z_goto (tgt := 7) dX6_queueAll_96 (by decide) ?_
      have hK : K i ≠ 0 := fun e => c_31 (by rw [hci, ek i (by omega)]; exact (tkey_eq (ekv i).1).mpr e)
      simp only [hci, hcq]
      refine ih (i + 1) _ _ (by omega) (tK_s (s := s) ⟨okb, h2H, hH6, h1T, hT99, e6, e7, e8, by simpa [va_up] using ek, by simpa [va_up] using ev, eh, ekv, ez⟩ (by simp [va_up]) (by simp [va_up]) (by simp [va_up])) ?_ (fun s' a' h1 h2 h3 h4 h5 h6 => hq s' a' h1 h2 (by rw [h3]; simp [va_up]) (by rw [h4]; simp [va_up]) (by rw [h5]; simp [va_up]) (fun k hk => by rw [h6 k hk]; simp [va_up, hk]))
      rw [entL_full hK]
      refine ⟨?_, by rw [List.length_append]; simp only [List.length_cons, List.length_nil]; omega, fun j k v hj => ?_, fun q hqm => ?_⟩
      · rw [List.length_append]
        simp only [va_up, if_true, hqu.1, List.length_cons, List.length_nil]
        exact nI_1 _
      · by_cases hjl : j < (entL K V i).length
        · rw [List.getElem?_append_left hjl] at hj
          have hne : ¬ j = (entL K V i).length := by omega
          have := hqu.2.2.1 j k v hj
          simp [va_up, hne, this]
        · rw [List.getElem?_append_right (by omega)] at hj
          have hj0 : j - (entL K V i).length = 0 := by
            rcases Nat.eq_zero_or_pos (j - (entL K V i).length) with h0 | h0
            · exact h0
            · rw [List.getElem?_eq_none (by simp; omega)] at hj; cases hj
          have hje : j = (entL K V i).length := by omega
          rw [hj0] at hj
          cases hj
          subst hje
          have hv := ev i (by omega)
          have hk2 := ek i (by omega)
          rw [tkey_ne hK] at hk2
          rw [tval, if_neg hK] at hv
          exact ⟨by simp [va_up, hk2], by simp [va_up, hv]⟩
      · rcases List.mem_append.mp hqm with h1 | h1
        · exact hqu.2.2.2 q h1
        · have := ekv i
          rw [List.mem_singleton.mp h1]
          exact ⟨by show K i - 1 ≤ 9999; omega, this.2⟩

set_option maxHeartbeats 4000000 in
set_option maxRecDepth 100000 in
theorem w_queueAll {l : zL} {d kc ks n b B H T : Nat} {h : Nat → va_E} {K V : Nat → Nat} {s : Nat → Int32} {a : Nat → Nat → Int32} {Q : zQ} (hb : b + 6 ≤ n) (hR : tK B H T K V s a) (hq : ∀ s' a', tK B H T K V s' a' → qR s' a' (entL K V B) → a' 0 = a 0 → a' 1 = a 1 → a' 2 = a 2 → (∀ k, k ≠ 5 → s' k = s k) → Q (.inl none) n (tW h b s' a')) : Zj l mX6_queueAll d kc ks 0 [(0, .ref b)] [] n (tW h b s a) Q := by
  refine z_aload_n (j := 0) dX6_queueAll_0 rfl ?_
  refine z_iconst (v := 0) dX6_queueAll_1 (by decide) ?_
  refine t_put (k := 5) (by omega) fX6_106 (by decide) (by decide) (by decide) dX6_queueAll_2 ?_
  refine z_iconst (v := 0) dX6_queueAll_5 (by decide) ?_
  refine z_istore_n [1, 0] [(0, .ref b), (1, .int 0)] dX6_queueAll_6 (by decide) rfl ?_
  refine w_queueAll_l hb B 0 _ _ (by omega) (tK_s hR (by simp [va_up]) (by simp [va_up]) (by simp [va_up])) ⟨by simp [va_up, entL]; rfl, by simp [entL], fun j k v hj => by simp [entL] at hj, fun q hqm => by simp [entL] at hqm⟩ (fun s' a' h1 h2 h3 h4 h5 h6 => hq s' a' h1 h2 h3 h4 h5 (fun k hk => by rw [h6 k hk]; simp [va_up, hk]))
