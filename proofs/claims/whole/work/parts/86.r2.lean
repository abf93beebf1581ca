/-! THE REFERENCE'S PUBLIC METHODS, second part: reads that loop -/
theorem i32_lc (a b c : Int32) : a + (b + c) = b + (a + c) := by rw [← Int32.add_assoc, Int32.add_comm a b, Int32.add_assoc]
theorem i32_sub3 (x y z : Int32) : x - y - z = x - (y + z) := by
  rw [Int32.sub_eq_add_neg, Int32.sub_eq_add_neg, Int32.sub_eq_add_neg, Int32.neg_add, Int32.sub_eq_add_neg, Int32.add_assoc]

set_option maxHeartbeats 4000000 in
set_option maxRecDepth 100000 in
theorem r_looks_l {l : zL} {d kc ks n b B H T : Nat} {h : Nat → va_E} {K V : Nat → Nat} {s : Nat → Int32} {a : Nat → Nat → Int32} {Q : zQ} {key : Nat} (hb : b + 14 ≤ n) (hV : mV B H T K V (a 0)) (hkey : key ≤ 9999) : ∀ m k m0, k + m = H → Q (.inl (some (.int (nI (lokF B H T K key m k m0))))) n (mW h b s a) → Zj l mX8_looksFor (d + 2) kc ks 32 [(0, .ref b), (1, .int ((nI key))), (2, .int ((nI (hmo B T key)))), (3, .int ((nI m0))), (4, .int ((nI k)))] [] n (mW h b s a) Q := by
  obtain ⟨okb, h2H, hH6, h1T, hT99, e0, e1, e2, ek_, ev_, ekv, ez⟩ := id hV
  have hle := okb.le
  have hhm := hmo_lt okb T key
  intro m
  induction m with
  | zero =>
    intro k m0 hk hq
    refine z_iload (j := 4) dX8_looksFor_32 rfl ?_
    refine z_aload_n (j := 0) dX8_looksFor_34 rfl ?_
    refine z_get (v := .ref (b + 1)) (by omega) mW_obj fX8_7 rfl dX8_looksFor_35 ?_
    refine z_iconst (v := 1) dX8_looksFor_38 (by decide) ?_
    refine m_aldN 0 137 1 (by decide) rfl rfl hb rfl (by omega) (by decide) dX8_looksFor_39 ?_
    refine z_icmp_ge (tgt := 88) dX8_looksFor_40 (by decide) (fun czq40 => ?_) (fun czq40 => absurd (by rw [e1]; exact nI_le (by omega) (by omega)) czq40)
    refine z_iload_n (j := 3) dX8_looksFor_88 rfl ?_
    exact z_iret rfl dX8_looksFor_89 (hq)
  | succ m ih =>
    intro k m0 hk hq
    refine z_iload (j := 4) dX8_looksFor_32 rfl ?_
    refine z_aload_n (j := 0) dX8_looksFor_34 rfl ?_
    refine z_get (v := .ref (b + 1)) (by omega) mW_obj fX8_7 rfl dX8_looksFor_35 ?_
    refine z_iconst (v := 1) dX8_looksFor_38 (by decide) ?_
    refine m_aldN 0 137 1 (by decide) rfl rfl hb rfl (by omega) (by decide) dX8_looksFor_39 ?_
    refine z_icmp_ge (tgt := 88) dX8_looksFor_40 (by decide) (fun czq40 => absurd czq40 (by rw [e1]; exact nI_ge (by omega) (by omega))) (fun czq40 => ?_)
    refine z_aload_n (j := 0) dX8_looksFor_43 rfl ?_
    refine z_iload_n (j := 2) dX8_looksFor_44 rfl ?_
    refine z_iload (j := 4) dX8_looksFor_45 rfl ?_
    refine z_kV [.int ((nI (hmo B T key))), .int ((nI k))] 0 0 kc ks yoX8_behind yvX8_behind rfl (by decide) lX8_86 (by omega) mW_obj rfl rfl (Nat.le_of_ble_eq_true rfl) (Nat.le_of_ble_eq_true rfl) dX8_looksFor_47 (by omega) (by omega) (z_room (by omega) (Nat.le_refl _) (Nat.le_refl _) (r_behind (d := 0) hb hV (by omega) (by omega) ⟨rfl, ?_⟩))
    refine z_istore [1, 2, 3, 4, 5, 0] [(0, .ref b), (1, .int ((nI key))), (2, .int ((nI (hmo B T key)))), (3, .int ((nI m0))), (4, .int ((nI k))), (5, .int ((nI ((hmo B T key + k) % B))))] dX8_looksFor_50 (by decide) rfl ?_
    refine z_iload_n (j := 3) dX8_looksFor_52 rfl ?_
    refine z_aload_n (j := 0) dX8_looksFor_53 rfl ?_
    refine z_iload (j := 5) dX8_looksFor_54 rfl ?_
    refine z_iload_n (j := 2) dX8_looksFor_56 rfl ?_
    refine z_kV [.int ((nI ((hmo B T key + k) % B))), .int ((nI (hmo B T key)))] 0 0 kc ks yoX8_isOf yvX8_isOf rfl (by decide) lX8_89 (by omega) mW_obj rfl rfl (Nat.le_of_ble_eq_true rfl) (Nat.le_of_ble_eq_true rfl) dX8_looksFor_57 (by omega) (by omega) (z_room (by omega) (Nat.le_refl _) (Nat.le_refl _) (r_isOf (d := 0) hb hV (mod_lt' okb) hhm ⟨rfl, ?_⟩))
    refine z_if_eq (tgt := 67) dX8_looksFor_60 (by decide) (fun czq60 => ?_) (fun czq60 => ?_)
    · refine z_iconst (v := 0) dX8_looksFor_67 (by decide) ?_
      refine z_iadd dX8_looksFor_68 ?_
      rw [show nI m0 + 0 = nI (if isO B T K ((hmo B T key + k) % B) (hmo B T key) = true then m0 + 1 else m0) from by rw [if_neg (bI_0.mp czq60)]; exact Int32.add_zero _]
      refine z_istore_n [1, 2, 3, 0, 4, 5] [(0, .ref b), (1, .int ((nI key))), (2, .int ((nI (hmo B T key)))), (3, .int ((nI (if isO B T K ((hmo B T key + k) % B) (hmo B T key) = true then m0 + 1 else m0)))), (4, .int ((nI k))), (5, .int ((nI ((hmo B T key + k) % B))))] dX8_looksFor_69 (by decide) rfl ?_
      refine z_aload_n (j := 0) dX8_looksFor_70 rfl ?_
      refine z_iload (j := 5) dX8_looksFor_71 rfl ?_
      refine z_kV [.int ((nI ((hmo B T key + k) % B)))] 0 0 kc ks yoX8_key yvX8_key rfl (by decide) lX8_71 (by omega) mW_obj rfl rfl (Nat.le_of_ble_eq_true rfl) (Nat.le_of_ble_eq_true rfl) dX8_looksFor_73 (by omega) (by omega) (z_room (by omega) (Nat.le_refl _) (Nat.le_refl _) (r_key (d := 0) hb hV (mod_lt' okb) ⟨rfl, ?_⟩))
      refine z_iload_n (j := 1) dX8_looksFor_76 rfl ?_
      refine z_icmp_ne (tgt := 82) dX8_looksFor_77 (by decide) (fun czq77 => ?_) (fun czq77 => ?_)
      · skip
        refine z_iinc ((nI (k + 1))) [1, 2, 3, 4, 0, 5] [(0, .ref b), (1, .int ((nI key))), (2, .int ((nI (hmo B T key)))), (3, .int ((nI (if isO B T K ((hmo B T key + k) % B) (hmo B T key) = true then m0 + 1 else m0)))), (4, .int ((nI (k + 1)))), (5, .int ((nI ((hmo B T key + k) % B))))] dX8_looksFor_82 (j := 4) rfl (nI_1 k) (by decide) rfl ?_
        refine z_goto (tgt := 32) dX8_looksFor_85 (by decide) ?_
        refine z_lv [(0, .ref b), (1, .int ((nI key))), (2, .int ((nI (hmo B T key)))), (3, .int ((nI (if isO B T K ((hmo B T key + k) % B) (hmo B T key) = true then m0 + 1 else m0)))), (4, .int ((nI (k + 1))))] [0, 1, 2, 3, 4] rfl ?_
        have hne : ¬ K ((hmo B T key + k) % B) = key + 1 := fun q => czq77 ((tkey_is (ekv _).1 hkey).mpr q)
        refine ih (k + 1) _ (by omega) ?_
        by_cases ho : isO B T K ((hmo B T key + k) % B) (hmo B T key) = true
        · rw [lokF, if_pos ho, if_neg hne] at hq
          rw [if_pos ho]
          exact hq
        · rw [lokF, if_neg ho] at hq
          rw [if_neg ho]
          exact hq
      · refine z_iload_n (j := 3) dX8_looksFor_80 rfl ?_
        exact z_iret rfl dX8_looksFor_81 (by
            have hK : K ((hmo B T key + k) % B) = key + 1 := (tkey_is (ekv _).1 hkey).mp czq77
            have ho := isO_of (B := B) (T := T) hK
            rw [lokF, if_pos ho, if_pos hK] at hq
            rw [if_pos ho]
            exact hq)
    · refine z_iconst (v := 1) dX8_looksFor_63 (by decide) ?_
      refine z_goto (tgt := 68) dX8_looksFor_64 (by decide) ?_
      refine z_iadd dX8_looksFor_68 ?_
      rw [show nI m0 + 1 = nI (if isO B T K ((hmo B T key + k) % B) (hmo B T key) = true then m0 + 1 else m0) from by rw [if_pos (bI_n.mp czq60)]; exact nI_1 _]
      refine z_istore_n [1, 2, 3, 0, 4, 5] [(0, .ref b), (1, .int ((nI key))), (2, .int ((nI (hmo B T key)))), (3, .int ((nI (if isO B T K ((hmo B T key + k) % B) (hmo B T key) = true then m0 + 1 else m0)))), (4, .int ((nI k))), (5, .int ((nI ((hmo B T key + k) % B))))] dX8_looksFor_69 (by decide) rfl ?_
      refine z_aload_n (j := 0) dX8_looksFor_70 rfl ?_
      refine z_iload (j := 5) dX8_looksFor_71 rfl ?_
      refine z_kV [.int ((nI ((hmo B T key + k) % B)))] 0 0 kc ks yoX8_key yvX8_key rfl (by decide) lX8_71 (by omega) mW_obj rfl rfl (Nat.le_of_ble_eq_true rfl) (Nat.le_of_ble_eq_true rfl) dX8_looksFor_73 (by omega) (by omega) (z_room (by omega) (Nat.le_refl _) (Nat.le_refl _) (r_key (d := 0) hb hV (mod_lt' okb) ⟨rfl, ?_⟩))
      refine z_iload_n (j := 1) dX8_looksFor_76 rfl ?_
      refine z_icmp_ne (tgt := 82) dX8_looksFor_77 (by decide) (fun czq77 => ?_) (fun czq77 => ?_)
      · skip
        refine z_iinc ((nI (k + 1))) [1, 2, 3, 4, 0, 5] [(0, .ref b), (1, .int ((nI key))), (2, .int ((nI (hmo B T key)))), (3, .int ((nI (if isO B T K ((hmo B T key + k) % B) (hmo B T key) = true then m0 + 1 else m0)))), (4, .int ((nI (k + 1)))), (5, .int ((nI ((hmo B T key + k) % B))))] dX8_looksFor_82 (j := 4) rfl (nI_1 k) (by decide) rfl ?_
        refine z_goto (tgt := 32) dX8_looksFor_85 (by decide) ?_
        refine z_lv [(0, .ref b), (1, .int ((nI key))), (2, .int ((nI (hmo B T key)))), (3, .int ((nI (if isO B T K ((hmo B T key + k) % B) (hmo B T key) = true then m0 + 1 else m0)))), (4, .int ((nI (k + 1))))] [0, 1, 2, 3, 4] rfl ?_
        have hne : ¬ K ((hmo B T key + k) % B) = key + 1 := fun q => czq77 ((tkey_is (ekv _).1 hkey).mpr q)
        refine ih (k + 1) _ (by omega) ?_
        by_cases ho : isO B T K ((hmo B T key + k) % B) (hmo B T key) = true
        · rw [lokF, if_pos ho, if_neg hne] at hq
          rw [if_pos ho]
          exact hq
        · rw [lokF, if_neg ho] at hq
          rw [if_neg ho]
          exact hq
      · refine z_iload_n (j := 3) dX8_looksFor_80 rfl ?_
        exact z_iret rfl dX8_looksFor_81 (by
            have hK : K ((hmo B T key + k) % B) = key + 1 := (tkey_is (ekv _).1 hkey).mp czq77
            have ho := isO_of (B := B) (T := T) hK
            rw [lokF, if_pos ho, if_pos hK] at hq
            rw [if_pos ho]
            exact hq)

set_option maxHeartbeats 4000000 in
set_option maxRecDepth 100000 in
theorem R_looksFor {l : zL} {d kc ks n b : Nat} {h : Nat → va_E} {s : Nat → Int32} {a : Nat → Nat → Int32} {g : zGs} {Q : zQ} {p : Int32} (hb : b + 14 ≤ n) (hM : mI g s a) (hq : ∀ t v g' s' a', f_looksFor g p = (t, v, g') → mI g' s' a' → s' 20 = t → Q (.inl (some (.int v))) n (mW h b s' a')) : Zj l mX8_looksFor (d + 12) kc ks 0 [(0, .ref b), (1, .int p)] [] n (mW h b s a) Q := by
  obtain ⟨⟨B, H, T, K, V, c⟩, sv, Sn, k, hi, L, x, ek, eo, rl, rb⟩ := g
  obtain ⟨hT, h11, hsv, hsn, hk8, h9, hhi, hL, h14, ha9, hx256, h16, h17, hrl, h19, ha11, hrb⟩ := id hM
  obtain ⟨hV, ⟨hI, hd3, h3⟩, e3⟩ := id hT
  obtain ⟨okb, h2H, hH6, h1T, hT99, e0, e1, e2, ek_, ev_, ekv, ez⟩ := id hV
  have hle := okb.le
  refine z_aload_n (j := 0) dX8_looksFor_0 rfl ?_
  refine z_iload_n (j := 1) dX8_looksFor_1 rfl ?_
  refine z_kS [.int p] 0 0 kc ks yoX8_isKey ysX8_isKey rfl (by decide) lX8_327 rfl (Nat.le_of_ble_eq_true rfl) (Nat.le_of_ble_eq_true rfl) dX8_looksFor_2 (by omega) (by omega) (z_room (by omega) (Nat.le_refl _) (Nat.le_refl _) (r_isKey (d := 0)  ⟨rfl, ?_⟩))
  refine z_if_ne (tgt := 12) dX8_looksFor_5 (by decide) (fun czq5 => ?_) (fun czq5 => ?_)
  · have ep := bI_n.mp czq5
    obtain ⟨key, hk1, hkey, rfl, hkx⟩ := iO_yes 0 9999 (by decide) (by decide) ep
    refine z_iconst (v := 0) dX8_looksFor_12 (by decide) ?_
    refine z_kV [.int 0] 0 0 kc ks yoX8_throwsOne yvX8_throwsOne rfl (by decide) lX8_315 (by omega) mW_obj rfl rfl (Nat.le_of_ble_eq_true rfl) (Nat.le_of_ble_eq_true rfl) dX8_looksFor_13 (by omega) (by omega) (z_room (by omega) (Nat.le_refl _) (Nat.le_refl _) (w_throws1_0 (d := 0) hb ⟨rfl, ?_⟩))
    refine z_if_eq (tgt := 21) dX8_looksFor_16 (by decide) (fun czq16 => ?_) (fun czq16 => absurd rfl czq16)
    refine z_aload_n (j := 0) dX8_looksFor_21 rfl ?_
    refine z_iload_n (j := 1) dX8_looksFor_22 rfl ?_
    refine z_kV [.int ((nI key))] 0 0 kc ks yoX8_home yvX8_home rfl (by decide) lX8_75 (by omega) mW_obj rfl rfl (Nat.le_of_ble_eq_true rfl) (Nat.le_of_ble_eq_true rfl) dX8_looksFor_23 (by omega) (by omega) (z_room (by omega) (Nat.le_refl _) (Nat.le_refl _) (r_home (d := 0) hb hV hkey ⟨rfl, ?_⟩))
    refine z_istore_n [1, 2, 0] [(0, .ref b), (1, .int ((nI key))), (2, .int ((nI (hmo B T key))))] dX8_looksFor_26 (by decide) rfl ?_
    refine z_iconst (v := 0) dX8_looksFor_27 (by decide) ?_
    refine z_istore_n [1, 2, 3, 0] [(0, .ref b), (1, .int ((nI key))), (2, .int ((nI (hmo B T key)))), (3, .int 0)] dX8_looksFor_28 (by decide) rfl ?_
    refine z_iconst (v := 0) dX8_looksFor_29 (by decide) ?_
    refine z_istore [1, 2, 3, 4, 0] [(0, .ref b), (1, .int ((nI key))), (2, .int ((nI (hmo B T key)))), (3, .int 0), (4, .int 0)] dX8_looksFor_30 (by decide) rfl ?_
    exact z_room (d' := d + 2) (by omega) (Nat.le_refl _) (Nat.le_refl _) (r_looks_l hb hV hkey H 0 0 (by omega) (hq 0 _ _ _ _ (by unfold f_looksFor; rw [if_pos ep, hkx]) hM.th (by rw [up_eq])))
  · refine z_iconst (v := 1) dX8_looksFor_8 (by decide) ?_
    refine z_goto (tgt := 13) dX8_looksFor_9 (by decide) ?_
    refine z_kV [.int 1] 0 0 kc ks yoX8_throwsOne yvX8_throwsOne rfl (by decide) lX8_315 (by omega) mW_obj rfl rfl (Nat.le_of_ble_eq_true rfl) (Nat.le_of_ble_eq_true rfl) dX8_looksFor_13 (by omega) (by omega) (z_room (by omega) (Nat.le_refl _) (Nat.le_refl _) (w_throws1_1 (d := 0) hb ⟨rfl, ?_⟩))
    refine z_if_eq (tgt := 21) dX8_looksFor_16 (by decide) (fun czq16 => absurd czq16 (by decide)) (fun czq16 => ?_)
    refine z_iconst (v := 0) dX8_looksFor_19 (by decide) ?_
    exact z_iret rfl dX8_looksFor_20 (hq 1 0 _ _ _ (by unfold f_looksFor; exact if_neg (bI_0.mp czq5)) hM.th (by rw [up_eq]))

set_option maxHeartbeats 4000000 in
set_option maxRecDepth 100000 in
theorem r_rank_l {l : zL} {d kc ks n b B H T : Nat} {h : Nat → va_E} {K V : Nat → Nat} {s : Nat → Int32} {a : Nat → Nat → Int32} {Q : zQ} {key : Nat} (hb : b + 14 ≤ n) (hV : mV B H T K V (a 0)) (hkey : key ≤ 9999) : ∀ m i, i + m = B → Q (.inl (some (.int (nI (sumN (belN K key) B))))) n (mW h b s a) → Zj l mX8_rank (d + 1) kc ks 25 [(0, .ref b), (1, .int ((nI key))), (2, .int ((nI (sumN (belN K key) i)))), (3, .int ((nI i)))] [] n (mW h b s a) Q := by
  obtain ⟨okb, h2H, hH6, h1T, hT99, e0, e1, e2, ek_, ev_, ekv, ez⟩ := id hV
  have hle := okb.le
  intro m
  induction m with
  | zero =>
    intro i hi hq
    refine z_iload_n (j := 3) dX8_rank_25 rfl ?_
    refine z_aload_n (j := 0) dX8_rank_26 rfl ?_
    refine z_get (v := .ref (b + 1)) (by omega) mW_obj fX8_7 rfl dX8_rank_27 ?_
    refine z_iconst (v := 0) dX8_rank_30 (by decide) ?_
    refine m_aldN 0 137 0 (by decide) rfl rfl hb rfl (by omega) (by decide) dX8_rank_31 ?_
    refine z_icmp_ge (tgt := 66) dX8_rank_32 (by decide) (fun czq32 => ?_) (fun czq32 => absurd (by rw [e0]; exact nI_le (by omega) (by omega)) czq32)
    refine z_iload_n (j := 2) dX8_rank_66 rfl ?_
    exact z_iret rfl dX8_rank_67 (by
        obtain rfl : i = B := by omega
        exact hq)
  | succ m ih =>
    intro i hi hq
    refine z_iload_n (j := 3) dX8_rank_25 rfl ?_
    refine z_aload_n (j := 0) dX8_rank_26 rfl ?_
    refine z_get (v := .ref (b + 1)) (by omega) mW_obj fX8_7 rfl dX8_rank_27 ?_
    refine z_iconst (v := 0) dX8_rank_30 (by decide) ?_
    refine m_aldN 0 137 0 (by decide) rfl rfl hb rfl (by omega) (by decide) dX8_rank_31 ?_
    refine z_icmp_ge (tgt := 66) dX8_rank_32 (by decide) (fun czq32 => absurd czq32 (by rw [e0]; exact nI_ge (by omega) (by omega))) (fun czq32 => ?_)
    refine z_iload_n (j := 2) dX8_rank_35 rfl ?_
    refine z_aload_n (j := 0) dX8_rank_36 rfl ?_
    refine z_iload_n (j := 3) dX8_rank_37 rfl ?_
    refine z_kV [.int ((nI i))] 0 0 kc ks yoX8_isFree yvX8_isFree rfl (by decide) lX8_82 (by omega) mW_obj rfl rfl (Nat.le_of_ble_eq_true rfl) (Nat.le_of_ble_eq_true rfl) dX8_rank_38 (by omega) (by omega) (z_room (by omega) (Nat.le_refl _) (Nat.le_refl _) (r_isFree (d := 0) hb hV (by omega) ⟨rfl, ?_⟩))
    refine z_if_ne (tgt := 57) dX8_rank_41 (by decide) (fun czq41 => ?_) (fun czq41 => ?_)
    · refine z_iconst (v := 0) dX8_rank_57 (by decide) ?_
      refine z_iadd dX8_rank_58 ?_
      have hb0 : belN K key i = 0 := if_neg (fun e => e.1 (bI_n.mp czq41))
      rw [show nI (sumN (belN K key) i) + 0 = nI (sumN (belN K key) (i + 1)) from by rw [sumN, hb0]; exact Int32.add_zero _]
      refine z_istore_n [1, 2, 0, 3] [(0, .ref b), (1, .int ((nI key))), (2, .int ((nI (sumN (belN K key) (i + 1))))), (3, .int ((nI i)))] dX8_rank_59 (by decide) rfl ?_
      skip
      refine z_iinc ((nI (i + 1))) [1, 2, 3, 0] [(0, .ref b), (1, .int ((nI key))), (2, .int ((nI (sumN (belN K key) (i + 1))))), (3, .int ((nI (i + 1))))] dX8_rank_60 (j := 3) rfl (nI_1 i) (by decide) rfl ?_
      refine z_goto (tgt := 25) dX8_rank_63 (by decide) ?_
      exact ih (i + 1) (by omega) hq
    · refine z_aload_n (j := 0) dX8_rank_44 rfl ?_
      refine z_iload_n (j := 3) dX8_rank_45 rfl ?_
      refine z_kV [.int ((nI i))] 0 0 kc ks yoX8_key yvX8_key rfl (by decide) lX8_71 (by omega) mW_obj rfl rfl (Nat.le_of_ble_eq_true rfl) (Nat.le_of_ble_eq_true rfl) dX8_rank_46 (by omega) (by omega) (z_room (by omega) (Nat.le_refl _) (Nat.le_refl _) (r_key (d := 0) hb hV (by omega) ⟨rfl, ?_⟩))
      refine z_iload_n (j := 1) dX8_rank_49 rfl ?_
      refine z_icmp_ge (tgt := 57) dX8_rank_50 (by decide) (fun czq50 => ?_) (fun czq50 => ?_)
      · refine z_iconst (v := 0) dX8_rank_57 (by decide) ?_
        refine z_iadd dX8_rank_58 ?_
        have hb0 : belN K key i = 0 := if_neg (fun e => by
          have := ekv i
          rw [tkey_ne (bI_0.mp czq41)] at czq50
          have := (nI_leI (by omega) (by omega)).mp czq50
          omega)
        rw [show nI (sumN (belN K key) i) + 0 = nI (sumN (belN K key) (i + 1)) from by rw [sumN, hb0]; exact Int32.add_zero _]
        refine z_istore_n [1, 2, 0, 3] [(0, .ref b), (1, .int ((nI key))), (2, .int ((nI (sumN (belN K key) (i + 1))))), (3, .int ((nI i)))] dX8_rank_59 (by decide) rfl ?_
        skip
        refine z_iinc ((nI (i + 1))) [1, 2, 3, 0] [(0, .ref b), (1, .int ((nI key))), (2, .int ((nI (sumN (belN K key) (i + 1))))), (3, .int ((nI (i + 1))))] dX8_rank_60 (j := 3) rfl (nI_1 i) (by decide) rfl ?_
        refine z_goto (tgt := 25) dX8_rank_63 (by decide) ?_
        exact ih (i + 1) (by omega) hq
      · refine z_iconst (v := 1) dX8_rank_53 (by decide) ?_
        refine z_goto (tgt := 58) dX8_rank_54 (by decide) ?_
        refine z_iadd dX8_rank_58 ?_
        have hb0 : belN K key i = 1 := if_pos ⟨bI_0.mp czq41, by
          have := ekv i
          rw [tkey_ne (bI_0.mp czq41)] at czq50
          by_cases h9 : K i < key + 1
          · exact h9
          · exact absurd (nI_le (show key ≤ K i - 1 by omega) (by omega)) czq50⟩
        rw [show nI (sumN (belN K key) i) + 1 = nI (sumN (belN K key) (i + 1)) from by rw [sumN, hb0]; exact nI_1 _]
        refine z_istore_n [1, 2, 0, 3] [(0, .ref b), (1, .int ((nI key))), (2, .int ((nI (sumN (belN K key) (i + 1))))), (3, .int ((nI i)))] dX8_rank_59 (by decide) rfl ?_
        skip
        refine z_iinc ((nI (i + 1))) [1, 2, 3, 0] [(0, .ref b), (1, .int ((nI key))), (2, .int ((nI (sumN (belN K key) (i + 1))))), (3, .int ((nI (i + 1))))] dX8_rank_60 (j := 3) rfl (nI_1 i) (by decide) rfl ?_
        refine z_goto (tgt := 25) dX8_rank_63 (by decide) ?_
        exact ih (i + 1) (by omega) hq

set_option maxHeartbeats 4000000 in
set_option maxRecDepth 100000 in
theorem R_rank {l : zL} {d kc ks n b : Nat} {h : Nat → va_E} {s : Nat → Int32} {a : Nat → Nat → Int32} {g : zGs} {Q : zQ} {p : Int32} (hb : b + 14 ≤ n) (hM : mI g s a) (hq : ∀ t v g' s' a', f_rank g p = (t, v, g') → mI g' s' a' → s' 20 = t → Q (.inl (some (.int v))) n (mW h b s' a')) : Zj l mX8_rank (d + 12) kc ks 0 [(0, .ref b), (1, .int p)] [] n (mW h b s a) Q := by
  obtain ⟨⟨B, H, T, K, V, c⟩, sv, Sn, k, hi, L, x, ek, eo, rl, rb⟩ := g
  obtain ⟨hT, h11, hsv, hsn, hk8, h9, hhi, hL, h14, ha9, hx256, h16, h17, hrl, h19, ha11, hrb⟩ := id hM
  obtain ⟨hV, ⟨hI, hd3, h3⟩, e3⟩ := id hT
  obtain ⟨okb, h2H, hH6, h1T, hT99, e0, e1, e2, ek_, ev_, ekv, ez⟩ := id hV
  have hle := okb.le
  refine z_aload_n (j := 0) dX8_rank_0 rfl ?_
  refine z_iload_n (j := 1) dX8_rank_1 rfl ?_
  refine z_kS [.int p] 0 0 kc ks yoX8_isKey ysX8_isKey rfl (by decide) lX8_327 rfl (Nat.le_of_ble_eq_true rfl) (Nat.le_of_ble_eq_true rfl) dX8_rank_2 (by omega) (by omega) (z_room (by omega) (Nat.le_refl _) (Nat.le_refl _) (r_isKey (d := 0)  ⟨rfl, ?_⟩))
  refine z_if_ne (tgt := 12) dX8_rank_5 (by decide) (fun czq5 => ?_) (fun czq5 => ?_)
  · have ep := bI_n.mp czq5
    obtain ⟨key, hk1, hkey, rfl, hkx⟩ := iO_yes 0 9999 (by decide) (by decide) ep
    refine z_iconst (v := 0) dX8_rank_12 (by decide) ?_
    refine z_kV [.int 0] 0 0 kc ks yoX8_throwsOne yvX8_throwsOne rfl (by decide) lX8_315 (by omega) mW_obj rfl rfl (Nat.le_of_ble_eq_true rfl) (Nat.le_of_ble_eq_true rfl) dX8_rank_13 (by omega) (by omega) (z_room (by omega) (Nat.le_refl _) (Nat.le_refl _) (w_throws1_0 (d := 0) hb ⟨rfl, ?_⟩))
    refine z_if_eq (tgt := 21) dX8_rank_16 (by decide) (fun czq16 => ?_) (fun czq16 => absurd rfl czq16)
    refine z_iconst (v := 0) dX8_rank_21 (by decide) ?_
    refine z_istore_n [1, 2, 0] [(0, .ref b), (1, .int ((nI key))), (2, .int 0)] dX8_rank_22 (by decide) rfl ?_
    refine z_iconst (v := 0) dX8_rank_23 (by decide) ?_
    refine z_istore_n [1, 2, 3, 0] [(0, .ref b), (1, .int ((nI key))), (2, .int 0), (3, .int 0)] dX8_rank_24 (by decide) rfl ?_
    exact z_room (d' := d + 1) (by omega) (Nat.le_refl _) (Nat.le_refl _) (r_rank_l hb hV hkey B 0 (by omega) (hq 0 _ _ _ _ (by unfold f_rank; rw [if_pos ep, hkx]) hM.th (by rw [up_eq])))
  · refine z_iconst (v := 1) dX8_rank_8 (by decide) ?_
    refine z_goto (tgt := 13) dX8_rank_9 (by decide) ?_
    refine z_kV [.int 1] 0 0 kc ks yoX8_throwsOne yvX8_throwsOne rfl (by decide) lX8_315 (by omega) mW_obj rfl rfl (Nat.le_of_ble_eq_true rfl) (Nat.le_of_ble_eq_true rfl) dX8_rank_13 (by omega) (by omega) (z_room (by omega) (Nat.le_refl _) (Nat.le_refl _) (w_throws1_1 (d := 0) hb ⟨rfl, ?_⟩))
    refine z_if_eq (tgt := 21) dX8_rank_16 (by decide) (fun czq16 => absurd czq16 (by decide)) (fun czq16 => ?_)
    refine z_iconst (v := 0) dX8_rank_19 (by decide) ?_
    exact z_iret rfl dX8_rank_20 (hq 1 0 _ _ _ (by unfold f_rank; exact if_neg (bI_0.mp czq5)) hM.th (by rw [up_eq]))

set_option maxHeartbeats 4000000 in
set_option maxRecDepth 100000 in
theorem r_longd_l {l : zL} {d kc ks n b B H T : Nat} {h : Nat → va_E} {K V : Nat → Nat} {s : Nat → Int32} {a : Nat → Nat → Int32} {Q : zQ} (hb : b + 14 ≤ n) (hV : mV B H T K V (a 0)) : ∀ m i, i + m = B → Q (.inl (some (.int (nI (maxN (offN B T K) B))))) n (mW h b s a) → Zj l mX8_longestDistance (d + 2) kc ks 9 [(0, .ref b), (1, .int ((nI (maxN (offN B T K) i)))), (2, .int ((nI i)))] [] n (mW h b s a) Q := by
  obtain ⟨okb, h2H, hH6, h1T, hT99, e0, e1, e2, ek_, ev_, ekv, ez⟩ := id hV
  have hle := okb.le
  intro m
  induction m with
  | zero =>
    intro i hi hq
    refine z_iload_n (j := 2) dX8_longestDistance_9 rfl ?_
    refine z_aload_n (j := 0) dX8_longestDistance_10 rfl ?_
    refine z_get (v := .ref (b + 1)) (by omega) mW_obj fX8_7 rfl dX8_longestDistance_11 ?_
    refine z_iconst (v := 0) dX8_longestDistance_14 (by decide) ?_
    refine m_aldN 0 137 0 (by decide) rfl rfl hb rfl (by omega) (by decide) dX8_longestDistance_15 ?_
    refine z_icmp_ge (tgt := 47) dX8_longestDistance_16 (by decide) (fun czq16 => ?_) (fun czq16 => absurd (by rw [e0]; exact nI_le (by omega) (by omega)) czq16)
    refine z_iload_n (j := 1) dX8_longestDistance_47 rfl ?_
    exact z_iret rfl dX8_longestDistance_48 (by
        obtain rfl : i = B := by omega
        exact hq)
  | succ m ih =>
    intro i hi hq
    refine z_iload_n (j := 2) dX8_longestDistance_9 rfl ?_
    refine z_aload_n (j := 0) dX8_longestDistance_10 rfl ?_
    refine z_get (v := .ref (b + 1)) (by omega) mW_obj fX8_7 rfl dX8_longestDistance_11 ?_
    refine z_iconst (v := 0) dX8_longestDistance_14 (by decide) ?_
    refine m_aldN 0 137 0 (by decide) rfl rfl hb rfl (by omega) (by decide) dX8_longestDistance_15 ?_
    refine z_icmp_ge (tgt := 47) dX8_longestDistance_16 (by decide) (fun czq16 => absurd czq16 (by rw [e0]; exact nI_ge (by omega) (by omega))) (fun czq16 => ?_)
    refine z_aload_n (j := 0) dX8_longestDistance_19 rfl ?_
    refine z_iload_n (j := 2) dX8_longestDistance_20 rfl ?_
    refine z_kV [.int ((nI i))] 0 0 kc ks yoX8_isFree yvX8_isFree rfl (by decide) lX8_82 (by omega) mW_obj rfl rfl (Nat.le_of_ble_eq_true rfl) (Nat.le_of_ble_eq_true rfl) dX8_longestDistance_21 (by omega) (by omega) (z_room (by omega) (Nat.le_refl _) (Nat.le_refl _) (r_isFree (d := 0) hb hV (by omega) ⟨rfl, ?_⟩))
    refine z_if_eq (tgt := 31) dX8_longestDistance_24 (by decide) (fun czq24 => ?_) (fun czq24 => ?_)
    · refine z_iload_n (j := 1) dX8_longestDistance_31 rfl ?_
      refine z_aload_n (j := 0) dX8_longestDistance_32 rfl ?_
      refine z_iload_n (j := 2) dX8_longestDistance_33 rfl ?_
      refine z_kV [.int ((nI i))] 0 0 kc ks yoX8_off yvX8_off rfl (by decide) lX8_93 (by omega) mW_obj rfl rfl (Nat.le_of_ble_eq_true rfl) (Nat.le_of_ble_eq_true rfl) dX8_longestDistance_34 (by omega) (by omega) (z_room (by omega) (Nat.le_refl _) (Nat.le_refl _) (r_off (d := 0) hb hV (by omega) (bI_0.mp czq24) ⟨rfl, ?_⟩))
      refine z_mmax lX8_355 mm_max1 mm_ini mm_max2 (Nat.le_of_ble_eq_true rfl) dX8_longestDistance_37 ?_
      rw [show (if nI (maxN (offN B T K) i) < nI (dst B T K i) then nI (dst B T K i) else nI (maxN (offN B T K) i)) = nI (maxN (offN B T K) (i + 1)) from by
        have h0 : offN B T K i = dst B T K i := if_neg (bI_0.mp czq24)
        have h1 := maxN_le (offN_le (T := T) (K := K) okb) i
        have h2 := offN_le (T := T) (K := K) okb i
        rw [maxN, h0, max_nI (by omega) (by omega)]]
      refine z_istore_n [1, 0, 2] [(0, .ref b), (1, .int ((nI (maxN (offN B T K) (i + 1))))), (2, .int ((nI i)))] dX8_longestDistance_40 (by decide) rfl ?_
      skip
      refine z_iinc ((nI (i + 1))) [1, 2, 0] [(0, .ref b), (1, .int ((nI (maxN (offN B T K) (i + 1))))), (2, .int ((nI (i + 1))))] dX8_longestDistance_41 (j := 2) rfl (nI_1 i) (by decide) rfl ?_
      refine z_goto (tgt := 9) dX8_longestDistance_44 (by decide) ?_
      exact ih (i + 1) (by omega) hq
    · refine z_iload_n (j := 1) dX8_longestDistance_27 rfl ?_
      refine z_goto (tgt := 40) dX8_longestDistance_28 (by decide) ?_
      rw [show nI (maxN (offN B T K) i) = nI (maxN (offN B T K) (i + 1)) from by
        have h0 : offN B T K i = 0 := if_pos (bI_n.mp czq24)
        rw [maxN, h0, if_neg (Nat.not_lt_zero _)]]
      refine z_istore_n [1, 0, 2] [(0, .ref b), (1, .int ((nI (maxN (offN B T K) (i + 1))))), (2, .int ((nI i)))] dX8_longestDistance_40 (by decide) rfl ?_
      skip
      refine z_iinc ((nI (i + 1))) [1, 2, 0] [(0, .ref b), (1, .int ((nI (maxN (offN B T K) (i + 1))))), (2, .int ((nI (i + 1))))] dX8_longestDistance_41 (j := 2) rfl (nI_1 i) (by decide) rfl ?_
      refine z_goto (tgt := 9) dX8_longestDistance_44 (by decide) ?_
      exact ih (i + 1) (by omega) hq

set_option maxHeartbeats 4000000 in
set_option maxRecDepth 100000 in
theorem R_longestDistance {l : zL} {d kc ks n b : Nat} {h : Nat → va_E} {s : Nat → Int32} {a : Nat → Nat → Int32} {g : zGs} {Q : zQ} (hb : b + 14 ≤ n) (hM : mI g s a) (hq : ∀ t v g' s' a', f_longestDistance g = (t, v, g') → mI g' s' a' → s' 20 = t → Q (.inl (some (.int v))) n (mW h b s' a')) : Zj l mX8_longestDistance (d + 12) kc ks 0 [(0, .ref b)] [] n (mW h b s a) Q := by
  obtain ⟨⟨B, H, T, K, V, c⟩, sv, Sn, k, hi, L, x, ek, eo, rl, rb⟩ := g
  obtain ⟨hT, h11, hsv, hsn, hk8, h9, hhi, hL, h14, ha9, hx256, h16, h17, hrl, h19, ha11, hrb⟩ := id hM
  obtain ⟨hV, ⟨hI, hd3, h3⟩, e3⟩ := id hT
  obtain ⟨okb, h2H, hH6, h1T, hT99, e0, e1, e2, ek_, ev_, ekv, ez⟩ := id hV
  have hle := okb.le
  refine z_aload_n (j := 0) dX8_longestDistance_0 rfl ?_
  refine z_iconst (v := 0) dX8_longestDistance_1 (by decide) ?_
  refine m_put (k := 20) (by omega) fX8_64 (by unfold mS; omega) (by decide) dX8_longestDistance_2 ?_
  refine z_iconst (v := 0) dX8_longestDistance_5 (by decide) ?_
  refine z_istore_n [1, 0] [(0, .ref b), (1, .int 0)] dX8_longestDistance_6 (by decide) rfl ?_
  refine z_iconst (v := 0) dX8_longestDistance_7 (by decide) ?_
  refine z_istore_n [1, 2, 0] [(0, .ref b), (1, .int 0), (2, .int 0)] dX8_longestDistance_8 (by decide) rfl ?_
  exact z_room (d' := d + 2) (by omega) (Nat.le_refl _) (Nat.le_refl _) (r_longd_l hb hV B 0 (by omega) (hq 0 _ _ _ _ rfl hM.th (by rw [up_eq])))

set_option maxHeartbeats 4000000 in
set_option maxRecDepth 100000 in
theorem r_full_l {l : zL} {d kc ks n b B H T : Nat} {h : Nat → va_E} {K V : Nat → Nat} {s : Nat → Int32} {a : Nat → Nat → Int32} {Q : zQ} (hb : b + 14 ≤ n) (hV : mV B H T K V (a 0)) (hI : inH B H T K) : ∀ m i (o : Option Nat) (w0 : Nat), i + m = B → (∀ f0, o = some f0 → f0 < B) → (∀ f0, o = some f0 → w0 = cntH B H T K f0) → w0 ≤ 6 → (o = none → w0 = 0) → Q (.inl (some (.int (optI (fulF (cntH B H T K) m i o w0))))) n (mW h b s a) → Zj l mX8_fullestHome (d + 3) kc ks 9 [(0, .ref b), (1, .int ((optI o))), (2, .int ((nI i)))] [] n (mW h b s a) Q := by
  obtain ⟨okb, h2H, hH6, h1T, hT99, e0, e1, e2, ek_, ev_, ekv, ez⟩ := id hV
  have hle := okb.le
  intro m
  induction m with
  | zero =>
    intro i o w0 hi hob hw hw6 hn0 hq
    refine z_iload_n (j := 2) dX8_fullestHome_9 rfl ?_
    refine z_aload_n (j := 0) dX8_fullestHome_10 rfl ?_
    refine z_get (v := .ref (b + 1)) (by omega) mW_obj fX8_7 rfl dX8_fullestHome_11 ?_
    refine z_iconst (v := 0) dX8_fullestHome_14 (by decide) ?_
    refine m_aldN 0 137 0 (by decide) rfl rfl hb rfl (by omega) (by decide) dX8_fullestHome_15 ?_
    refine z_icmp_ge (tgt := 49) dX8_fullestHome_16 (by decide) (fun czq16 => ?_) (fun czq16 => absurd (by rw [e0]; exact nI_le (by omega) (by omega)) czq16)
    refine z_iload_n (j := 1) dX8_fullestHome_49 rfl ?_
    exact z_iret rfl dX8_fullestHome_50 (hq)
  | succ m ih =>
    intro i o w0 hi hob hw hw6 hn0 hq
    cases o with
    | none =>
      refine z_iload_n (j := 2) dX8_fullestHome_9 rfl ?_
      refine z_aload_n (j := 0) dX8_fullestHome_10 rfl ?_
      refine z_get (v := .ref (b + 1)) (by omega) mW_obj fX8_7 rfl dX8_fullestHome_11 ?_
      refine z_iconst (v := 0) dX8_fullestHome_14 (by decide) ?_
      refine m_aldN 0 137 0 (by decide) rfl rfl hb rfl (by omega) (by decide) dX8_fullestHome_15 ?_
      refine z_icmp_ge (tgt := 49) dX8_fullestHome_16 (by decide) (fun czq16 => absurd czq16 (by rw [e0]; exact nI_ge (by omega) (by omega))) (fun czq16 => ?_)
      refine z_aload_n (j := 0) dX8_fullestHome_19 rfl ?_
      refine z_iload_n (j := 2) dX8_fullestHome_20 rfl ?_
      refine z_kV [.int ((nI i))] 0 0 kc ks yoX8_manyOf yvX8_manyOf rfl (by decide) lX8_352 (by omega) mW_obj rfl rfl (Nat.le_of_ble_eq_true rfl) (Nat.le_of_ble_eq_true rfl) dX8_fullestHome_21 (by omega) (by omega) (z_room (by omega) (Nat.le_refl _) (Nat.le_refl _) (r_manyOf (d := 0) hb hV (show i < B by omega) ⟨rfl, ?_⟩))
      refine z_iload_n (j := 1) dX8_fullestHome_24 rfl ?_
      refine z_iconst (v := (-1)) dX8_fullestHome_25 (by decide) ?_
      refine z_icmp_ne (tgt := 33) dX8_fullestHome_26 (by decide) (fun czq26 => absurd rfl czq26) (fun czq26 => ?_)
      refine z_iconst (v := 0) dX8_fullestHome_29 (by decide) ?_
      refine z_goto (tgt := 38) dX8_fullestHome_30 (by decide) ?_
      refine z_icmp_le (tgt := 43) dX8_fullestHome_38 (by decide) (fun czq38 => ?_) (fun czq38 => ?_)
      · skip
        refine z_iinc ((nI (i + 1))) [1, 2, 0] [(0, .ref b), (1, .int ((-1))), (2, .int ((nI (i + 1))))] dX8_fullestHome_43 (j := 2) rfl (nI_1 i) (by decide) rfl ?_
        refine z_goto (tgt := 9) dX8_fullestHome_46 (by decide) ?_
        have hmi := manN_cntH okb hH6 hI (show i < B by omega)
        have hci := cntH_le (B := B) (H := H) (T := T) (K := K) (i := i) hH6
        rw [hmi] at czq38
        have hlt : ¬ w0 < cntH B H T K i := by
          intro q
          exact nI_ge (show w0 < cntH B H T K i from q) (by omega) (by rw [hn0 rfl]; exact czq38)
        rw [fulF, if_neg hlt] at hq
        exact ih (i + 1) _ w0 (by omega) hob hw hw6 hn0 hq
      · refine z_iload_n (j := 2) dX8_fullestHome_41 rfl ?_
        refine z_istore_n [1, 0, 2] [(0, .ref b), (1, .int ((nI i))), (2, .int ((nI i)))] dX8_fullestHome_42 (by decide) rfl ?_
        skip
        refine z_iinc ((nI (i + 1))) [1, 2, 0] [(0, .ref b), (1, .int ((nI i))), (2, .int ((nI (i + 1))))] dX8_fullestHome_43 (j := 2) rfl (nI_1 i) (by decide) rfl ?_
        refine z_goto (tgt := 9) dX8_fullestHome_46 (by decide) ?_
        have hmi := manN_cntH okb hH6 hI (show i < B by omega)
        have hci := cntH_le (B := B) (H := H) (T := T) (K := K) (i := i) hH6
        rw [hmi] at czq38
        have hlt : w0 < cntH B H T K i := by
          by_cases h9 : w0 < cntH B H T K i
          · exact h9
          · exact absurd (nI_le (show cntH B H T K i ≤ 0 by have := hn0 rfl; omega) (by decide)) czq38
        rw [fulF, if_pos hlt] at hq
        exact ih (i + 1) (some i) _ (by omega) (fun f1 e => by cases e; omega) (fun f1 e => by cases e; rfl) hci (fun e => by cases e) hq
    | some f0 =>
      refine z_iload_n (j := 2) dX8_fullestHome_9 rfl ?_
      refine z_aload_n (j := 0) dX8_fullestHome_10 rfl ?_
      refine z_get (v := .ref (b + 1)) (by omega) mW_obj fX8_7 rfl dX8_fullestHome_11 ?_
      refine z_iconst (v := 0) dX8_fullestHome_14 (by decide) ?_
      refine m_aldN 0 137 0 (by decide) rfl rfl hb rfl (by omega) (by decide) dX8_fullestHome_15 ?_
      refine z_icmp_ge (tgt := 49) dX8_fullestHome_16 (by decide) (fun czq16 => absurd czq16 (by rw [e0]; exact nI_ge (by omega) (by omega))) (fun czq16 => ?_)
      refine z_aload_n (j := 0) dX8_fullestHome_19 rfl ?_
      refine z_iload_n (j := 2) dX8_fullestHome_20 rfl ?_
      refine z_kV [.int ((nI i))] 0 0 kc ks yoX8_manyOf yvX8_manyOf rfl (by decide) lX8_352 (by omega) mW_obj rfl rfl (Nat.le_of_ble_eq_true rfl) (Nat.le_of_ble_eq_true rfl) dX8_fullestHome_21 (by omega) (by omega) (z_room (by omega) (Nat.le_refl _) (Nat.le_refl _) (r_manyOf (d := 0) hb hV (show i < B by omega) ⟨rfl, ?_⟩))
      refine z_iload_n (j := 1) dX8_fullestHome_24 rfl ?_
      refine z_iconst (v := (-1)) dX8_fullestHome_25 (by decide) ?_
      refine z_icmp_ne (tgt := 33) dX8_fullestHome_26 (by decide) (fun czq26 => ?_) (fun czq26 => absurd czq26 (nI_neg1 (by have := hob f0 rfl; omega)))
      refine z_aload_n (j := 0) dX8_fullestHome_33 rfl ?_
      refine z_iload_n (j := 1) dX8_fullestHome_34 rfl ?_
      refine z_kV [.int ((nI f0))] 0 0 kc ks yoX8_manyOf yvX8_manyOf rfl (by decide) lX8_352 (by omega) mW_obj rfl rfl (Nat.le_of_ble_eq_true rfl) (Nat.le_of_ble_eq_true rfl) dX8_fullestHome_35 (by omega) (by omega) (z_room (by omega) (Nat.le_refl _) (Nat.le_refl _) (r_manyOf (d := 0) hb hV (hob f0 rfl) ⟨rfl, ?_⟩))
      refine z_icmp_le (tgt := 43) dX8_fullestHome_38 (by decide) (fun czq38 => ?_) (fun czq38 => ?_)
      · skip
        refine z_iinc ((nI (i + 1))) [1, 2, 0] [(0, .ref b), (1, .int ((nI f0))), (2, .int ((nI (i + 1))))] dX8_fullestHome_43 (j := 2) rfl (nI_1 i) (by decide) rfl ?_
        refine z_goto (tgt := 9) dX8_fullestHome_46 (by decide) ?_
        have hmi := manN_cntH okb hH6 hI (show i < B by omega)
        have hci := cntH_le (B := B) (H := H) (T := T) (K := K) (i := i) hH6
        rw [hmi, manN_cntH okb hH6 hI (hob _ rfl)] at czq38
        have hw9 : w0 = cntH B H T K f0 := hw f0 rfl
        have hlt : ¬ w0 < cntH B H T K i := by
          intro q
          exact nI_ge (show w0 < cntH B H T K i from q) (by omega) (by rw [hw9]; exact czq38)
        rw [fulF, if_neg hlt] at hq
        exact ih (i + 1) _ w0 (by omega) hob hw hw6 hn0 hq
      · refine z_iload_n (j := 2) dX8_fullestHome_41 rfl ?_
        refine z_istore_n [1, 0, 2] [(0, .ref b), (1, .int ((nI i))), (2, .int ((nI i)))] dX8_fullestHome_42 (by decide) rfl ?_
        skip
        refine z_iinc ((nI (i + 1))) [1, 2, 0] [(0, .ref b), (1, .int ((nI i))), (2, .int ((nI (i + 1))))] dX8_fullestHome_43 (j := 2) rfl (nI_1 i) (by decide) rfl ?_
        refine z_goto (tgt := 9) dX8_fullestHome_46 (by decide) ?_
        have hmi := manN_cntH okb hH6 hI (show i < B by omega)
        have hci := cntH_le (B := B) (H := H) (T := T) (K := K) (i := i) hH6
        rw [hmi, manN_cntH okb hH6 hI (hob _ rfl)] at czq38
        have hw9 : w0 = cntH B H T K f0 := hw f0 rfl
        have hlt : w0 < cntH B H T K i := by
          by_cases h9 : w0 < cntH B H T K i
          · exact h9
          · exact absurd (by rw [← hw9]; exact nI_le (show cntH B H T K i ≤ w0 by omega) (by omega)) czq38
        rw [fulF, if_pos hlt] at hq
        exact ih (i + 1) (some i) _ (by omega) (fun f1 e => by cases e; omega) (fun f1 e => by cases e; rfl) hci (fun e => by cases e) hq

set_option maxHeartbeats 4000000 in
set_option maxRecDepth 100000 in
theorem R_fullestHome {l : zL} {d kc ks n b : Nat} {h : Nat → va_E} {s : Nat → Int32} {a : Nat → Nat → Int32} {g : zGs} {Q : zQ} (hb : b + 14 ≤ n) (hM : mI g s a) (hq : ∀ t v g' s' a', f_fullestHome g = (t, v, g') → mI g' s' a' → s' 20 = t → Q (.inl (some (.int v))) n (mW h b s' a')) : Zj l mX8_fullestHome (d + 12) kc ks 0 [(0, .ref b)] [] n (mW h b s a) Q := by
  obtain ⟨⟨B, H, T, K, V, c⟩, sv, Sn, k, hi, L, x, ek, eo, rl, rb⟩ := g
  obtain ⟨hT, h11, hsv, hsn, hk8, h9, hhi, hL, h14, ha9, hx256, h16, h17, hrl, h19, ha11, hrb⟩ := id hM
  obtain ⟨hV, ⟨hI, hd3, h3⟩, e3⟩ := id hT
  obtain ⟨okb, h2H, hH6, h1T, hT99, e0, e1, e2, ek_, ev_, ekv, ez⟩ := id hV
  have hle := okb.le
  refine z_aload_n (j := 0) dX8_fullestHome_0 rfl ?_
  refine z_iconst (v := 0) dX8_fullestHome_1 (by decide) ?_
  refine m_put (k := 20) (by omega) fX8_64 (by unfold mS; omega) (by decide) dX8_fullestHome_2 ?_
  refine z_iconst (v := (-1)) dX8_fullestHome_5 (by decide) ?_
  refine z_istore_n [1, 0] [(0, .ref b), (1, .int ((-1)))] dX8_fullestHome_6 (by decide) rfl ?_
  refine z_iconst (v := 0) dX8_fullestHome_7 (by decide) ?_
  refine z_istore_n [1, 2, 0] [(0, .ref b), (1, .int ((-1))), (2, .int 0)] dX8_fullestHome_8 (by decide) rfl ?_
  exact z_room (d' := d + 3) (by omega) (Nat.le_refl _) (Nat.le_refl _) (r_full_l hb hV hI B 0 none 0 (by omega) (fun f0 e => by cases e) (fun f0 e => by cases e) (by omega) (fun _ => rfl) (hq 0 _ _ _ _ rfl hM.th (by rw [up_eq])))

set_option maxHeartbeats 4000000 in
set_option maxRecDepth 100000 in
theorem r_run_l {l : zL} {d kc ks n b B H T : Nat} {h : Nat → va_E} {K V : Nat → Nat} {s : Nat → Int32} {a : Nat → Nat → Int32} {c : Nat → Int32} {Q : zQ} (hb : b + 14 ≤ n) (hV : mV B H T K V (a 0)) : ∀ m i, i + m = 2 * B → Q (.inl (some (.int (nI (sRun (B, H, T, K, V, c)))))) n (mW h b s a) → Zj l mX8_longestRun (d + 1) kc ks 11 [(0, .ref b), (1, .int ((nI (maxN (fun j => runN B K (j + 1)) i)))), (2, .int ((nI (runN B K i)))), (3, .int ((nI i)))] [] n (mW h b s a) Q := by
  obtain ⟨okb, h2H, hH6, h1T, hT99, e0, e1, e2, ek_, ev_, ekv, ez⟩ := id hV
  have hle := okb.le
  have e2B : 2 * a 0 0 = nI (2 * B) := by rw [e0, show (2 : Int32) = nI 2 from rfl, pk_mul]
  intro m
  induction m with
  | zero =>
    intro i hi hq
    refine z_iload_n (j := 3) dX8_longestRun_11 rfl ?_
    refine z_iconst (v := 2) dX8_longestRun_12 (by decide) ?_
    refine z_aload_n (j := 0) dX8_longestRun_13 rfl ?_
    refine z_get (v := .ref (b + 1)) (by omega) mW_obj fX8_7 rfl dX8_longestRun_14 ?_
    refine z_iconst (v := 0) dX8_longestRun_17 (by decide) ?_
    refine m_aldN 0 137 0 (by decide) rfl rfl hb rfl (by omega) (by decide) dX8_longestRun_18 ?_
    refine z_imul dX8_longestRun_19 ?_
    refine z_icmp_ge (tgt := 58) dX8_longestRun_20 (by decide) (fun czq20 => ?_) (fun czq20 => absurd (by rw [e2B]; exact nI_le (by omega) (by omega)) czq20)
    refine z_iload_n (j := 1) dX8_longestRun_58 rfl ?_
    refine z_aload_n (j := 0) dX8_longestRun_59 rfl ?_
    refine z_get (v := .ref (b + 1)) (by omega) mW_obj fX8_7 rfl dX8_longestRun_60 ?_
    refine z_iconst (v := 0) dX8_longestRun_63 (by decide) ?_
    refine m_aldN 0 137 0 (by decide) rfl rfl hb rfl (by omega) (by decide) dX8_longestRun_64 ?_
    obtain rfl : i = 2 * B := by omega
    have hmx := max_run (B := B) (K := K) (2 * B)
    refine z_mmin lX8_207 mm_min1 mm_ini mm_min2 (Nat.le_of_ble_eq_true rfl) dX8_longestRun_65 ?_
    rw [show (if a 0 0 < nI (maxN (fun j => runN B K (j + 1)) (2 * B)) then a 0 0 else nI (maxN (fun j => runN B K (j + 1)) (2 * B))) = nI (sRun (B, H, T, K, V, c)) from by rw [e0, min_nI (show B < 2 ^ 31 by omega) (by omega)]; rfl]
    exact z_iret rfl dX8_longestRun_68 (hq)
  | succ m ih =>
    intro i hi hq
    refine z_iload_n (j := 3) dX8_longestRun_11 rfl ?_
    refine z_iconst (v := 2) dX8_longestRun_12 (by decide) ?_
    refine z_aload_n (j := 0) dX8_longestRun_13 rfl ?_
    refine z_get (v := .ref (b + 1)) (by omega) mW_obj fX8_7 rfl dX8_longestRun_14 ?_
    refine z_iconst (v := 0) dX8_longestRun_17 (by decide) ?_
    refine m_aldN 0 137 0 (by decide) rfl rfl hb rfl (by omega) (by decide) dX8_longestRun_18 ?_
    refine z_imul dX8_longestRun_19 ?_
    refine z_icmp_ge (tgt := 58) dX8_longestRun_20 (by decide) (fun czq20 => absurd czq20 (by rw [e2B]; exact nI_ge (by omega) (by omega))) (fun czq20 => ?_)
    refine z_aload_n (j := 0) dX8_longestRun_23 rfl ?_
    refine z_iload_n (j := 3) dX8_longestRun_24 rfl ?_
    refine z_aload_n (j := 0) dX8_longestRun_25 rfl ?_
    refine z_get (v := .ref (b + 1)) (by omega) mW_obj fX8_7 rfl dX8_longestRun_26 ?_
    refine z_iconst (v := 0) dX8_longestRun_29 (by decide) ?_
    refine m_aldN 0 137 0 (by decide) rfl rfl hb rfl (by omega) (by decide) dX8_longestRun_30 ?_
    refine z_irem (by rw [e0]; exact nI_ne0 (by omega) (by omega)) dX8_longestRun_31 ?_
    rw [show ((nI i) - (nI i) / (a 0 0) * (a 0 0)) = (nI (i % B)) from by rw [e0, pk_rem (by omega) (by omega) (by omega)]]
    refine z_kV [.int ((nI (i % B)))] 0 0 kc ks yoX8_isFree yvX8_isFree rfl (by decide) lX8_82 (by omega) mW_obj rfl rfl (Nat.le_of_ble_eq_true rfl) (Nat.le_of_ble_eq_true rfl) dX8_longestRun_32 (by omega) (by omega) (z_room (by omega) (Nat.le_refl _) (Nat.le_refl _) (r_isFree (d := 0) hb hV (mod_lt' okb) ⟨rfl, ?_⟩))
    refine z_if_eq (tgt := 42) dX8_longestRun_35 (by decide) (fun czq35 => ?_) (fun czq35 => ?_)
    · refine z_iload_n (j := 2) dX8_longestRun_42 rfl ?_
      refine z_iconst (v := 1) dX8_longestRun_43 (by decide) ?_
      refine z_iadd dX8_longestRun_44 ?_
      rw [show nI (runN B K i) + 1 = nI (runN B K (i + 1)) from by rw [runN, if_neg (bI_0.mp czq35)]; exact nI_1 _]
      refine z_istore_n [1, 2, 0, 3] [(0, .ref b), (1, .int ((nI (maxN (fun j => runN B K (j + 1)) i)))), (2, .int ((nI (runN B K (i + 1))))), (3, .int ((nI i)))] dX8_longestRun_45 (by decide) rfl ?_
      refine z_iload_n (j := 1) dX8_longestRun_46 rfl ?_
      refine z_iload_n (j := 2) dX8_longestRun_47 rfl ?_
      refine z_mmax lX8_355 mm_max1 mm_ini mm_max2 (Nat.le_of_ble_eq_true rfl) dX8_longestRun_48 ?_
      have hmx := max_run (B := B) (K := K) i
      have hrn := runN_le (B := B) (K := K) (i + 1)
      rw [max_nI (show (maxN (fun j => runN B K (j + 1)) i) < 2 ^ 31 by omega) (show runN B K (i + 1) < 2 ^ 31 by omega)]
      refine z_istore_n [1, 0, 2, 3] [(0, .ref b), (1, .int ((nI (maxN (fun j => runN B K (j + 1)) (i + 1))))), (2, .int ((nI (runN B K (i + 1))))), (3, .int ((nI i)))] dX8_longestRun_51 (by decide) rfl ?_
      skip
      refine z_iinc ((nI (i + 1))) [1, 2, 3, 0] [(0, .ref b), (1, .int ((nI (maxN (fun j => runN B K (j + 1)) (i + 1))))), (2, .int ((nI (runN B K (i + 1))))), (3, .int ((nI (i + 1))))] dX8_longestRun_52 (j := 3) rfl (nI_1 i) (by decide) rfl ?_
      refine z_goto (tgt := 11) dX8_longestRun_55 (by decide) ?_
      exact ih (i + 1) (by omega) hq
    · refine z_iconst (v := 0) dX8_longestRun_38 (by decide) ?_
      refine z_goto (tgt := 45) dX8_longestRun_39 (by decide) ?_
      rw [show (0 : Int32) = nI (runN B K (i + 1)) from by rw [runN, if_pos (bI_n.mp czq35)]; rfl]
      refine z_istore_n [1, 2, 0, 3] [(0, .ref b), (1, .int ((nI (maxN (fun j => runN B K (j + 1)) i)))), (2, .int ((nI (runN B K (i + 1))))), (3, .int ((nI i)))] dX8_longestRun_45 (by decide) rfl ?_
      refine z_iload_n (j := 1) dX8_longestRun_46 rfl ?_
      refine z_iload_n (j := 2) dX8_longestRun_47 rfl ?_
      refine z_mmax lX8_355 mm_max1 mm_ini mm_max2 (Nat.le_of_ble_eq_true rfl) dX8_longestRun_48 ?_
      have hmx := max_run (B := B) (K := K) i
      have hrn := runN_le (B := B) (K := K) (i + 1)
      rw [max_nI (show (maxN (fun j => runN B K (j + 1)) i) < 2 ^ 31 by omega) (show runN B K (i + 1) < 2 ^ 31 by omega)]
      refine z_istore_n [1, 0, 2, 3] [(0, .ref b), (1, .int ((nI (maxN (fun j => runN B K (j + 1)) (i + 1))))), (2, .int ((nI (runN B K (i + 1))))), (3, .int ((nI i)))] dX8_longestRun_51 (by decide) rfl ?_
      skip
      refine z_iinc ((nI (i + 1))) [1, 2, 3, 0] [(0, .ref b), (1, .int ((nI (maxN (fun j => runN B K (j + 1)) (i + 1))))), (2, .int ((nI (runN B K (i + 1))))), (3, .int ((nI (i + 1))))] dX8_longestRun_52 (j := 3) rfl (nI_1 i) (by decide) rfl ?_
      refine z_goto (tgt := 11) dX8_longestRun_55 (by decide) ?_
      exact ih (i + 1) (by omega) hq

set_option maxHeartbeats 4000000 in
set_option maxRecDepth 100000 in
theorem R_longestRun {l : zL} {d kc ks n b : Nat} {h : Nat → va_E} {s : Nat → Int32} {a : Nat → Nat → Int32} {g : zGs} {Q : zQ} (hb : b + 14 ≤ n) (hM : mI g s a) (hq : ∀ t v g' s' a', f_longestRun g = (t, v, g') → mI g' s' a' → s' 20 = t → Q (.inl (some (.int v))) n (mW h b s' a')) : Zj l mX8_longestRun (d + 12) kc ks 0 [(0, .ref b)] [] n (mW h b s a) Q := by
  obtain ⟨⟨B, H, T, K, V, c⟩, sv, Sn, k, hi, L, x, ek, eo, rl, rb⟩ := g
  obtain ⟨hT, h11, hsv, hsn, hk8, h9, hhi, hL, h14, ha9, hx256, h16, h17, hrl, h19, ha11, hrb⟩ := id hM
  obtain ⟨hV, ⟨hI, hd3, h3⟩, e3⟩ := id hT
  obtain ⟨okb, h2H, hH6, h1T, hT99, e0, e1, e2, ek_, ev_, ekv, ez⟩ := id hV
  have hle := okb.le
  refine z_aload_n (j := 0) dX8_longestRun_0 rfl ?_
  refine z_iconst (v := 0) dX8_longestRun_1 (by decide) ?_
  refine m_put (k := 20) (by omega) fX8_64 (by unfold mS; omega) (by decide) dX8_longestRun_2 ?_
  refine z_iconst (v := 0) dX8_longestRun_5 (by decide) ?_
  refine z_istore_n [1, 0] [(0, .ref b), (1, .int 0)] dX8_longestRun_6 (by decide) rfl ?_
  refine z_iconst (v := 0) dX8_longestRun_7 (by decide) ?_
  refine z_istore_n [1, 2, 0] [(0, .ref b), (1, .int 0), (2, .int 0)] dX8_longestRun_8 (by decide) rfl ?_
  refine z_iconst (v := 0) dX8_longestRun_9 (by decide) ?_
  refine z_istore_n [1, 2, 3, 0] [(0, .ref b), (1, .int 0), (2, .int 0), (3, .int 0)] dX8_longestRun_10 (by decide) rfl ?_
  exact z_room (d' := d + 1) (by omega) (Nat.le_refl _) (Nat.le_refl _) (r_run_l (c := c) hb hV (2 * B) 0 (by omega) (hq 0 _ _ _ _ rfl hM.th (by rw [up_eq])))

set_option maxHeartbeats 4000000 in
set_option maxRecDepth 100000 in
theorem r_viol_l {l : zL} {d kc ks n b B H T : Nat} {h : Nat → va_E} {K V : Nat → Nat} {s : Nat → Int32} {a : Nat → Nat → Int32} {x0 ga : Int32} {Q : zQ} (hb : b + 14 ≤ n) (hV : mV B H T K V (a 0)) : ∀ m i, i + m = B → Q (.inl (some (.int (ga + nI (sumN (strN B H T K) B) + nI (sumN (fun i => sumN (twN K i) i) B))))) n (mW h b s a) → Zj l mX8_violations (d + 2) kc ks 39 [(0, .ref b), (1, .int x0), (2, .int ((ga + nI (sumN (strN B H T K) i) + nI (sumN (fun i => sumN (twN K i) i) i)))), (3, .int ((nI i)))] [] n (mW h b s a) Q := by
  obtain ⟨okb, h2H, hH6, h1T, hT99, e0, e1, e2, ek_, ev_, ekv, ez⟩ := id hV
  have hle := okb.le
  intro m
  induction m with
  | zero =>
    intro i hi hq
    refine z_iload_n (j := 3) dX8_violations_39 rfl ?_
    refine z_aload_n (j := 0) dX8_violations_40 rfl ?_
    refine z_get (v := .ref (b + 1)) (by omega) mW_obj fX8_7 rfl dX8_violations_41 ?_
    refine z_iconst (v := 0) dX8_violations_44 (by decide) ?_
    refine m_aldN 0 137 0 (by decide) rfl rfl hb rfl (by omega) (by decide) dX8_violations_45 ?_
    refine z_icmp_ge (tgt := 93) dX8_violations_46 (by decide) (fun czq46 => ?_) (fun czq46 => absurd (by rw [e0]; exact nI_le (by omega) (by omega)) czq46)
    refine z_iload_n (j := 2) dX8_violations_93 rfl ?_
    exact z_iret rfl dX8_violations_94 (by
        obtain rfl : i = B := by omega
        exact hq)
  | succ m ih =>
    intro i hi hq
    refine z_iload_n (j := 3) dX8_violations_39 rfl ?_
    refine z_aload_n (j := 0) dX8_violations_40 rfl ?_
    refine z_get (v := .ref (b + 1)) (by omega) mW_obj fX8_7 rfl dX8_violations_41 ?_
    refine z_iconst (v := 0) dX8_violations_44 (by decide) ?_
    refine m_aldN 0 137 0 (by decide) rfl rfl hb rfl (by omega) (by decide) dX8_violations_45 ?_
    refine z_icmp_ge (tgt := 93) dX8_violations_46 (by decide) (fun czq46 => absurd czq46 (by rw [e0]; exact nI_ge (by omega) (by omega))) (fun czq46 => ?_)
    refine z_iload_n (j := 2) dX8_violations_49 rfl ?_
    refine z_aload_n (j := 0) dX8_violations_50 rfl ?_
    refine z_iload_n (j := 3) dX8_violations_51 rfl ?_
    refine z_kV [.int ((nI i))] 0 0 kc ks yoX8_isFree yvX8_isFree rfl (by decide) lX8_82 (by omega) mW_obj rfl rfl (Nat.le_of_ble_eq_true rfl) (Nat.le_of_ble_eq_true rfl) dX8_violations_52 (by omega) (by omega) (z_room (by omega) (Nat.le_refl _) (Nat.le_refl _) (r_isFree (d := 0) hb hV (by omega) ⟨rfl, ?_⟩))
    refine z_if_ne (tgt := 72) dX8_violations_55 (by decide) (fun czq55 => ?_) (fun czq55 => ?_)
    · refine z_iconst (v := 0) dX8_violations_72 (by decide) ?_
      refine z_goto (tgt := 77) dX8_violations_73 (by decide) ?_
      refine z_iadd dX8_violations_77 ?_
      have hdl := dst_lt (T := T) (K := K) (i := i) okb
      have hb0 : strN B H T K i = 0 := if_neg (fun e => e.1 (bI_n.mp czq55))
      rw [show ((ga + nI (sumN (strN B H T K) i) + nI (sumN (fun i => sumN (twN K i) i) i)) + 0) = ga + nI (sumN (strN B H T K) (i + 1)) + nI (sumN (fun i => sumN (twN K i) i) i) from by
        rw [sumN, hb0, ← nI_add, show nI 0 = 0 from rfl]
        simp only [Int32.add_assoc, Int32.add_comm, i32_lc]]
      refine z_istore_n [1, 2, 0, 3] [(0, .ref b), (1, .int x0), (2, .int ((ga + nI (sumN (strN B H T K) (i + 1)) + nI (sumN (fun i => sumN (twN K i) i) i)))), (3, .int ((nI i)))] dX8_violations_78 (by decide) rfl ?_
      refine z_iload_n (j := 2) dX8_violations_79 rfl ?_
      refine z_aload_n (j := 0) dX8_violations_80 rfl ?_
      refine z_iload_n (j := 3) dX8_violations_81 rfl ?_
      refine z_kV [.int ((nI i))] 0 0 kc ks yoX8_doublesOf yvX8_doublesOf rfl (by decide) lX8_367 (by omega) mW_obj rfl rfl (Nat.le_of_ble_eq_true rfl) (Nat.le_of_ble_eq_true rfl) dX8_violations_82 (by omega) (by omega) (z_room (by omega) (Nat.le_refl _) (Nat.le_refl _) (r_doublesOf (d := 0) hb hV (show i < B by omega) ⟨rfl, ?_⟩))
      refine z_iadd dX8_violations_85 ?_
      rw [show ((ga + nI (sumN (strN B H T K) (i + 1)) + nI (sumN (fun i => sumN (twN K i) i) i)) + (nI (sumN (twN K i) i))) = ga + nI (sumN (strN B H T K) (i + 1)) + nI (sumN (fun i => sumN (twN K i) i) (i + 1)) from by
        rw [show (sumN (fun i => sumN (twN K i) i) (i + 1)) = (sumN (fun i => sumN (twN K i) i) i) + sumN (twN K i) i from rfl, ← nI_add, Int32.add_assoc]]
      refine z_istore_n [1, 2, 0, 3] [(0, .ref b), (1, .int x0), (2, .int ((ga + nI (sumN (strN B H T K) (i + 1)) + nI (sumN (fun i => sumN (twN K i) i) (i + 1))))), (3, .int ((nI i)))] dX8_violations_86 (by decide) rfl ?_
      skip
      refine z_iinc ((nI (i + 1))) [1, 2, 3, 0] [(0, .ref b), (1, .int x0), (2, .int ((ga + nI (sumN (strN B H T K) (i + 1)) + nI (sumN (fun i => sumN (twN K i) i) (i + 1))))), (3, .int ((nI (i + 1))))] dX8_violations_87 (j := 3) rfl (nI_1 i) (by decide) rfl ?_
      refine z_goto (tgt := 39) dX8_violations_90 (by decide) ?_
      exact ih (i + 1) (by omega) hq
    · refine z_aload_n (j := 0) dX8_violations_58 rfl ?_
      refine z_iload_n (j := 3) dX8_violations_59 rfl ?_
      refine z_kV [.int ((nI i))] 0 0 kc ks yoX8_off yvX8_off rfl (by decide) lX8_93 (by omega) mW_obj rfl rfl (Nat.le_of_ble_eq_true rfl) (Nat.le_of_ble_eq_true rfl) dX8_violations_60 (by omega) (by omega) (z_room (by omega) (Nat.le_refl _) (Nat.le_refl _) (r_off (d := 0) hb hV (by omega) (bI_0.mp czq55) ⟨rfl, ?_⟩))
      refine z_aload_n (j := 0) dX8_violations_63 rfl ?_
      refine z_get (v := .ref (b + 1)) (by omega) mW_obj fX8_7 rfl dX8_violations_64 ?_
      refine z_iconst (v := 1) dX8_violations_67 (by decide) ?_
      refine m_aldN 0 137 1 (by decide) rfl rfl hb rfl (by omega) (by decide) dX8_violations_68 ?_
      refine z_icmp_ge (tgt := 76) dX8_violations_69 (by decide) (fun czq69 => ?_) (fun czq69 => ?_)
      · refine z_iconst (v := 1) dX8_violations_76 (by decide) ?_
        refine z_iadd dX8_violations_77 ?_
        have hdl := dst_lt (T := T) (K := K) (i := i) okb
        have hb0 : strN B H T K i = 1 := if_pos ⟨bI_0.mp czq55, by
          rw [e1] at czq69
          exact (nI_leI (by omega) (by omega)).mp czq69⟩
        rw [show ((ga + nI (sumN (strN B H T K) i) + nI (sumN (fun i => sumN (twN K i) i) i)) + 1) = ga + nI (sumN (strN B H T K) (i + 1)) + nI (sumN (fun i => sumN (twN K i) i) i) from by
          rw [sumN, hb0, ← nI_add, show nI 1 = 1 from rfl]
          simp only [Int32.add_assoc, Int32.add_comm, i32_lc]]
        refine z_istore_n [1, 2, 0, 3] [(0, .ref b), (1, .int x0), (2, .int ((ga + nI (sumN (strN B H T K) (i + 1)) + nI (sumN (fun i => sumN (twN K i) i) i)))), (3, .int ((nI i)))] dX8_violations_78 (by decide) rfl ?_
        refine z_iload_n (j := 2) dX8_violations_79 rfl ?_
        refine z_aload_n (j := 0) dX8_violations_80 rfl ?_
        refine z_iload_n (j := 3) dX8_violations_81 rfl ?_
        refine z_kV [.int ((nI i))] 0 0 kc ks yoX8_doublesOf yvX8_doublesOf rfl (by decide) lX8_367 (by omega) mW_obj rfl rfl (Nat.le_of_ble_eq_true rfl) (Nat.le_of_ble_eq_true rfl) dX8_violations_82 (by omega) (by omega) (z_room (by omega) (Nat.le_refl _) (Nat.le_refl _) (r_doublesOf (d := 0) hb hV (show i < B by omega) ⟨rfl, ?_⟩))
        refine z_iadd dX8_violations_85 ?_
        rw [show ((ga + nI (sumN (strN B H T K) (i + 1)) + nI (sumN (fun i => sumN (twN K i) i) i)) + (nI (sumN (twN K i) i))) = ga + nI (sumN (strN B H T K) (i + 1)) + nI (sumN (fun i => sumN (twN K i) i) (i + 1)) from by
          rw [show (sumN (fun i => sumN (twN K i) i) (i + 1)) = (sumN (fun i => sumN (twN K i) i) i) + sumN (twN K i) i from rfl, ← nI_add, Int32.add_assoc]]
        refine z_istore_n [1, 2, 0, 3] [(0, .ref b), (1, .int x0), (2, .int ((ga + nI (sumN (strN B H T K) (i + 1)) + nI (sumN (fun i => sumN (twN K i) i) (i + 1))))), (3, .int ((nI i)))] dX8_violations_86 (by decide) rfl ?_
        skip
        refine z_iinc ((nI (i + 1))) [1, 2, 3, 0] [(0, .ref b), (1, .int x0), (2, .int ((ga + nI (sumN (strN B H T K) (i + 1)) + nI (sumN (fun i => sumN (twN K i) i) (i + 1))))), (3, .int ((nI (i + 1))))] dX8_violations_87 (j := 3) rfl (nI_1 i) (by decide) rfl ?_
        refine z_goto (tgt := 39) dX8_violations_90 (by decide) ?_
        exact ih (i + 1) (by omega) hq
      · refine z_iconst (v := 0) dX8_violations_72 (by decide) ?_
        refine z_goto (tgt := 77) dX8_violations_73 (by decide) ?_
        refine z_iadd dX8_violations_77 ?_
        have hdl := dst_lt (T := T) (K := K) (i := i) okb
        have hb0 : strN B H T K i = 0 := if_neg (fun e => by
          rw [e1] at czq69
          exact czq69 (nI_le e.2 (by omega)))
        rw [show ((ga + nI (sumN (strN B H T K) i) + nI (sumN (fun i => sumN (twN K i) i) i)) + 0) = ga + nI (sumN (strN B H T K) (i + 1)) + nI (sumN (fun i => sumN (twN K i) i) i) from by
          rw [sumN, hb0, ← nI_add, show nI 0 = 0 from rfl]
          simp only [Int32.add_assoc, Int32.add_comm, i32_lc]]
        refine z_istore_n [1, 2, 0, 3] [(0, .ref b), (1, .int x0), (2, .int ((ga + nI (sumN (strN B H T K) (i + 1)) + nI (sumN (fun i => sumN (twN K i) i) i)))), (3, .int ((nI i)))] dX8_violations_78 (by decide) rfl ?_
        refine z_iload_n (j := 2) dX8_violations_79 rfl ?_
        refine z_aload_n (j := 0) dX8_violations_80 rfl ?_
        refine z_iload_n (j := 3) dX8_violations_81 rfl ?_
        refine z_kV [.int ((nI i))] 0 0 kc ks yoX8_doublesOf yvX8_doublesOf rfl (by decide) lX8_367 (by omega) mW_obj rfl rfl (Nat.le_of_ble_eq_true rfl) (Nat.le_of_ble_eq_true rfl) dX8_violations_82 (by omega) (by omega) (z_room (by omega) (Nat.le_refl _) (Nat.le_refl _) (r_doublesOf (d := 0) hb hV (show i < B by omega) ⟨rfl, ?_⟩))
        refine z_iadd dX8_violations_85 ?_
        rw [show ((ga + nI (sumN (strN B H T K) (i + 1)) + nI (sumN (fun i => sumN (twN K i) i) i)) + (nI (sumN (twN K i) i))) = ga + nI (sumN (strN B H T K) (i + 1)) + nI (sumN (fun i => sumN (twN K i) i) (i + 1)) from by
          rw [show (sumN (fun i => sumN (twN K i) i) (i + 1)) = (sumN (fun i => sumN (twN K i) i) i) + sumN (twN K i) i from rfl, ← nI_add, Int32.add_assoc]]
        refine z_istore_n [1, 2, 0, 3] [(0, .ref b), (1, .int x0), (2, .int ((ga + nI (sumN (strN B H T K) (i + 1)) + nI (sumN (fun i => sumN (twN K i) i) (i + 1))))), (3, .int ((nI i)))] dX8_violations_86 (by decide) rfl ?_
        skip
        refine z_iinc ((nI (i + 1))) [1, 2, 3, 0] [(0, .ref b), (1, .int x0), (2, .int ((ga + nI (sumN (strN B H T K) (i + 1)) + nI (sumN (fun i => sumN (twN K i) i) (i + 1))))), (3, .int ((nI (i + 1))))] dX8_violations_87 (j := 3) rfl (nI_1 i) (by decide) rfl ?_
        refine z_goto (tgt := 39) dX8_violations_90 (by decide) ?_
        exact ih (i + 1) (by omega) hq

set_option maxHeartbeats 4000000 in
set_option maxRecDepth 100000 in
theorem R_violations {l : zL} {d kc ks n b : Nat} {h : Nat → va_E} {s : Nat → Int32} {a : Nat → Nat → Int32} {g : zGs} {Q : zQ} (hb : b + 14 ≤ n) (hM : mI g s a) (hq : ∀ t v g' s' a', f_violations g = (t, v, g') → mI g' s' a' → s' 20 = t → Q (.inl (some (.int v))) n (mW h b s' a')) : Zj l mX8_violations (d + 12) kc ks 0 [(0, .ref b)] [] n (mW h b s a) Q := by
  obtain ⟨⟨B, H, T, K, V, c⟩, sv, Sn, k, hi, L, x, ek, eo, rl, rb⟩ := g
  obtain ⟨hT, h11, hsv, hsn, hk8, h9, hhi, hL, h14, ha9, hx256, h16, h17, hrl, h19, ha11, hrb⟩ := id hM
  obtain ⟨hV, ⟨hI, hd3, h3⟩, e3⟩ := id hT
  obtain ⟨okb, h2H, hH6, h1T, hT99, e0, e1, e2, ek_, ev_, ekv, ez⟩ := id hV
  have hle := okb.le
  refine z_aload_n (j := 0) dX8_violations_0 rfl ?_
  refine z_iconst (v := 0) dX8_violations_1 (by decide) ?_
  refine m_put (k := 20) (by omega) fX8_64 (by unfold mS; omega) (by decide) dX8_violations_2 ?_
  refine z_aload_n (j := 0) dX8_violations_5 rfl ?_
  refine z_get (v := .ref (b + 1)) (by omega) mW_obj fX8_7 rfl dX8_violations_6 ?_
  refine z_bipush (v := 7) dX8_violations_9 (by decide) ?_
  refine m_aldN 0 137 7 (by decide) rfl rfl hb rfl (by omega) (by decide) dX8_violations_11 ?_
  refine z_aload_n (j := 0) dX8_violations_12 rfl ?_
  refine z_get (v := .ref (b + 1)) (by omega) mW_obj fX8_7 rfl dX8_violations_13 ?_
  refine z_bipush (v := 8) dX8_violations_16 (by decide) ?_
  refine m_aldN 0 137 8 (by decide) rfl rfl hb rfl (by omega) (by decide) dX8_violations_18 ?_
  refine z_isub dX8_violations_19 ?_
  refine z_aload_n (j := 0) dX8_violations_20 rfl ?_
  refine z_kV [] 0 0 kc ks yoX8_entries yvX8_entries rfl (by decide) lX8_148 (by omega) mW_obj rfl rfl (Nat.le_of_ble_eq_true rfl) (Nat.le_of_ble_eq_true rfl) dX8_violations_21 (by omega) (by omega) (z_room (by omega) (Nat.le_refl _) (Nat.le_refl _) (r_entries (d := 0) hb hV ⟨rfl, ?_⟩))
  refine z_isub dX8_violations_24 ?_
  rw [show (((a 0 7) - (a 0 8)) - (nI (cnt K B))) = sGap (B, H, T, K, V, c) from by
    rw [i32_sub3, e3 7 (by decide) (by decide), e3 8 (by decide) (by decide)]
    rfl]
  refine z_istore_n [1, 0] [(0, .ref b), (1, .int ((sGap (B, H, T, K, V, c))))] dX8_violations_25 (by decide) rfl ?_
  refine z_iload_n (j := 1) dX8_violations_26 rfl ?_
  refine z_if_ge (tgt := 35) dX8_violations_27 (by decide) (fun czq27 => ?_) (fun czq27 => ?_)
  · refine z_iload_n (j := 1) dX8_violations_35 rfl ?_
    rw [show (sGap (B, H, T, K, V, c)) = (if 0 ≤ sGap (B, H, T, K, V, c) then sGap (B, H, T, K, V, c) else 0 - sGap (B, H, T, K, V, c)) + nI (sumN (strN B H T K) 0) + nI (sumN (fun i => sumN (twN K i) i) 0) from by
      rw [show (sumN (strN B H T K) 0) = 0 from rfl, show (sumN (fun i => sumN (twN K i) i) 0) = 0 from rfl, show nI 0 = 0 from rfl, Int32.add_zero, Int32.add_zero, if_pos czq27]]
    refine z_istore_n [1, 2, 0] [(0, .ref b), (1, .int (((if 0 ≤ sGap (B, H, T, K, V, c) then sGap (B, H, T, K, V, c) else 0 - sGap (B, H, T, K, V, c)) + nI (sumN (strN B H T K) 0) + nI (sumN (fun i => sumN (twN K i) i) 0)))), (2, .int (((if 0 ≤ sGap (B, H, T, K, V, c) then sGap (B, H, T, K, V, c) else 0 - sGap (B, H, T, K, V, c)) + nI (sumN (strN B H T K) 0) + nI (sumN (fun i => sumN (twN K i) i) 0))))] dX8_violations_36 (by decide) rfl ?_
    refine z_iconst (v := 0) dX8_violations_37 (by decide) ?_
    refine z_istore_n [1, 2, 3, 0] [(0, .ref b), (1, .int (((if 0 ≤ sGap (B, H, T, K, V, c) then sGap (B, H, T, K, V, c) else 0 - sGap (B, H, T, K, V, c)) + nI (sumN (strN B H T K) 0) + nI (sumN (fun i => sumN (twN K i) i) 0)))), (2, .int (((if 0 ≤ sGap (B, H, T, K, V, c) then sGap (B, H, T, K, V, c) else 0 - sGap (B, H, T, K, V, c)) + nI (sumN (strN B H T K) 0) + nI (sumN (fun i => sumN (twN K i) i) 0)))), (3, .int 0)] dX8_violations_38 (by decide) rfl ?_
    refine z_room (d' := d + 2) (by omega) (Nat.le_refl _) (Nat.le_refl _) (r_viol_l hb hV B 0 (by omega) ?_)
    have hq2 := hq 0 _ _ _ _ rfl hM.th (by rw [up_eq])
    rw [show (if 0 ≤ sGap (B, H, T, K, V, c) then sGap (B, H, T, K, V, c) else 0 - sGap (B, H, T, K, V, c)) + nI (sumN (strN B H T K) B) + nI (sumN (fun i => sumN (twN K i) i) B) = nI (sumN (strN B H T K) B) + nI (sumN (fun i => sumN (twN K i) i) B) + (if 0 ≤ sGap (B, H, T, K, V, c) then sGap (B, H, T, K, V, c) else 0 - sGap (B, H, T, K, V, c)) from by
      simp only [Int32.add_assoc, Int32.add_comm, i32_lc]]
    exact hq2
  · refine z_iload_n (j := 1) dX8_violations_30 rfl ?_
    refine z_ineg dX8_violations_31 ?_
    refine z_goto (tgt := 36) dX8_violations_32 (by decide) ?_
    rw [show (-(sGap (B, H, T, K, V, c))) = (if 0 ≤ sGap (B, H, T, K, V, c) then sGap (B, H, T, K, V, c) else 0 - sGap (B, H, T, K, V, c)) + nI (sumN (strN B H T K) 0) + nI (sumN (fun i => sumN (twN K i) i) 0) from by
      rw [show (sumN (strN B H T K) 0) = 0 from rfl, show (sumN (fun i => sumN (twN K i) i) 0) = 0 from rfl, show nI 0 = 0 from rfl, Int32.add_zero, Int32.add_zero, if_neg czq27, Int32.zero_sub]]
    refine z_istore_n [1, 2, 0] [(0, .ref b), (1, .int ((sGap (B, H, T, K, V, c)))), (2, .int (((if 0 ≤ sGap (B, H, T, K, V, c) then sGap (B, H, T, K, V, c) else 0 - sGap (B, H, T, K, V, c)) + nI (sumN (strN B H T K) 0) + nI (sumN (fun i => sumN (twN K i) i) 0))))] dX8_violations_36 (by decide) rfl ?_
    refine z_iconst (v := 0) dX8_violations_37 (by decide) ?_
    refine z_istore_n [1, 2, 3, 0] [(0, .ref b), (1, .int ((sGap (B, H, T, K, V, c)))), (2, .int (((if 0 ≤ sGap (B, H, T, K, V, c) then sGap (B, H, T, K, V, c) else 0 - sGap (B, H, T, K, V, c)) + nI (sumN (strN B H T K) 0) + nI (sumN (fun i => sumN (twN K i) i) 0)))), (3, .int 0)] dX8_violations_38 (by decide) rfl ?_
    refine z_room (d' := d + 2) (by omega) (Nat.le_refl _) (Nat.le_refl _) (r_viol_l hb hV B 0 (by omega) ?_)
    have hq2 := hq 0 _ _ _ _ rfl hM.th (by rw [up_eq])
    rw [show (if 0 ≤ sGap (B, H, T, K, V, c) then sGap (B, H, T, K, V, c) else 0 - sGap (B, H, T, K, V, c)) + nI (sumN (strN B H T K) B) + nI (sumN (fun i => sumN (twN K i) i) B) = nI (sumN (strN B H T K) B) + nI (sumN (fun i => sumN (twN K i) i) B) + (if 0 ≤ sGap (B, H, T, K, V, c) then sGap (B, H, T, K, V, c) else 0 - sGap (B, H, T, K, V, c)) from by
      simp only [Int32.add_assoc, Int32.add_comm, i32_lc]]
    exact hq2
