/-! THE LAW: one turn, all turns, from its entry -/

set_option maxHeartbeats 4000000 in
set_option maxRecDepth 100000 in
theorem L_body {l : zL} {d kc ks i : Nat} {h : Nat → va_E} {F : Nat → Int64} {sR : Nat → Int32} {aR : Nat → Nat → Int32} {cm : Value} {o u : Nat → Nat → Int32} {s : Nat → Nat → Int32} {a : Nat → Nat → Nat → Int32} {g : zGs} {Q : zQ} (hi : 6 * i + 6 ≤ l.2.1) (hl : l.2.1 ≤ 3072) (hC : cI g o u s a) (hM : mI g sR aR) (hnext : ∀ F' sR' aR' cm' o' u' s' a' g', cI g' o' u' s' a' → mI g' sR' aR' → Zj l mL_law (d + 20) kc ks 2334 [(0, .ref (zB + 500)), (1, .ref 0), (2, .ref 89), (3, .ref 103), (4, .int (nI (6 * i)))] [] 104 (lW h F' sR' aR' cm' o' u' s' a') Q) : Zj l mL_law (d + 20) (kc + 3) (ks + 18) 33 [(0, .ref (zB + 500)), (1, .ref 0), (2, .ref 89), (3, .ref 103), (4, .int (nI (6 * i)))] [] 104 (lW h F sR aR cm o u s a) Q := by
  refine z_aload_n (j := 0) dL_law_33 rfl ?_
  refine z_iload (j := 4) dL_law_34 rfl ?_
  refine z_sld (vp_in_nI (by omega) (by omega)) dL_law_36 ?_
  refine z_bipush (v := 63) dL_law_37 (by decide) ?_
  refine z_iand dL_law_39 ?_
  obtain ⟨k, hk, ek⟩ := pk_andE (l.2.2 (nI (6 * i)).toNatClampNeg) (m := 63) 6 (by decide)
  rw [ek]
  rcases Nat.lt_or_ge k 55 with hk5 | hk5
  · skip
    rcases Nat.lt_succ_iff_lt_or_eq.mp hk5 with hk5 | hk5
    rotate_left
    · subst hk5
      exact z_tableIn 2269 2309 dL_law_40 (by decide) (by decide) (by decide) (by decide) (L_54 hi hl hC hM hnext)
    rcases Nat.lt_succ_iff_lt_or_eq.mp hk5 with hk5 | hk5
    rotate_left
    · subst hk5
      exact z_tableIn 2256 2296 dL_law_40 (by decide) (by decide) (by decide) (by decide) (L_53 hi hl hC hM hnext)
    rcases Nat.lt_succ_iff_lt_or_eq.mp hk5 with hk5 | hk5
    rotate_left
    · subst hk5
      exact z_tableIn 2243 2283 dL_law_40 (by decide) (by decide) (by decide) (by decide) (L_52 hi hl hC hM hnext)
    rcases Nat.lt_succ_iff_lt_or_eq.mp hk5 with hk5 | hk5
    rotate_left
    · subst hk5
      exact z_tableIn 2200 2240 dL_law_40 (by decide) (by decide) (by decide) (by decide) (L_51 hi hl hC hM hnext)
    rcases Nat.lt_succ_iff_lt_or_eq.mp hk5 with hk5 | hk5
    rotate_left
    · subst hk5
      exact z_tableIn 2159 2199 dL_law_40 (by decide) (by decide) (by decide) (by decide) (L_50 hi hl hC hM hnext)
    rcases Nat.lt_succ_iff_lt_or_eq.mp hk5 with hk5 | hk5
    rotate_left
    · subst hk5
      exact z_tableIn 2146 2186 dL_law_40 (by decide) (by decide) (by decide) (by decide) (L_49 hi hl hC hM hnext)
    rcases Nat.lt_succ_iff_lt_or_eq.mp hk5 with hk5 | hk5
    rotate_left
    · subst hk5
      exact z_tableIn 2133 2173 dL_law_40 (by decide) (by decide) (by decide) (by decide) (L_48 hi hl hC hM hnext)
    rcases Nat.lt_succ_iff_lt_or_eq.mp hk5 with hk5 | hk5
    rotate_left
    · subst hk5
      exact z_tableIn 2120 2160 dL_law_40 (by decide) (by decide) (by decide) (by decide) (L_47 hi hl hC hM hnext)
    rcases Nat.lt_succ_iff_lt_or_eq.mp hk5 with hk5 | hk5
    rotate_left
    · subst hk5
      exact z_tableIn 2107 2147 dL_law_40 (by decide) (by decide) (by decide) (by decide) (L_46 hi hl hC hM hnext)
    rcases Nat.lt_succ_iff_lt_or_eq.mp hk5 with hk5 | hk5
    rotate_left
    · subst hk5
      exact z_tableIn 2094 2134 dL_law_40 (by decide) (by decide) (by decide) (by decide) (L_45 hi hl hC hM hnext)
    rcases Nat.lt_succ_iff_lt_or_eq.mp hk5 with hk5 | hk5
    rotate_left
    · subst hk5
      exact z_tableIn 2038 2078 dL_law_40 (by decide) (by decide) (by decide) (by decide) (L_44 hi hl hC hM hnext)
    rcases Nat.lt_succ_iff_lt_or_eq.mp hk5 with hk5 | hk5
    rotate_left
    · subst hk5
      exact z_tableIn 1982 2022 dL_law_40 (by decide) (by decide) (by decide) (by decide) (L_43 hi hl hC hM hnext)
    rcases Nat.lt_succ_iff_lt_or_eq.mp hk5 with hk5 | hk5
    rotate_left
    · subst hk5
      exact z_tableIn 1926 1966 dL_law_40 (by decide) (by decide) (by decide) (by decide) (L_42 hi hl hC hM hnext)
    rcases Nat.lt_succ_iff_lt_or_eq.mp hk5 with hk5 | hk5
    rotate_left
    · subst hk5
      exact z_tableIn 1870 1910 dL_law_40 (by decide) (by decide) (by decide) (by decide) (L_41 hi hl hC hM hnext)
    rcases Nat.lt_succ_iff_lt_or_eq.mp hk5 with hk5 | hk5
    rotate_left
    · subst hk5
      exact z_tableIn 1814 1854 dL_law_40 (by decide) (by decide) (by decide) (by decide) (L_40 hi hl hC hM hnext)
    rcases Nat.lt_succ_iff_lt_or_eq.mp hk5 with hk5 | hk5
    rotate_left
    · subst hk5
      exact z_tableIn 1758 1798 dL_law_40 (by decide) (by decide) (by decide) (by decide) (L_39 hi hl hC hM hnext)
    rcases Nat.lt_succ_iff_lt_or_eq.mp hk5 with hk5 | hk5
    rotate_left
    · subst hk5
      exact z_tableIn 1702 1742 dL_law_40 (by decide) (by decide) (by decide) (by decide) (L_38 hi hl hC hM hnext)
    rcases Nat.lt_succ_iff_lt_or_eq.mp hk5 with hk5 | hk5
    rotate_left
    · subst hk5
      exact z_tableIn 1646 1686 dL_law_40 (by decide) (by decide) (by decide) (by decide) (L_37 hi hl hC hM hnext)
    rcases Nat.lt_succ_iff_lt_or_eq.mp hk5 with hk5 | hk5
    rotate_left
    · subst hk5
      exact z_tableIn 1633 1673 dL_law_40 (by decide) (by decide) (by decide) (by decide) (L_36 hi hl hC hM hnext)
    rcases Nat.lt_succ_iff_lt_or_eq.mp hk5 with hk5 | hk5
    rotate_left
    · subst hk5
      exact z_tableIn 1620 1660 dL_law_40 (by decide) (by decide) (by decide) (by decide) (L_35 hi hl hC hM hnext)
    rcases Nat.lt_succ_iff_lt_or_eq.mp hk5 with hk5 | hk5
    rotate_left
    · subst hk5
      exact z_tableIn 1564 1604 dL_law_40 (by decide) (by decide) (by decide) (by decide) (L_34 hi hl hC hM hnext)
    rcases Nat.lt_succ_iff_lt_or_eq.mp hk5 with hk5 | hk5
    rotate_left
    · subst hk5
      exact z_tableIn 1508 1548 dL_law_40 (by decide) (by decide) (by decide) (by decide) (L_33 hi hl hC hM hnext)
    rcases Nat.lt_succ_iff_lt_or_eq.mp hk5 with hk5 | hk5
    rotate_left
    · subst hk5
      exact z_tableIn 1452 1492 dL_law_40 (by decide) (by decide) (by decide) (by decide) (L_32 hi hl hC hM hnext)
    rcases Nat.lt_succ_iff_lt_or_eq.mp hk5 with hk5 | hk5
    rotate_left
    · subst hk5
      exact z_tableIn 1396 1436 dL_law_40 (by decide) (by decide) (by decide) (by decide) (L_31 hi hl hC hM hnext)
    rcases Nat.lt_succ_iff_lt_or_eq.mp hk5 with hk5 | hk5
    rotate_left
    · subst hk5
      exact z_tableIn 1340 1380 dL_law_40 (by decide) (by decide) (by decide) (by decide) (L_30 hi hl hC hM hnext)
    rcases Nat.lt_succ_iff_lt_or_eq.mp hk5 with hk5 | hk5
    rotate_left
    · subst hk5
      exact z_tableIn 1327 1367 dL_law_40 (by decide) (by decide) (by decide) (by decide) (L_29 hi hl hC hM hnext)
    rcases Nat.lt_succ_iff_lt_or_eq.mp hk5 with hk5 | hk5
    rotate_left
    · subst hk5
      exact z_tableIn 1314 1354 dL_law_40 (by decide) (by decide) (by decide) (by decide) (L_28 hi hl hC hM hnext)
    rcases Nat.lt_succ_iff_lt_or_eq.mp hk5 with hk5 | hk5
    rotate_left
    · subst hk5
      exact z_tableIn 1258 1298 dL_law_40 (by decide) (by decide) (by decide) (by decide) (L_27 hi hl hC hM hnext)
    rcases Nat.lt_succ_iff_lt_or_eq.mp hk5 with hk5 | hk5
    rotate_left
    · subst hk5
      exact z_tableIn 1202 1242 dL_law_40 (by decide) (by decide) (by decide) (by decide) (L_26 hi hl hC hM hnext)
    rcases Nat.lt_succ_iff_lt_or_eq.mp hk5 with hk5 | hk5
    rotate_left
    · subst hk5
      exact z_tableIn 1146 1186 dL_law_40 (by decide) (by decide) (by decide) (by decide) (L_25 hi hl hC hM hnext)
    rcases Nat.lt_succ_iff_lt_or_eq.mp hk5 with hk5 | hk5
    rotate_left
    · subst hk5
      exact z_tableIn 1090 1130 dL_law_40 (by decide) (by decide) (by decide) (by decide) (L_24 hi hl hC hM hnext)
    rcases Nat.lt_succ_iff_lt_or_eq.mp hk5 with hk5 | hk5
    rotate_left
    · subst hk5
      exact z_tableIn 1034 1074 dL_law_40 (by decide) (by decide) (by decide) (by decide) (L_23 hi hl hC hM hnext)
    rcases Nat.lt_succ_iff_lt_or_eq.mp hk5 with hk5 | hk5
    rotate_left
    · subst hk5
      exact z_tableIn 1021 1061 dL_law_40 (by decide) (by decide) (by decide) (by decide) (L_22 hi hl hC hM hnext)
    rcases Nat.lt_succ_iff_lt_or_eq.mp hk5 with hk5 | hk5
    rotate_left
    · subst hk5
      exact z_tableIn 1008 1048 dL_law_40 (by decide) (by decide) (by decide) (by decide) (L_21 hi hl hC hM hnext)
    rcases Nat.lt_succ_iff_lt_or_eq.mp hk5 with hk5 | hk5
    rotate_left
    · subst hk5
      exact z_tableIn 995 1035 dL_law_40 (by decide) (by decide) (by decide) (by decide) (L_20 hi hl hC hM hnext)
    rcases Nat.lt_succ_iff_lt_or_eq.mp hk5 with hk5 | hk5
    rotate_left
    · subst hk5
      exact z_tableIn 982 1022 dL_law_40 (by decide) (by decide) (by decide) (by decide) (L_19 hi hl hC hM hnext)
    rcases Nat.lt_succ_iff_lt_or_eq.mp hk5 with hk5 | hk5
    rotate_left
    · subst hk5
      exact z_tableIn 969 1009 dL_law_40 (by decide) (by decide) (by decide) (by decide) (L_18 hi hl hC hM hnext)
    rcases Nat.lt_succ_iff_lt_or_eq.mp hk5 with hk5 | hk5
    rotate_left
    · subst hk5
      exact z_tableIn 956 996 dL_law_40 (by decide) (by decide) (by decide) (by decide) (L_17 hi hl hC hM hnext)
    rcases Nat.lt_succ_iff_lt_or_eq.mp hk5 with hk5 | hk5
    rotate_left
    · subst hk5
      exact z_tableIn 943 983 dL_law_40 (by decide) (by decide) (by decide) (by decide) (L_16 hi hl hC hM hnext)
    rcases Nat.lt_succ_iff_lt_or_eq.mp hk5 with hk5 | hk5
    rotate_left
    · subst hk5
      exact z_tableIn 899 939 dL_law_40 (by decide) (by decide) (by decide) (by decide) (L_15 hi hl hC hM hnext)
    rcases Nat.lt_succ_iff_lt_or_eq.mp hk5 with hk5 | hk5
    rotate_left
    · subst hk5
      exact z_tableIn 886 926 dL_law_40 (by decide) (by decide) (by decide) (by decide) (L_14 hi hl hC hM hnext)
    rcases Nat.lt_succ_iff_lt_or_eq.mp hk5 with hk5 | hk5
    rotate_left
    · subst hk5
      exact z_tableIn 873 913 dL_law_40 (by decide) (by decide) (by decide) (by decide) (L_13 hi hl hC hM hnext)
    rcases Nat.lt_succ_iff_lt_or_eq.mp hk5 with hk5 | hk5
    rotate_left
    · subst hk5
      exact z_tableIn 860 900 dL_law_40 (by decide) (by decide) (by decide) (by decide) (L_12 hi hl hC hM hnext)
    rcases Nat.lt_succ_iff_lt_or_eq.mp hk5 with hk5 | hk5
    rotate_left
    · subst hk5
      exact z_tableIn 847 887 dL_law_40 (by decide) (by decide) (by decide) (by decide) (L_11 hi hl hC hM hnext)
    rcases Nat.lt_succ_iff_lt_or_eq.mp hk5 with hk5 | hk5
    rotate_left
    · subst hk5
      exact z_tableIn 803 843 dL_law_40 (by decide) (by decide) (by decide) (by decide) (L_10 hi hl hC hM hnext)
    rcases Nat.lt_succ_iff_lt_or_eq.mp hk5 with hk5 | hk5
    rotate_left
    · subst hk5
      exact z_tableIn 762 802 dL_law_40 (by decide) (by decide) (by decide) (by decide) (L_9 hi hl hC hM hnext)
    rcases Nat.lt_succ_iff_lt_or_eq.mp hk5 with hk5 | hk5
    rotate_left
    · subst hk5
      exact z_tableIn 706 746 dL_law_40 (by decide) (by decide) (by decide) (by decide) (L_8 hi hl hC hM hnext)
    rcases Nat.lt_succ_iff_lt_or_eq.mp hk5 with hk5 | hk5
    rotate_left
    · subst hk5
      exact z_tableIn 650 690 dL_law_40 (by decide) (by decide) (by decide) (by decide) (L_7 hi hl hC hM hnext)
    rcases Nat.lt_succ_iff_lt_or_eq.mp hk5 with hk5 | hk5
    rotate_left
    · subst hk5
      exact z_tableIn 594 634 dL_law_40 (by decide) (by decide) (by decide) (by decide) (L_6 hi hl hC hM hnext)
    rcases Nat.lt_succ_iff_lt_or_eq.mp hk5 with hk5 | hk5
    rotate_left
    · subst hk5
      exact z_tableIn 514 554 dL_law_40 (by decide) (by decide) (by decide) (by decide) (L_5 hi hl hC hM hnext)
    rcases Nat.lt_succ_iff_lt_or_eq.mp hk5 with hk5 | hk5
    rotate_left
    · subst hk5
      exact z_tableIn 446 486 dL_law_40 (by decide) (by decide) (by decide) (by decide) (L_4 hi hl hC hM hnext)
    rcases Nat.lt_succ_iff_lt_or_eq.mp hk5 with hk5 | hk5
    rotate_left
    · subst hk5
      exact z_tableIn 378 418 dL_law_40 (by decide) (by decide) (by decide) (by decide) (L_3 hi hl hC hM hnext)
    rcases Nat.lt_succ_iff_lt_or_eq.mp hk5 with hk5 | hk5
    rotate_left
    · subst hk5
      exact z_tableIn 365 405 dL_law_40 (by decide) (by decide) (by decide) (by decide) (L_2 hi hl hC hM hnext)
    rcases Nat.lt_succ_iff_lt_or_eq.mp hk5 with hk5 | hk5
    rotate_left
    · subst hk5
      exact z_tableIn 309 349 dL_law_40 (by decide) (by decide) (by decide) (by decide) (L_1 hi hl hC hM hnext)
    rcases Nat.lt_succ_iff_lt_or_eq.mp hk5 with hk5 | hk5
    rotate_left
    · subst hk5
      exact z_tableIn 236 276 dL_law_40 (by decide) (by decide) (by decide) (by decide) (L_0 hi hl hC hM hnext)
    exact absurd hk5 (Nat.not_lt_zero k)
  · have h54 : (54 : Int) < (nI k).toInt := by
      have hk : k < 64 := hk
      rcases (show k = 55 ∨ k = 56 ∨ k = 57 ∨ k = 58 ∨ k = 59 ∨ k = 60 ∨ k = 61 ∨ k = 62 ∨ k = 63 by omega) with e | e | e | e | e | e | e | e | e <;> subst e <;> decide
    exact z_tableOut 2334 dL_law_40 (Or.inr h54) (by decide) (z_room (Nat.le_refl _) (by omega) (by omega) (hnext _ _ _ _ _ _ _ _ _ hC hM))

theorem lt_six {L j : Nat} (hL : L ≤ 3072) (hj : 6 * j ≤ L) : (Int32.ofNat L - 6 < nI (6 * j)) ↔ L < 6 * j + 6 := by
  by_cases h6 : 6 ≤ L
  · rw [show Int32.ofNat L - 6 = nI (L - 6) from pk_sub h6]
    by_cases h : L < 6 * j + 6
    · exact ⟨fun _ => h, fun _ => nI_lt (by omega) (by omega)⟩
    · exact ⟨fun z => absurd z (nI_nlt (by omega) (by omega)), fun z => absurd z h⟩
  · have hj0 : j = 0 := by omega
    subst hj0
    refine ⟨fun _ => by omega, fun _ => ?_⟩
    rcases (show L = 0 ∨ L = 1 ∨ L = 2 ∨ L = 3 ∨ L = 4 ∨ L = 5 by omega) with e | e | e | e | e | e <;> subst e <;> decide
set_option maxHeartbeats 4000000 in
set_option maxRecDepth 100000 in
theorem L_loop {l : zL} {d : Nat} {h : Nat → va_E} {Q : zQ} (hl : l.2.1 ≤ 3072) (hq : ∀ n g, Q (.inl (some (.int 1))) n g) : ∀ m i (F : Nat → Int64) (sR : Nat → Int32) (aR : Nat → Nat → Int32) (cm : Value) (o u : Nat → Nat → Int32) (s : Nat → Nat → Int32) (a : Nat → Nat → Nat → Int32) (g : zGs), 6 * i ≤ l.2.1 → l.2.1 < 6 * (i + m) + 6 → cI g o u s a → mI g sR aR → Zj l mL_law (d + 20) (3 * m) (18 * m) 23 [(0, .ref (zB + 500)), (1, .ref 0), (2, .ref 89), (3, .ref 103), (4, .int (nI (6 * i)))] [] 104 (lW h F sR aR cm o u s a) Q := by
  intro m
  induction m with
  | zero =>
    intro i F sR aR cm o u s a g h1 h2 hC hM
    refine z_iload (j := 4) dL_law_23 rfl ?_
    refine z_aload_n (j := 0) dL_law_25 rfl ?_
    refine z_slen dL_law_26 ?_
    refine z_bipush (v := 6) dL_law_27 (by decide) ?_
    refine z_isub dL_law_29 ?_
    refine z_icmp_gt (tgt := 2340) dL_law_30 (by decide) (fun _ => ?_) (fun c => absurd ((lt_six hl h1).mpr h2) c)
    exact z_iconst (v := 1) dL_law_2340 (by decide) (z_zret rfl rfl dL_law_2341 (hq _ _))
  | succ m ih =>
    intro i F sR aR cm o u s a g h1 h2 hC hM
    refine z_iload (j := 4) dL_law_23 rfl ?_
    refine z_aload_n (j := 0) dL_law_25 rfl ?_
    refine z_slen dL_law_26 ?_
    refine z_bipush (v := 6) dL_law_27 (by decide) ?_
    refine z_isub dL_law_29 ?_
    refine z_icmp_gt (tgt := 2340) dL_law_30 (by decide) (fun _ => ?_) (fun c => ?_)
    · exact z_iconst (v := 1) dL_law_2340 (by decide) (z_zret rfl rfl dL_law_2341 (hq _ _))
    · have h6 : 6 * i + 6 ≤ l.2.1 := Nat.not_lt.mp (fun z => c ((lt_six hl h1).mpr z))
      refine L_body (kc := 3 * m) (ks := 18 * m) h6 hl hC hM (fun F' sR' aR' cm' o' u' s' a' g' hC' hM' => ?_)
      refine z_iinc (nI (6 * (i + 1))) [1, 2, 3, 4, 0] [(0, .ref (zB + 500)), (1, .ref 0), (2, .ref 89), (3, .ref 103), (4, .int (nI (6 * (i + 1))))] dL_law_2334 (j := 4) rfl (nI_add (6 * i) 6) (by decide) rfl ?_
      refine z_goto (tgt := 23) dL_law_2337 (by decide) ?_
      exact ih (i + 1) F' sR' aR' cm' o' u' s' a' g' (by omega) (by omega) hC' hM'

theorem zokB {n k : Nat} : zokv n (.ref (zB + k)) := Or.inr (Nat.le_add_right _ _)
set_option maxHeartbeats 4000000 in
set_option maxRecDepth 100000 in
theorem L_all {l : zL} {d : Nat} {h : Nat → va_E} {Q : zQ} (hl : l.2.1 ≤ 3072) (hq : ∀ n g, Q (.inl (some (.int 1))) n g) : Zj l mL_law (d + 20) (3 * 512 + 104) (18 * 512 + 9260) 0 [(0, .ref (zB + 500))] [] 0 h Q := by
  refine z_new (k2 := 3 * 512 + 103) (s2 := 18 * 512 + 9252) nwL_8 (by decide) (by intro q hq9; simp only [List.mem_cons, List.not_mem_nil, or_false] at hq9; rcases hq9 with rfl <;> first | exact zokB | exact zokr (by omega)) (by intro q hq9; cases hq9) (by decide) (by decide) dL_law_0 ?_
  refine z_dup rfl dL_law_3 ?_
  refine z_kI [] 88 5455 (3 * 512 + 15) (18 * 512 + 3797) yoX7_init yiX7_init rfl rfl rfl (by decide) lL_102 rfl (Nat.le_of_ble_eq_true rfl) (Nat.le_of_ble_eq_true rfl) dL_law_4 (by decide) (by decide) (by intro q hq9; simp only [List.mem_cons, List.not_mem_nil, or_false] at hq9; rcases hq9 with rfl <;> first | exact zokB | exact zokr (by omega)) (by intro q hq9; simp only [List.mem_cons, List.not_mem_nil, or_false] at hq9; rcases hq9 with rfl <;> first | exact zokB | exact zokr (by omega)) (z_room (by omega) (Nat.le_refl _) (Nat.le_refl _) (w_N0 (d := 0) rfl (fun o u s a hC => ⟨rfl, ?_⟩)))
  refine z_astore_n [1, 0] [(0, .ref (zB + 500)), (1, .ref 0)] dL_law_7 (by decide) rfl ?_
  refine z_new (k2 := 3 * 512 + 14) (s2 := 18 * 512 + 3770) nwL_103 (by decide) (by intro q hq9; simp only [List.mem_cons, List.not_mem_nil, or_false] at hq9; rcases hq9 with rfl | rfl <;> first | exact zokB | exact zokr (by omega)) (by intro q hq9; cases hq9) (by decide) (by decide) dL_law_8 ?_
  refine z_dup rfl dL_law_11 ?_
  refine z_kI [] 13 3769 (3 * 512 + 1) (18 * 512 + 1) yoX8_init yiX8_init rfl rfl rfl (by decide) lL_105 rfl (Nat.le_of_ble_eq_true rfl) (Nat.le_of_ble_eq_true rfl) dL_law_12 (by decide) (by decide) (by intro q hq9; simp only [List.mem_cons, List.not_mem_nil, or_false] at hq9; rcases hq9 with rfl | rfl <;> first | exact zokB | exact zokr (by omega)) (by intro q hq9; simp only [List.mem_cons, List.not_mem_nil, or_false] at hq9; rcases hq9 with rfl <;> first | exact zokB | exact zokr (by omega)) (z_room (by omega) (Nat.le_refl _) (Nat.le_refl _) (w_R0 (d := 0) (b := 89) (by decide) up_eq (fun sR aR hM => ⟨rfl, ?_⟩)))
  refine z_astore_n [1, 2, 0] [(0, .ref (zB + 500)), (1, .ref 0), (2, .ref 89)] dL_law_15 (by decide) rfl ?_
  refine z_iconst (v := 1) dL_law_16 (by decide) ?_
  refine z_newa2 (N' := 1) (k2 := 3 * 512) (s2 := 18 * 512) arr_long (by decide) (by decide) (by decide) (by decide) (by intro q hq9; simp only [List.mem_cons, List.not_mem_nil, or_false] at hq9; rcases hq9 with rfl | rfl | rfl <;> first | exact zokB | exact zokr (by omega)) (by intro q hq9; cases hq9) (by decide) (by decide) dL_law_17 ?_
  refine z_astore_n [1, 2, 3, 0] [(0, .ref (zB + 500)), (1, .ref 0), (2, .ref 89), (3, .ref 103)] dL_law_19 (by decide) rfl ?_
  refine z_iconst (v := 0) dL_law_20 (by decide) ?_
  refine z_istore [1, 2, 3, 4, 0] [(0, .ref (zB + 500)), (1, .ref 0), (2, .ref 89), (3, .ref 103), (4, .int (nI (6 * 0)))] dL_law_21 (by decide) rfl ?_
  refine z_world (h' := lW h (fun _ => 0) sR aR .null o u s a) (fun q hq9 => ?_) (L_loop hl hq 512 0 _ _ _ _ _ _ _ _ g00 (by omega) (by omega) hC hM)
  by_cases e : q = 103
  · rw [e]
    exact up_eq.trans lW_103.symm
  · have hq9 : q < 104 := hq9
    rw [up_ne (show q ≠ 89 + 14 by omega), lW_sw]
    by_cases h89 : 89 ≤ q
    · exact mW_in h89 (by omega)
    · rw [mW_off (show q < 89 ∨ 89 + 13 < q by omega), mW_off (show q < 89 ∨ 89 + 13 < q by omega), up_ne (show q ≠ 89 by omega)]
      exact gW_lo (by omega)
