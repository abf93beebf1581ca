/-! THE LAW: its calls, go on -/

set_option maxHeartbeats 4000000 in
set_option maxRecDepth 100000 in
theorem L_14 {l : zL} {d kc ks i : Nat} {h : Nat → va_E} {F : Nat → Int64} {sR : Nat → Int32} {aR : Nat → Nat → Int32} {cm : Value} {o u : Nat → Nat → Int32} {s : Nat → Nat → Int32} {a : Nat → Nat → Nat → Int32} {g : zGs} {Q : zQ} (hi : 6 * i + 6 ≤ l.2.1) (hl : l.2.1 ≤ 3072) (hC : cI g o u s a) (hM : mI g sR aR) (hnext : ∀ F' sR' aR' cm' o' u' s' a' g', cI g' o' u' s' a' → mI g' sR' aR' → Zj l mL_law (d + 20) kc ks 2334 [(0, .ref (zB + 500)), (1, .ref 0), (2, .ref 89), (3, .ref 103), (4, .int (nI (6 * i)))] [] 104 (lW h F' sR' aR' cm' o' u' s' a') Q) : Zj l mL_law (d + 20) (kc + 3) (ks + 18) 926 [(0, .ref ((zB + 500))), (1, .ref 0), (2, .ref 89), (3, .ref 103), (4, .int ((nI (6 * i))))] [] 104 (lW h F sR aR cm o u s a) Q := by
  refine z_aload_n (j := 1) dL_law_926 rfl ?_
  refine z_kV [] (0 + 3) (0 + 18) kc ks yoX7_saveSnapshot yvX7_saveSnapshot rfl (by decide) lL_165 (by decide) lW_0 rfl rfl (Nat.le_of_ble_eq_true rfl) (Nat.le_of_ble_eq_true rfl) dL_law_927 (by omega) (by omega) (z_room (by omega) (Nat.le_refl _) (Nat.le_refl _) (K_saveSnapshot (d := 0) (by decide) hC (fun t v g2 cm2 o2 u2 s2 a2 hf hC2 => ?_)))
  show zk mL_law l _ kc ks 927 _ _ 104 Q (oc IAE ISE t v) 104 (lW h F sR aR cm2 o2 u2 s2 a2)
  obtain rfl : t = 0 := T_saveSnapshot hf
  rw [oc_0]
  refine ⟨rfl, ?_⟩
  rw [lW_sw]
  refine z_aload_n (j := 2) dL_law_930 rfl ?_
  refine z_kV [] 0 0 kc ks yoX8_saveSnapshot yvX8_saveSnapshot rfl (by decide) lL_168 (by decide) mW_obj rfl rfl (Nat.le_of_ble_eq_true rfl) (Nat.le_of_ble_eq_true rfl) dL_law_931 (by omega) (by omega) (z_room (by omega) (Nat.le_refl _) (Nat.le_refl _) (R_saveSnapshot (d := 0) (by decide) hM (fun t3 v3 g3 s3 a3 hf3 hM3 h20 => ⟨rfl, ?_⟩)))
  obtain ⟨et, ev, eg⟩ : 0 = t3 ∧ v = v3 ∧ g2 = g3 := by
    have e9 := hf.symm.trans hf3
    cases e9
    exact ⟨rfl, rfl, rfl⟩
  rw [← eg] at hM3
  refine z_icmp_eq (tgt := 2334) dL_law_934 (by decide) (fun czq934 => ?_) (fun czq934 => absurd ev czq934)
  rw [← lW_sw]
  exact hnext _ _ _ _ _ _ _ _ _ hC2 hM3

set_option maxHeartbeats 4000000 in
set_option maxRecDepth 100000 in
theorem L_15 {l : zL} {d kc ks i : Nat} {h : Nat → va_E} {F : Nat → Int64} {sR : Nat → Int32} {aR : Nat → Nat → Int32} {cm : Value} {o u : Nat → Nat → Int32} {s : Nat → Nat → Int32} {a : Nat → Nat → Nat → Int32} {g : zGs} {Q : zQ} (hi : 6 * i + 6 ≤ l.2.1) (hl : l.2.1 ≤ 3072) (hC : cI g o u s a) (hM : mI g sR aR) (hnext : ∀ F' sR' aR' cm' o' u' s' a' g', cI g' o' u' s' a' → mI g' sR' aR' → Zj l mL_law (d + 20) kc ks 2334 [(0, .ref (zB + 500)), (1, .ref 0), (2, .ref 89), (3, .ref 103), (4, .int (nI (6 * i)))] [] 104 (lW h F' sR' aR' cm' o' u' s' a') Q) : Zj l mL_law (d + 20) (kc + 3) (ks + 18) 939 [(0, .ref ((zB + 500))), (1, .ref 0), (2, .ref 89), (3, .ref 103), (4, .int ((nI (6 * i))))] [] 104 (lW h F sR aR cm o u s a) Q := by
  refine z_aload_n (j := 1) dL_law_939 rfl ?_
  refine z_aload_n (j := 3) dL_law_940 rfl ?_
  refine z_kSW [.ref 0, .ref 103] (0 + 3) (0 + 18) kc ks yoL_restoreSnapshot ysL_restoreSnapshot (by decide) (by decide) lL_169 rfl (Nat.le_of_ble_eq_true rfl) (Nat.le_of_ble_eq_true rfl) dL_law_941 (by omega) (by omega) (z_room (by omega) (Nat.le_refl _) (Nat.le_refl _) (V_restoreSnapshot (d := 0) hC (fun t v g2 cm2 o2 u2 s2 a2 F2 hf hC2 hz => ⟨rfl, ?_⟩)))
  rw [lW_sw]
  refine z_istore [1, 2, 3, 4, 5, 0] [(0, .ref ((zB + 500))), (1, .ref 0), (2, .ref 89), (3, .ref 103), (4, .int ((nI (6 * i)))), (5, .int t)] dL_law_944 (by decide) rfl ?_
  refine z_aload_n (j := 2) dL_law_946 rfl ?_
  refine z_kV [] 0 0 kc ks yoX8_restoreSnapshot yvX8_restoreSnapshot rfl (by decide) lL_171 (by decide) mW_obj rfl rfl (Nat.le_of_ble_eq_true rfl) (Nat.le_of_ble_eq_true rfl) dL_law_947 (by omega) (by omega) (z_room (by omega) (Nat.le_refl _) (Nat.le_refl _) (R_restoreSnapshot (d := 0) (by decide) hM (fun t3 v3 g3 s3 a3 hf3 hM3 h20 => ⟨rfl, ?_⟩)))
  obtain ⟨et, ev, eg⟩ : t = t3 ∧ v = v3 ∧ g2 = g3 := by
    have e9 := hf.symm.trans hf3
    cases e9
    exact ⟨rfl, rfl, rfl⟩
  rw [← eg] at hM3
  refine z_istore [1, 2, 3, 4, 5, 6, 0] [(0, .ref ((zB + 500))), (1, .ref 0), (2, .ref 89), (3, .ref 103), (4, .int ((nI (6 * i)))), (5, .int t), (6, .int v3)] dL_law_950 (by decide) rfl ?_
  refine z_aload_n (j := 2) dL_law_952 rfl ?_
  refine z_kV [] 0 0 kc ks yoX8_thrown yvX8_thrown rfl (by decide) lL_117 (by decide) mW_obj rfl rfl (Nat.le_of_ble_eq_true rfl) (Nat.le_of_ble_eq_true rfl) dL_law_953 (by omega) (by omega) (z_room (by omega) (Nat.le_refl _) (Nat.le_refl _) (m_thrown (d := 0) (by decide) ⟨rfl, ?_⟩))
  refine z_iload (j := 5) dL_law_956 rfl ?_
  refine z_icmp_eq (tgt := 963) dL_law_958 (by decide) (fun czq958 => ?_) (fun czq958 => absurd (h20.trans et.symm) czq958)
  refine z_iload (j := 5) dL_law_963 rfl ?_
  refine z_if_ne (tgt := 980) dL_law_965 (by decide) (fun czq965 => ?_) (fun czq965 => ?_)
  · refine z_goto (tgt := 2334) dL_law_980 (by decide) ?_
    refine z_lv [(0, .ref ((zB + 500))), (1, .ref 0), (2, .ref 89), (3, .ref 103), (4, .int ((nI (6 * i))))] [0, 1, 2, 3, 4] rfl ?_
    rw [← lW_sw]
    exact hnext _ _ _ _ _ _ _ _ _ hC2 hM3
  · refine z_aload_n (j := 3) dL_law_968 rfl ?_
    refine z_iconst (v := 0) dL_law_969 (by decide) ?_
    refine l_aldM (x := v.toInt64) (hz czq965) dL_law_970 ?_
    refine z_iload (j := 6) dL_law_971 rfl ?_
    refine z_i2l dL_law_973 ?_
    refine z_lcmp dL_law_974 ?_
    rw [show lg_cmp v.toInt64 v3.toInt64 = 0 from (lg_cmp_eq _ _).mpr (by rw [ev])]
    refine z_if_eq (tgt := 980) dL_law_975 (by decide) (fun czq975 => ?_) (fun czq975 => absurd rfl czq975)
    refine z_goto (tgt := 2334) dL_law_980 (by decide) ?_
    refine z_lv [(0, .ref ((zB + 500))), (1, .ref 0), (2, .ref 89), (3, .ref 103), (4, .int ((nI (6 * i))))] [0, 1, 2, 3, 4] rfl ?_
    rw [← lW_sw]
    exact hnext _ _ _ _ _ _ _ _ _ hC2 hM3

set_option maxHeartbeats 4000000 in
set_option maxRecDepth 100000 in
theorem L_16 {l : zL} {d kc ks i : Nat} {h : Nat → va_E} {F : Nat → Int64} {sR : Nat → Int32} {aR : Nat → Nat → Int32} {cm : Value} {o u : Nat → Nat → Int32} {s : Nat → Nat → Int32} {a : Nat → Nat → Nat → Int32} {g : zGs} {Q : zQ} (hi : 6 * i + 6 ≤ l.2.1) (hl : l.2.1 ≤ 3072) (hC : cI g o u s a) (hM : mI g sR aR) (hnext : ∀ F' sR' aR' cm' o' u' s' a' g', cI g' o' u' s' a' → mI g' sR' aR' → Zj l mL_law (d + 20) kc ks 2334 [(0, .ref (zB + 500)), (1, .ref 0), (2, .ref 89), (3, .ref 103), (4, .int (nI (6 * i)))] [] 104 (lW h F' sR' aR' cm' o' u' s' a') Q) : Zj l mL_law (d + 20) (kc + 3) (ks + 18) 983 [(0, .ref ((zB + 500))), (1, .ref 0), (2, .ref 89), (3, .ref 103), (4, .int ((nI (6 * i))))] [] 104 (lW h F sR aR cm o u s a) Q := by
  refine z_aload_n (j := 1) dL_law_983 rfl ?_
  refine z_kV [] (0 + 3) (0 + 18) kc ks yoX7_scriptErrorKind yvX7_scriptErrorKind rfl (by decide) lL_172 (by decide) lW_0 rfl rfl (Nat.le_of_ble_eq_true rfl) (Nat.le_of_ble_eq_true rfl) dL_law_984 (by omega) (by omega) (z_room (by omega) (Nat.le_refl _) (Nat.le_refl _) (K_scriptErrorKind (d := 0) (by decide) hC (fun t v g2 cm2 o2 u2 s2 a2 hf hC2 => ?_)))
  show zk mL_law l _ kc ks 984 _ _ 104 Q (oc IAE ISE t v) 104 (lW h F sR aR cm2 o2 u2 s2 a2)
  obtain rfl : t = 0 := T_scriptErrorKind hf
  rw [oc_0]
  refine ⟨rfl, ?_⟩
  rw [lW_sw]
  refine z_aload_n (j := 2) dL_law_987 rfl ?_
  refine z_kV [] 0 0 kc ks yoX8_scriptErrorKind yvX8_scriptErrorKind rfl (by decide) lL_175 (by decide) mW_obj rfl rfl (Nat.le_of_ble_eq_true rfl) (Nat.le_of_ble_eq_true rfl) dL_law_988 (by omega) (by omega) (z_room (by omega) (Nat.le_refl _) (Nat.le_refl _) (R_scriptErrorKind (d := 0) (by decide) hM (fun t3 v3 g3 s3 a3 hf3 hM3 h20 => ⟨rfl, ?_⟩)))
  obtain ⟨et, ev, eg⟩ : 0 = t3 ∧ v = v3 ∧ g2 = g3 := by
    have e9 := hf.symm.trans hf3
    cases e9
    exact ⟨rfl, rfl, rfl⟩
  rw [← eg] at hM3
  refine z_icmp_eq (tgt := 2334) dL_law_991 (by decide) (fun czq991 => ?_) (fun czq991 => absurd ev czq991)
  rw [← lW_sw]
  exact hnext _ _ _ _ _ _ _ _ _ hC2 hM3

set_option maxHeartbeats 4000000 in
set_option maxRecDepth 100000 in
theorem L_17 {l : zL} {d kc ks i : Nat} {h : Nat → va_E} {F : Nat → Int64} {sR : Nat → Int32} {aR : Nat → Nat → Int32} {cm : Value} {o u : Nat → Nat → Int32} {s : Nat → Nat → Int32} {a : Nat → Nat → Nat → Int32} {g : zGs} {Q : zQ} (hi : 6 * i + 6 ≤ l.2.1) (hl : l.2.1 ≤ 3072) (hC : cI g o u s a) (hM : mI g sR aR) (hnext : ∀ F' sR' aR' cm' o' u' s' a' g', cI g' o' u' s' a' → mI g' sR' aR' → Zj l mL_law (d + 20) kc ks 2334 [(0, .ref (zB + 500)), (1, .ref 0), (2, .ref 89), (3, .ref 103), (4, .int (nI (6 * i)))] [] 104 (lW h F' sR' aR' cm' o' u' s' a') Q) : Zj l mL_law (d + 20) (kc + 3) (ks + 18) 996 [(0, .ref ((zB + 500))), (1, .ref 0), (2, .ref 89), (3, .ref 103), (4, .int ((nI (6 * i))))] [] 104 (lW h F sR aR cm o u s a) Q := by
  refine z_aload_n (j := 1) dL_law_996 rfl ?_
  refine z_kV [] (0 + 3) (0 + 18) kc ks yoX7_scriptErrorOffset yvX7_scriptErrorOffset rfl (by decide) lL_176 (by decide) lW_0 rfl rfl (Nat.le_of_ble_eq_true rfl) (Nat.le_of_ble_eq_true rfl) dL_law_997 (by omega) (by omega) (z_room (by omega) (Nat.le_refl _) (Nat.le_refl _) (K_scriptErrorOffset (d := 0) (by decide) hC (fun t v g2 cm2 o2 u2 s2 a2 hf hC2 => ?_)))
  show zk mL_law l _ kc ks 997 _ _ 104 Q (oc IAE ISE t v) 104 (lW h F sR aR cm2 o2 u2 s2 a2)
  obtain rfl : t = 0 := T_scriptErrorOffset hf
  rw [oc_0]
  refine ⟨rfl, ?_⟩
  rw [lW_sw]
  refine z_aload_n (j := 2) dL_law_1000 rfl ?_
  refine z_kV [] 0 0 kc ks yoX8_scriptErrorOffset yvX8_scriptErrorOffset rfl (by decide) lL_179 (by decide) mW_obj rfl rfl (Nat.le_of_ble_eq_true rfl) (Nat.le_of_ble_eq_true rfl) dL_law_1001 (by omega) (by omega) (z_room (by omega) (Nat.le_refl _) (Nat.le_refl _) (R_scriptErrorOffset (d := 0) (by decide) hM (fun t3 v3 g3 s3 a3 hf3 hM3 h20 => ⟨rfl, ?_⟩)))
  obtain ⟨et, ev, eg⟩ : 0 = t3 ∧ v = v3 ∧ g2 = g3 := by
    have e9 := hf.symm.trans hf3
    cases e9
    exact ⟨rfl, rfl, rfl⟩
  rw [← eg] at hM3
  refine z_icmp_eq (tgt := 2334) dL_law_1004 (by decide) (fun czq1004 => ?_) (fun czq1004 => absurd ev czq1004)
  rw [← lW_sw]
  exact hnext _ _ _ _ _ _ _ _ _ hC2 hM3

set_option maxHeartbeats 4000000 in
set_option maxRecDepth 100000 in
theorem L_18 {l : zL} {d kc ks i : Nat} {h : Nat → va_E} {F : Nat → Int64} {sR : Nat → Int32} {aR : Nat → Nat → Int32} {cm : Value} {o u : Nat → Nat → Int32} {s : Nat → Nat → Int32} {a : Nat → Nat → Nat → Int32} {g : zGs} {Q : zQ} (hi : 6 * i + 6 ≤ l.2.1) (hl : l.2.1 ≤ 3072) (hC : cI g o u s a) (hM : mI g sR aR) (hnext : ∀ F' sR' aR' cm' o' u' s' a' g', cI g' o' u' s' a' → mI g' sR' aR' → Zj l mL_law (d + 20) kc ks 2334 [(0, .ref (zB + 500)), (1, .ref 0), (2, .ref 89), (3, .ref 103), (4, .int (nI (6 * i)))] [] 104 (lW h F' sR' aR' cm' o' u' s' a') Q) : Zj l mL_law (d + 20) (kc + 3) (ks + 18) 1009 [(0, .ref ((zB + 500))), (1, .ref 0), (2, .ref 89), (3, .ref 103), (4, .int ((nI (6 * i))))] [] 104 (lW h F sR aR cm o u s a) Q := by
  refine z_aload_n (j := 1) dL_law_1009 rfl ?_
  refine z_kV [] (0 + 3) (0 + 18) kc ks yoX7_bucketCount yvX7_bucketCount rfl (by decide) lL_180 (by decide) lW_0 rfl rfl (Nat.le_of_ble_eq_true rfl) (Nat.le_of_ble_eq_true rfl) dL_law_1010 (by omega) (by omega) (z_room (by omega) (Nat.le_refl _) (Nat.le_refl _) (K_bucketCount (d := 0) (by decide) hC (fun t v g2 cm2 o2 u2 s2 a2 hf hC2 => ?_)))
  show zk mL_law l _ kc ks 1010 _ _ 104 Q (oc IAE ISE t v) 104 (lW h F sR aR cm2 o2 u2 s2 a2)
  obtain rfl : t = 0 := T_bucketCount hf
  rw [oc_0]
  refine ⟨rfl, ?_⟩
  rw [lW_sw]
  refine z_aload_n (j := 2) dL_law_1013 rfl ?_
  refine z_kV [] 0 0 kc ks yoX8_bucketCount yvX8_bucketCount rfl (by decide) lL_183 (by decide) mW_obj rfl rfl (Nat.le_of_ble_eq_true rfl) (Nat.le_of_ble_eq_true rfl) dL_law_1014 (by omega) (by omega) (z_room (by omega) (Nat.le_refl _) (Nat.le_refl _) (R_bucketCount (d := 0) (by decide) hM (fun t3 v3 g3 s3 a3 hf3 hM3 h20 => ⟨rfl, ?_⟩)))
  obtain ⟨et, ev, eg⟩ : 0 = t3 ∧ v = v3 ∧ g2 = g3 := by
    have e9 := hf.symm.trans hf3
    cases e9
    exact ⟨rfl, rfl, rfl⟩
  rw [← eg] at hM3
  refine z_icmp_eq (tgt := 2334) dL_law_1017 (by decide) (fun czq1017 => ?_) (fun czq1017 => absurd ev czq1017)
  rw [← lW_sw]
  exact hnext _ _ _ _ _ _ _ _ _ hC2 hM3

set_option maxHeartbeats 4000000 in
set_option maxRecDepth 100000 in
theorem L_19 {l : zL} {d kc ks i : Nat} {h : Nat → va_E} {F : Nat → Int64} {sR : Nat → Int32} {aR : Nat → Nat → Int32} {cm : Value} {o u : Nat → Nat → Int32} {s : Nat → Nat → Int32} {a : Nat → Nat → Nat → Int32} {g : zGs} {Q : zQ} (hi : 6 * i + 6 ≤ l.2.1) (hl : l.2.1 ≤ 3072) (hC : cI g o u s a) (hM : mI g sR aR) (hnext : ∀ F' sR' aR' cm' o' u' s' a' g', cI g' o' u' s' a' → mI g' sR' aR' → Zj l mL_law (d + 20) kc ks 2334 [(0, .ref (zB + 500)), (1, .ref 0), (2, .ref 89), (3, .ref 103), (4, .int (nI (6 * i)))] [] 104 (lW h F' sR' aR' cm' o' u' s' a') Q) : Zj l mL_law (d + 20) (kc + 3) (ks + 18) 1022 [(0, .ref ((zB + 500))), (1, .ref 0), (2, .ref 89), (3, .ref 103), (4, .int ((nI (6 * i))))] [] 104 (lW h F sR aR cm o u s a) Q := by
  refine z_aload_n (j := 1) dL_law_1022 rfl ?_
  refine z_kV [] (0 + 3) (0 + 18) kc ks yoX7_entryCount yvX7_entryCount rfl (by decide) lL_184 (by decide) lW_0 rfl rfl (Nat.le_of_ble_eq_true rfl) (Nat.le_of_ble_eq_true rfl) dL_law_1023 (by omega) (by omega) (z_room (by omega) (Nat.le_refl _) (Nat.le_refl _) (K_entryCount (d := 0) (by decide) hC (fun t v g2 cm2 o2 u2 s2 a2 hf hC2 => ?_)))
  show zk mL_law l _ kc ks 1023 _ _ 104 Q (oc IAE ISE t v) 104 (lW h F sR aR cm2 o2 u2 s2 a2)
  obtain rfl : t = 0 := T_entryCount hf
  rw [oc_0]
  refine ⟨rfl, ?_⟩
  rw [lW_sw]
  refine z_aload_n (j := 2) dL_law_1026 rfl ?_
  refine z_kV [] 0 0 kc ks yoX8_entryCount yvX8_entryCount rfl (by decide) lL_187 (by decide) mW_obj rfl rfl (Nat.le_of_ble_eq_true rfl) (Nat.le_of_ble_eq_true rfl) dL_law_1027 (by omega) (by omega) (z_room (by omega) (Nat.le_refl _) (Nat.le_refl _) (R_entryCount (d := 0) (by decide) hM (fun t3 v3 g3 s3 a3 hf3 hM3 h20 => ⟨rfl, ?_⟩)))
  obtain ⟨et, ev, eg⟩ : 0 = t3 ∧ v = v3 ∧ g2 = g3 := by
    have e9 := hf.symm.trans hf3
    cases e9
    exact ⟨rfl, rfl, rfl⟩
  rw [← eg] at hM3
  refine z_icmp_eq (tgt := 2334) dL_law_1030 (by decide) (fun czq1030 => ?_) (fun czq1030 => absurd ev czq1030)
  rw [← lW_sw]
  exact hnext _ _ _ _ _ _ _ _ _ hC2 hM3

set_option maxHeartbeats 4000000 in
set_option maxRecDepth 100000 in
theorem L_20 {l : zL} {d kc ks i : Nat} {h : Nat → va_E} {F : Nat → Int64} {sR : Nat → Int32} {aR : Nat → Nat → Int32} {cm : Value} {o u : Nat → Nat → Int32} {s : Nat → Nat → Int32} {a : Nat → Nat → Nat → Int32} {g : zGs} {Q : zQ} (hi : 6 * i + 6 ≤ l.2.1) (hl : l.2.1 ≤ 3072) (hC : cI g o u s a) (hM : mI g sR aR) (hnext : ∀ F' sR' aR' cm' o' u' s' a' g', cI g' o' u' s' a' → mI g' sR' aR' → Zj l mL_law (d + 20) kc ks 2334 [(0, .ref (zB + 500)), (1, .ref 0), (2, .ref 89), (3, .ref 103), (4, .int (nI (6 * i)))] [] 104 (lW h F' sR' aR' cm' o' u' s' a') Q) : Zj l mL_law (d + 20) (kc + 3) (ks + 18) 1035 [(0, .ref ((zB + 500))), (1, .ref 0), (2, .ref 89), (3, .ref 103), (4, .int ((nI (6 * i))))] [] 104 (lW h F sR aR cm o u s a) Q := by
  refine z_aload_n (j := 1) dL_law_1035 rfl ?_
  refine z_kV [] (0 + 3) (0 + 18) kc ks yoX7_neighbourhood yvX7_neighbourhood rfl (by decide) lL_188 (by decide) lW_0 rfl rfl (Nat.le_of_ble_eq_true rfl) (Nat.le_of_ble_eq_true rfl) dL_law_1036 (by omega) (by omega) (z_room (by omega) (Nat.le_refl _) (Nat.le_refl _) (K_neighbourhood (d := 0) (by decide) hC (fun t v g2 cm2 o2 u2 s2 a2 hf hC2 => ?_)))
  show zk mL_law l _ kc ks 1036 _ _ 104 Q (oc IAE ISE t v) 104 (lW h F sR aR cm2 o2 u2 s2 a2)
  obtain rfl : t = 0 := T_neighbourhood hf
  rw [oc_0]
  refine ⟨rfl, ?_⟩
  rw [lW_sw]
  refine z_aload_n (j := 2) dL_law_1039 rfl ?_
  refine z_kV [] 0 0 kc ks yoX8_neighbourhood yvX8_neighbourhood rfl (by decide) lL_191 (by decide) mW_obj rfl rfl (Nat.le_of_ble_eq_true rfl) (Nat.le_of_ble_eq_true rfl) dL_law_1040 (by omega) (by omega) (z_room (by omega) (Nat.le_refl _) (Nat.le_refl _) (R_neighbourhood (d := 0) (by decide) hM (fun t3 v3 g3 s3 a3 hf3 hM3 h20 => ⟨rfl, ?_⟩)))
  obtain ⟨et, ev, eg⟩ : 0 = t3 ∧ v = v3 ∧ g2 = g3 := by
    have e9 := hf.symm.trans hf3
    cases e9
    exact ⟨rfl, rfl, rfl⟩
  rw [← eg] at hM3
  refine z_icmp_eq (tgt := 2334) dL_law_1043 (by decide) (fun czq1043 => ?_) (fun czq1043 => absurd ev czq1043)
  rw [← lW_sw]
  exact hnext _ _ _ _ _ _ _ _ _ hC2 hM3

set_option maxHeartbeats 4000000 in
set_option maxRecDepth 100000 in
theorem L_21 {l : zL} {d kc ks i : Nat} {h : Nat → va_E} {F : Nat → Int64} {sR : Nat → Int32} {aR : Nat → Nat → Int32} {cm : Value} {o u : Nat → Nat → Int32} {s : Nat → Nat → Int32} {a : Nat → Nat → Nat → Int32} {g : zGs} {Q : zQ} (hi : 6 * i + 6 ≤ l.2.1) (hl : l.2.1 ≤ 3072) (hC : cI g o u s a) (hM : mI g sR aR) (hnext : ∀ F' sR' aR' cm' o' u' s' a' g', cI g' o' u' s' a' → mI g' sR' aR' → Zj l mL_law (d + 20) kc ks 2334 [(0, .ref (zB + 500)), (1, .ref 0), (2, .ref 89), (3, .ref 103), (4, .int (nI (6 * i)))] [] 104 (lW h F' sR' aR' cm' o' u' s' a') Q) : Zj l mL_law (d + 20) (kc + 3) (ks + 18) 1048 [(0, .ref ((zB + 500))), (1, .ref 0), (2, .ref 89), (3, .ref 103), (4, .int ((nI (6 * i))))] [] 104 (lW h F sR aR cm o u s a) Q := by
  refine z_aload_n (j := 1) dL_law_1048 rfl ?_
  refine z_kV [] (0 + 3) (0 + 18) kc ks yoX7_multiplier yvX7_multiplier rfl (by decide) lL_192 (by decide) lW_0 rfl rfl (Nat.le_of_ble_eq_true rfl) (Nat.le_of_ble_eq_true rfl) dL_law_1049 (by omega) (by omega) (z_room (by omega) (Nat.le_refl _) (Nat.le_refl _) (K_multiplier (d := 0) (by decide) hC (fun t v g2 cm2 o2 u2 s2 a2 hf hC2 => ?_)))
  show zk mL_law l _ kc ks 1049 _ _ 104 Q (oc IAE ISE t v) 104 (lW h F sR aR cm2 o2 u2 s2 a2)
  obtain rfl : t = 0 := T_multiplier hf
  rw [oc_0]
  refine ⟨rfl, ?_⟩
  rw [lW_sw]
  refine z_aload_n (j := 2) dL_law_1052 rfl ?_
  refine z_kV [] 0 0 kc ks yoX8_multiplier yvX8_multiplier rfl (by decide) lL_195 (by decide) mW_obj rfl rfl (Nat.le_of_ble_eq_true rfl) (Nat.le_of_ble_eq_true rfl) dL_law_1053 (by omega) (by omega) (z_room (by omega) (Nat.le_refl _) (Nat.le_refl _) (R_multiplier (d := 0) (by decide) hM (fun t3 v3 g3 s3 a3 hf3 hM3 h20 => ⟨rfl, ?_⟩)))
  obtain ⟨et, ev, eg⟩ : 0 = t3 ∧ v = v3 ∧ g2 = g3 := by
    have e9 := hf.symm.trans hf3
    cases e9
    exact ⟨rfl, rfl, rfl⟩
  rw [← eg] at hM3
  refine z_icmp_eq (tgt := 2334) dL_law_1056 (by decide) (fun czq1056 => ?_) (fun czq1056 => absurd ev czq1056)
  rw [← lW_sw]
  exact hnext _ _ _ _ _ _ _ _ _ hC2 hM3

set_option maxHeartbeats 4000000 in
set_option maxRecDepth 100000 in
theorem L_22 {l : zL} {d kc ks i : Nat} {h : Nat → va_E} {F : Nat → Int64} {sR : Nat → Int32} {aR : Nat → Nat → Int32} {cm : Value} {o u : Nat → Nat → Int32} {s : Nat → Nat → Int32} {a : Nat → Nat → Nat → Int32} {g : zGs} {Q : zQ} (hi : 6 * i + 6 ≤ l.2.1) (hl : l.2.1 ≤ 3072) (hC : cI g o u s a) (hM : mI g sR aR) (hnext : ∀ F' sR' aR' cm' o' u' s' a' g', cI g' o' u' s' a' → mI g' sR' aR' → Zj l mL_law (d + 20) kc ks 2334 [(0, .ref (zB + 500)), (1, .ref 0), (2, .ref 89), (3, .ref 103), (4, .int (nI (6 * i)))] [] 104 (lW h F' sR' aR' cm' o' u' s' a') Q) : Zj l mL_law (d + 20) (kc + 3) (ks + 18) 1061 [(0, .ref ((zB + 500))), (1, .ref 0), (2, .ref 89), (3, .ref 103), (4, .int ((nI (6 * i))))] [] 104 (lW h F sR aR cm o u s a) Q := by
  refine z_aload_n (j := 1) dL_law_1061 rfl ?_
  refine z_kV [] (0 + 3) (0 + 18) kc ks yoX7_isPulling yvX7_isPulling rfl (by decide) lL_196 (by decide) lW_0 rfl rfl (Nat.le_of_ble_eq_true rfl) (Nat.le_of_ble_eq_true rfl) dL_law_1062 (by omega) (by omega) (z_room (by omega) (Nat.le_refl _) (Nat.le_refl _) (K_isPulling (d := 0) (by decide) hC (fun t v g2 cm2 o2 u2 s2 a2 hf hC2 => ?_)))
  show zk mL_law l _ kc ks 1062 _ _ 104 Q (oc IAE ISE t v) 104 (lW h F sR aR cm2 o2 u2 s2 a2)
  obtain rfl : t = 0 := T_isPulling hf
  rw [oc_0]
  refine ⟨rfl, ?_⟩
  rw [lW_sw]
  refine z_aload_n (j := 2) dL_law_1065 rfl ?_
  refine z_kV [] 0 0 kc ks yoX8_isPulling yvX8_isPulling rfl (by decide) lL_200 (by decide) mW_obj rfl rfl (Nat.le_of_ble_eq_true rfl) (Nat.le_of_ble_eq_true rfl) dL_law_1066 (by omega) (by omega) (z_room (by omega) (Nat.le_refl _) (Nat.le_refl _) (R_isPulling (d := 0) (by decide) hM (fun t3 v3 g3 s3 a3 hf3 hM3 h20 => ⟨rfl, ?_⟩)))
  obtain ⟨et, ev, eg⟩ : 0 = t3 ∧ v = v3 ∧ g2 = g3 := by
    have e9 := hf.symm.trans hf3
    cases e9
    exact ⟨rfl, rfl, rfl⟩
  rw [← eg] at hM3
  refine z_icmp_eq (tgt := 2334) dL_law_1069 (by decide) (fun czq1069 => ?_) (fun czq1069 => absurd ev czq1069)
  rw [← lW_sw]
  exact hnext _ _ _ _ _ _ _ _ _ hC2 hM3

set_option maxHeartbeats 4000000 in
set_option maxRecDepth 100000 in
theorem L_23 {l : zL} {d kc ks i : Nat} {h : Nat → va_E} {F : Nat → Int64} {sR : Nat → Int32} {aR : Nat → Nat → Int32} {cm : Value} {o u : Nat → Nat → Int32} {s : Nat → Nat → Int32} {a : Nat → Nat → Nat → Int32} {g : zGs} {Q : zQ} (hi : 6 * i + 6 ≤ l.2.1) (hl : l.2.1 ≤ 3072) (hC : cI g o u s a) (hM : mI g sR aR) (hnext : ∀ F' sR' aR' cm' o' u' s' a' g', cI g' o' u' s' a' → mI g' sR' aR' → Zj l mL_law (d + 20) kc ks 2334 [(0, .ref (zB + 500)), (1, .ref 0), (2, .ref 89), (3, .ref 103), (4, .int (nI (6 * i)))] [] 104 (lW h F' sR' aR' cm' o' u' s' a') Q) : Zj l mL_law (d + 20) (kc + 3) (ks + 18) 1074 [(0, .ref ((zB + 500))), (1, .ref 0), (2, .ref 89), (3, .ref 103), (4, .int ((nI (6 * i))))] [] 104 (lW h F sR aR cm o u s a) Q := by
  refine z_aload_n (j := 1) dL_law_1074 rfl ?_
  refine z_aload_n (j := 0) dL_law_1075 rfl ?_
  refine z_iload (j := 4) dL_law_1076 rfl ?_
  refine z_iconst (v := 1) dL_law_1078 (by decide) ?_
  refine z_iadd dL_law_1079 ?_
  rw [show nI (6 * i) + 1 = nI (6 * i + 1) from nI_add (6 * i) 1]
  refine z_sld (vp_in_nI (by omega) (by omega)) dL_law_1080 ?_
  refine z_aload_n (j := 3) dL_law_1081 rfl ?_
  refine z_kSW [.ref 0, .int ((l.2.2 (nI (6 * i + 1)).toNatClampNeg)), .ref 103] (0 + 3) (0 + 18) kc ks yoL_keyAt ysL_keyAt (by decide) (by decide) lL_201 rfl (Nat.le_of_ble_eq_true rfl) (Nat.le_of_ble_eq_true rfl) dL_law_1082 (by omega) (by omega) (z_room (by omega) (Nat.le_refl _) (Nat.le_refl _) (V_keyAt (d := 0) hC (fun t v g2 cm2 o2 u2 s2 a2 F2 hf hC2 hz => ⟨rfl, ?_⟩)))
  rw [lW_sw]
  refine z_istore [1, 2, 3, 4, 5, 0] [(0, .ref ((zB + 500))), (1, .ref 0), (2, .ref 89), (3, .ref 103), (4, .int ((nI (6 * i)))), (5, .int t)] dL_law_1085 (by decide) rfl ?_
  refine z_aload_n (j := 2) dL_law_1087 rfl ?_
  refine z_aload_n (j := 0) dL_law_1088 rfl ?_
  refine z_iload (j := 4) dL_law_1089 rfl ?_
  refine z_iconst (v := 1) dL_law_1091 (by decide) ?_
  refine z_iadd dL_law_1092 ?_
  rw [show nI (6 * i) + 1 = nI (6 * i + 1) from nI_add (6 * i) 1]
  refine z_sld (vp_in_nI (by omega) (by omega)) dL_law_1093 ?_
  refine z_kV [.int ((l.2.2 (nI (6 * i + 1)).toNatClampNeg))] 0 0 kc ks yoX8_keyAt yvX8_keyAt rfl (by decide) lL_203 (by decide) mW_obj rfl rfl (Nat.le_of_ble_eq_true rfl) (Nat.le_of_ble_eq_true rfl) dL_law_1094 (by omega) (by omega) (z_room (by omega) (Nat.le_refl _) (Nat.le_refl _) (R_keyAt (d := 0) (by decide) hM (fun t3 v3 g3 s3 a3 hf3 hM3 h20 => ⟨rfl, ?_⟩)))
  obtain ⟨et, ev, eg⟩ : t = t3 ∧ v = v3 ∧ g2 = g3 := by
    have e9 := hf.symm.trans hf3
    cases e9
    exact ⟨rfl, rfl, rfl⟩
  rw [← eg] at hM3
  refine z_istore [1, 2, 3, 4, 5, 6, 0] [(0, .ref ((zB + 500))), (1, .ref 0), (2, .ref 89), (3, .ref 103), (4, .int ((nI (6 * i)))), (5, .int t), (6, .int v3)] dL_law_1097 (by decide) rfl ?_
  refine z_aload_n (j := 2) dL_law_1099 rfl ?_
  refine z_kV [] 0 0 kc ks yoX8_thrown yvX8_thrown rfl (by decide) lL_117 (by decide) mW_obj rfl rfl (Nat.le_of_ble_eq_true rfl) (Nat.le_of_ble_eq_true rfl) dL_law_1100 (by omega) (by omega) (z_room (by omega) (Nat.le_refl _) (Nat.le_refl _) (m_thrown (d := 0) (by decide) ⟨rfl, ?_⟩))
  refine z_iload (j := 5) dL_law_1103 rfl ?_
  refine z_icmp_eq (tgt := 1110) dL_law_1105 (by decide) (fun czq1105 => ?_) (fun czq1105 => absurd (h20.trans et.symm) czq1105)
  refine z_iload (j := 5) dL_law_1110 rfl ?_
  refine z_if_ne (tgt := 1127) dL_law_1112 (by decide) (fun czq1112 => ?_) (fun czq1112 => ?_)
  · refine z_goto (tgt := 2334) dL_law_1127 (by decide) ?_
    refine z_lv [(0, .ref ((zB + 500))), (1, .ref 0), (2, .ref 89), (3, .ref 103), (4, .int ((nI (6 * i))))] [0, 1, 2, 3, 4] rfl ?_
    rw [← lW_sw]
    exact hnext _ _ _ _ _ _ _ _ _ hC2 hM3
  · refine z_aload_n (j := 3) dL_law_1115 rfl ?_
    refine z_iconst (v := 0) dL_law_1116 (by decide) ?_
    refine l_aldM (x := v.toInt64) (hz czq1112) dL_law_1117 ?_
    refine z_iload (j := 6) dL_law_1118 rfl ?_
    refine z_i2l dL_law_1120 ?_
    refine z_lcmp dL_law_1121 ?_
    rw [show lg_cmp v.toInt64 v3.toInt64 = 0 from (lg_cmp_eq _ _).mpr (by rw [ev])]
    refine z_if_eq (tgt := 1127) dL_law_1122 (by decide) (fun czq1122 => ?_) (fun czq1122 => absurd rfl czq1122)
    refine z_goto (tgt := 2334) dL_law_1127 (by decide) ?_
    refine z_lv [(0, .ref ((zB + 500))), (1, .ref 0), (2, .ref 89), (3, .ref 103), (4, .int ((nI (6 * i))))] [0, 1, 2, 3, 4] rfl ?_
    rw [← lW_sw]
    exact hnext _ _ _ _ _ _ _ _ _ hC2 hM3

set_option maxHeartbeats 4000000 in
set_option maxRecDepth 100000 in
theorem L_24 {l : zL} {d kc ks i : Nat} {h : Nat → va_E} {F : Nat → Int64} {sR : Nat → Int32} {aR : Nat → Nat → Int32} {cm : Value} {o u : Nat → Nat → Int32} {s : Nat → Nat → Int32} {a : Nat → Nat → Nat → Int32} {g : zGs} {Q : zQ} (hi : 6 * i + 6 ≤ l.2.1) (hl : l.2.1 ≤ 3072) (hC : cI g o u s a) (hM : mI g sR aR) (hnext : ∀ F' sR' aR' cm' o' u' s' a' g', cI g' o' u' s' a' → mI g' sR' aR' → Zj l mL_law (d + 20) kc ks 2334 [(0, .ref (zB + 500)), (1, .ref 0), (2, .ref 89), (3, .ref 103), (4, .int (nI (6 * i)))] [] 104 (lW h F' sR' aR' cm' o' u' s' a') Q) : Zj l mL_law (d + 20) (kc + 3) (ks + 18) 1130 [(0, .ref ((zB + 500))), (1, .ref 0), (2, .ref 89), (3, .ref 103), (4, .int ((nI (6 * i))))] [] 104 (lW h F sR aR cm o u s a) Q := by
  refine z_aload_n (j := 1) dL_law_1130 rfl ?_
  refine z_aload_n (j := 0) dL_law_1131 rfl ?_
  refine z_iload (j := 4) dL_law_1132 rfl ?_
  refine z_iconst (v := 1) dL_law_1134 (by decide) ?_
  refine z_iadd dL_law_1135 ?_
  rw [show nI (6 * i) + 1 = nI (6 * i + 1) from nI_add (6 * i) 1]
  refine z_sld (vp_in_nI (by omega) (by omega)) dL_law_1136 ?_
  refine z_aload_n (j := 3) dL_law_1137 rfl ?_
  refine z_kSW [.ref 0, .int ((l.2.2 (nI (6 * i + 1)).toNatClampNeg)), .ref 103] (0 + 3) (0 + 18) kc ks yoL_valueAt ysL_valueAt (by decide) (by decide) lL_204 rfl (Nat.le_of_ble_eq_true rfl) (Nat.le_of_ble_eq_true rfl) dL_law_1138 (by omega) (by omega) (z_room (by omega) (Nat.le_refl _) (Nat.le_refl _) (V_valueAt (d := 0) hC (fun t v g2 cm2 o2 u2 s2 a2 F2 hf hC2 hz => ⟨rfl, ?_⟩)))
  rw [lW_sw]
  refine z_istore [1, 2, 3, 4, 5, 0] [(0, .ref ((zB + 500))), (1, .ref 0), (2, .ref 89), (3, .ref 103), (4, .int ((nI (6 * i)))), (5, .int t)] dL_law_1141 (by decide) rfl ?_
  refine z_aload_n (j := 2) dL_law_1143 rfl ?_
  refine z_aload_n (j := 0) dL_law_1144 rfl ?_
  refine z_iload (j := 4) dL_law_1145 rfl ?_
  refine z_iconst (v := 1) dL_law_1147 (by decide) ?_
  refine z_iadd dL_law_1148 ?_
  rw [show nI (6 * i) + 1 = nI (6 * i + 1) from nI_add (6 * i) 1]
  refine z_sld (vp_in_nI (by omega) (by omega)) dL_law_1149 ?_
  refine z_kV [.int ((l.2.2 (nI (6 * i + 1)).toNatClampNeg))] 0 0 kc ks yoX8_valueAt yvX8_valueAt rfl (by decide) lL_206 (by decide) mW_obj rfl rfl (Nat.le_of_ble_eq_true rfl) (Nat.le_of_ble_eq_true rfl) dL_law_1150 (by omega) (by omega) (z_room (by omega) (Nat.le_refl _) (Nat.le_refl _) (R_valueAt (d := 0) (by decide) hM (fun t3 v3 g3 s3 a3 hf3 hM3 h20 => ⟨rfl, ?_⟩)))
  obtain ⟨et, ev, eg⟩ : t = t3 ∧ v = v3 ∧ g2 = g3 := by
    have e9 := hf.symm.trans hf3
    cases e9
    exact ⟨rfl, rfl, rfl⟩
  rw [← eg] at hM3
  refine z_istore [1, 2, 3, 4, 5, 6, 0] [(0, .ref ((zB + 500))), (1, .ref 0), (2, .ref 89), (3, .ref 103), (4, .int ((nI (6 * i)))), (5, .int t), (6, .int v3)] dL_law_1153 (by decide) rfl ?_
  refine z_aload_n (j := 2) dL_law_1155 rfl ?_
  refine z_kV [] 0 0 kc ks yoX8_thrown yvX8_thrown rfl (by decide) lL_117 (by decide) mW_obj rfl rfl (Nat.le_of_ble_eq_true rfl) (Nat.le_of_ble_eq_true rfl) dL_law_1156 (by omega) (by omega) (z_room (by omega) (Nat.le_refl _) (Nat.le_refl _) (m_thrown (d := 0) (by decide) ⟨rfl, ?_⟩))
  refine z_iload (j := 5) dL_law_1159 rfl ?_
  refine z_icmp_eq (tgt := 1166) dL_law_1161 (by decide) (fun czq1161 => ?_) (fun czq1161 => absurd (h20.trans et.symm) czq1161)
  refine z_iload (j := 5) dL_law_1166 rfl ?_
  refine z_if_ne (tgt := 1183) dL_law_1168 (by decide) (fun czq1168 => ?_) (fun czq1168 => ?_)
  · refine z_goto (tgt := 2334) dL_law_1183 (by decide) ?_
    refine z_lv [(0, .ref ((zB + 500))), (1, .ref 0), (2, .ref 89), (3, .ref 103), (4, .int ((nI (6 * i))))] [0, 1, 2, 3, 4] rfl ?_
    rw [← lW_sw]
    exact hnext _ _ _ _ _ _ _ _ _ hC2 hM3
  · refine z_aload_n (j := 3) dL_law_1171 rfl ?_
    refine z_iconst (v := 0) dL_law_1172 (by decide) ?_
    refine l_aldM (x := v.toInt64) (hz czq1168) dL_law_1173 ?_
    refine z_iload (j := 6) dL_law_1174 rfl ?_
    refine z_i2l dL_law_1176 ?_
    refine z_lcmp dL_law_1177 ?_
    rw [show lg_cmp v.toInt64 v3.toInt64 = 0 from (lg_cmp_eq _ _).mpr (by rw [ev])]
    refine z_if_eq (tgt := 1183) dL_law_1178 (by decide) (fun czq1178 => ?_) (fun czq1178 => absurd rfl czq1178)
    refine z_goto (tgt := 2334) dL_law_1183 (by decide) ?_
    refine z_lv [(0, .ref ((zB + 500))), (1, .ref 0), (2, .ref 89), (3, .ref 103), (4, .int ((nI (6 * i))))] [0, 1, 2, 3, 4] rfl ?_
    rw [← lW_sw]
    exact hnext _ _ _ _ _ _ _ _ _ hC2 hM3

set_option maxHeartbeats 4000000 in
set_option maxRecDepth 100000 in
theorem L_25 {l : zL} {d kc ks i : Nat} {h : Nat → va_E} {F : Nat → Int64} {sR : Nat → Int32} {aR : Nat → Nat → Int32} {cm : Value} {o u : Nat → Nat → Int32} {s : Nat → Nat → Int32} {a : Nat → Nat → Nat → Int32} {g : zGs} {Q : zQ} (hi : 6 * i + 6 ≤ l.2.1) (hl : l.2.1 ≤ 3072) (hC : cI g o u s a) (hM : mI g sR aR) (hnext : ∀ F' sR' aR' cm' o' u' s' a' g', cI g' o' u' s' a' → mI g' sR' aR' → Zj l mL_law (d + 20) kc ks 2334 [(0, .ref (zB + 500)), (1, .ref 0), (2, .ref 89), (3, .ref 103), (4, .int (nI (6 * i)))] [] 104 (lW h F' sR' aR' cm' o' u' s' a') Q) : Zj l mL_law (d + 20) (kc + 3) (ks + 18) 1186 [(0, .ref ((zB + 500))), (1, .ref 0), (2, .ref 89), (3, .ref 103), (4, .int ((nI (6 * i))))] [] 104 (lW h F sR aR cm o u s a) Q := by
  refine z_aload_n (j := 1) dL_law_1186 rfl ?_
  refine z_aload_n (j := 0) dL_law_1187 rfl ?_
  refine z_iload (j := 4) dL_law_1188 rfl ?_
  refine z_iconst (v := 1) dL_law_1190 (by decide) ?_
  refine z_iadd dL_law_1191 ?_
  rw [show nI (6 * i) + 1 = nI (6 * i + 1) from nI_add (6 * i) 1]
  refine z_sld (vp_in_nI (by omega) (by omega)) dL_law_1192 ?_
  refine z_aload_n (j := 3) dL_law_1193 rfl ?_
  refine z_kSW [.ref 0, .int ((l.2.2 (nI (6 * i + 1)).toNatClampNeg)), .ref 103] (0 + 3) (0 + 18) kc ks yoL_hopBits ysL_hopBits (by decide) (by decide) lL_207 rfl (Nat.le_of_ble_eq_true rfl) (Nat.le_of_ble_eq_true rfl) dL_law_1194 (by omega) (by omega) (z_room (by omega) (Nat.le_refl _) (Nat.le_refl _) (V_hopBits (d := 0) hC (fun t v g2 cm2 o2 u2 s2 a2 F2 hf hC2 hz => ⟨rfl, ?_⟩)))
  rw [lW_sw]
  refine z_istore [1, 2, 3, 4, 5, 0] [(0, .ref ((zB + 500))), (1, .ref 0), (2, .ref 89), (3, .ref 103), (4, .int ((nI (6 * i)))), (5, .int t)] dL_law_1197 (by decide) rfl ?_
  refine z_aload_n (j := 2) dL_law_1199 rfl ?_
  refine z_aload_n (j := 0) dL_law_1200 rfl ?_
  refine z_iload (j := 4) dL_law_1201 rfl ?_
  refine z_iconst (v := 1) dL_law_1203 (by decide) ?_
  refine z_iadd dL_law_1204 ?_
  rw [show nI (6 * i) + 1 = nI (6 * i + 1) from nI_add (6 * i) 1]
  refine z_sld (vp_in_nI (by omega) (by omega)) dL_law_1205 ?_
  refine z_kV [.int ((l.2.2 (nI (6 * i + 1)).toNatClampNeg))] 0 0 kc ks yoX8_hopBits yvX8_hopBits rfl (by decide) lL_209 (by decide) mW_obj rfl rfl (Nat.le_of_ble_eq_true rfl) (Nat.le_of_ble_eq_true rfl) dL_law_1206 (by omega) (by omega) (z_room (by omega) (Nat.le_refl _) (Nat.le_refl _) (R_hopBits (d := 0) (by decide) hM (fun t3 v3 g3 s3 a3 hf3 hM3 h20 => ⟨rfl, ?_⟩)))
  obtain ⟨et, ev, eg⟩ : t = t3 ∧ v = v3 ∧ g2 = g3 := by
    have e9 := hf.symm.trans hf3
    cases e9
    exact ⟨rfl, rfl, rfl⟩
  rw [← eg] at hM3
  refine z_istore [1, 2, 3, 4, 5, 6, 0] [(0, .ref ((zB + 500))), (1, .ref 0), (2, .ref 89), (3, .ref 103), (4, .int ((nI (6 * i)))), (5, .int t), (6, .int v3)] dL_law_1209 (by decide) rfl ?_
  refine z_aload_n (j := 2) dL_law_1211 rfl ?_
  refine z_kV [] 0 0 kc ks yoX8_thrown yvX8_thrown rfl (by decide) lL_117 (by decide) mW_obj rfl rfl (Nat.le_of_ble_eq_true rfl) (Nat.le_of_ble_eq_true rfl) dL_law_1212 (by omega) (by omega) (z_room (by omega) (Nat.le_refl _) (Nat.le_refl _) (m_thrown (d := 0) (by decide) ⟨rfl, ?_⟩))
  refine z_iload (j := 5) dL_law_1215 rfl ?_
  refine z_icmp_eq (tgt := 1222) dL_law_1217 (by decide) (fun czq1217 => ?_) (fun czq1217 => absurd (h20.trans et.symm) czq1217)
  refine z_iload (j := 5) dL_law_1222 rfl ?_
  refine z_if_ne (tgt := 1239) dL_law_1224 (by decide) (fun czq1224 => ?_) (fun czq1224 => ?_)
  · refine z_goto (tgt := 2334) dL_law_1239 (by decide) ?_
    refine z_lv [(0, .ref ((zB + 500))), (1, .ref 0), (2, .ref 89), (3, .ref 103), (4, .int ((nI (6 * i))))] [0, 1, 2, 3, 4] rfl ?_
    rw [← lW_sw]
    exact hnext _ _ _ _ _ _ _ _ _ hC2 hM3
  · refine z_aload_n (j := 3) dL_law_1227 rfl ?_
    refine z_iconst (v := 0) dL_law_1228 (by decide) ?_
    refine l_aldM (x := v.toInt64) (hz czq1224) dL_law_1229 ?_
    refine z_iload (j := 6) dL_law_1230 rfl ?_
    refine z_i2l dL_law_1232 ?_
    refine z_lcmp dL_law_1233 ?_
    rw [show lg_cmp v.toInt64 v3.toInt64 = 0 from (lg_cmp_eq _ _).mpr (by rw [ev])]
    refine z_if_eq (tgt := 1239) dL_law_1234 (by decide) (fun czq1234 => ?_) (fun czq1234 => absurd rfl czq1234)
    refine z_goto (tgt := 2334) dL_law_1239 (by decide) ?_
    refine z_lv [(0, .ref ((zB + 500))), (1, .ref 0), (2, .ref 89), (3, .ref 103), (4, .int ((nI (6 * i))))] [0, 1, 2, 3, 4] rfl ?_
    rw [← lW_sw]
    exact hnext _ _ _ _ _ _ _ _ _ hC2 hM3

set_option maxHeartbeats 4000000 in
set_option maxRecDepth 100000 in
theorem L_26 {l : zL} {d kc ks i : Nat} {h : Nat → va_E} {F : Nat → Int64} {sR : Nat → Int32} {aR : Nat → Nat → Int32} {cm : Value} {o u : Nat → Nat → Int32} {s : Nat → Nat → Int32} {a : Nat → Nat → Nat → Int32} {g : zGs} {Q : zQ} (hi : 6 * i + 6 ≤ l.2.1) (hl : l.2.1 ≤ 3072) (hC : cI g o u s a) (hM : mI g sR aR) (hnext : ∀ F' sR' aR' cm' o' u' s' a' g', cI g' o' u' s' a' → mI g' sR' aR' → Zj l mL_law (d + 20) kc ks 2334 [(0, .ref (zB + 500)), (1, .ref 0), (2, .ref 89), (3, .ref 103), (4, .int (nI (6 * i)))] [] 104 (lW h F' sR' aR' cm' o' u' s' a') Q) : Zj l mL_law (d + 20) (kc + 3) (ks + 18) 1242 [(0, .ref ((zB + 500))), (1, .ref 0), (2, .ref 89), (3, .ref 103), (4, .int ((nI (6 * i))))] [] 104 (lW h F sR aR cm o u s a) Q := by
  refine z_aload_n (j := 1) dL_law_1242 rfl ?_
  refine z_aload_n (j := 0) dL_law_1243 rfl ?_
  refine z_iload (j := 4) dL_law_1244 rfl ?_
  refine z_iconst (v := 1) dL_law_1246 (by decide) ?_
  refine z_iadd dL_law_1247 ?_
  rw [show nI (6 * i) + 1 = nI (6 * i + 1) from nI_add (6 * i) 1]
  refine z_sld (vp_in_nI (by omega) (by omega)) dL_law_1248 ?_
  refine z_aload_n (j := 3) dL_law_1249 rfl ?_
  refine z_kSW [.ref 0, .int ((l.2.2 (nI (6 * i + 1)).toNatClampNeg)), .ref 103] (0 + 3) (0 + 18) kc ks yoL_entriesOf ysL_entriesOf (by decide) (by decide) lL_210 rfl (Nat.le_of_ble_eq_true rfl) (Nat.le_of_ble_eq_true rfl) dL_law_1250 (by omega) (by omega) (z_room (by omega) (Nat.le_refl _) (Nat.le_refl _) (V_entriesOf (d := 0) hC (fun t v g2 cm2 o2 u2 s2 a2 F2 hf hC2 hz => ⟨rfl, ?_⟩)))
  rw [lW_sw]
  refine z_istore [1, 2, 3, 4, 5, 0] [(0, .ref ((zB + 500))), (1, .ref 0), (2, .ref 89), (3, .ref 103), (4, .int ((nI (6 * i)))), (5, .int t)] dL_law_1253 (by decide) rfl ?_
  refine z_aload_n (j := 2) dL_law_1255 rfl ?_
  refine z_aload_n (j := 0) dL_law_1256 rfl ?_
  refine z_iload (j := 4) dL_law_1257 rfl ?_
  refine z_iconst (v := 1) dL_law_1259 (by decide) ?_
  refine z_iadd dL_law_1260 ?_
  rw [show nI (6 * i) + 1 = nI (6 * i + 1) from nI_add (6 * i) 1]
  refine z_sld (vp_in_nI (by omega) (by omega)) dL_law_1261 ?_
  refine z_kV [.int ((l.2.2 (nI (6 * i + 1)).toNatClampNeg))] 0 0 kc ks yoX8_entriesOf yvX8_entriesOf rfl (by decide) lL_212 (by decide) mW_obj rfl rfl (Nat.le_of_ble_eq_true rfl) (Nat.le_of_ble_eq_true rfl) dL_law_1262 (by omega) (by omega) (z_room (by omega) (Nat.le_refl _) (Nat.le_refl _) (R_entriesOf (d := 0) (by decide) hM (fun t3 v3 g3 s3 a3 hf3 hM3 h20 => ⟨rfl, ?_⟩)))
  obtain ⟨et, ev, eg⟩ : t = t3 ∧ v = v3 ∧ g2 = g3 := by
    have e9 := hf.symm.trans hf3
    cases e9
    exact ⟨rfl, rfl, rfl⟩
  rw [← eg] at hM3
  refine z_istore [1, 2, 3, 4, 5, 6, 0] [(0, .ref ((zB + 500))), (1, .ref 0), (2, .ref 89), (3, .ref 103), (4, .int ((nI (6 * i)))), (5, .int t), (6, .int v3)] dL_law_1265 (by decide) rfl ?_
  refine z_aload_n (j := 2) dL_law_1267 rfl ?_
  refine z_kV [] 0 0 kc ks yoX8_thrown yvX8_thrown rfl (by decide) lL_117 (by decide) mW_obj rfl rfl (Nat.le_of_ble_eq_true rfl) (Nat.le_of_ble_eq_true rfl) dL_law_1268 (by omega) (by omega) (z_room (by omega) (Nat.le_refl _) (Nat.le_refl _) (m_thrown (d := 0) (by decide) ⟨rfl, ?_⟩))
  refine z_iload (j := 5) dL_law_1271 rfl ?_
  refine z_icmp_eq (tgt := 1278) dL_law_1273 (by decide) (fun czq1273 => ?_) (fun czq1273 => absurd (h20.trans et.symm) czq1273)
  refine z_iload (j := 5) dL_law_1278 rfl ?_
  refine z_if_ne (tgt := 1295) dL_law_1280 (by decide) (fun czq1280 => ?_) (fun czq1280 => ?_)
  · refine z_goto (tgt := 2334) dL_law_1295 (by decide) ?_
    refine z_lv [(0, .ref ((zB + 500))), (1, .ref 0), (2, .ref 89), (3, .ref 103), (4, .int ((nI (6 * i))))] [0, 1, 2, 3, 4] rfl ?_
    rw [← lW_sw]
    exact hnext _ _ _ _ _ _ _ _ _ hC2 hM3
  · refine z_aload_n (j := 3) dL_law_1283 rfl ?_
    refine z_iconst (v := 0) dL_law_1284 (by decide) ?_
    refine l_aldM (x := v.toInt64) (hz czq1280) dL_law_1285 ?_
    refine z_iload (j := 6) dL_law_1286 rfl ?_
    refine z_i2l dL_law_1288 ?_
    refine z_lcmp dL_law_1289 ?_
    rw [show lg_cmp v.toInt64 v3.toInt64 = 0 from (lg_cmp_eq _ _).mpr (by rw [ev])]
    refine z_if_eq (tgt := 1295) dL_law_1290 (by decide) (fun czq1290 => ?_) (fun czq1290 => absurd rfl czq1290)
    refine z_goto (tgt := 2334) dL_law_1295 (by decide) ?_
    refine z_lv [(0, .ref ((zB + 500))), (1, .ref 0), (2, .ref 89), (3, .ref 103), (4, .int ((nI (6 * i))))] [0, 1, 2, 3, 4] rfl ?_
    rw [← lW_sw]
    exact hnext _ _ _ _ _ _ _ _ _ hC2 hM3

set_option maxHeartbeats 4000000 in
set_option maxRecDepth 100000 in
theorem L_27 {l : zL} {d kc ks i : Nat} {h : Nat → va_E} {F : Nat → Int64} {sR : Nat → Int32} {aR : Nat → Nat → Int32} {cm : Value} {o u : Nat → Nat → Int32} {s : Nat → Nat → Int32} {a : Nat → Nat → Nat → Int32} {g : zGs} {Q : zQ} (hi : 6 * i + 6 ≤ l.2.1) (hl : l.2.1 ≤ 3072) (hC : cI g o u s a) (hM : mI g sR aR) (hnext : ∀ F' sR' aR' cm' o' u' s' a' g', cI g' o' u' s' a' → mI g' sR' aR' → Zj l mL_law (d + 20) kc ks 2334 [(0, .ref (zB + 500)), (1, .ref 0), (2, .ref 89), (3, .ref 103), (4, .int (nI (6 * i)))] [] 104 (lW h F' sR' aR' cm' o' u' s' a') Q) : Zj l mL_law (d + 20) (kc + 3) (ks + 18) 1298 [(0, .ref ((zB + 500))), (1, .ref 0), (2, .ref 89), (3, .ref 103), (4, .int ((nI (6 * i))))] [] 104 (lW h F sR aR cm o u s a) Q := by
  refine z_aload_n (j := 1) dL_law_1298 rfl ?_
  refine z_aload_n (j := 0) dL_law_1299 rfl ?_
  refine z_iload (j := 4) dL_law_1300 rfl ?_
  refine z_iconst (v := 1) dL_law_1302 (by decide) ?_
  refine z_iadd dL_law_1303 ?_
  rw [show nI (6 * i) + 1 = nI (6 * i + 1) from nI_add (6 * i) 1]
  refine z_sld (vp_in_nI (by omega) (by omega)) dL_law_1304 ?_
  refine z_aload_n (j := 3) dL_law_1305 rfl ?_
  refine z_kSW [.ref 0, .int ((l.2.2 (nI (6 * i + 1)).toNatClampNeg)), .ref 103] (0 + 3) (0 + 18) kc ks yoL_freeDistance ysL_freeDistance (by decide) (by decide) lL_213 rfl (Nat.le_of_ble_eq_true rfl) (Nat.le_of_ble_eq_true rfl) dL_law_1306 (by omega) (by omega) (z_room (by omega) (Nat.le_refl _) (Nat.le_refl _) (V_freeDistance (d := 0) hC (fun t v g2 cm2 o2 u2 s2 a2 F2 hf hC2 hz => ⟨rfl, ?_⟩)))
  rw [lW_sw]
  refine z_istore [1, 2, 3, 4, 5, 0] [(0, .ref ((zB + 500))), (1, .ref 0), (2, .ref 89), (3, .ref 103), (4, .int ((nI (6 * i)))), (5, .int t)] dL_law_1309 (by decide) rfl ?_
  refine z_aload_n (j := 2) dL_law_1311 rfl ?_
  refine z_aload_n (j := 0) dL_law_1312 rfl ?_
  refine z_iload (j := 4) dL_law_1313 rfl ?_
  refine z_iconst (v := 1) dL_law_1315 (by decide) ?_
  refine z_iadd dL_law_1316 ?_
  rw [show nI (6 * i) + 1 = nI (6 * i + 1) from nI_add (6 * i) 1]
  refine z_sld (vp_in_nI (by omega) (by omega)) dL_law_1317 ?_
  refine z_kV [.int ((l.2.2 (nI (6 * i + 1)).toNatClampNeg))] 0 0 kc ks yoX8_freeDistance yvX8_freeDistance rfl (by decide) lL_215 (by decide) mW_obj rfl rfl (Nat.le_of_ble_eq_true rfl) (Nat.le_of_ble_eq_true rfl) dL_law_1318 (by omega) (by omega) (z_room (by omega) (Nat.le_refl _) (Nat.le_refl _) (R_freeDistance (d := 0) (by decide) hM (fun t3 v3 g3 s3 a3 hf3 hM3 h20 => ⟨rfl, ?_⟩)))
  obtain ⟨et, ev, eg⟩ : t = t3 ∧ v = v3 ∧ g2 = g3 := by
    have e9 := hf.symm.trans hf3
    cases e9
    exact ⟨rfl, rfl, rfl⟩
  rw [← eg] at hM3
  refine z_istore [1, 2, 3, 4, 5, 6, 0] [(0, .ref ((zB + 500))), (1, .ref 0), (2, .ref 89), (3, .ref 103), (4, .int ((nI (6 * i)))), (5, .int t), (6, .int v3)] dL_law_1321 (by decide) rfl ?_
  refine z_aload_n (j := 2) dL_law_1323 rfl ?_
  refine z_kV [] 0 0 kc ks yoX8_thrown yvX8_thrown rfl (by decide) lL_117 (by decide) mW_obj rfl rfl (Nat.le_of_ble_eq_true rfl) (Nat.le_of_ble_eq_true rfl) dL_law_1324 (by omega) (by omega) (z_room (by omega) (Nat.le_refl _) (Nat.le_refl _) (m_thrown (d := 0) (by decide) ⟨rfl, ?_⟩))
  refine z_iload (j := 5) dL_law_1327 rfl ?_
  refine z_icmp_eq (tgt := 1334) dL_law_1329 (by decide) (fun czq1329 => ?_) (fun czq1329 => absurd (h20.trans et.symm) czq1329)
  refine z_iload (j := 5) dL_law_1334 rfl ?_
  refine z_if_ne (tgt := 1351) dL_law_1336 (by decide) (fun czq1336 => ?_) (fun czq1336 => ?_)
  · refine z_goto (tgt := 2334) dL_law_1351 (by decide) ?_
    refine z_lv [(0, .ref ((zB + 500))), (1, .ref 0), (2, .ref 89), (3, .ref 103), (4, .int ((nI (6 * i))))] [0, 1, 2, 3, 4] rfl ?_
    rw [← lW_sw]
    exact hnext _ _ _ _ _ _ _ _ _ hC2 hM3
  · refine z_aload_n (j := 3) dL_law_1339 rfl ?_
    refine z_iconst (v := 0) dL_law_1340 (by decide) ?_
    refine l_aldM (x := v.toInt64) (hz czq1336) dL_law_1341 ?_
    refine z_iload (j := 6) dL_law_1342 rfl ?_
    refine z_i2l dL_law_1344 ?_
    refine z_lcmp dL_law_1345 ?_
    rw [show lg_cmp v.toInt64 v3.toInt64 = 0 from (lg_cmp_eq _ _).mpr (by rw [ev])]
    refine z_if_eq (tgt := 1351) dL_law_1346 (by decide) (fun czq1346 => ?_) (fun czq1346 => absurd rfl czq1346)
    refine z_goto (tgt := 2334) dL_law_1351 (by decide) ?_
    refine z_lv [(0, .ref ((zB + 500))), (1, .ref 0), (2, .ref 89), (3, .ref 103), (4, .int ((nI (6 * i))))] [0, 1, 2, 3, 4] rfl ?_
    rw [← lW_sw]
    exact hnext _ _ _ _ _ _ _ _ _ hC2 hM3
