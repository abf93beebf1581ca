/-! THE LAW: its calls, go on -/

set_option maxHeartbeats 4000000 in
set_option maxRecDepth 100000 in
theorem L_42 {l : zL} {d kc ks i : Nat} {h : Nat → va_E} {F : Nat → Int64} {sR : Nat → Int32} {aR : Nat → Nat → Int32} {cm : Value} {o u : Nat → Nat → Int32} {s : Nat → Nat → Int32} {a : Nat → Nat → Nat → Int32} {g : zGs} {Q : zQ} (hi : 6 * i + 6 ≤ l.2.1) (hl : l.2.1 ≤ 3072) (hC : cI g o u s a) (hM : mI g sR aR) (hnext : ∀ F' sR' aR' cm' o' u' s' a' g', cI g' o' u' s' a' → mI g' sR' aR' → Zj l mL_law (d + 20) kc ks 2334 [(0, .ref (zB + 500)), (1, .ref 0), (2, .ref 89), (3, .ref 103), (4, .int (nI (6 * i)))] [] 104 (lW h F' sR' aR' cm' o' u' s' a') Q) : Zj l mL_law (d + 20) (kc + 3) (ks + 18) 1966 [(0, .ref ((zB + 500))), (1, .ref 0), (2, .ref 89), (3, .ref 103), (4, .int ((nI (6 * i))))] [] 104 (lW h F sR aR cm o u s a) Q := by
  refine z_aload_n (j := 1) dL_law_1966 rfl ?_
  refine z_aload_n (j := 0) dL_law_1967 rfl ?_
  refine z_iload (j := 4) dL_law_1968 rfl ?_
  refine z_iconst (v := 1) dL_law_1970 (by decide) ?_
  refine z_iadd dL_law_1971 ?_
  rw [show nI (6 * i) + 1 = nI (6 * i + 1) from nI_add (6 * i) 1]
  refine z_sld (vp_in_nI (by omega) (by omega)) dL_law_1972 ?_
  refine z_aload_n (j := 3) dL_law_1973 rfl ?_
  refine z_kSW [.ref 0, .int ((l.2.2 (nI (6 * i + 1)).toNatClampNeg)), .ref 103] (0 + 3) (0 + 18) kc ks yoL_pullsFor ysL_pullsFor (by decide) (by decide) lL_262 rfl (Nat.le_of_ble_eq_true rfl) (Nat.le_of_ble_eq_true rfl) dL_law_1974 (by omega) (by omega) (z_room (by omega) (Nat.le_refl _) (Nat.le_refl _) (V_pullsFor (d := 0) hC (fun t v g2 cm2 o2 u2 s2 a2 F2 hf hC2 hz => ⟨rfl, ?_⟩)))
  rw [lW_sw]
  refine z_istore [1, 2, 3, 4, 5, 0] [(0, .ref ((zB + 500))), (1, .ref 0), (2, .ref 89), (3, .ref 103), (4, .int ((nI (6 * i)))), (5, .int t)] dL_law_1977 (by decide) rfl ?_
  refine z_aload_n (j := 2) dL_law_1979 rfl ?_
  refine z_aload_n (j := 0) dL_law_1980 rfl ?_
  refine z_iload (j := 4) dL_law_1981 rfl ?_
  refine z_iconst (v := 1) dL_law_1983 (by decide) ?_
  refine z_iadd dL_law_1984 ?_
  rw [show nI (6 * i) + 1 = nI (6 * i + 1) from nI_add (6 * i) 1]
  refine z_sld (vp_in_nI (by omega) (by omega)) dL_law_1985 ?_
  refine z_kV [.int ((l.2.2 (nI (6 * i + 1)).toNatClampNeg))] 0 0 kc ks yoX8_pullsFor yvX8_pullsFor rfl (by decide) lL_264 (by decide) mW_obj rfl rfl (Nat.le_of_ble_eq_true rfl) (Nat.le_of_ble_eq_true rfl) dL_law_1986 (by omega) (by omega) (z_room (by omega) (Nat.le_refl _) (Nat.le_refl _) (R_pullsFor (d := 0) (by decide) hM (fun t3 v3 g3 s3 a3 hf3 hM3 h20 => ⟨rfl, ?_⟩)))
  obtain ⟨et, ev, eg⟩ : t = t3 ∧ v = v3 ∧ g2 = g3 := by
    have e9 := hf.symm.trans hf3
    cases e9
    exact ⟨rfl, rfl, rfl⟩
  rw [← eg] at hM3
  refine z_istore [1, 2, 3, 4, 5, 6, 0] [(0, .ref ((zB + 500))), (1, .ref 0), (2, .ref 89), (3, .ref 103), (4, .int ((nI (6 * i)))), (5, .int t), (6, .int v3)] dL_law_1989 (by decide) rfl ?_
  refine z_aload_n (j := 2) dL_law_1991 rfl ?_
  refine z_kV [] 0 0 kc ks yoX8_thrown yvX8_thrown rfl (by decide) lL_117 (by decide) mW_obj rfl rfl (Nat.le_of_ble_eq_true rfl) (Nat.le_of_ble_eq_true rfl) dL_law_1992 (by omega) (by omega) (z_room (by omega) (Nat.le_refl _) (Nat.le_refl _) (m_thrown (d := 0) (by decide) ⟨rfl, ?_⟩))
  refine z_iload (j := 5) dL_law_1995 rfl ?_
  refine z_icmp_eq (tgt := 2002) dL_law_1997 (by decide) (fun czq1997 => ?_) (fun czq1997 => absurd (h20.trans et.symm) czq1997)
  refine z_iload (j := 5) dL_law_2002 rfl ?_
  refine z_if_ne (tgt := 2019) dL_law_2004 (by decide) (fun czq2004 => ?_) (fun czq2004 => ?_)
  · refine z_goto (tgt := 2334) dL_law_2019 (by decide) ?_
    refine z_lv [(0, .ref ((zB + 500))), (1, .ref 0), (2, .ref 89), (3, .ref 103), (4, .int ((nI (6 * i))))] [0, 1, 2, 3, 4] rfl ?_
    rw [← lW_sw]
    exact hnext _ _ _ _ _ _ _ _ _ hC2 hM3
  · refine z_aload_n (j := 3) dL_law_2007 rfl ?_
    refine z_iconst (v := 0) dL_law_2008 (by decide) ?_
    refine l_aldM (x := v.toInt64) (hz czq2004) dL_law_2009 ?_
    refine z_iload (j := 6) dL_law_2010 rfl ?_
    refine z_i2l dL_law_2012 ?_
    refine z_lcmp dL_law_2013 ?_
    rw [show lg_cmp v.toInt64 v3.toInt64 = 0 from (lg_cmp_eq _ _).mpr (by rw [ev])]
    refine z_if_eq (tgt := 2019) dL_law_2014 (by decide) (fun czq2014 => ?_) (fun czq2014 => absurd rfl czq2014)
    refine z_goto (tgt := 2334) dL_law_2019 (by decide) ?_
    refine z_lv [(0, .ref ((zB + 500))), (1, .ref 0), (2, .ref 89), (3, .ref 103), (4, .int ((nI (6 * i))))] [0, 1, 2, 3, 4] rfl ?_
    rw [← lW_sw]
    exact hnext _ _ _ _ _ _ _ _ _ hC2 hM3

set_option maxHeartbeats 4000000 in
set_option maxRecDepth 100000 in
theorem L_43 {l : zL} {d kc ks i : Nat} {h : Nat → va_E} {F : Nat → Int64} {sR : Nat → Int32} {aR : Nat → Nat → Int32} {cm : Value} {o u : Nat → Nat → Int32} {s : Nat → Nat → Int32} {a : Nat → Nat → Nat → Int32} {g : zGs} {Q : zQ} (hi : 6 * i + 6 ≤ l.2.1) (hl : l.2.1 ≤ 3072) (hC : cI g o u s a) (hM : mI g sR aR) (hnext : ∀ F' sR' aR' cm' o' u' s' a' g', cI g' o' u' s' a' → mI g' sR' aR' → Zj l mL_law (d + 20) kc ks 2334 [(0, .ref (zB + 500)), (1, .ref 0), (2, .ref 89), (3, .ref 103), (4, .int (nI (6 * i)))] [] 104 (lW h F' sR' aR' cm' o' u' s' a') Q) : Zj l mL_law (d + 20) (kc + 3) (ks + 18) 2022 [(0, .ref ((zB + 500))), (1, .ref 0), (2, .ref 89), (3, .ref 103), (4, .int ((nI (6 * i))))] [] 104 (lW h F sR aR cm o u s a) Q := by
  refine z_aload_n (j := 1) dL_law_2022 rfl ?_
  refine z_aload_n (j := 0) dL_law_2023 rfl ?_
  refine z_iload (j := 4) dL_law_2024 rfl ?_
  refine z_iconst (v := 1) dL_law_2026 (by decide) ?_
  refine z_iadd dL_law_2027 ?_
  rw [show nI (6 * i) + 1 = nI (6 * i + 1) from nI_add (6 * i) 1]
  refine z_sld (vp_in_nI (by omega) (by omega)) dL_law_2028 ?_
  refine z_aload_n (j := 3) dL_law_2029 rfl ?_
  refine z_kSW [.ref 0, .int ((l.2.2 (nI (6 * i + 1)).toNatClampNeg)), .ref 103] (0 + 3) (0 + 18) kc ks yoL_bucketsWith ysL_bucketsWith (by decide) (by decide) lL_265 rfl (Nat.le_of_ble_eq_true rfl) (Nat.le_of_ble_eq_true rfl) dL_law_2030 (by omega) (by omega) (z_room (by omega) (Nat.le_refl _) (Nat.le_refl _) (V_bucketsWith (d := 0) hC (fun t v g2 cm2 o2 u2 s2 a2 F2 hf hC2 hz => ⟨rfl, ?_⟩)))
  rw [lW_sw]
  refine z_istore [1, 2, 3, 4, 5, 0] [(0, .ref ((zB + 500))), (1, .ref 0), (2, .ref 89), (3, .ref 103), (4, .int ((nI (6 * i)))), (5, .int t)] dL_law_2033 (by decide) rfl ?_
  refine z_aload_n (j := 2) dL_law_2035 rfl ?_
  refine z_aload_n (j := 0) dL_law_2036 rfl ?_
  refine z_iload (j := 4) dL_law_2037 rfl ?_
  refine z_iconst (v := 1) dL_law_2039 (by decide) ?_
  refine z_iadd dL_law_2040 ?_
  rw [show nI (6 * i) + 1 = nI (6 * i + 1) from nI_add (6 * i) 1]
  refine z_sld (vp_in_nI (by omega) (by omega)) dL_law_2041 ?_
  refine z_kV [.int ((l.2.2 (nI (6 * i + 1)).toNatClampNeg))] 0 0 kc ks yoX8_bucketsWith yvX8_bucketsWith rfl (by decide) lL_267 (by decide) mW_obj rfl rfl (Nat.le_of_ble_eq_true rfl) (Nat.le_of_ble_eq_true rfl) dL_law_2042 (by omega) (by omega) (z_room (by omega) (Nat.le_refl _) (Nat.le_refl _) (R_bucketsWith (d := 0) (by decide) hM (fun t3 v3 g3 s3 a3 hf3 hM3 h20 => ⟨rfl, ?_⟩)))
  obtain ⟨et, ev, eg⟩ : t = t3 ∧ v = v3 ∧ g2 = g3 := by
    have e9 := hf.symm.trans hf3
    cases e9
    exact ⟨rfl, rfl, rfl⟩
  rw [← eg] at hM3
  refine z_istore [1, 2, 3, 4, 5, 6, 0] [(0, .ref ((zB + 500))), (1, .ref 0), (2, .ref 89), (3, .ref 103), (4, .int ((nI (6 * i)))), (5, .int t), (6, .int v3)] dL_law_2045 (by decide) rfl ?_
  refine z_aload_n (j := 2) dL_law_2047 rfl ?_
  refine z_kV [] 0 0 kc ks yoX8_thrown yvX8_thrown rfl (by decide) lL_117 (by decide) mW_obj rfl rfl (Nat.le_of_ble_eq_true rfl) (Nat.le_of_ble_eq_true rfl) dL_law_2048 (by omega) (by omega) (z_room (by omega) (Nat.le_refl _) (Nat.le_refl _) (m_thrown (d := 0) (by decide) ⟨rfl, ?_⟩))
  refine z_iload (j := 5) dL_law_2051 rfl ?_
  refine z_icmp_eq (tgt := 2058) dL_law_2053 (by decide) (fun czq2053 => ?_) (fun czq2053 => absurd (h20.trans et.symm) czq2053)
  refine z_iload (j := 5) dL_law_2058 rfl ?_
  refine z_if_ne (tgt := 2075) dL_law_2060 (by decide) (fun czq2060 => ?_) (fun czq2060 => ?_)
  · refine z_goto (tgt := 2334) dL_law_2075 (by decide) ?_
    refine z_lv [(0, .ref ((zB + 500))), (1, .ref 0), (2, .ref 89), (3, .ref 103), (4, .int ((nI (6 * i))))] [0, 1, 2, 3, 4] rfl ?_
    rw [← lW_sw]
    exact hnext _ _ _ _ _ _ _ _ _ hC2 hM3
  · refine z_aload_n (j := 3) dL_law_2063 rfl ?_
    refine z_iconst (v := 0) dL_law_2064 (by decide) ?_
    refine l_aldM (x := v.toInt64) (hz czq2060) dL_law_2065 ?_
    refine z_iload (j := 6) dL_law_2066 rfl ?_
    refine z_i2l dL_law_2068 ?_
    refine z_lcmp dL_law_2069 ?_
    rw [show lg_cmp v.toInt64 v3.toInt64 = 0 from (lg_cmp_eq _ _).mpr (by rw [ev])]
    refine z_if_eq (tgt := 2075) dL_law_2070 (by decide) (fun czq2070 => ?_) (fun czq2070 => absurd rfl czq2070)
    refine z_goto (tgt := 2334) dL_law_2075 (by decide) ?_
    refine z_lv [(0, .ref ((zB + 500))), (1, .ref 0), (2, .ref 89), (3, .ref 103), (4, .int ((nI (6 * i))))] [0, 1, 2, 3, 4] rfl ?_
    rw [← lW_sw]
    exact hnext _ _ _ _ _ _ _ _ _ hC2 hM3

set_option maxHeartbeats 4000000 in
set_option maxRecDepth 100000 in
theorem L_44 {l : zL} {d kc ks i : Nat} {h : Nat → va_E} {F : Nat → Int64} {sR : Nat → Int32} {aR : Nat → Nat → Int32} {cm : Value} {o u : Nat → Nat → Int32} {s : Nat → Nat → Int32} {a : Nat → Nat → Nat → Int32} {g : zGs} {Q : zQ} (hi : 6 * i + 6 ≤ l.2.1) (hl : l.2.1 ≤ 3072) (hC : cI g o u s a) (hM : mI g sR aR) (hnext : ∀ F' sR' aR' cm' o' u' s' a' g', cI g' o' u' s' a' → mI g' sR' aR' → Zj l mL_law (d + 20) kc ks 2334 [(0, .ref (zB + 500)), (1, .ref 0), (2, .ref 89), (3, .ref 103), (4, .int (nI (6 * i)))] [] 104 (lW h F' sR' aR' cm' o' u' s' a') Q) : Zj l mL_law (d + 20) (kc + 3) (ks + 18) 2078 [(0, .ref ((zB + 500))), (1, .ref 0), (2, .ref 89), (3, .ref 103), (4, .int ((nI (6 * i))))] [] 104 (lW h F sR aR cm o u s a) Q := by
  refine z_aload_n (j := 1) dL_law_2078 rfl ?_
  refine z_aload_n (j := 0) dL_law_2079 rfl ?_
  refine z_iload (j := 4) dL_law_2080 rfl ?_
  refine z_iconst (v := 1) dL_law_2082 (by decide) ?_
  refine z_iadd dL_law_2083 ?_
  rw [show nI (6 * i) + 1 = nI (6 * i + 1) from nI_add (6 * i) 1]
  refine z_sld (vp_in_nI (by omega) (by omega)) dL_law_2084 ?_
  refine z_aload_n (j := 3) dL_law_2085 rfl ?_
  refine z_kSW [.ref 0, .int ((l.2.2 (nI (6 * i + 1)).toNatClampNeg)), .ref 103] (0 + 3) (0 + 18) kc ks yoL_bestMultiplier ysL_bestMultiplier (by decide) (by decide) lL_268 rfl (Nat.le_of_ble_eq_true rfl) (Nat.le_of_ble_eq_true rfl) dL_law_2086 (by omega) (by omega) (z_room (by omega) (Nat.le_refl _) (Nat.le_refl _) (V_bestMultiplier (d := 0) hC (fun t v g2 cm2 o2 u2 s2 a2 F2 hf hC2 hz => ⟨rfl, ?_⟩)))
  rw [lW_sw]
  refine z_istore [1, 2, 3, 4, 5, 0] [(0, .ref ((zB + 500))), (1, .ref 0), (2, .ref 89), (3, .ref 103), (4, .int ((nI (6 * i)))), (5, .int t)] dL_law_2089 (by decide) rfl ?_
  refine z_aload_n (j := 2) dL_law_2091 rfl ?_
  refine z_aload_n (j := 0) dL_law_2092 rfl ?_
  refine z_iload (j := 4) dL_law_2093 rfl ?_
  refine z_iconst (v := 1) dL_law_2095 (by decide) ?_
  refine z_iadd dL_law_2096 ?_
  rw [show nI (6 * i) + 1 = nI (6 * i + 1) from nI_add (6 * i) 1]
  refine z_sld (vp_in_nI (by omega) (by omega)) dL_law_2097 ?_
  refine z_kV [.int ((l.2.2 (nI (6 * i + 1)).toNatClampNeg))] 0 0 kc ks yoX8_bestMultiplier yvX8_bestMultiplier rfl (by decide) lL_270 (by decide) mW_obj rfl rfl (Nat.le_of_ble_eq_true rfl) (Nat.le_of_ble_eq_true rfl) dL_law_2098 (by omega) (by omega) (z_room (by omega) (Nat.le_refl _) (Nat.le_refl _) (R_bestMultiplier (d := 0) (by decide) hM (fun t3 v3 g3 s3 a3 hf3 hM3 h20 => ⟨rfl, ?_⟩)))
  obtain ⟨et, ev, eg⟩ : t = t3 ∧ v = v3 ∧ g2 = g3 := by
    have e9 := hf.symm.trans hf3
    cases e9
    exact ⟨rfl, rfl, rfl⟩
  rw [← eg] at hM3
  refine z_istore [1, 2, 3, 4, 5, 6, 0] [(0, .ref ((zB + 500))), (1, .ref 0), (2, .ref 89), (3, .ref 103), (4, .int ((nI (6 * i)))), (5, .int t), (6, .int v3)] dL_law_2101 (by decide) rfl ?_
  refine z_aload_n (j := 2) dL_law_2103 rfl ?_
  refine z_kV [] 0 0 kc ks yoX8_thrown yvX8_thrown rfl (by decide) lL_117 (by decide) mW_obj rfl rfl (Nat.le_of_ble_eq_true rfl) (Nat.le_of_ble_eq_true rfl) dL_law_2104 (by omega) (by omega) (z_room (by omega) (Nat.le_refl _) (Nat.le_refl _) (m_thrown (d := 0) (by decide) ⟨rfl, ?_⟩))
  refine z_iload (j := 5) dL_law_2107 rfl ?_
  refine z_icmp_eq (tgt := 2114) dL_law_2109 (by decide) (fun czq2109 => ?_) (fun czq2109 => absurd (h20.trans et.symm) czq2109)
  refine z_iload (j := 5) dL_law_2114 rfl ?_
  refine z_if_ne (tgt := 2131) dL_law_2116 (by decide) (fun czq2116 => ?_) (fun czq2116 => ?_)
  · refine z_goto (tgt := 2334) dL_law_2131 (by decide) ?_
    refine z_lv [(0, .ref ((zB + 500))), (1, .ref 0), (2, .ref 89), (3, .ref 103), (4, .int ((nI (6 * i))))] [0, 1, 2, 3, 4] rfl ?_
    rw [← lW_sw]
    exact hnext _ _ _ _ _ _ _ _ _ hC2 hM3
  · refine z_aload_n (j := 3) dL_law_2119 rfl ?_
    refine z_iconst (v := 0) dL_law_2120 (by decide) ?_
    refine l_aldM (x := v.toInt64) (hz czq2116) dL_law_2121 ?_
    refine z_iload (j := 6) dL_law_2122 rfl ?_
    refine z_i2l dL_law_2124 ?_
    refine z_lcmp dL_law_2125 ?_
    rw [show lg_cmp v.toInt64 v3.toInt64 = 0 from (lg_cmp_eq _ _).mpr (by rw [ev])]
    refine z_if_eq (tgt := 2131) dL_law_2126 (by decide) (fun czq2126 => ?_) (fun czq2126 => absurd rfl czq2126)
    refine z_goto (tgt := 2334) dL_law_2131 (by decide) ?_
    refine z_lv [(0, .ref ((zB + 500))), (1, .ref 0), (2, .ref 89), (3, .ref 103), (4, .int ((nI (6 * i))))] [0, 1, 2, 3, 4] rfl ?_
    rw [← lW_sw]
    exact hnext _ _ _ _ _ _ _ _ _ hC2 hM3

set_option maxHeartbeats 4000000 in
set_option maxRecDepth 100000 in
theorem L_45 {l : zL} {d kc ks i : Nat} {h : Nat → va_E} {F : Nat → Int64} {sR : Nat → Int32} {aR : Nat → Nat → Int32} {cm : Value} {o u : Nat → Nat → Int32} {s : Nat → Nat → Int32} {a : Nat → Nat → Nat → Int32} {g : zGs} {Q : zQ} (hi : 6 * i + 6 ≤ l.2.1) (hl : l.2.1 ≤ 3072) (hC : cI g o u s a) (hM : mI g sR aR) (hnext : ∀ F' sR' aR' cm' o' u' s' a' g', cI g' o' u' s' a' → mI g' sR' aR' → Zj l mL_law (d + 20) kc ks 2334 [(0, .ref (zB + 500)), (1, .ref 0), (2, .ref 89), (3, .ref 103), (4, .int (nI (6 * i)))] [] 104 (lW h F' sR' aR' cm' o' u' s' a') Q) : Zj l mL_law (d + 20) (kc + 3) (ks + 18) 2134 [(0, .ref ((zB + 500))), (1, .ref 0), (2, .ref 89), (3, .ref 103), (4, .int ((nI (6 * i))))] [] 104 (lW h F sR aR cm o u s a) Q := by
  refine z_aload_n (j := 1) dL_law_2134 rfl ?_
  refine z_kV [] (0 + 3) (0 + 18) kc ks yoX7_moves yvX7_moves rfl (by decide) lL_271 (by decide) lW_0 rfl rfl (Nat.le_of_ble_eq_true rfl) (Nat.le_of_ble_eq_true rfl) dL_law_2135 (by omega) (by omega) (z_room (by omega) (Nat.le_refl _) (Nat.le_refl _) (K_moves (d := 0) (by decide) hC (fun t v g2 cm2 o2 u2 s2 a2 hf hC2 => ?_)))
  show zk mL_law l _ kc ks 2135 _ _ 104 Q (oc IAE ISE t v) 104 (lW h F sR aR cm2 o2 u2 s2 a2)
  obtain rfl : t = 0 := T_told hf
  rw [oc_0]
  refine ⟨rfl, ?_⟩
  rw [lW_sw]
  refine z_aload_n (j := 2) dL_law_2138 rfl ?_
  refine z_kV [] 0 0 kc ks yoX8_moves_ yvX8_moves_ rfl (by decide) lL_274 (by decide) mW_obj rfl rfl (Nat.le_of_ble_eq_true rfl) (Nat.le_of_ble_eq_true rfl) dL_law_2139 (by omega) (by omega) (z_room (by omega) (Nat.le_refl _) (Nat.le_refl _) (R_moves (d := 0) (by decide) hM (fun t3 v3 g3 s3 a3 hf3 hM3 h20 => ⟨rfl, ?_⟩)))
  obtain ⟨et, ev, eg⟩ : 0 = t3 ∧ v = v3 ∧ g2 = g3 := by
    have e9 := hf.symm.trans hf3
    cases e9
    exact ⟨rfl, rfl, rfl⟩
  rw [← eg] at hM3
  refine z_icmp_eq (tgt := 2334) dL_law_2142 (by decide) (fun czq2142 => ?_) (fun czq2142 => absurd ev czq2142)
  rw [← lW_sw]
  exact hnext _ _ _ _ _ _ _ _ _ hC2 hM3

set_option maxHeartbeats 4000000 in
set_option maxRecDepth 100000 in
theorem L_46 {l : zL} {d kc ks i : Nat} {h : Nat → va_E} {F : Nat → Int64} {sR : Nat → Int32} {aR : Nat → Nat → Int32} {cm : Value} {o u : Nat → Nat → Int32} {s : Nat → Nat → Int32} {a : Nat → Nat → Nat → Int32} {g : zGs} {Q : zQ} (hi : 6 * i + 6 ≤ l.2.1) (hl : l.2.1 ≤ 3072) (hC : cI g o u s a) (hM : mI g sR aR) (hnext : ∀ F' sR' aR' cm' o' u' s' a' g', cI g' o' u' s' a' → mI g' sR' aR' → Zj l mL_law (d + 20) kc ks 2334 [(0, .ref (zB + 500)), (1, .ref 0), (2, .ref 89), (3, .ref 103), (4, .int (nI (6 * i)))] [] 104 (lW h F' sR' aR' cm' o' u' s' a') Q) : Zj l mL_law (d + 20) (kc + 3) (ks + 18) 2147 [(0, .ref ((zB + 500))), (1, .ref 0), (2, .ref 89), (3, .ref 103), (4, .int ((nI (6 * i))))] [] 104 (lW h F sR aR cm o u s a) Q := by
  refine z_aload_n (j := 1) dL_law_2147 rfl ?_
  refine z_kV [] (0 + 3) (0 + 18) kc ks yoX7_pulls yvX7_pulls rfl (by decide) lL_275 (by decide) lW_0 rfl rfl (Nat.le_of_ble_eq_true rfl) (Nat.le_of_ble_eq_true rfl) dL_law_2148 (by omega) (by omega) (z_room (by omega) (Nat.le_refl _) (Nat.le_refl _) (K_pulls (d := 0) (by decide) hC (fun t v g2 cm2 o2 u2 s2 a2 hf hC2 => ?_)))
  show zk mL_law l _ kc ks 2148 _ _ 104 Q (oc IAE ISE t v) 104 (lW h F sR aR cm2 o2 u2 s2 a2)
  obtain rfl : t = 0 := T_told hf
  rw [oc_0]
  refine ⟨rfl, ?_⟩
  rw [lW_sw]
  refine z_aload_n (j := 2) dL_law_2151 rfl ?_
  refine z_kV [] 0 0 kc ks yoX8_pulls yvX8_pulls rfl (by decide) lL_278 (by decide) mW_obj rfl rfl (Nat.le_of_ble_eq_true rfl) (Nat.le_of_ble_eq_true rfl) dL_law_2152 (by omega) (by omega) (z_room (by omega) (Nat.le_refl _) (Nat.le_refl _) (R_pulls (d := 0) (by decide) hM (fun t3 v3 g3 s3 a3 hf3 hM3 h20 => ⟨rfl, ?_⟩)))
  obtain ⟨et, ev, eg⟩ : 0 = t3 ∧ v = v3 ∧ g2 = g3 := by
    have e9 := hf.symm.trans hf3
    cases e9
    exact ⟨rfl, rfl, rfl⟩
  rw [← eg] at hM3
  refine z_icmp_eq (tgt := 2334) dL_law_2155 (by decide) (fun czq2155 => ?_) (fun czq2155 => absurd ev czq2155)
  rw [← lW_sw]
  exact hnext _ _ _ _ _ _ _ _ _ hC2 hM3

set_option maxHeartbeats 4000000 in
set_option maxRecDepth 100000 in
theorem L_47 {l : zL} {d kc ks i : Nat} {h : Nat → va_E} {F : Nat → Int64} {sR : Nat → Int32} {aR : Nat → Nat → Int32} {cm : Value} {o u : Nat → Nat → Int32} {s : Nat → Nat → Int32} {a : Nat → Nat → Nat → Int32} {g : zGs} {Q : zQ} (hi : 6 * i + 6 ≤ l.2.1) (hl : l.2.1 ≤ 3072) (hC : cI g o u s a) (hM : mI g sR aR) (hnext : ∀ F' sR' aR' cm' o' u' s' a' g', cI g' o' u' s' a' → mI g' sR' aR' → Zj l mL_law (d + 20) kc ks 2334 [(0, .ref (zB + 500)), (1, .ref 0), (2, .ref 89), (3, .ref 103), (4, .int (nI (6 * i)))] [] 104 (lW h F' sR' aR' cm' o' u' s' a') Q) : Zj l mL_law (d + 20) (kc + 3) (ks + 18) 2160 [(0, .ref ((zB + 500))), (1, .ref 0), (2, .ref 89), (3, .ref 103), (4, .int ((nI (6 * i))))] [] 104 (lW h F sR aR cm o u s a) Q := by
  refine z_aload_n (j := 1) dL_law_2160 rfl ?_
  refine z_kV [] (0 + 3) (0 + 18) kc ks yoX7_growths yvX7_growths rfl (by decide) lL_279 (by decide) lW_0 rfl rfl (Nat.le_of_ble_eq_true rfl) (Nat.le_of_ble_eq_true rfl) dL_law_2161 (by omega) (by omega) (z_room (by omega) (Nat.le_refl _) (Nat.le_refl _) (K_growths (d := 0) (by decide) hC (fun t v g2 cm2 o2 u2 s2 a2 hf hC2 => ?_)))
  show zk mL_law l _ kc ks 2161 _ _ 104 Q (oc IAE ISE t v) 104 (lW h F sR aR cm2 o2 u2 s2 a2)
  obtain rfl : t = 0 := T_told hf
  rw [oc_0]
  refine ⟨rfl, ?_⟩
  rw [lW_sw]
  refine z_aload_n (j := 2) dL_law_2164 rfl ?_
  refine z_kV [] 0 0 kc ks yoX8_growths yvX8_growths rfl (by decide) lL_282 (by decide) mW_obj rfl rfl (Nat.le_of_ble_eq_true rfl) (Nat.le_of_ble_eq_true rfl) dL_law_2165 (by omega) (by omega) (z_room (by omega) (Nat.le_refl _) (Nat.le_refl _) (R_growths (d := 0) (by decide) hM (fun t3 v3 g3 s3 a3 hf3 hM3 h20 => ⟨rfl, ?_⟩)))
  obtain ⟨et, ev, eg⟩ : 0 = t3 ∧ v = v3 ∧ g2 = g3 := by
    have e9 := hf.symm.trans hf3
    cases e9
    exact ⟨rfl, rfl, rfl⟩
  rw [← eg] at hM3
  refine z_icmp_eq (tgt := 2334) dL_law_2168 (by decide) (fun czq2168 => ?_) (fun czq2168 => absurd ev czq2168)
  rw [← lW_sw]
  exact hnext _ _ _ _ _ _ _ _ _ hC2 hM3

set_option maxHeartbeats 4000000 in
set_option maxRecDepth 100000 in
theorem L_48 {l : zL} {d kc ks i : Nat} {h : Nat → va_E} {F : Nat → Int64} {sR : Nat → Int32} {aR : Nat → Nat → Int32} {cm : Value} {o u : Nat → Nat → Int32} {s : Nat → Nat → Int32} {a : Nat → Nat → Nat → Int32} {g : zGs} {Q : zQ} (hi : 6 * i + 6 ≤ l.2.1) (hl : l.2.1 ≤ 3072) (hC : cI g o u s a) (hM : mI g sR aR) (hnext : ∀ F' sR' aR' cm' o' u' s' a' g', cI g' o' u' s' a' → mI g' sR' aR' → Zj l mL_law (d + 20) kc ks 2334 [(0, .ref (zB + 500)), (1, .ref 0), (2, .ref 89), (3, .ref 103), (4, .int (nI (6 * i)))] [] 104 (lW h F' sR' aR' cm' o' u' s' a') Q) : Zj l mL_law (d + 20) (kc + 3) (ks + 18) 2173 [(0, .ref ((zB + 500))), (1, .ref 0), (2, .ref 89), (3, .ref 103), (4, .int ((nI (6 * i))))] [] 104 (lW h F sR aR cm o u s a) Q := by
  refine z_aload_n (j := 1) dL_law_2173 rfl ?_
  refine z_kV [] (0 + 3) (0 + 18) kc ks yoX7_addedCount yvX7_addedCount rfl (by decide) lL_283 (by decide) lW_0 rfl rfl (Nat.le_of_ble_eq_true rfl) (Nat.le_of_ble_eq_true rfl) dL_law_2174 (by omega) (by omega) (z_room (by omega) (Nat.le_refl _) (Nat.le_refl _) (K_addedCount (d := 0) (by decide) hC (fun t v g2 cm2 o2 u2 s2 a2 hf hC2 => ?_)))
  show zk mL_law l _ kc ks 2174 _ _ 104 Q (oc IAE ISE t v) 104 (lW h F sR aR cm2 o2 u2 s2 a2)
  obtain rfl : t = 0 := T_told hf
  rw [oc_0]
  refine ⟨rfl, ?_⟩
  rw [lW_sw]
  refine z_aload_n (j := 2) dL_law_2177 rfl ?_
  refine z_kV [] 0 0 kc ks yoX8_addedCount yvX8_addedCount rfl (by decide) lL_286 (by decide) mW_obj rfl rfl (Nat.le_of_ble_eq_true rfl) (Nat.le_of_ble_eq_true rfl) dL_law_2178 (by omega) (by omega) (z_room (by omega) (Nat.le_refl _) (Nat.le_refl _) (R_addedCount (d := 0) (by decide) hM (fun t3 v3 g3 s3 a3 hf3 hM3 h20 => ⟨rfl, ?_⟩)))
  obtain ⟨et, ev, eg⟩ : 0 = t3 ∧ v = v3 ∧ g2 = g3 := by
    have e9 := hf.symm.trans hf3
    cases e9
    exact ⟨rfl, rfl, rfl⟩
  rw [← eg] at hM3
  refine z_icmp_eq (tgt := 2334) dL_law_2181 (by decide) (fun czq2181 => ?_) (fun czq2181 => absurd ev czq2181)
  rw [← lW_sw]
  exact hnext _ _ _ _ _ _ _ _ _ hC2 hM3

set_option maxHeartbeats 4000000 in
set_option maxRecDepth 100000 in
theorem L_49 {l : zL} {d kc ks i : Nat} {h : Nat → va_E} {F : Nat → Int64} {sR : Nat → Int32} {aR : Nat → Nat → Int32} {cm : Value} {o u : Nat → Nat → Int32} {s : Nat → Nat → Int32} {a : Nat → Nat → Nat → Int32} {g : zGs} {Q : zQ} (hi : 6 * i + 6 ≤ l.2.1) (hl : l.2.1 ≤ 3072) (hC : cI g o u s a) (hM : mI g sR aR) (hnext : ∀ F' sR' aR' cm' o' u' s' a' g', cI g' o' u' s' a' → mI g' sR' aR' → Zj l mL_law (d + 20) kc ks 2334 [(0, .ref (zB + 500)), (1, .ref 0), (2, .ref 89), (3, .ref 103), (4, .int (nI (6 * i)))] [] 104 (lW h F' sR' aR' cm' o' u' s' a') Q) : Zj l mL_law (d + 20) (kc + 3) (ks + 18) 2186 [(0, .ref ((zB + 500))), (1, .ref 0), (2, .ref 89), (3, .ref 103), (4, .int ((nI (6 * i))))] [] 104 (lW h F sR aR cm o u s a) Q := by
  refine z_aload_n (j := 1) dL_law_2186 rfl ?_
  refine z_kV [] (0 + 3) (0 + 18) kc ks yoX7_removedCount yvX7_removedCount rfl (by decide) lL_287 (by decide) lW_0 rfl rfl (Nat.le_of_ble_eq_true rfl) (Nat.le_of_ble_eq_true rfl) dL_law_2187 (by omega) (by omega) (z_room (by omega) (Nat.le_refl _) (Nat.le_refl _) (K_removedCount (d := 0) (by decide) hC (fun t v g2 cm2 o2 u2 s2 a2 hf hC2 => ?_)))
  show zk mL_law l _ kc ks 2187 _ _ 104 Q (oc IAE ISE t v) 104 (lW h F sR aR cm2 o2 u2 s2 a2)
  obtain rfl : t = 0 := T_told hf
  rw [oc_0]
  refine ⟨rfl, ?_⟩
  rw [lW_sw]
  refine z_aload_n (j := 2) dL_law_2190 rfl ?_
  refine z_kV [] 0 0 kc ks yoX8_removedCount yvX8_removedCount rfl (by decide) lL_290 (by decide) mW_obj rfl rfl (Nat.le_of_ble_eq_true rfl) (Nat.le_of_ble_eq_true rfl) dL_law_2191 (by omega) (by omega) (z_room (by omega) (Nat.le_refl _) (Nat.le_refl _) (R_removedCount (d := 0) (by decide) hM (fun t3 v3 g3 s3 a3 hf3 hM3 h20 => ⟨rfl, ?_⟩)))
  obtain ⟨et, ev, eg⟩ : 0 = t3 ∧ v = v3 ∧ g2 = g3 := by
    have e9 := hf.symm.trans hf3
    cases e9
    exact ⟨rfl, rfl, rfl⟩
  rw [← eg] at hM3
  refine z_icmp_eq (tgt := 2334) dL_law_2194 (by decide) (fun czq2194 => ?_) (fun czq2194 => absurd ev czq2194)
  rw [← lW_sw]
  exact hnext _ _ _ _ _ _ _ _ _ hC2 hM3

set_option maxHeartbeats 4000000 in
set_option maxRecDepth 100000 in
theorem L_50 {l : zL} {d kc ks i : Nat} {h : Nat → va_E} {F : Nat → Int64} {sR : Nat → Int32} {aR : Nat → Nat → Int32} {cm : Value} {o u : Nat → Nat → Int32} {s : Nat → Nat → Int32} {a : Nat → Nat → Nat → Int32} {g : zGs} {Q : zQ} (hi : 6 * i + 6 ≤ l.2.1) (hl : l.2.1 ≤ 3072) (hC : cI g o u s a) (hM : mI g sR aR) (hnext : ∀ F' sR' aR' cm' o' u' s' a' g', cI g' o' u' s' a' → mI g' sR' aR' → Zj l mL_law (d + 20) kc ks 2334 [(0, .ref (zB + 500)), (1, .ref 0), (2, .ref 89), (3, .ref 103), (4, .int (nI (6 * i)))] [] 104 (lW h F' sR' aR' cm' o' u' s' a') Q) : Zj l mL_law (d + 20) (kc + 3) (ks + 18) 2199 [(0, .ref ((zB + 500))), (1, .ref 0), (2, .ref 89), (3, .ref 103), (4, .int ((nI (6 * i))))] [] 104 (lW h F sR aR cm o u s a) Q := by
  refine z_aload_n (j := 1) dL_law_2199 rfl ?_
  refine z_kV [] (0 + 3) (0 + 18) kc ks yoX7_meanDistance yvX7_meanDistance rfl (by decide) lL_291 (by decide) lW_0 rfl rfl (Nat.le_of_ble_eq_true rfl) (Nat.le_of_ble_eq_true rfl) dL_law_2200 (by omega) (by omega) (z_room (by omega) (Nat.le_refl _) (Nat.le_refl _) (K_meanDistance (d := 0) (by decide) hC ?_))
  refine ⟨rfl, ?_⟩
  show Zj l mL_law _ kc ks 2203 _ _ 104 (lW h F sR aR cm o u s a) Q
  rw [lW_sw]
  refine z_dstore [1, 2, 3, 4, 5, 0] [(0, .ref ((zB + 500))), (1, .ref 0), (2, .ref 89), (3, .ref 103), (4, .int ((nI (6 * i)))), (5, .double ((fmean g.1)))] dL_law_2203 (by decide) rfl ?_
  refine z_aload_n (j := 2) dL_law_2205 rfl ?_
  refine z_kV [] 0 0 kc ks yoX8_meanDistance yvX8_meanDistance rfl (by decide) lL_295 (by decide) mW_obj rfl rfl (Nat.le_of_ble_eq_true rfl) (Nat.le_of_ble_eq_true rfl) dL_law_2206 (by omega) (by omega) (z_room (by omega) (Nat.le_refl _) (Nat.le_refl _) (R_meanDistance (d := 0) (by decide) hM (fun s3 hM3 h20 => ⟨rfl, ?_⟩)))
  refine z_dstore [1, 2, 3, 4, 5, 6, 0] [(0, .ref ((zB + 500))), (1, .ref 0), (2, .ref 89), (3, .ref 103), (4, .int ((nI (6 * i)))), (5, .double ((fmean g.1))), (7, .double ((fmean g.1)))] dL_law_2209 (by decide) rfl ?_
  refine z_dload (j := 5) dL_law_2211 rfl ?_
  refine z_dload (j := 6) dL_law_2213 rfl ?_
  refine z_dcmp dL_law_2215 ?_
  refine z_if_eq (tgt := 2237) dL_law_2216 (by decide) (fun czq2216 => ?_) (fun czq2216 => ?_)
  · refine z_goto (tgt := 2334) dL_law_2237 (by decide) ?_
    refine z_lv [(0, .ref ((zB + 500))), (1, .ref 0), (2, .ref 89), (3, .ref 103), (4, .int ((nI (6 * i))))] [0, 1, 2, 3, 4] rfl ?_
    rw [← lW_sw]
    exact hnext _ _ _ _ _ _ _ _ _ hC hM3
  · refine z_dload (j := 5) dL_law_2219 rfl ?_
    refine z_dload (j := 5) dL_law_2221 rfl ?_
    refine z_dcmp dL_law_2223 ?_
    refine z_if_eq (tgt := 2235) dL_law_2224 (by decide) (fun czq2224 => absurd czq2224 czq2216) (fun czq2224 => ?_)
    refine z_dload (j := 6) dL_law_2227 rfl ?_
    refine z_dload (j := 6) dL_law_2229 rfl ?_
    refine z_dcmp dL_law_2231 ?_
    refine z_if_ne (tgt := 2237) dL_law_2232 (by decide) (fun czq2232 => ?_) (fun czq2232 => absurd czq2232 czq2216)
    refine z_goto (tgt := 2334) dL_law_2237 (by decide) ?_
    refine z_lv [(0, .ref ((zB + 500))), (1, .ref 0), (2, .ref 89), (3, .ref 103), (4, .int ((nI (6 * i))))] [0, 1, 2, 3, 4] rfl ?_
    rw [← lW_sw]
    exact hnext _ _ _ _ _ _ _ _ _ hC hM3

set_option maxHeartbeats 4000000 in
set_option maxRecDepth 100000 in
theorem L_51 {l : zL} {d kc ks i : Nat} {h : Nat → va_E} {F : Nat → Int64} {sR : Nat → Int32} {aR : Nat → Nat → Int32} {cm : Value} {o u : Nat → Nat → Int32} {s : Nat → Nat → Int32} {a : Nat → Nat → Nat → Int32} {g : zGs} {Q : zQ} (hi : 6 * i + 6 ≤ l.2.1) (hl : l.2.1 ≤ 3072) (hC : cI g o u s a) (hM : mI g sR aR) (hnext : ∀ F' sR' aR' cm' o' u' s' a' g', cI g' o' u' s' a' → mI g' sR' aR' → Zj l mL_law (d + 20) kc ks 2334 [(0, .ref (zB + 500)), (1, .ref 0), (2, .ref 89), (3, .ref 103), (4, .int (nI (6 * i)))] [] 104 (lW h F' sR' aR' cm' o' u' s' a') Q) : Zj l mL_law (d + 20) (kc + 3) (ks + 18) 2240 [(0, .ref ((zB + 500))), (1, .ref 0), (2, .ref 89), (3, .ref 103), (4, .int ((nI (6 * i))))] [] 104 (lW h F sR aR cm o u s a) Q := by
  refine z_aload_n (j := 1) dL_law_2240 rfl ?_
  refine z_kV [] (0 + 3) (0 + 18) kc ks yoX7_load yvX7_load rfl (by decide) lL_296 (by decide) lW_0 rfl rfl (Nat.le_of_ble_eq_true rfl) (Nat.le_of_ble_eq_true rfl) dL_law_2241 (by omega) (by omega) (z_room (by omega) (Nat.le_refl _) (Nat.le_refl _) (K_load (d := 0) (by decide) hC ?_))
  refine ⟨rfl, ?_⟩
  show Zj l mL_law _ kc ks 2244 _ _ 104 (lW h F sR aR cm o u s a) Q
  rw [lW_sw]
  refine z_f2d hC.S.fl dL_law_2244 ?_
  refine z_dstore [1, 2, 3, 4, 5, 0] [(0, .ref ((zB + 500))), (1, .ref 0), (2, .ref 89), (3, .ref 103), (4, .int ((nI (6 * i)))), (5, .double ((FP.f2d (fload g.1))))] dL_law_2245 (by decide) rfl ?_
  refine z_aload_n (j := 2) dL_law_2247 rfl ?_
  refine z_kV [] 0 0 kc ks yoX8_load yvX8_load rfl (by decide) lL_300 (by decide) mW_obj rfl rfl (Nat.le_of_ble_eq_true rfl) (Nat.le_of_ble_eq_true rfl) dL_law_2248 (by omega) (by omega) (z_room (by omega) (Nat.le_refl _) (Nat.le_refl _) (R_load (d := 0) (by decide) hM (fun s3 hM3 h20 => ⟨rfl, ?_⟩)))
  refine z_f2d hC.S.fl dL_law_2251 ?_
  refine z_dstore [1, 2, 3, 4, 5, 6, 0] [(0, .ref ((zB + 500))), (1, .ref 0), (2, .ref 89), (3, .ref 103), (4, .int ((nI (6 * i)))), (5, .double ((FP.f2d (fload g.1)))), (7, .double ((FP.f2d (fload g.1))))] dL_law_2252 (by decide) rfl ?_
  refine z_dload (j := 5) dL_law_2254 rfl ?_
  refine z_dload (j := 6) dL_law_2256 rfl ?_
  refine z_dcmp dL_law_2258 ?_
  refine z_if_eq (tgt := 2280) dL_law_2259 (by decide) (fun czq2259 => ?_) (fun czq2259 => ?_)
  · refine z_goto (tgt := 2334) dL_law_2280 (by decide) ?_
    refine z_lv [(0, .ref ((zB + 500))), (1, .ref 0), (2, .ref 89), (3, .ref 103), (4, .int ((nI (6 * i))))] [0, 1, 2, 3, 4] rfl ?_
    rw [← lW_sw]
    exact hnext _ _ _ _ _ _ _ _ _ hC hM3
  · refine z_dload (j := 5) dL_law_2262 rfl ?_
    refine z_dload (j := 5) dL_law_2264 rfl ?_
    refine z_dcmp dL_law_2266 ?_
    refine z_if_eq (tgt := 2278) dL_law_2267 (by decide) (fun czq2267 => absurd czq2267 czq2259) (fun czq2267 => ?_)
    refine z_dload (j := 6) dL_law_2270 rfl ?_
    refine z_dload (j := 6) dL_law_2272 rfl ?_
    refine z_dcmp dL_law_2274 ?_
    refine z_if_ne (tgt := 2280) dL_law_2275 (by decide) (fun czq2275 => ?_) (fun czq2275 => absurd czq2275 czq2259)
    refine z_goto (tgt := 2334) dL_law_2280 (by decide) ?_
    refine z_lv [(0, .ref ((zB + 500))), (1, .ref 0), (2, .ref 89), (3, .ref 103), (4, .int ((nI (6 * i))))] [0, 1, 2, 3, 4] rfl ?_
    rw [← lW_sw]
    exact hnext _ _ _ _ _ _ _ _ _ hC hM3

set_option maxHeartbeats 4000000 in
set_option maxRecDepth 100000 in
theorem L_52 {l : zL} {d kc ks i : Nat} {h : Nat → va_E} {F : Nat → Int64} {sR : Nat → Int32} {aR : Nat → Nat → Int32} {cm : Value} {o u : Nat → Nat → Int32} {s : Nat → Nat → Int32} {a : Nat → Nat → Nat → Int32} {g : zGs} {Q : zQ} (hi : 6 * i + 6 ≤ l.2.1) (hl : l.2.1 ≤ 3072) (hC : cI g o u s a) (hM : mI g sR aR) (hnext : ∀ F' sR' aR' cm' o' u' s' a' g', cI g' o' u' s' a' → mI g' sR' aR' → Zj l mL_law (d + 20) kc ks 2334 [(0, .ref (zB + 500)), (1, .ref 0), (2, .ref 89), (3, .ref 103), (4, .int (nI (6 * i)))] [] 104 (lW h F' sR' aR' cm' o' u' s' a') Q) : Zj l mL_law (d + 20) (kc + 3) (ks + 18) 2283 [(0, .ref ((zB + 500))), (1, .ref 0), (2, .ref 89), (3, .ref 103), (4, .int ((nI (6 * i))))] [] 104 (lW h F sR aR cm o u s a) Q := by
  refine z_aload_n (j := 1) dL_law_2283 rfl ?_
  refine z_kV [] (0 + 3) (0 + 18) kc ks yoX7_violations yvX7_violations rfl (by decide) lL_301 (by decide) lW_0 rfl rfl (Nat.le_of_ble_eq_true rfl) (Nat.le_of_ble_eq_true rfl) dL_law_2284 (by omega) (by omega) (z_room (by omega) (Nat.le_refl _) (Nat.le_refl _) (K_violations (d := 0) (by decide) hC (fun t v g2 cm2 o2 u2 s2 a2 hf hC2 => ?_)))
  show zk mL_law l _ kc ks 2284 _ _ 104 Q (oc IAE ISE t v) 104 (lW h F sR aR cm2 o2 u2 s2 a2)
  obtain rfl : t = 0 := T_violations hf
  rw [oc_0]
  refine ⟨rfl, ?_⟩
  rw [lW_sw]
  refine z_aload_n (j := 2) dL_law_2287 rfl ?_
  refine z_kV [] 0 0 kc ks yoX8_violations yvX8_violations rfl (by decide) lL_304 (by decide) mW_obj rfl rfl (Nat.le_of_ble_eq_true rfl) (Nat.le_of_ble_eq_true rfl) dL_law_2288 (by omega) (by omega) (z_room (by omega) (Nat.le_refl _) (Nat.le_refl _) (R_violations (d := 0) (by decide) hM (fun t3 v3 g3 s3 a3 hf3 hM3 h20 => ⟨rfl, ?_⟩)))
  obtain ⟨et, ev, eg⟩ : 0 = t3 ∧ v = v3 ∧ g2 = g3 := by
    have e9 := hf.symm.trans hf3
    cases e9
    exact ⟨rfl, rfl, rfl⟩
  rw [← eg] at hM3
  refine z_icmp_eq (tgt := 2334) dL_law_2291 (by decide) (fun czq2291 => ?_) (fun czq2291 => absurd ev czq2291)
  rw [← lW_sw]
  exact hnext _ _ _ _ _ _ _ _ _ hC2 hM3

set_option maxHeartbeats 4000000 in
set_option maxRecDepth 100000 in
theorem L_53 {l : zL} {d kc ks i : Nat} {h : Nat → va_E} {F : Nat → Int64} {sR : Nat → Int32} {aR : Nat → Nat → Int32} {cm : Value} {o u : Nat → Nat → Int32} {s : Nat → Nat → Int32} {a : Nat → Nat → Nat → Int32} {g : zGs} {Q : zQ} (hi : 6 * i + 6 ≤ l.2.1) (hl : l.2.1 ≤ 3072) (hC : cI g o u s a) (hM : mI g sR aR) (hnext : ∀ F' sR' aR' cm' o' u' s' a' g', cI g' o' u' s' a' → mI g' sR' aR' → Zj l mL_law (d + 20) kc ks 2334 [(0, .ref (zB + 500)), (1, .ref 0), (2, .ref 89), (3, .ref 103), (4, .int (nI (6 * i)))] [] 104 (lW h F' sR' aR' cm' o' u' s' a') Q) : Zj l mL_law (d + 20) (kc + 3) (ks + 18) 2296 [(0, .ref ((zB + 500))), (1, .ref 0), (2, .ref 89), (3, .ref 103), (4, .int ((nI (6 * i))))] [] 104 (lW h F sR aR cm o u s a) Q := by
  refine z_aload_n (j := 1) dL_law_2296 rfl ?_
  refine z_kV [] (0 + 3) (0 + 18) kc ks yoX7_writeTable yvX7_writeTable rfl (by decide) lL_305 (by decide) lW_0 rfl rfl (Nat.le_of_ble_eq_true rfl) (Nat.le_of_ble_eq_true rfl) dL_law_2297 (by omega) (by omega) (z_room (by omega) (Nat.le_refl _) (Nat.le_refl _) (K_writeTable (d := 0) (by decide) hC (fun t v g2 cm2 o2 u2 s2 a2 hf hC2 => ?_)))
  show zk mL_law l _ kc ks 2297 _ _ 104 Q (oc IAE ISE t v) 104 (lW h F sR aR cm2 o2 u2 s2 a2)
  obtain rfl : t = 0 := T_writeTable hf
  rw [oc_0]
  refine ⟨rfl, ?_⟩
  rw [lW_sw]
  refine z_aload_n (j := 2) dL_law_2300 rfl ?_
  refine z_kV [] 0 0 kc ks yoX8_writeTable yvX8_writeTable rfl (by decide) lL_308 (by decide) mW_obj rfl rfl (Nat.le_of_ble_eq_true rfl) (Nat.le_of_ble_eq_true rfl) dL_law_2301 (by omega) (by omega) (z_room (by omega) (Nat.le_refl _) (Nat.le_refl _) (R_writeTable (d := 0) (by decide) hM (fun t3 v3 g3 s3 a3 hf3 hM3 h20 => ⟨rfl, ?_⟩)))
  obtain ⟨et, ev, eg⟩ : 0 = t3 ∧ v = v3 ∧ g2 = g3 := by
    have e9 := hf.symm.trans hf3
    cases e9
    exact ⟨rfl, rfl, rfl⟩
  rw [← eg] at hM3
  refine z_icmp_eq (tgt := 2334) dL_law_2304 (by decide) (fun czq2304 => ?_) (fun czq2304 => absurd ev czq2304)
  rw [← lW_sw]
  exact hnext _ _ _ _ _ _ _ _ _ hC2 hM3

set_option maxHeartbeats 4000000 in
set_option maxRecDepth 100000 in
theorem L_54 {l : zL} {d kc ks i : Nat} {h : Nat → va_E} {F : Nat → Int64} {sR : Nat → Int32} {aR : Nat → Nat → Int32} {cm : Value} {o u : Nat → Nat → Int32} {s : Nat → Nat → Int32} {a : Nat → Nat → Nat → Int32} {g : zGs} {Q : zQ} (hi : 6 * i + 6 ≤ l.2.1) (hl : l.2.1 ≤ 3072) (hC : cI g o u s a) (hM : mI g sR aR) (hnext : ∀ F' sR' aR' cm' o' u' s' a' g', cI g' o' u' s' a' → mI g' sR' aR' → Zj l mL_law (d + 20) kc ks 2334 [(0, .ref (zB + 500)), (1, .ref 0), (2, .ref 89), (3, .ref 103), (4, .int (nI (6 * i)))] [] 104 (lW h F' sR' aR' cm' o' u' s' a') Q) : Zj l mL_law (d + 20) (kc + 3) (ks + 18) 2309 [(0, .ref ((zB + 500))), (1, .ref 0), (2, .ref 89), (3, .ref 103), (4, .int ((nI (6 * i))))] [] 104 (lW h F sR aR cm o u s a) Q := by
  refine z_aload_n (j := 1) dL_law_2309 rfl ?_
  refine z_aload_n (j := 0) dL_law_2310 rfl ?_
  refine z_iload (j := 4) dL_law_2311 rfl ?_
  refine z_iconst (v := 1) dL_law_2313 (by decide) ?_
  refine z_iadd dL_law_2314 ?_
  rw [show nI (6 * i) + 1 = nI (6 * i + 1) from nI_add (6 * i) 1]
  refine z_sld (vp_in_nI (by omega) (by omega)) dL_law_2315 ?_
  refine z_kV [.int ((l.2.2 (nI (6 * i + 1)).toNatClampNeg))] (0 + 3) (0 + 18) kc ks yoX7_reportByte yvX7_reportByte rfl (by decide) lL_309 (by decide) lW_0 rfl rfl (Nat.le_of_ble_eq_true rfl) (Nat.le_of_ble_eq_true rfl) dL_law_2316 (by omega) (by omega) (z_room (by omega) (Nat.le_refl _) (Nat.le_refl _) (K_reportByte (d := 0) (by decide) hC (fun t v g2 cm2 o2 u2 s2 a2 hf hC2 => ?_)))
  show zk mL_law l _ kc ks 2316 _ _ 104 Q (oc IAE ISE t v) 104 (lW h F sR aR cm2 o2 u2 s2 a2)
  obtain rfl : t = 0 := T_reportByte hf
  rw [oc_0]
  refine ⟨rfl, ?_⟩
  rw [lW_sw]
  refine z_aload_n (j := 2) dL_law_2319 rfl ?_
  refine z_aload_n (j := 0) dL_law_2320 rfl ?_
  refine z_iload (j := 4) dL_law_2321 rfl ?_
  refine z_iconst (v := 1) dL_law_2323 (by decide) ?_
  refine z_iadd dL_law_2324 ?_
  rw [show nI (6 * i) + 1 = nI (6 * i + 1) from nI_add (6 * i) 1]
  refine z_sld (vp_in_nI (by omega) (by omega)) dL_law_2325 ?_
  refine z_kV [.int ((l.2.2 (nI (6 * i + 1)).toNatClampNeg))] 0 0 kc ks yoX8_reportByte yvX8_reportByte rfl (by decide) lL_312 (by decide) mW_obj rfl rfl (Nat.le_of_ble_eq_true rfl) (Nat.le_of_ble_eq_true rfl) dL_law_2326 (by omega) (by omega) (z_room (by omega) (Nat.le_refl _) (Nat.le_refl _) (R_reportByte (d := 0) (by decide) hM (fun t3 v3 g3 s3 a3 hf3 hM3 h20 => ⟨rfl, ?_⟩)))
  obtain ⟨et, ev, eg⟩ : 0 = t3 ∧ v = v3 ∧ g2 = g3 := by
    have e9 := hf.symm.trans hf3
    cases e9
    exact ⟨rfl, rfl, rfl⟩
  rw [← eg] at hM3
  refine z_icmp_eq (tgt := 2334) dL_law_2329 (by decide) (fun czq2329 => ?_) (fun czq2329 => absurd ev czq2329)
  rw [← lW_sw]
  exact hnext _ _ _ _ _ _ _ _ _ hC2 hM3
