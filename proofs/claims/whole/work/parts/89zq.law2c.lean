/-! THE LAW: its calls, go on -/

set_option maxHeartbeats 4000000 in
set_option maxRecDepth 100000 in
theorem L_28 {l : zL} {d kc ks i : Nat} {h : Nat → va_E} {F : Nat → Int64} {sR : Nat → Int32} {aR : Nat → Nat → Int32} {cm : Value} {o u : Nat → Nat → Int32} {s : Nat → Nat → Int32} {a : Nat → Nat → Nat → Int32} {g : zGs} {Q : zQ} (hi : 6 * i + 6 ≤ l.2.1) (hl : l.2.1 ≤ 3072) (hC : cI g o u s a) (hM : mI g sR aR) (hnext : ∀ F' sR' aR' cm' o' u' s' a' g', cI g' o' u' s' a' → mI g' sR' aR' → Zj l mL_law (d + 20) kc ks 2334 [(0, .ref (zB + 500)), (1, .ref 0), (2, .ref 89), (3, .ref 103), (4, .int (nI (6 * i)))] [] 104 (lW h F' sR' aR' cm' o' u' s' a') Q) : Zj l mL_law (d + 20) (kc + 3) (ks + 18) 1354 [(0, .ref ((zB + 500))), (1, .ref 0), (2, .ref 89), (3, .ref 103), (4, .int ((nI (6 * i))))] [] 104 (lW h F sR aR cm o u s a) Q := by
  refine z_aload_n (j := 1) dL_law_1354 rfl ?_
  refine z_kV [] (0 + 3) (0 + 18) kc ks yoX7_longestRun yvX7_longestRun rfl (by decide) lL_216 (by decide) lW_0 rfl rfl (Nat.le_of_ble_eq_true rfl) (Nat.le_of_ble_eq_true rfl) dL_law_1355 (by omega) (by omega) (z_room (by omega) (Nat.le_refl _) (Nat.le_refl _) (K_longestRun (d := 0) (by decide) hC (fun t v g2 cm2 o2 u2 s2 a2 hf hC2 => ?_)))
  show zk mL_law l _ kc ks 1355 _ _ 104 Q (oc IAE ISE t v) 104 (lW h F sR aR cm2 o2 u2 s2 a2)
  obtain rfl : t = 0 := T_longestRun hf
  rw [oc_0]
  refine ⟨rfl, ?_⟩
  rw [lW_sw]
  refine z_aload_n (j := 2) dL_law_1358 rfl ?_
  refine z_kV [] 0 0 kc ks yoX8_longestRun yvX8_longestRun rfl (by decide) lL_219 (by decide) mW_obj rfl rfl (Nat.le_of_ble_eq_true rfl) (Nat.le_of_ble_eq_true rfl) dL_law_1359 (by omega) (by omega) (z_room (by omega) (Nat.le_refl _) (Nat.le_refl _) (R_longestRun (d := 0) (by decide) hM (fun t3 v3 g3 s3 a3 hf3 hM3 h20 => ⟨rfl, ?_⟩)))
  obtain ⟨et, ev, eg⟩ : 0 = t3 ∧ v = v3 ∧ g2 = g3 := by
    have e9 := hf.symm.trans hf3
    cases e9
    exact ⟨rfl, rfl, rfl⟩
  rw [← eg] at hM3
  refine z_icmp_eq (tgt := 2334) dL_law_1362 (by decide) (fun czq1362 => ?_) (fun czq1362 => absurd ev czq1362)
  rw [← lW_sw]
  exact hnext _ _ _ _ _ _ _ _ _ hC2 hM3

set_option maxHeartbeats 4000000 in
set_option maxRecDepth 100000 in
theorem L_29 {l : zL} {d kc ks i : Nat} {h : Nat → va_E} {F : Nat → Int64} {sR : Nat → Int32} {aR : Nat → Nat → Int32} {cm : Value} {o u : Nat → Nat → Int32} {s : Nat → Nat → Int32} {a : Nat → Nat → Nat → Int32} {g : zGs} {Q : zQ} (hi : 6 * i + 6 ≤ l.2.1) (hl : l.2.1 ≤ 3072) (hC : cI g o u s a) (hM : mI g sR aR) (hnext : ∀ F' sR' aR' cm' o' u' s' a' g', cI g' o' u' s' a' → mI g' sR' aR' → Zj l mL_law (d + 20) kc ks 2334 [(0, .ref (zB + 500)), (1, .ref 0), (2, .ref 89), (3, .ref 103), (4, .int (nI (6 * i)))] [] 104 (lW h F' sR' aR' cm' o' u' s' a') Q) : Zj l mL_law (d + 20) (kc + 3) (ks + 18) 1367 [(0, .ref ((zB + 500))), (1, .ref 0), (2, .ref 89), (3, .ref 103), (4, .int ((nI (6 * i))))] [] 104 (lW h F sR aR cm o u s a) Q := by
  refine z_aload_n (j := 1) dL_law_1367 rfl ?_
  refine z_kV [] (0 + 3) (0 + 18) kc ks yoX7_fullestHome yvX7_fullestHome rfl (by decide) lL_220 (by decide) lW_0 rfl rfl (Nat.le_of_ble_eq_true rfl) (Nat.le_of_ble_eq_true rfl) dL_law_1368 (by omega) (by omega) (z_room (by omega) (Nat.le_refl _) (Nat.le_refl _) (K_fullestHome (d := 0) (by decide) hC (fun t v g2 cm2 o2 u2 s2 a2 hf hC2 => ?_)))
  show zk mL_law l _ kc ks 1368 _ _ 104 Q (oc IAE ISE t v) 104 (lW h F sR aR cm2 o2 u2 s2 a2)
  obtain rfl : t = 0 := T_fullestHome hf
  rw [oc_0]
  refine ⟨rfl, ?_⟩
  rw [lW_sw]
  refine z_aload_n (j := 2) dL_law_1371 rfl ?_
  refine z_kV [] 0 0 kc ks yoX8_fullestHome yvX8_fullestHome rfl (by decide) lL_223 (by decide) mW_obj rfl rfl (Nat.le_of_ble_eq_true rfl) (Nat.le_of_ble_eq_true rfl) dL_law_1372 (by omega) (by omega) (z_room (by omega) (Nat.le_refl _) (Nat.le_refl _) (R_fullestHome (d := 0) (by decide) hM (fun t3 v3 g3 s3 a3 hf3 hM3 h20 => ⟨rfl, ?_⟩)))
  obtain ⟨et, ev, eg⟩ : 0 = t3 ∧ v = v3 ∧ g2 = g3 := by
    have e9 := hf.symm.trans hf3
    cases e9
    exact ⟨rfl, rfl, rfl⟩
  rw [← eg] at hM3
  refine z_icmp_eq (tgt := 2334) dL_law_1375 (by decide) (fun czq1375 => ?_) (fun czq1375 => absurd ev czq1375)
  rw [← lW_sw]
  exact hnext _ _ _ _ _ _ _ _ _ hC2 hM3

set_option maxHeartbeats 4000000 in
set_option maxRecDepth 100000 in
theorem L_30 {l : zL} {d kc ks i : Nat} {h : Nat → va_E} {F : Nat → Int64} {sR : Nat → Int32} {aR : Nat → Nat → Int32} {cm : Value} {o u : Nat → Nat → Int32} {s : Nat → Nat → Int32} {a : Nat → Nat → Nat → Int32} {g : zGs} {Q : zQ} (hi : 6 * i + 6 ≤ l.2.1) (hl : l.2.1 ≤ 3072) (hC : cI g o u s a) (hM : mI g sR aR) (hnext : ∀ F' sR' aR' cm' o' u' s' a' g', cI g' o' u' s' a' → mI g' sR' aR' → Zj l mL_law (d + 20) kc ks 2334 [(0, .ref (zB + 500)), (1, .ref 0), (2, .ref 89), (3, .ref 103), (4, .int (nI (6 * i)))] [] 104 (lW h F' sR' aR' cm' o' u' s' a') Q) : Zj l mL_law (d + 20) (kc + 3) (ks + 18) 1380 [(0, .ref ((zB + 500))), (1, .ref 0), (2, .ref 89), (3, .ref 103), (4, .int ((nI (6 * i))))] [] 104 (lW h F sR aR cm o u s a) Q := by
  refine z_aload_n (j := 1) dL_law_1380 rfl ?_
  refine z_aload_n (j := 0) dL_law_1381 rfl ?_
  refine z_iload (j := 4) dL_law_1382 rfl ?_
  refine z_iconst (v := 1) dL_law_1384 (by decide) ?_
  refine z_iadd dL_law_1385 ?_
  rw [show nI (6 * i) + 1 = nI (6 * i + 1) from nI_add (6 * i) 1]
  refine z_sld (vp_in_nI (by omega) (by omega)) dL_law_1386 ?_
  refine z_aload_n (j := 3) dL_law_1387 rfl ?_
  refine z_kSW [.ref 0, .int ((l.2.2 (nI (6 * i + 1)).toNatClampNeg)), .ref 103] (0 + 3) (0 + 18) kc ks yoL_homeOf ysL_homeOf (by decide) (by decide) lL_224 rfl (Nat.le_of_ble_eq_true rfl) (Nat.le_of_ble_eq_true rfl) dL_law_1388 (by omega) (by omega) (z_room (by omega) (Nat.le_refl _) (Nat.le_refl _) (V_homeOf (d := 0) hC (fun t v g2 cm2 o2 u2 s2 a2 F2 hf hC2 hz => ⟨rfl, ?_⟩)))
  rw [lW_sw]
  refine z_istore [1, 2, 3, 4, 5, 0] [(0, .ref ((zB + 500))), (1, .ref 0), (2, .ref 89), (3, .ref 103), (4, .int ((nI (6 * i)))), (5, .int t)] dL_law_1391 (by decide) rfl ?_
  refine z_aload_n (j := 2) dL_law_1393 rfl ?_
  refine z_aload_n (j := 0) dL_law_1394 rfl ?_
  refine z_iload (j := 4) dL_law_1395 rfl ?_
  refine z_iconst (v := 1) dL_law_1397 (by decide) ?_
  refine z_iadd dL_law_1398 ?_
  rw [show nI (6 * i) + 1 = nI (6 * i + 1) from nI_add (6 * i) 1]
  refine z_sld (vp_in_nI (by omega) (by omega)) dL_law_1399 ?_
  refine z_kV [.int ((l.2.2 (nI (6 * i + 1)).toNatClampNeg))] 0 0 kc ks yoX8_homeOf yvX8_homeOf rfl (by decide) lL_226 (by decide) mW_obj rfl rfl (Nat.le_of_ble_eq_true rfl) (Nat.le_of_ble_eq_true rfl) dL_law_1400 (by omega) (by omega) (z_room (by omega) (Nat.le_refl _) (Nat.le_refl _) (R_homeOf (d := 0) (by decide) hM (fun t3 v3 g3 s3 a3 hf3 hM3 h20 => ⟨rfl, ?_⟩)))
  obtain ⟨et, ev, eg⟩ : t = t3 ∧ v = v3 ∧ g2 = g3 := by
    have e9 := hf.symm.trans hf3
    cases e9
    exact ⟨rfl, rfl, rfl⟩
  rw [← eg] at hM3
  refine z_istore [1, 2, 3, 4, 5, 6, 0] [(0, .ref ((zB + 500))), (1, .ref 0), (2, .ref 89), (3, .ref 103), (4, .int ((nI (6 * i)))), (5, .int t), (6, .int v3)] dL_law_1403 (by decide) rfl ?_
  refine z_aload_n (j := 2) dL_law_1405 rfl ?_
  refine z_kV [] 0 0 kc ks yoX8_thrown yvX8_thrown rfl (by decide) lL_117 (by decide) mW_obj rfl rfl (Nat.le_of_ble_eq_true rfl) (Nat.le_of_ble_eq_true rfl) dL_law_1406 (by omega) (by omega) (z_room (by omega) (Nat.le_refl _) (Nat.le_refl _) (m_thrown (d := 0) (by decide) ⟨rfl, ?_⟩))
  refine z_iload (j := 5) dL_law_1409 rfl ?_
  refine z_icmp_eq (tgt := 1416) dL_law_1411 (by decide) (fun czq1411 => ?_) (fun czq1411 => absurd (h20.trans et.symm) czq1411)
  refine z_iload (j := 5) dL_law_1416 rfl ?_
  refine z_if_ne (tgt := 1433) dL_law_1418 (by decide) (fun czq1418 => ?_) (fun czq1418 => ?_)
  · refine z_goto (tgt := 2334) dL_law_1433 (by decide) ?_
    refine z_lv [(0, .ref ((zB + 500))), (1, .ref 0), (2, .ref 89), (3, .ref 103), (4, .int ((nI (6 * i))))] [0, 1, 2, 3, 4] rfl ?_
    rw [← lW_sw]
    exact hnext _ _ _ _ _ _ _ _ _ hC2 hM3
  · refine z_aload_n (j := 3) dL_law_1421 rfl ?_
    refine z_iconst (v := 0) dL_law_1422 (by decide) ?_
    refine l_aldM (x := v.toInt64) (hz czq1418) dL_law_1423 ?_
    refine z_iload (j := 6) dL_law_1424 rfl ?_
    refine z_i2l dL_law_1426 ?_
    refine z_lcmp dL_law_1427 ?_
    rw [show lg_cmp v.toInt64 v3.toInt64 = 0 from (lg_cmp_eq _ _).mpr (by rw [ev])]
    refine z_if_eq (tgt := 1433) dL_law_1428 (by decide) (fun czq1428 => ?_) (fun czq1428 => absurd rfl czq1428)
    refine z_goto (tgt := 2334) dL_law_1433 (by decide) ?_
    refine z_lv [(0, .ref ((zB + 500))), (1, .ref 0), (2, .ref 89), (3, .ref 103), (4, .int ((nI (6 * i))))] [0, 1, 2, 3, 4] rfl ?_
    rw [← lW_sw]
    exact hnext _ _ _ _ _ _ _ _ _ hC2 hM3

set_option maxHeartbeats 4000000 in
set_option maxRecDepth 100000 in
theorem L_31 {l : zL} {d kc ks i : Nat} {h : Nat → va_E} {F : Nat → Int64} {sR : Nat → Int32} {aR : Nat → Nat → Int32} {cm : Value} {o u : Nat → Nat → Int32} {s : Nat → Nat → Int32} {a : Nat → Nat → Nat → Int32} {g : zGs} {Q : zQ} (hi : 6 * i + 6 ≤ l.2.1) (hl : l.2.1 ≤ 3072) (hC : cI g o u s a) (hM : mI g sR aR) (hnext : ∀ F' sR' aR' cm' o' u' s' a' g', cI g' o' u' s' a' → mI g' sR' aR' → Zj l mL_law (d + 20) kc ks 2334 [(0, .ref (zB + 500)), (1, .ref 0), (2, .ref 89), (3, .ref 103), (4, .int (nI (6 * i)))] [] 104 (lW h F' sR' aR' cm' o' u' s' a') Q) : Zj l mL_law (d + 20) (kc + 3) (ks + 18) 1436 [(0, .ref ((zB + 500))), (1, .ref 0), (2, .ref 89), (3, .ref 103), (4, .int ((nI (6 * i))))] [] 104 (lW h F sR aR cm o u s a) Q := by
  refine z_aload_n (j := 1) dL_law_1436 rfl ?_
  refine z_aload_n (j := 0) dL_law_1437 rfl ?_
  refine z_iload (j := 4) dL_law_1438 rfl ?_
  refine z_iconst (v := 1) dL_law_1440 (by decide) ?_
  refine z_iadd dL_law_1441 ?_
  rw [show nI (6 * i) + 1 = nI (6 * i + 1) from nI_add (6 * i) 1]
  refine z_sld (vp_in_nI (by omega) (by omega)) dL_law_1442 ?_
  refine z_aload_n (j := 3) dL_law_1443 rfl ?_
  refine z_kSW [.ref 0, .int ((l.2.2 (nI (6 * i + 1)).toNatClampNeg)), .ref 103] (0 + 3) (0 + 18) kc ks yoL_bucketOf ysL_bucketOf (by decide) (by decide) lL_227 rfl (Nat.le_of_ble_eq_true rfl) (Nat.le_of_ble_eq_true rfl) dL_law_1444 (by omega) (by omega) (z_room (by omega) (Nat.le_refl _) (Nat.le_refl _) (V_bucketOf (d := 0) hC (fun t v g2 cm2 o2 u2 s2 a2 F2 hf hC2 hz => ⟨rfl, ?_⟩)))
  rw [lW_sw]
  refine z_istore [1, 2, 3, 4, 5, 0] [(0, .ref ((zB + 500))), (1, .ref 0), (2, .ref 89), (3, .ref 103), (4, .int ((nI (6 * i)))), (5, .int t)] dL_law_1447 (by decide) rfl ?_
  refine z_aload_n (j := 2) dL_law_1449 rfl ?_
  refine z_aload_n (j := 0) dL_law_1450 rfl ?_
  refine z_iload (j := 4) dL_law_1451 rfl ?_
  refine z_iconst (v := 1) dL_law_1453 (by decide) ?_
  refine z_iadd dL_law_1454 ?_
  rw [show nI (6 * i) + 1 = nI (6 * i + 1) from nI_add (6 * i) 1]
  refine z_sld (vp_in_nI (by omega) (by omega)) dL_law_1455 ?_
  refine z_kV [.int ((l.2.2 (nI (6 * i + 1)).toNatClampNeg))] 0 0 kc ks yoX8_bucketOf yvX8_bucketOf rfl (by decide) lL_229 (by decide) mW_obj rfl rfl (Nat.le_of_ble_eq_true rfl) (Nat.le_of_ble_eq_true rfl) dL_law_1456 (by omega) (by omega) (z_room (by omega) (Nat.le_refl _) (Nat.le_refl _) (R_bucketOf (d := 0) (by decide) hM (fun t3 v3 g3 s3 a3 hf3 hM3 h20 => ⟨rfl, ?_⟩)))
  obtain ⟨et, ev, eg⟩ : t = t3 ∧ v = v3 ∧ g2 = g3 := by
    have e9 := hf.symm.trans hf3
    cases e9
    exact ⟨rfl, rfl, rfl⟩
  rw [← eg] at hM3
  refine z_istore [1, 2, 3, 4, 5, 6, 0] [(0, .ref ((zB + 500))), (1, .ref 0), (2, .ref 89), (3, .ref 103), (4, .int ((nI (6 * i)))), (5, .int t), (6, .int v3)] dL_law_1459 (by decide) rfl ?_
  refine z_aload_n (j := 2) dL_law_1461 rfl ?_
  refine z_kV [] 0 0 kc ks yoX8_thrown yvX8_thrown rfl (by decide) lL_117 (by decide) mW_obj rfl rfl (Nat.le_of_ble_eq_true rfl) (Nat.le_of_ble_eq_true rfl) dL_law_1462 (by omega) (by omega) (z_room (by omega) (Nat.le_refl _) (Nat.le_refl _) (m_thrown (d := 0) (by decide) ⟨rfl, ?_⟩))
  refine z_iload (j := 5) dL_law_1465 rfl ?_
  refine z_icmp_eq (tgt := 1472) dL_law_1467 (by decide) (fun czq1467 => ?_) (fun czq1467 => absurd (h20.trans et.symm) czq1467)
  refine z_iload (j := 5) dL_law_1472 rfl ?_
  refine z_if_ne (tgt := 1489) dL_law_1474 (by decide) (fun czq1474 => ?_) (fun czq1474 => ?_)
  · refine z_goto (tgt := 2334) dL_law_1489 (by decide) ?_
    refine z_lv [(0, .ref ((zB + 500))), (1, .ref 0), (2, .ref 89), (3, .ref 103), (4, .int ((nI (6 * i))))] [0, 1, 2, 3, 4] rfl ?_
    rw [← lW_sw]
    exact hnext _ _ _ _ _ _ _ _ _ hC2 hM3
  · refine z_aload_n (j := 3) dL_law_1477 rfl ?_
    refine z_iconst (v := 0) dL_law_1478 (by decide) ?_
    refine l_aldM (x := v.toInt64) (hz czq1474) dL_law_1479 ?_
    refine z_iload (j := 6) dL_law_1480 rfl ?_
    refine z_i2l dL_law_1482 ?_
    refine z_lcmp dL_law_1483 ?_
    rw [show lg_cmp v.toInt64 v3.toInt64 = 0 from (lg_cmp_eq _ _).mpr (by rw [ev])]
    refine z_if_eq (tgt := 1489) dL_law_1484 (by decide) (fun czq1484 => ?_) (fun czq1484 => absurd rfl czq1484)
    refine z_goto (tgt := 2334) dL_law_1489 (by decide) ?_
    refine z_lv [(0, .ref ((zB + 500))), (1, .ref 0), (2, .ref 89), (3, .ref 103), (4, .int ((nI (6 * i))))] [0, 1, 2, 3, 4] rfl ?_
    rw [← lW_sw]
    exact hnext _ _ _ _ _ _ _ _ _ hC2 hM3

set_option maxHeartbeats 4000000 in
set_option maxRecDepth 100000 in
theorem L_32 {l : zL} {d kc ks i : Nat} {h : Nat → va_E} {F : Nat → Int64} {sR : Nat → Int32} {aR : Nat → Nat → Int32} {cm : Value} {o u : Nat → Nat → Int32} {s : Nat → Nat → Int32} {a : Nat → Nat → Nat → Int32} {g : zGs} {Q : zQ} (hi : 6 * i + 6 ≤ l.2.1) (hl : l.2.1 ≤ 3072) (hC : cI g o u s a) (hM : mI g sR aR) (hnext : ∀ F' sR' aR' cm' o' u' s' a' g', cI g' o' u' s' a' → mI g' sR' aR' → Zj l mL_law (d + 20) kc ks 2334 [(0, .ref (zB + 500)), (1, .ref 0), (2, .ref 89), (3, .ref 103), (4, .int (nI (6 * i)))] [] 104 (lW h F' sR' aR' cm' o' u' s' a') Q) : Zj l mL_law (d + 20) (kc + 3) (ks + 18) 1492 [(0, .ref ((zB + 500))), (1, .ref 0), (2, .ref 89), (3, .ref 103), (4, .int ((nI (6 * i))))] [] 104 (lW h F sR aR cm o u s a) Q := by
  refine z_aload_n (j := 1) dL_law_1492 rfl ?_
  refine z_aload_n (j := 0) dL_law_1493 rfl ?_
  refine z_iload (j := 4) dL_law_1494 rfl ?_
  refine z_iconst (v := 1) dL_law_1496 (by decide) ?_
  refine z_iadd dL_law_1497 ?_
  rw [show nI (6 * i) + 1 = nI (6 * i + 1) from nI_add (6 * i) 1]
  refine z_sld (vp_in_nI (by omega) (by omega)) dL_law_1498 ?_
  refine z_aload_n (j := 3) dL_law_1499 rfl ?_
  refine z_kSW [.ref 0, .int ((l.2.2 (nI (6 * i + 1)).toNatClampNeg)), .ref 103] (0 + 3) (0 + 18) kc ks yoL_valueOf ysL_valueOf (by decide) (by decide) lL_230 rfl (Nat.le_of_ble_eq_true rfl) (Nat.le_of_ble_eq_true rfl) dL_law_1500 (by omega) (by omega) (z_room (by omega) (Nat.le_refl _) (Nat.le_refl _) (V_valueOf (d := 0) hC (fun t v g2 cm2 o2 u2 s2 a2 F2 hf hC2 hz => ⟨rfl, ?_⟩)))
  rw [lW_sw]
  refine z_istore [1, 2, 3, 4, 5, 0] [(0, .ref ((zB + 500))), (1, .ref 0), (2, .ref 89), (3, .ref 103), (4, .int ((nI (6 * i)))), (5, .int t)] dL_law_1503 (by decide) rfl ?_
  refine z_aload_n (j := 2) dL_law_1505 rfl ?_
  refine z_aload_n (j := 0) dL_law_1506 rfl ?_
  refine z_iload (j := 4) dL_law_1507 rfl ?_
  refine z_iconst (v := 1) dL_law_1509 (by decide) ?_
  refine z_iadd dL_law_1510 ?_
  rw [show nI (6 * i) + 1 = nI (6 * i + 1) from nI_add (6 * i) 1]
  refine z_sld (vp_in_nI (by omega) (by omega)) dL_law_1511 ?_
  refine z_kV [.int ((l.2.2 (nI (6 * i + 1)).toNatClampNeg))] 0 0 kc ks yoX8_valueOf yvX8_valueOf rfl (by decide) lL_232 (by decide) mW_obj rfl rfl (Nat.le_of_ble_eq_true rfl) (Nat.le_of_ble_eq_true rfl) dL_law_1512 (by omega) (by omega) (z_room (by omega) (Nat.le_refl _) (Nat.le_refl _) (R_valueOf (d := 0) (by decide) hM (fun t3 v3 g3 s3 a3 hf3 hM3 h20 => ⟨rfl, ?_⟩)))
  obtain ⟨et, ev, eg⟩ : t = t3 ∧ v = v3 ∧ g2 = g3 := by
    have e9 := hf.symm.trans hf3
    cases e9
    exact ⟨rfl, rfl, rfl⟩
  rw [← eg] at hM3
  refine z_istore [1, 2, 3, 4, 5, 6, 0] [(0, .ref ((zB + 500))), (1, .ref 0), (2, .ref 89), (3, .ref 103), (4, .int ((nI (6 * i)))), (5, .int t), (6, .int v3)] dL_law_1515 (by decide) rfl ?_
  refine z_aload_n (j := 2) dL_law_1517 rfl ?_
  refine z_kV [] 0 0 kc ks yoX8_thrown yvX8_thrown rfl (by decide) lL_117 (by decide) mW_obj rfl rfl (Nat.le_of_ble_eq_true rfl) (Nat.le_of_ble_eq_true rfl) dL_law_1518 (by omega) (by omega) (z_room (by omega) (Nat.le_refl _) (Nat.le_refl _) (m_thrown (d := 0) (by decide) ⟨rfl, ?_⟩))
  refine z_iload (j := 5) dL_law_1521 rfl ?_
  refine z_icmp_eq (tgt := 1528) dL_law_1523 (by decide) (fun czq1523 => ?_) (fun czq1523 => absurd (h20.trans et.symm) czq1523)
  refine z_iload (j := 5) dL_law_1528 rfl ?_
  refine z_if_ne (tgt := 1545) dL_law_1530 (by decide) (fun czq1530 => ?_) (fun czq1530 => ?_)
  · refine z_goto (tgt := 2334) dL_law_1545 (by decide) ?_
    refine z_lv [(0, .ref ((zB + 500))), (1, .ref 0), (2, .ref 89), (3, .ref 103), (4, .int ((nI (6 * i))))] [0, 1, 2, 3, 4] rfl ?_
    rw [← lW_sw]
    exact hnext _ _ _ _ _ _ _ _ _ hC2 hM3
  · refine z_aload_n (j := 3) dL_law_1533 rfl ?_
    refine z_iconst (v := 0) dL_law_1534 (by decide) ?_
    refine l_aldM (x := v.toInt64) (hz czq1530) dL_law_1535 ?_
    refine z_iload (j := 6) dL_law_1536 rfl ?_
    refine z_i2l dL_law_1538 ?_
    refine z_lcmp dL_law_1539 ?_
    rw [show lg_cmp v.toInt64 v3.toInt64 = 0 from (lg_cmp_eq _ _).mpr (by rw [ev])]
    refine z_if_eq (tgt := 1545) dL_law_1540 (by decide) (fun czq1540 => ?_) (fun czq1540 => absurd rfl czq1540)
    refine z_goto (tgt := 2334) dL_law_1545 (by decide) ?_
    refine z_lv [(0, .ref ((zB + 500))), (1, .ref 0), (2, .ref 89), (3, .ref 103), (4, .int ((nI (6 * i))))] [0, 1, 2, 3, 4] rfl ?_
    rw [← lW_sw]
    exact hnext _ _ _ _ _ _ _ _ _ hC2 hM3

set_option maxHeartbeats 4000000 in
set_option maxRecDepth 100000 in
theorem L_33 {l : zL} {d kc ks i : Nat} {h : Nat → va_E} {F : Nat → Int64} {sR : Nat → Int32} {aR : Nat → Nat → Int32} {cm : Value} {o u : Nat → Nat → Int32} {s : Nat → Nat → Int32} {a : Nat → Nat → Nat → Int32} {g : zGs} {Q : zQ} (hi : 6 * i + 6 ≤ l.2.1) (hl : l.2.1 ≤ 3072) (hC : cI g o u s a) (hM : mI g sR aR) (hnext : ∀ F' sR' aR' cm' o' u' s' a' g', cI g' o' u' s' a' → mI g' sR' aR' → Zj l mL_law (d + 20) kc ks 2334 [(0, .ref (zB + 500)), (1, .ref 0), (2, .ref 89), (3, .ref 103), (4, .int (nI (6 * i)))] [] 104 (lW h F' sR' aR' cm' o' u' s' a') Q) : Zj l mL_law (d + 20) (kc + 3) (ks + 18) 1548 [(0, .ref ((zB + 500))), (1, .ref 0), (2, .ref 89), (3, .ref 103), (4, .int ((nI (6 * i))))] [] 104 (lW h F sR aR cm o u s a) Q := by
  refine z_aload_n (j := 1) dL_law_1548 rfl ?_
  refine z_aload_n (j := 0) dL_law_1549 rfl ?_
  refine z_iload (j := 4) dL_law_1550 rfl ?_
  refine z_iconst (v := 1) dL_law_1552 (by decide) ?_
  refine z_iadd dL_law_1553 ?_
  rw [show nI (6 * i) + 1 = nI (6 * i + 1) from nI_add (6 * i) 1]
  refine z_sld (vp_in_nI (by omega) (by omega)) dL_law_1554 ?_
  refine z_aload_n (j := 3) dL_law_1555 rfl ?_
  refine z_kSW [.ref 0, .int ((l.2.2 (nI (6 * i + 1)).toNatClampNeg)), .ref 103] (0 + 3) (0 + 18) kc ks yoL_distanceOf ysL_distanceOf (by decide) (by decide) lL_233 rfl (Nat.le_of_ble_eq_true rfl) (Nat.le_of_ble_eq_true rfl) dL_law_1556 (by omega) (by omega) (z_room (by omega) (Nat.le_refl _) (Nat.le_refl _) (V_distanceOf (d := 0) hC (fun t v g2 cm2 o2 u2 s2 a2 F2 hf hC2 hz => ⟨rfl, ?_⟩)))
  rw [lW_sw]
  refine z_istore [1, 2, 3, 4, 5, 0] [(0, .ref ((zB + 500))), (1, .ref 0), (2, .ref 89), (3, .ref 103), (4, .int ((nI (6 * i)))), (5, .int t)] dL_law_1559 (by decide) rfl ?_
  refine z_aload_n (j := 2) dL_law_1561 rfl ?_
  refine z_aload_n (j := 0) dL_law_1562 rfl ?_
  refine z_iload (j := 4) dL_law_1563 rfl ?_
  refine z_iconst (v := 1) dL_law_1565 (by decide) ?_
  refine z_iadd dL_law_1566 ?_
  rw [show nI (6 * i) + 1 = nI (6 * i + 1) from nI_add (6 * i) 1]
  refine z_sld (vp_in_nI (by omega) (by omega)) dL_law_1567 ?_
  refine z_kV [.int ((l.2.2 (nI (6 * i + 1)).toNatClampNeg))] 0 0 kc ks yoX8_distanceOf yvX8_distanceOf rfl (by decide) lL_235 (by decide) mW_obj rfl rfl (Nat.le_of_ble_eq_true rfl) (Nat.le_of_ble_eq_true rfl) dL_law_1568 (by omega) (by omega) (z_room (by omega) (Nat.le_refl _) (Nat.le_refl _) (R_distanceOf (d := 0) (by decide) hM (fun t3 v3 g3 s3 a3 hf3 hM3 h20 => ⟨rfl, ?_⟩)))
  obtain ⟨et, ev, eg⟩ : t = t3 ∧ v = v3 ∧ g2 = g3 := by
    have e9 := hf.symm.trans hf3
    cases e9
    exact ⟨rfl, rfl, rfl⟩
  rw [← eg] at hM3
  refine z_istore [1, 2, 3, 4, 5, 6, 0] [(0, .ref ((zB + 500))), (1, .ref 0), (2, .ref 89), (3, .ref 103), (4, .int ((nI (6 * i)))), (5, .int t), (6, .int v3)] dL_law_1571 (by decide) rfl ?_
  refine z_aload_n (j := 2) dL_law_1573 rfl ?_
  refine z_kV [] 0 0 kc ks yoX8_thrown yvX8_thrown rfl (by decide) lL_117 (by decide) mW_obj rfl rfl (Nat.le_of_ble_eq_true rfl) (Nat.le_of_ble_eq_true rfl) dL_law_1574 (by omega) (by omega) (z_room (by omega) (Nat.le_refl _) (Nat.le_refl _) (m_thrown (d := 0) (by decide) ⟨rfl, ?_⟩))
  refine z_iload (j := 5) dL_law_1577 rfl ?_
  refine z_icmp_eq (tgt := 1584) dL_law_1579 (by decide) (fun czq1579 => ?_) (fun czq1579 => absurd (h20.trans et.symm) czq1579)
  refine z_iload (j := 5) dL_law_1584 rfl ?_
  refine z_if_ne (tgt := 1601) dL_law_1586 (by decide) (fun czq1586 => ?_) (fun czq1586 => ?_)
  · refine z_goto (tgt := 2334) dL_law_1601 (by decide) ?_
    refine z_lv [(0, .ref ((zB + 500))), (1, .ref 0), (2, .ref 89), (3, .ref 103), (4, .int ((nI (6 * i))))] [0, 1, 2, 3, 4] rfl ?_
    rw [← lW_sw]
    exact hnext _ _ _ _ _ _ _ _ _ hC2 hM3
  · refine z_aload_n (j := 3) dL_law_1589 rfl ?_
    refine z_iconst (v := 0) dL_law_1590 (by decide) ?_
    refine l_aldM (x := v.toInt64) (hz czq1586) dL_law_1591 ?_
    refine z_iload (j := 6) dL_law_1592 rfl ?_
    refine z_i2l dL_law_1594 ?_
    refine z_lcmp dL_law_1595 ?_
    rw [show lg_cmp v.toInt64 v3.toInt64 = 0 from (lg_cmp_eq _ _).mpr (by rw [ev])]
    refine z_if_eq (tgt := 1601) dL_law_1596 (by decide) (fun czq1596 => ?_) (fun czq1596 => absurd rfl czq1596)
    refine z_goto (tgt := 2334) dL_law_1601 (by decide) ?_
    refine z_lv [(0, .ref ((zB + 500))), (1, .ref 0), (2, .ref 89), (3, .ref 103), (4, .int ((nI (6 * i))))] [0, 1, 2, 3, 4] rfl ?_
    rw [← lW_sw]
    exact hnext _ _ _ _ _ _ _ _ _ hC2 hM3

set_option maxHeartbeats 4000000 in
set_option maxRecDepth 100000 in
theorem L_34 {l : zL} {d kc ks i : Nat} {h : Nat → va_E} {F : Nat → Int64} {sR : Nat → Int32} {aR : Nat → Nat → Int32} {cm : Value} {o u : Nat → Nat → Int32} {s : Nat → Nat → Int32} {a : Nat → Nat → Nat → Int32} {g : zGs} {Q : zQ} (hi : 6 * i + 6 ≤ l.2.1) (hl : l.2.1 ≤ 3072) (hC : cI g o u s a) (hM : mI g sR aR) (hnext : ∀ F' sR' aR' cm' o' u' s' a' g', cI g' o' u' s' a' → mI g' sR' aR' → Zj l mL_law (d + 20) kc ks 2334 [(0, .ref (zB + 500)), (1, .ref 0), (2, .ref 89), (3, .ref 103), (4, .int (nI (6 * i)))] [] 104 (lW h F' sR' aR' cm' o' u' s' a') Q) : Zj l mL_law (d + 20) (kc + 3) (ks + 18) 1604 [(0, .ref ((zB + 500))), (1, .ref 0), (2, .ref 89), (3, .ref 103), (4, .int ((nI (6 * i))))] [] 104 (lW h F sR aR cm o u s a) Q := by
  refine z_aload_n (j := 1) dL_law_1604 rfl ?_
  refine z_aload_n (j := 0) dL_law_1605 rfl ?_
  refine z_iload (j := 4) dL_law_1606 rfl ?_
  refine z_iconst (v := 1) dL_law_1608 (by decide) ?_
  refine z_iadd dL_law_1609 ?_
  rw [show nI (6 * i) + 1 = nI (6 * i + 1) from nI_add (6 * i) 1]
  refine z_sld (vp_in_nI (by omega) (by omega)) dL_law_1610 ?_
  refine z_aload_n (j := 3) dL_law_1611 rfl ?_
  refine z_kSW [.ref 0, .int ((l.2.2 (nI (6 * i + 1)).toNatClampNeg)), .ref 103] (0 + 3) (0 + 18) kc ks yoL_looksFor ysL_looksFor (by decide) (by decide) lL_236 rfl (Nat.le_of_ble_eq_true rfl) (Nat.le_of_ble_eq_true rfl) dL_law_1612 (by omega) (by omega) (z_room (by omega) (Nat.le_refl _) (Nat.le_refl _) (V_looksFor (d := 0) hC (fun t v g2 cm2 o2 u2 s2 a2 F2 hf hC2 hz => ⟨rfl, ?_⟩)))
  rw [lW_sw]
  refine z_istore [1, 2, 3, 4, 5, 0] [(0, .ref ((zB + 500))), (1, .ref 0), (2, .ref 89), (3, .ref 103), (4, .int ((nI (6 * i)))), (5, .int t)] dL_law_1615 (by decide) rfl ?_
  refine z_aload_n (j := 2) dL_law_1617 rfl ?_
  refine z_aload_n (j := 0) dL_law_1618 rfl ?_
  refine z_iload (j := 4) dL_law_1619 rfl ?_
  refine z_iconst (v := 1) dL_law_1621 (by decide) ?_
  refine z_iadd dL_law_1622 ?_
  rw [show nI (6 * i) + 1 = nI (6 * i + 1) from nI_add (6 * i) 1]
  refine z_sld (vp_in_nI (by omega) (by omega)) dL_law_1623 ?_
  refine z_kV [.int ((l.2.2 (nI (6 * i + 1)).toNatClampNeg))] 0 0 kc ks yoX8_looksFor yvX8_looksFor rfl (by decide) lL_238 (by decide) mW_obj rfl rfl (Nat.le_of_ble_eq_true rfl) (Nat.le_of_ble_eq_true rfl) dL_law_1624 (by omega) (by omega) (z_room (by omega) (Nat.le_refl _) (Nat.le_refl _) (R_looksFor (d := 0) (by decide) hM (fun t3 v3 g3 s3 a3 hf3 hM3 h20 => ⟨rfl, ?_⟩)))
  obtain ⟨et, ev, eg⟩ : t = t3 ∧ v = v3 ∧ g2 = g3 := by
    have e9 := hf.symm.trans hf3
    cases e9
    exact ⟨rfl, rfl, rfl⟩
  rw [← eg] at hM3
  refine z_istore [1, 2, 3, 4, 5, 6, 0] [(0, .ref ((zB + 500))), (1, .ref 0), (2, .ref 89), (3, .ref 103), (4, .int ((nI (6 * i)))), (5, .int t), (6, .int v3)] dL_law_1627 (by decide) rfl ?_
  refine z_aload_n (j := 2) dL_law_1629 rfl ?_
  refine z_kV [] 0 0 kc ks yoX8_thrown yvX8_thrown rfl (by decide) lL_117 (by decide) mW_obj rfl rfl (Nat.le_of_ble_eq_true rfl) (Nat.le_of_ble_eq_true rfl) dL_law_1630 (by omega) (by omega) (z_room (by omega) (Nat.le_refl _) (Nat.le_refl _) (m_thrown (d := 0) (by decide) ⟨rfl, ?_⟩))
  refine z_iload (j := 5) dL_law_1633 rfl ?_
  refine z_icmp_eq (tgt := 1640) dL_law_1635 (by decide) (fun czq1635 => ?_) (fun czq1635 => absurd (h20.trans et.symm) czq1635)
  refine z_iload (j := 5) dL_law_1640 rfl ?_
  refine z_if_ne (tgt := 1657) dL_law_1642 (by decide) (fun czq1642 => ?_) (fun czq1642 => ?_)
  · refine z_goto (tgt := 2334) dL_law_1657 (by decide) ?_
    refine z_lv [(0, .ref ((zB + 500))), (1, .ref 0), (2, .ref 89), (3, .ref 103), (4, .int ((nI (6 * i))))] [0, 1, 2, 3, 4] rfl ?_
    rw [← lW_sw]
    exact hnext _ _ _ _ _ _ _ _ _ hC2 hM3
  · refine z_aload_n (j := 3) dL_law_1645 rfl ?_
    refine z_iconst (v := 0) dL_law_1646 (by decide) ?_
    refine l_aldM (x := v.toInt64) (hz czq1642) dL_law_1647 ?_
    refine z_iload (j := 6) dL_law_1648 rfl ?_
    refine z_i2l dL_law_1650 ?_
    refine z_lcmp dL_law_1651 ?_
    rw [show lg_cmp v.toInt64 v3.toInt64 = 0 from (lg_cmp_eq _ _).mpr (by rw [ev])]
    refine z_if_eq (tgt := 1657) dL_law_1652 (by decide) (fun czq1652 => ?_) (fun czq1652 => absurd rfl czq1652)
    refine z_goto (tgt := 2334) dL_law_1657 (by decide) ?_
    refine z_lv [(0, .ref ((zB + 500))), (1, .ref 0), (2, .ref 89), (3, .ref 103), (4, .int ((nI (6 * i))))] [0, 1, 2, 3, 4] rfl ?_
    rw [← lW_sw]
    exact hnext _ _ _ _ _ _ _ _ _ hC2 hM3

set_option maxHeartbeats 4000000 in
set_option maxRecDepth 100000 in
theorem L_35 {l : zL} {d kc ks i : Nat} {h : Nat → va_E} {F : Nat → Int64} {sR : Nat → Int32} {aR : Nat → Nat → Int32} {cm : Value} {o u : Nat → Nat → Int32} {s : Nat → Nat → Int32} {a : Nat → Nat → Nat → Int32} {g : zGs} {Q : zQ} (hi : 6 * i + 6 ≤ l.2.1) (hl : l.2.1 ≤ 3072) (hC : cI g o u s a) (hM : mI g sR aR) (hnext : ∀ F' sR' aR' cm' o' u' s' a' g', cI g' o' u' s' a' → mI g' sR' aR' → Zj l mL_law (d + 20) kc ks 2334 [(0, .ref (zB + 500)), (1, .ref 0), (2, .ref 89), (3, .ref 103), (4, .int (nI (6 * i)))] [] 104 (lW h F' sR' aR' cm' o' u' s' a') Q) : Zj l mL_law (d + 20) (kc + 3) (ks + 18) 1660 [(0, .ref ((zB + 500))), (1, .ref 0), (2, .ref 89), (3, .ref 103), (4, .int ((nI (6 * i))))] [] 104 (lW h F sR aR cm o u s a) Q := by
  refine z_aload_n (j := 1) dL_law_1660 rfl ?_
  refine z_kV [] (0 + 3) (0 + 18) kc ks yoX7_longestDistance yvX7_longestDistance rfl (by decide) lL_239 (by decide) lW_0 rfl rfl (Nat.le_of_ble_eq_true rfl) (Nat.le_of_ble_eq_true rfl) dL_law_1661 (by omega) (by omega) (z_room (by omega) (Nat.le_refl _) (Nat.le_refl _) (K_longestDistance (d := 0) (by decide) hC (fun t v g2 cm2 o2 u2 s2 a2 hf hC2 => ?_)))
  show zk mL_law l _ kc ks 1661 _ _ 104 Q (oc IAE ISE t v) 104 (lW h F sR aR cm2 o2 u2 s2 a2)
  obtain rfl : t = 0 := T_longestDistance hf
  rw [oc_0]
  refine ⟨rfl, ?_⟩
  rw [lW_sw]
  refine z_aload_n (j := 2) dL_law_1664 rfl ?_
  refine z_kV [] 0 0 kc ks yoX8_longestDistance yvX8_longestDistance rfl (by decide) lL_242 (by decide) mW_obj rfl rfl (Nat.le_of_ble_eq_true rfl) (Nat.le_of_ble_eq_true rfl) dL_law_1665 (by omega) (by omega) (z_room (by omega) (Nat.le_refl _) (Nat.le_refl _) (R_longestDistance (d := 0) (by decide) hM (fun t3 v3 g3 s3 a3 hf3 hM3 h20 => ⟨rfl, ?_⟩)))
  obtain ⟨et, ev, eg⟩ : 0 = t3 ∧ v = v3 ∧ g2 = g3 := by
    have e9 := hf.symm.trans hf3
    cases e9
    exact ⟨rfl, rfl, rfl⟩
  rw [← eg] at hM3
  refine z_icmp_eq (tgt := 2334) dL_law_1668 (by decide) (fun czq1668 => ?_) (fun czq1668 => absurd ev czq1668)
  rw [← lW_sw]
  exact hnext _ _ _ _ _ _ _ _ _ hC2 hM3

set_option maxHeartbeats 4000000 in
set_option maxRecDepth 100000 in
theorem L_36 {l : zL} {d kc ks i : Nat} {h : Nat → va_E} {F : Nat → Int64} {sR : Nat → Int32} {aR : Nat → Nat → Int32} {cm : Value} {o u : Nat → Nat → Int32} {s : Nat → Nat → Int32} {a : Nat → Nat → Nat → Int32} {g : zGs} {Q : zQ} (hi : 6 * i + 6 ≤ l.2.1) (hl : l.2.1 ≤ 3072) (hC : cI g o u s a) (hM : mI g sR aR) (hnext : ∀ F' sR' aR' cm' o' u' s' a' g', cI g' o' u' s' a' → mI g' sR' aR' → Zj l mL_law (d + 20) kc ks 2334 [(0, .ref (zB + 500)), (1, .ref 0), (2, .ref 89), (3, .ref 103), (4, .int (nI (6 * i)))] [] 104 (lW h F' sR' aR' cm' o' u' s' a') Q) : Zj l mL_law (d + 20) (kc + 3) (ks + 18) 1673 [(0, .ref ((zB + 500))), (1, .ref 0), (2, .ref 89), (3, .ref 103), (4, .int ((nI (6 * i))))] [] 104 (lW h F sR aR cm o u s a) Q := by
  refine z_aload_n (j := 1) dL_law_1673 rfl ?_
  refine z_kV [] (0 + 3) (0 + 18) kc ks yoX7_sumOfDistances yvX7_sumOfDistances rfl (by decide) lL_243 (by decide) lW_0 rfl rfl (Nat.le_of_ble_eq_true rfl) (Nat.le_of_ble_eq_true rfl) dL_law_1674 (by omega) (by omega) (z_room (by omega) (Nat.le_refl _) (Nat.le_refl _) (K_sumOfDistances (d := 0) (by decide) hC (fun t v g2 cm2 o2 u2 s2 a2 hf hC2 => ?_)))
  show zk mL_law l _ kc ks 1674 _ _ 104 Q (oc IAE ISE t v) 104 (lW h F sR aR cm2 o2 u2 s2 a2)
  obtain rfl : t = 0 := T_sumOfDistances hf
  rw [oc_0]
  refine ⟨rfl, ?_⟩
  rw [lW_sw]
  refine z_aload_n (j := 2) dL_law_1677 rfl ?_
  refine z_kV [] 0 0 kc ks yoX8_sumOfDistances yvX8_sumOfDistances rfl (by decide) lL_246 (by decide) mW_obj rfl rfl (Nat.le_of_ble_eq_true rfl) (Nat.le_of_ble_eq_true rfl) dL_law_1678 (by omega) (by omega) (z_room (by omega) (Nat.le_refl _) (Nat.le_refl _) (R_sumOfDistances (d := 0) (by decide) hM (fun t3 v3 g3 s3 a3 hf3 hM3 h20 => ⟨rfl, ?_⟩)))
  obtain ⟨et, ev, eg⟩ : 0 = t3 ∧ v = v3 ∧ g2 = g3 := by
    have e9 := hf.symm.trans hf3
    cases e9
    exact ⟨rfl, rfl, rfl⟩
  rw [← eg] at hM3
  refine z_icmp_eq (tgt := 2334) dL_law_1681 (by decide) (fun czq1681 => ?_) (fun czq1681 => absurd ev czq1681)
  rw [← lW_sw]
  exact hnext _ _ _ _ _ _ _ _ _ hC2 hM3

set_option maxHeartbeats 4000000 in
set_option maxRecDepth 100000 in
theorem L_37 {l : zL} {d kc ks i : Nat} {h : Nat → va_E} {F : Nat → Int64} {sR : Nat → Int32} {aR : Nat → Nat → Int32} {cm : Value} {o u : Nat → Nat → Int32} {s : Nat → Nat → Int32} {a : Nat → Nat → Nat → Int32} {g : zGs} {Q : zQ} (hi : 6 * i + 6 ≤ l.2.1) (hl : l.2.1 ≤ 3072) (hC : cI g o u s a) (hM : mI g sR aR) (hnext : ∀ F' sR' aR' cm' o' u' s' a' g', cI g' o' u' s' a' → mI g' sR' aR' → Zj l mL_law (d + 20) kc ks 2334 [(0, .ref (zB + 500)), (1, .ref 0), (2, .ref 89), (3, .ref 103), (4, .int (nI (6 * i)))] [] 104 (lW h F' sR' aR' cm' o' u' s' a') Q) : Zj l mL_law (d + 20) (kc + 3) (ks + 18) 1686 [(0, .ref ((zB + 500))), (1, .ref 0), (2, .ref 89), (3, .ref 103), (4, .int ((nI (6 * i))))] [] 104 (lW h F sR aR cm o u s a) Q := by
  refine z_aload_n (j := 1) dL_law_1686 rfl ?_
  refine z_aload_n (j := 0) dL_law_1687 rfl ?_
  refine z_iload (j := 4) dL_law_1688 rfl ?_
  refine z_iconst (v := 1) dL_law_1690 (by decide) ?_
  refine z_iadd dL_law_1691 ?_
  rw [show nI (6 * i) + 1 = nI (6 * i + 1) from nI_add (6 * i) 1]
  refine z_sld (vp_in_nI (by omega) (by omega)) dL_law_1692 ?_
  refine z_aload_n (j := 3) dL_law_1693 rfl ?_
  refine z_kSW [.ref 0, .int ((l.2.2 (nI (6 * i + 1)).toNatClampNeg)), .ref 103] (0 + 3) (0 + 18) kc ks yoL_rank ysL_rank (by decide) (by decide) lL_247 rfl (Nat.le_of_ble_eq_true rfl) (Nat.le_of_ble_eq_true rfl) dL_law_1694 (by omega) (by omega) (z_room (by omega) (Nat.le_refl _) (Nat.le_refl _) (V_rank (d := 0) hC (fun t v g2 cm2 o2 u2 s2 a2 F2 hf hC2 hz => ⟨rfl, ?_⟩)))
  rw [lW_sw]
  refine z_istore [1, 2, 3, 4, 5, 0] [(0, .ref ((zB + 500))), (1, .ref 0), (2, .ref 89), (3, .ref 103), (4, .int ((nI (6 * i)))), (5, .int t)] dL_law_1697 (by decide) rfl ?_
  refine z_aload_n (j := 2) dL_law_1699 rfl ?_
  refine z_aload_n (j := 0) dL_law_1700 rfl ?_
  refine z_iload (j := 4) dL_law_1701 rfl ?_
  refine z_iconst (v := 1) dL_law_1703 (by decide) ?_
  refine z_iadd dL_law_1704 ?_
  rw [show nI (6 * i) + 1 = nI (6 * i + 1) from nI_add (6 * i) 1]
  refine z_sld (vp_in_nI (by omega) (by omega)) dL_law_1705 ?_
  refine z_kV [.int ((l.2.2 (nI (6 * i + 1)).toNatClampNeg))] 0 0 kc ks yoX8_rank yvX8_rank rfl (by decide) lL_249 (by decide) mW_obj rfl rfl (Nat.le_of_ble_eq_true rfl) (Nat.le_of_ble_eq_true rfl) dL_law_1706 (by omega) (by omega) (z_room (by omega) (Nat.le_refl _) (Nat.le_refl _) (R_rank (d := 0) (by decide) hM (fun t3 v3 g3 s3 a3 hf3 hM3 h20 => ⟨rfl, ?_⟩)))
  obtain ⟨et, ev, eg⟩ : t = t3 ∧ v = v3 ∧ g2 = g3 := by
    have e9 := hf.symm.trans hf3
    cases e9
    exact ⟨rfl, rfl, rfl⟩
  rw [← eg] at hM3
  refine z_istore [1, 2, 3, 4, 5, 6, 0] [(0, .ref ((zB + 500))), (1, .ref 0), (2, .ref 89), (3, .ref 103), (4, .int ((nI (6 * i)))), (5, .int t), (6, .int v3)] dL_law_1709 (by decide) rfl ?_
  refine z_aload_n (j := 2) dL_law_1711 rfl ?_
  refine z_kV [] 0 0 kc ks yoX8_thrown yvX8_thrown rfl (by decide) lL_117 (by decide) mW_obj rfl rfl (Nat.le_of_ble_eq_true rfl) (Nat.le_of_ble_eq_true rfl) dL_law_1712 (by omega) (by omega) (z_room (by omega) (Nat.le_refl _) (Nat.le_refl _) (m_thrown (d := 0) (by decide) ⟨rfl, ?_⟩))
  refine z_iload (j := 5) dL_law_1715 rfl ?_
  refine z_icmp_eq (tgt := 1722) dL_law_1717 (by decide) (fun czq1717 => ?_) (fun czq1717 => absurd (h20.trans et.symm) czq1717)
  refine z_iload (j := 5) dL_law_1722 rfl ?_
  refine z_if_ne (tgt := 1739) dL_law_1724 (by decide) (fun czq1724 => ?_) (fun czq1724 => ?_)
  · refine z_goto (tgt := 2334) dL_law_1739 (by decide) ?_
    refine z_lv [(0, .ref ((zB + 500))), (1, .ref 0), (2, .ref 89), (3, .ref 103), (4, .int ((nI (6 * i))))] [0, 1, 2, 3, 4] rfl ?_
    rw [← lW_sw]
    exact hnext _ _ _ _ _ _ _ _ _ hC2 hM3
  · refine z_aload_n (j := 3) dL_law_1727 rfl ?_
    refine z_iconst (v := 0) dL_law_1728 (by decide) ?_
    refine l_aldM (x := v.toInt64) (hz czq1724) dL_law_1729 ?_
    refine z_iload (j := 6) dL_law_1730 rfl ?_
    refine z_i2l dL_law_1732 ?_
    refine z_lcmp dL_law_1733 ?_
    rw [show lg_cmp v.toInt64 v3.toInt64 = 0 from (lg_cmp_eq _ _).mpr (by rw [ev])]
    refine z_if_eq (tgt := 1739) dL_law_1734 (by decide) (fun czq1734 => ?_) (fun czq1734 => absurd rfl czq1734)
    refine z_goto (tgt := 2334) dL_law_1739 (by decide) ?_
    refine z_lv [(0, .ref ((zB + 500))), (1, .ref 0), (2, .ref 89), (3, .ref 103), (4, .int ((nI (6 * i))))] [0, 1, 2, 3, 4] rfl ?_
    rw [← lW_sw]
    exact hnext _ _ _ _ _ _ _ _ _ hC2 hM3

set_option maxHeartbeats 4000000 in
set_option maxRecDepth 100000 in
theorem L_38 {l : zL} {d kc ks i : Nat} {h : Nat → va_E} {F : Nat → Int64} {sR : Nat → Int32} {aR : Nat → Nat → Int32} {cm : Value} {o u : Nat → Nat → Int32} {s : Nat → Nat → Int32} {a : Nat → Nat → Nat → Int32} {g : zGs} {Q : zQ} (hi : 6 * i + 6 ≤ l.2.1) (hl : l.2.1 ≤ 3072) (hC : cI g o u s a) (hM : mI g sR aR) (hnext : ∀ F' sR' aR' cm' o' u' s' a' g', cI g' o' u' s' a' → mI g' sR' aR' → Zj l mL_law (d + 20) kc ks 2334 [(0, .ref (zB + 500)), (1, .ref 0), (2, .ref 89), (3, .ref 103), (4, .int (nI (6 * i)))] [] 104 (lW h F' sR' aR' cm' o' u' s' a') Q) : Zj l mL_law (d + 20) (kc + 3) (ks + 18) 1742 [(0, .ref ((zB + 500))), (1, .ref 0), (2, .ref 89), (3, .ref 103), (4, .int ((nI (6 * i))))] [] 104 (lW h F sR aR cm o u s a) Q := by
  refine z_aload_n (j := 1) dL_law_1742 rfl ?_
  refine z_aload_n (j := 0) dL_law_1743 rfl ?_
  refine z_iload (j := 4) dL_law_1744 rfl ?_
  refine z_iconst (v := 1) dL_law_1746 (by decide) ?_
  refine z_iadd dL_law_1747 ?_
  rw [show nI (6 * i) + 1 = nI (6 * i + 1) from nI_add (6 * i) 1]
  refine z_sld (vp_in_nI (by omega) (by omega)) dL_law_1748 ?_
  refine z_aload_n (j := 3) dL_law_1749 rfl ?_
  refine z_kSW [.ref 0, .int ((l.2.2 (nI (6 * i + 1)).toNatClampNeg)), .ref 103] (0 + 3) (0 + 18) kc ks yoL_whyNoAdd ysL_whyNoAdd (by decide) (by decide) lL_250 rfl (Nat.le_of_ble_eq_true rfl) (Nat.le_of_ble_eq_true rfl) dL_law_1750 (by omega) (by omega) (z_room (by omega) (Nat.le_refl _) (Nat.le_refl _) (V_whyNoAdd (d := 0) hC (fun t v g2 cm2 o2 u2 s2 a2 F2 hf hC2 hz => ⟨rfl, ?_⟩)))
  rw [lW_sw]
  refine z_istore [1, 2, 3, 4, 5, 0] [(0, .ref ((zB + 500))), (1, .ref 0), (2, .ref 89), (3, .ref 103), (4, .int ((nI (6 * i)))), (5, .int t)] dL_law_1753 (by decide) rfl ?_
  refine z_aload_n (j := 2) dL_law_1755 rfl ?_
  refine z_aload_n (j := 0) dL_law_1756 rfl ?_
  refine z_iload (j := 4) dL_law_1757 rfl ?_
  refine z_iconst (v := 1) dL_law_1759 (by decide) ?_
  refine z_iadd dL_law_1760 ?_
  rw [show nI (6 * i) + 1 = nI (6 * i + 1) from nI_add (6 * i) 1]
  refine z_sld (vp_in_nI (by omega) (by omega)) dL_law_1761 ?_
  refine z_kV [.int ((l.2.2 (nI (6 * i + 1)).toNatClampNeg))] 0 0 kc ks yoX8_whyNoAdd yvX8_whyNoAdd rfl (by decide) lL_252 (by decide) mW_obj rfl rfl (Nat.le_of_ble_eq_true rfl) (Nat.le_of_ble_eq_true rfl) dL_law_1762 (by omega) (by omega) (z_room (by omega) (Nat.le_refl _) (Nat.le_refl _) (R_whyNoAdd (d := 0) (by decide) hM (fun t3 v3 g3 s3 a3 hf3 hM3 h20 => ⟨rfl, ?_⟩)))
  obtain ⟨et, ev, eg⟩ : t = t3 ∧ v = v3 ∧ g2 = g3 := by
    have e9 := hf.symm.trans hf3
    cases e9
    exact ⟨rfl, rfl, rfl⟩
  rw [← eg] at hM3
  refine z_istore [1, 2, 3, 4, 5, 6, 0] [(0, .ref ((zB + 500))), (1, .ref 0), (2, .ref 89), (3, .ref 103), (4, .int ((nI (6 * i)))), (5, .int t), (6, .int v3)] dL_law_1765 (by decide) rfl ?_
  refine z_aload_n (j := 2) dL_law_1767 rfl ?_
  refine z_kV [] 0 0 kc ks yoX8_thrown yvX8_thrown rfl (by decide) lL_117 (by decide) mW_obj rfl rfl (Nat.le_of_ble_eq_true rfl) (Nat.le_of_ble_eq_true rfl) dL_law_1768 (by omega) (by omega) (z_room (by omega) (Nat.le_refl _) (Nat.le_refl _) (m_thrown (d := 0) (by decide) ⟨rfl, ?_⟩))
  refine z_iload (j := 5) dL_law_1771 rfl ?_
  refine z_icmp_eq (tgt := 1778) dL_law_1773 (by decide) (fun czq1773 => ?_) (fun czq1773 => absurd (h20.trans et.symm) czq1773)
  refine z_iload (j := 5) dL_law_1778 rfl ?_
  refine z_if_ne (tgt := 1795) dL_law_1780 (by decide) (fun czq1780 => ?_) (fun czq1780 => ?_)
  · refine z_goto (tgt := 2334) dL_law_1795 (by decide) ?_
    refine z_lv [(0, .ref ((zB + 500))), (1, .ref 0), (2, .ref 89), (3, .ref 103), (4, .int ((nI (6 * i))))] [0, 1, 2, 3, 4] rfl ?_
    rw [← lW_sw]
    exact hnext _ _ _ _ _ _ _ _ _ hC2 hM3
  · refine z_aload_n (j := 3) dL_law_1783 rfl ?_
    refine z_iconst (v := 0) dL_law_1784 (by decide) ?_
    refine l_aldM (x := v.toInt64) (hz czq1780) dL_law_1785 ?_
    refine z_iload (j := 6) dL_law_1786 rfl ?_
    refine z_i2l dL_law_1788 ?_
    refine z_lcmp dL_law_1789 ?_
    rw [show lg_cmp v.toInt64 v3.toInt64 = 0 from (lg_cmp_eq _ _).mpr (by rw [ev])]
    refine z_if_eq (tgt := 1795) dL_law_1790 (by decide) (fun czq1790 => ?_) (fun czq1790 => absurd rfl czq1790)
    refine z_goto (tgt := 2334) dL_law_1795 (by decide) ?_
    refine z_lv [(0, .ref ((zB + 500))), (1, .ref 0), (2, .ref 89), (3, .ref 103), (4, .int ((nI (6 * i))))] [0, 1, 2, 3, 4] rfl ?_
    rw [← lW_sw]
    exact hnext _ _ _ _ _ _ _ _ _ hC2 hM3

set_option maxHeartbeats 4000000 in
set_option maxRecDepth 100000 in
theorem L_39 {l : zL} {d kc ks i : Nat} {h : Nat → va_E} {F : Nat → Int64} {sR : Nat → Int32} {aR : Nat → Nat → Int32} {cm : Value} {o u : Nat → Nat → Int32} {s : Nat → Nat → Int32} {a : Nat → Nat → Nat → Int32} {g : zGs} {Q : zQ} (hi : 6 * i + 6 ≤ l.2.1) (hl : l.2.1 ≤ 3072) (hC : cI g o u s a) (hM : mI g sR aR) (hnext : ∀ F' sR' aR' cm' o' u' s' a' g', cI g' o' u' s' a' → mI g' sR' aR' → Zj l mL_law (d + 20) kc ks 2334 [(0, .ref (zB + 500)), (1, .ref 0), (2, .ref 89), (3, .ref 103), (4, .int (nI (6 * i)))] [] 104 (lW h F' sR' aR' cm' o' u' s' a') Q) : Zj l mL_law (d + 20) (kc + 3) (ks + 18) 1798 [(0, .ref ((zB + 500))), (1, .ref 0), (2, .ref 89), (3, .ref 103), (4, .int ((nI (6 * i))))] [] 104 (lW h F sR aR cm o u s a) Q := by
  refine z_aload_n (j := 1) dL_law_1798 rfl ?_
  refine z_aload_n (j := 0) dL_law_1799 rfl ?_
  refine z_iload (j := 4) dL_law_1800 rfl ?_
  refine z_iconst (v := 1) dL_law_1802 (by decide) ?_
  refine z_iadd dL_law_1803 ?_
  rw [show nI (6 * i) + 1 = nI (6 * i + 1) from nI_add (6 * i) 1]
  refine z_sld (vp_in_nI (by omega) (by omega)) dL_law_1804 ?_
  refine z_aload_n (j := 3) dL_law_1805 rfl ?_
  refine z_kSW [.ref 0, .int ((l.2.2 (nI (6 * i + 1)).toNatClampNeg)), .ref 103] (0 + 3) (0 + 18) kc ks yoL_placeFor ysL_placeFor (by decide) (by decide) lL_253 rfl (Nat.le_of_ble_eq_true rfl) (Nat.le_of_ble_eq_true rfl) dL_law_1806 (by omega) (by omega) (z_room (by omega) (Nat.le_refl _) (Nat.le_refl _) (V_placeFor (d := 0) hC (fun t v g2 cm2 o2 u2 s2 a2 F2 hf hC2 hz => ⟨rfl, ?_⟩)))
  rw [lW_sw]
  refine z_istore [1, 2, 3, 4, 5, 0] [(0, .ref ((zB + 500))), (1, .ref 0), (2, .ref 89), (3, .ref 103), (4, .int ((nI (6 * i)))), (5, .int t)] dL_law_1809 (by decide) rfl ?_
  refine z_aload_n (j := 2) dL_law_1811 rfl ?_
  refine z_aload_n (j := 0) dL_law_1812 rfl ?_
  refine z_iload (j := 4) dL_law_1813 rfl ?_
  refine z_iconst (v := 1) dL_law_1815 (by decide) ?_
  refine z_iadd dL_law_1816 ?_
  rw [show nI (6 * i) + 1 = nI (6 * i + 1) from nI_add (6 * i) 1]
  refine z_sld (vp_in_nI (by omega) (by omega)) dL_law_1817 ?_
  refine z_kV [.int ((l.2.2 (nI (6 * i + 1)).toNatClampNeg))] 0 0 kc ks yoX8_placeFor yvX8_placeFor rfl (by decide) lL_255 (by decide) mW_obj rfl rfl (Nat.le_of_ble_eq_true rfl) (Nat.le_of_ble_eq_true rfl) dL_law_1818 (by omega) (by omega) (z_room (by omega) (Nat.le_refl _) (Nat.le_refl _) (R_placeFor (d := 0) (by decide) hM (fun t3 v3 g3 s3 a3 hf3 hM3 h20 => ⟨rfl, ?_⟩)))
  obtain ⟨et, ev, eg⟩ : t = t3 ∧ v = v3 ∧ g2 = g3 := by
    have e9 := hf.symm.trans hf3
    cases e9
    exact ⟨rfl, rfl, rfl⟩
  rw [← eg] at hM3
  refine z_istore [1, 2, 3, 4, 5, 6, 0] [(0, .ref ((zB + 500))), (1, .ref 0), (2, .ref 89), (3, .ref 103), (4, .int ((nI (6 * i)))), (5, .int t), (6, .int v3)] dL_law_1821 (by decide) rfl ?_
  refine z_aload_n (j := 2) dL_law_1823 rfl ?_
  refine z_kV [] 0 0 kc ks yoX8_thrown yvX8_thrown rfl (by decide) lL_117 (by decide) mW_obj rfl rfl (Nat.le_of_ble_eq_true rfl) (Nat.le_of_ble_eq_true rfl) dL_law_1824 (by omega) (by omega) (z_room (by omega) (Nat.le_refl _) (Nat.le_refl _) (m_thrown (d := 0) (by decide) ⟨rfl, ?_⟩))
  refine z_iload (j := 5) dL_law_1827 rfl ?_
  refine z_icmp_eq (tgt := 1834) dL_law_1829 (by decide) (fun czq1829 => ?_) (fun czq1829 => absurd (h20.trans et.symm) czq1829)
  refine z_iload (j := 5) dL_law_1834 rfl ?_
  refine z_if_ne (tgt := 1851) dL_law_1836 (by decide) (fun czq1836 => ?_) (fun czq1836 => ?_)
  · refine z_goto (tgt := 2334) dL_law_1851 (by decide) ?_
    refine z_lv [(0, .ref ((zB + 500))), (1, .ref 0), (2, .ref 89), (3, .ref 103), (4, .int ((nI (6 * i))))] [0, 1, 2, 3, 4] rfl ?_
    rw [← lW_sw]
    exact hnext _ _ _ _ _ _ _ _ _ hC2 hM3
  · refine z_aload_n (j := 3) dL_law_1839 rfl ?_
    refine z_iconst (v := 0) dL_law_1840 (by decide) ?_
    refine l_aldM (x := v.toInt64) (hz czq1836) dL_law_1841 ?_
    refine z_iload (j := 6) dL_law_1842 rfl ?_
    refine z_i2l dL_law_1844 ?_
    refine z_lcmp dL_law_1845 ?_
    rw [show lg_cmp v.toInt64 v3.toInt64 = 0 from (lg_cmp_eq _ _).mpr (by rw [ev])]
    refine z_if_eq (tgt := 1851) dL_law_1846 (by decide) (fun czq1846 => ?_) (fun czq1846 => absurd rfl czq1846)
    refine z_goto (tgt := 2334) dL_law_1851 (by decide) ?_
    refine z_lv [(0, .ref ((zB + 500))), (1, .ref 0), (2, .ref 89), (3, .ref 103), (4, .int ((nI (6 * i))))] [0, 1, 2, 3, 4] rfl ?_
    rw [← lW_sw]
    exact hnext _ _ _ _ _ _ _ _ _ hC2 hM3

set_option maxHeartbeats 4000000 in
set_option maxRecDepth 100000 in
theorem L_40 {l : zL} {d kc ks i : Nat} {h : Nat → va_E} {F : Nat → Int64} {sR : Nat → Int32} {aR : Nat → Nat → Int32} {cm : Value} {o u : Nat → Nat → Int32} {s : Nat → Nat → Int32} {a : Nat → Nat → Nat → Int32} {g : zGs} {Q : zQ} (hi : 6 * i + 6 ≤ l.2.1) (hl : l.2.1 ≤ 3072) (hC : cI g o u s a) (hM : mI g sR aR) (hnext : ∀ F' sR' aR' cm' o' u' s' a' g', cI g' o' u' s' a' → mI g' sR' aR' → Zj l mL_law (d + 20) kc ks 2334 [(0, .ref (zB + 500)), (1, .ref 0), (2, .ref 89), (3, .ref 103), (4, .int (nI (6 * i)))] [] 104 (lW h F' sR' aR' cm' o' u' s' a') Q) : Zj l mL_law (d + 20) (kc + 3) (ks + 18) 1854 [(0, .ref ((zB + 500))), (1, .ref 0), (2, .ref 89), (3, .ref 103), (4, .int ((nI (6 * i))))] [] 104 (lW h F sR aR cm o u s a) Q := by
  refine z_aload_n (j := 1) dL_law_1854 rfl ?_
  refine z_aload_n (j := 0) dL_law_1855 rfl ?_
  refine z_iload (j := 4) dL_law_1856 rfl ?_
  refine z_iconst (v := 1) dL_law_1858 (by decide) ?_
  refine z_iadd dL_law_1859 ?_
  rw [show nI (6 * i) + 1 = nI (6 * i + 1) from nI_add (6 * i) 1]
  refine z_sld (vp_in_nI (by omega) (by omega)) dL_law_1860 ?_
  refine z_aload_n (j := 3) dL_law_1861 rfl ?_
  refine z_kSW [.ref 0, .int ((l.2.2 (nI (6 * i + 1)).toNatClampNeg)), .ref 103] (0 + 3) (0 + 18) kc ks yoL_movesFor ysL_movesFor (by decide) (by decide) lL_256 rfl (Nat.le_of_ble_eq_true rfl) (Nat.le_of_ble_eq_true rfl) dL_law_1862 (by omega) (by omega) (z_room (by omega) (Nat.le_refl _) (Nat.le_refl _) (V_movesFor (d := 0) hC (fun t v g2 cm2 o2 u2 s2 a2 F2 hf hC2 hz => ⟨rfl, ?_⟩)))
  rw [lW_sw]
  refine z_istore [1, 2, 3, 4, 5, 0] [(0, .ref ((zB + 500))), (1, .ref 0), (2, .ref 89), (3, .ref 103), (4, .int ((nI (6 * i)))), (5, .int t)] dL_law_1865 (by decide) rfl ?_
  refine z_aload_n (j := 2) dL_law_1867 rfl ?_
  refine z_aload_n (j := 0) dL_law_1868 rfl ?_
  refine z_iload (j := 4) dL_law_1869 rfl ?_
  refine z_iconst (v := 1) dL_law_1871 (by decide) ?_
  refine z_iadd dL_law_1872 ?_
  rw [show nI (6 * i) + 1 = nI (6 * i + 1) from nI_add (6 * i) 1]
  refine z_sld (vp_in_nI (by omega) (by omega)) dL_law_1873 ?_
  refine z_kV [.int ((l.2.2 (nI (6 * i + 1)).toNatClampNeg))] 0 0 kc ks yoX8_movesFor yvX8_movesFor rfl (by decide) lL_258 (by decide) mW_obj rfl rfl (Nat.le_of_ble_eq_true rfl) (Nat.le_of_ble_eq_true rfl) dL_law_1874 (by omega) (by omega) (z_room (by omega) (Nat.le_refl _) (Nat.le_refl _) (R_movesFor (d := 0) (by decide) hM (fun t3 v3 g3 s3 a3 hf3 hM3 h20 => ⟨rfl, ?_⟩)))
  obtain ⟨et, ev, eg⟩ : t = t3 ∧ v = v3 ∧ g2 = g3 := by
    have e9 := hf.symm.trans hf3
    cases e9
    exact ⟨rfl, rfl, rfl⟩
  rw [← eg] at hM3
  refine z_istore [1, 2, 3, 4, 5, 6, 0] [(0, .ref ((zB + 500))), (1, .ref 0), (2, .ref 89), (3, .ref 103), (4, .int ((nI (6 * i)))), (5, .int t), (6, .int v3)] dL_law_1877 (by decide) rfl ?_
  refine z_aload_n (j := 2) dL_law_1879 rfl ?_
  refine z_kV [] 0 0 kc ks yoX8_thrown yvX8_thrown rfl (by decide) lL_117 (by decide) mW_obj rfl rfl (Nat.le_of_ble_eq_true rfl) (Nat.le_of_ble_eq_true rfl) dL_law_1880 (by omega) (by omega) (z_room (by omega) (Nat.le_refl _) (Nat.le_refl _) (m_thrown (d := 0) (by decide) ⟨rfl, ?_⟩))
  refine z_iload (j := 5) dL_law_1883 rfl ?_
  refine z_icmp_eq (tgt := 1890) dL_law_1885 (by decide) (fun czq1885 => ?_) (fun czq1885 => absurd (h20.trans et.symm) czq1885)
  refine z_iload (j := 5) dL_law_1890 rfl ?_
  refine z_if_ne (tgt := 1907) dL_law_1892 (by decide) (fun czq1892 => ?_) (fun czq1892 => ?_)
  · refine z_goto (tgt := 2334) dL_law_1907 (by decide) ?_
    refine z_lv [(0, .ref ((zB + 500))), (1, .ref 0), (2, .ref 89), (3, .ref 103), (4, .int ((nI (6 * i))))] [0, 1, 2, 3, 4] rfl ?_
    rw [← lW_sw]
    exact hnext _ _ _ _ _ _ _ _ _ hC2 hM3
  · refine z_aload_n (j := 3) dL_law_1895 rfl ?_
    refine z_iconst (v := 0) dL_law_1896 (by decide) ?_
    refine l_aldM (x := v.toInt64) (hz czq1892) dL_law_1897 ?_
    refine z_iload (j := 6) dL_law_1898 rfl ?_
    refine z_i2l dL_law_1900 ?_
    refine z_lcmp dL_law_1901 ?_
    rw [show lg_cmp v.toInt64 v3.toInt64 = 0 from (lg_cmp_eq _ _).mpr (by rw [ev])]
    refine z_if_eq (tgt := 1907) dL_law_1902 (by decide) (fun czq1902 => ?_) (fun czq1902 => absurd rfl czq1902)
    refine z_goto (tgt := 2334) dL_law_1907 (by decide) ?_
    refine z_lv [(0, .ref ((zB + 500))), (1, .ref 0), (2, .ref 89), (3, .ref 103), (4, .int ((nI (6 * i))))] [0, 1, 2, 3, 4] rfl ?_
    rw [← lW_sw]
    exact hnext _ _ _ _ _ _ _ _ _ hC2 hM3

set_option maxHeartbeats 4000000 in
set_option maxRecDepth 100000 in
theorem L_41 {l : zL} {d kc ks i : Nat} {h : Nat → va_E} {F : Nat → Int64} {sR : Nat → Int32} {aR : Nat → Nat → Int32} {cm : Value} {o u : Nat → Nat → Int32} {s : Nat → Nat → Int32} {a : Nat → Nat → Nat → Int32} {g : zGs} {Q : zQ} (hi : 6 * i + 6 ≤ l.2.1) (hl : l.2.1 ≤ 3072) (hC : cI g o u s a) (hM : mI g sR aR) (hnext : ∀ F' sR' aR' cm' o' u' s' a' g', cI g' o' u' s' a' → mI g' sR' aR' → Zj l mL_law (d + 20) kc ks 2334 [(0, .ref (zB + 500)), (1, .ref 0), (2, .ref 89), (3, .ref 103), (4, .int (nI (6 * i)))] [] 104 (lW h F' sR' aR' cm' o' u' s' a') Q) : Zj l mL_law (d + 20) (kc + 3) (ks + 18) 1910 [(0, .ref ((zB + 500))), (1, .ref 0), (2, .ref 89), (3, .ref 103), (4, .int ((nI (6 * i))))] [] 104 (lW h F sR aR cm o u s a) Q := by
  refine z_aload_n (j := 1) dL_law_1910 rfl ?_
  refine z_aload_n (j := 0) dL_law_1911 rfl ?_
  refine z_iload (j := 4) dL_law_1912 rfl ?_
  refine z_iconst (v := 1) dL_law_1914 (by decide) ?_
  refine z_iadd dL_law_1915 ?_
  rw [show nI (6 * i) + 1 = nI (6 * i + 1) from nI_add (6 * i) 1]
  refine z_sld (vp_in_nI (by omega) (by omega)) dL_law_1916 ?_
  refine z_aload_n (j := 3) dL_law_1917 rfl ?_
  refine z_kSW [.ref 0, .int ((l.2.2 (nI (6 * i + 1)).toNatClampNeg)), .ref 103] (0 + 3) (0 + 18) kc ks yoL_bucketsAfter ysL_bucketsAfter (by decide) (by decide) lL_259 rfl (Nat.le_of_ble_eq_true rfl) (Nat.le_of_ble_eq_true rfl) dL_law_1918 (by omega) (by omega) (z_room (by omega) (Nat.le_refl _) (Nat.le_refl _) (V_bucketsAfter (d := 0) hC (fun t v g2 cm2 o2 u2 s2 a2 F2 hf hC2 hz => ⟨rfl, ?_⟩)))
  rw [lW_sw]
  refine z_istore [1, 2, 3, 4, 5, 0] [(0, .ref ((zB + 500))), (1, .ref 0), (2, .ref 89), (3, .ref 103), (4, .int ((nI (6 * i)))), (5, .int t)] dL_law_1921 (by decide) rfl ?_
  refine z_aload_n (j := 2) dL_law_1923 rfl ?_
  refine z_aload_n (j := 0) dL_law_1924 rfl ?_
  refine z_iload (j := 4) dL_law_1925 rfl ?_
  refine z_iconst (v := 1) dL_law_1927 (by decide) ?_
  refine z_iadd dL_law_1928 ?_
  rw [show nI (6 * i) + 1 = nI (6 * i + 1) from nI_add (6 * i) 1]
  refine z_sld (vp_in_nI (by omega) (by omega)) dL_law_1929 ?_
  refine z_kV [.int ((l.2.2 (nI (6 * i + 1)).toNatClampNeg))] 0 0 kc ks yoX8_bucketsAfter yvX8_bucketsAfter rfl (by decide) lL_261 (by decide) mW_obj rfl rfl (Nat.le_of_ble_eq_true rfl) (Nat.le_of_ble_eq_true rfl) dL_law_1930 (by omega) (by omega) (z_room (by omega) (Nat.le_refl _) (Nat.le_refl _) (R_bucketsAfter (d := 0) (by decide) hM (fun t3 v3 g3 s3 a3 hf3 hM3 h20 => ⟨rfl, ?_⟩)))
  obtain ⟨et, ev, eg⟩ : t = t3 ∧ v = v3 ∧ g2 = g3 := by
    have e9 := hf.symm.trans hf3
    cases e9
    exact ⟨rfl, rfl, rfl⟩
  rw [← eg] at hM3
  refine z_istore [1, 2, 3, 4, 5, 6, 0] [(0, .ref ((zB + 500))), (1, .ref 0), (2, .ref 89), (3, .ref 103), (4, .int ((nI (6 * i)))), (5, .int t), (6, .int v3)] dL_law_1933 (by decide) rfl ?_
  refine z_aload_n (j := 2) dL_law_1935 rfl ?_
  refine z_kV [] 0 0 kc ks yoX8_thrown yvX8_thrown rfl (by decide) lL_117 (by decide) mW_obj rfl rfl (Nat.le_of_ble_eq_true rfl) (Nat.le_of_ble_eq_true rfl) dL_law_1936 (by omega) (by omega) (z_room (by omega) (Nat.le_refl _) (Nat.le_refl _) (m_thrown (d := 0) (by decide) ⟨rfl, ?_⟩))
  refine z_iload (j := 5) dL_law_1939 rfl ?_
  refine z_icmp_eq (tgt := 1946) dL_law_1941 (by decide) (fun czq1941 => ?_) (fun czq1941 => absurd (h20.trans et.symm) czq1941)
  refine z_iload (j := 5) dL_law_1946 rfl ?_
  refine z_if_ne (tgt := 1963) dL_law_1948 (by decide) (fun czq1948 => ?_) (fun czq1948 => ?_)
  · refine z_goto (tgt := 2334) dL_law_1963 (by decide) ?_
    refine z_lv [(0, .ref ((zB + 500))), (1, .ref 0), (2, .ref 89), (3, .ref 103), (4, .int ((nI (6 * i))))] [0, 1, 2, 3, 4] rfl ?_
    rw [← lW_sw]
    exact hnext _ _ _ _ _ _ _ _ _ hC2 hM3
  · refine z_aload_n (j := 3) dL_law_1951 rfl ?_
    refine z_iconst (v := 0) dL_law_1952 (by decide) ?_
    refine l_aldM (x := v.toInt64) (hz czq1948) dL_law_1953 ?_
    refine z_iload (j := 6) dL_law_1954 rfl ?_
    refine z_i2l dL_law_1956 ?_
    refine z_lcmp dL_law_1957 ?_
    rw [show lg_cmp v.toInt64 v3.toInt64 = 0 from (lg_cmp_eq _ _).mpr (by rw [ev])]
    refine z_if_eq (tgt := 1963) dL_law_1958 (by decide) (fun czq1958 => ?_) (fun czq1958 => absurd rfl czq1958)
    refine z_goto (tgt := 2334) dL_law_1963 (by decide) ?_
    refine z_lv [(0, .ref ((zB + 500))), (1, .ref 0), (2, .ref 89), (3, .ref 103), (4, .int ((nI (6 * i))))] [0, 1, 2, 3, 4] rfl ?_
    rw [← lW_sw]
    exact hnext _ _ _ _ _ _ _ _ _ hC2 hM3
