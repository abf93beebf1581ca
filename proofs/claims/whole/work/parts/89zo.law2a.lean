/-! THE LAW: its calls -/
theorem T_fload {S : zS} (hs : sCnt S ≤ 64) (hB : okB S.1) : vf_n64 (FP.f2d (fload S)) := by
  have all : ∀ s, s < 65 → ∀ c, c < 4 → FP.f2d (FP.fdiv (FP.i2f (nI s)) (FP.i2f (nI (2 ^ (c + 3))))) &&& 0x7fffffffffffffff ≤ 0x7ff0000000000000 := by decide +kernel
  unfold fload
  rcases hB with e | e | e | e <;> rw [e]
  · exact all _ (by omega) 0 (by decide)
  · exact all _ (by omega) 1 (by decide)
  · exact all _ (by omega) 2 (by decide)
  · exact all _ (by omega) 3 (by decide)
theorem cI.S {g : zGs} {o u : Nat → Nat → Int32} {s : Nat → Nat → Int32} {a : Nat → Nat → Nat → Int32} (h : cI g o u s a) : cT g.1 (s 1) (a 1) := by
  obtain ⟨S, sv, Sn, k, hi, L, x, ek, eo, rl, rb⟩ := g
  exact h.1
theorem cT.fl {S : zS} {s : Nat → Int32} {a : Nat → Nat → Int32} (h : cT S s a) : vf_n64 (FP.f2d (fload S)) := by
  obtain ⟨B, H, T, K, V, c⟩ := S
  obtain ⟨okb, -⟩ := id h.1
  exact T_fload (Nat.le_trans (cnt_B B) okb.le.2) okb

theorem l_aldM {l : zL} {Y : zM} {d kc ks pc : Nat} {lv : List (Nat × Value)} {rest : List Value} {h : Nat → va_E} {F : Nat → Int64} {sR : Nat → Int32} {aR : Nat → Nat → Int32} {cm : Value} {o u : Nat → Nat → Int32} {s : Nat → Nat → Int32} {a : Nat → Nat → Nat → Int32} {x : Int64} {Q : zQ} (hx : F 0 = x) (hd : decode Y.2.1 pc = .ok (.laload, 1)) (kk : Zj l Y d kc ks (pc + 1) lv (.long x :: rest) 104 (mW (gW (va_up h 103 (lA F)) cm o u s a) 89 sR aR) Q) : Zj l Y d kc ks pc lv (.int 0 :: .ref 103 :: rest) 104 (mW (gW (va_up h 103 (lA F)) cm o u s a) 89 sR aR) Q := by
  rw [← lW_sw] at kk ⊢
  exact l_ald hx hd kk

set_option maxHeartbeats 4000000 in
set_option maxRecDepth 100000 in
theorem L_0 {l : zL} {d kc ks i : Nat} {h : Nat → va_E} {F : Nat → Int64} {sR : Nat → Int32} {aR : Nat → Nat → Int32} {cm : Value} {o u : Nat → Nat → Int32} {s : Nat → Nat → Int32} {a : Nat → Nat → Nat → Int32} {g : zGs} {Q : zQ} (hi : 6 * i + 6 ≤ l.2.1) (hl : l.2.1 ≤ 3072) (hC : cI g o u s a) (hM : mI g sR aR) (hnext : ∀ F' sR' aR' cm' o' u' s' a' g', cI g' o' u' s' a' → mI g' sR' aR' → Zj l mL_law (d + 20) kc ks 2334 [(0, .ref (zB + 500)), (1, .ref 0), (2, .ref 89), (3, .ref 103), (4, .int (nI (6 * i)))] [] 104 (lW h F' sR' aR' cm' o' u' s' a') Q) : Zj l mL_law (d + 20) (kc + 3) (ks + 18) 276 [(0, .ref ((zB + 500))), (1, .ref 0), (2, .ref 89), (3, .ref 103), (4, .int ((nI (6 * i))))] [] 104 (lW h F sR aR cm o u s a) Q := by
  refine z_aload_n (j := 1) dL_law_276 rfl ?_
  refine z_aload_n (j := 0) dL_law_277 rfl ?_
  refine z_iload (j := 4) dL_law_278 rfl ?_
  refine z_iconst (v := 1) dL_law_280 (by decide) ?_
  refine z_iadd dL_law_281 ?_
  rw [show nI (6 * i) + 1 = nI (6 * i + 1) from nI_add (6 * i) 1]
  refine z_sld (vp_in_nI (by omega) (by omega)) dL_law_282 ?_
  refine z_aload_n (j := 0) dL_law_283 rfl ?_
  refine z_iload (j := 4) dL_law_284 rfl ?_
  refine z_iconst (v := 2) dL_law_286 (by decide) ?_
  refine z_iadd dL_law_287 ?_
  rw [show nI (6 * i) + 2 = nI (6 * i + 2) from nI_add (6 * i) 2]
  refine z_sld (vp_in_nI (by omega) (by omega)) dL_law_288 ?_
  refine z_aload_n (j := 0) dL_law_289 rfl ?_
  refine z_iload (j := 4) dL_law_290 rfl ?_
  refine z_iconst (v := 3) dL_law_292 (by decide) ?_
  refine z_iadd dL_law_293 ?_
  rw [show nI (6 * i) + 3 = nI (6 * i + 3) from nI_add (6 * i) 3]
  refine z_sld (vp_in_nI (by omega) (by omega)) dL_law_294 ?_
  refine z_aload_n (j := 0) dL_law_295 rfl ?_
  refine z_iload (j := 4) dL_law_296 rfl ?_
  refine z_iconst (v := 4) dL_law_298 (by decide) ?_
  refine z_iadd dL_law_299 ?_
  rw [show nI (6 * i) + 4 = nI (6 * i + 4) from nI_add (6 * i) 4]
  refine z_sld (vp_in_nI (by omega) (by omega)) dL_law_300 ?_
  refine z_aload_n (j := 0) dL_law_301 rfl ?_
  refine z_iload (j := 4) dL_law_302 rfl ?_
  refine z_iconst (v := 5) dL_law_304 (by decide) ?_
  refine z_iadd dL_law_305 ?_
  rw [show nI (6 * i) + 5 = nI (6 * i + 5) from nI_add (6 * i) 5]
  refine z_sld (vp_in_nI (by omega) (by omega)) dL_law_306 ?_
  refine z_kV [.int ((l.2.2 (nI (6 * i + 1)).toNatClampNeg)), .int ((l.2.2 (nI (6 * i + 2)).toNatClampNeg)), .int ((l.2.2 (nI (6 * i + 3)).toNatClampNeg)), .int ((l.2.2 (nI (6 * i + 4)).toNatClampNeg)), .int ((l.2.2 (nI (6 * i + 5)).toNatClampNeg))] (0 + 3) (0 + 18) kc ks yoX7_append yvX7_append rfl (by decide) lL_106 (by decide) lW_0 rfl rfl (Nat.le_of_ble_eq_true rfl) (Nat.le_of_ble_eq_true rfl) dL_law_307 (by omega) (by omega) (z_room (by omega) (Nat.le_refl _) (Nat.le_refl _) (K_append (d := 0) (by decide) hC (fun t v g2 cm2 o2 u2 s2 a2 hf hC2 => ?_)))
  show zk mL_law l _ kc ks 307 _ _ 104 Q (oc IAE ISE t v) 104 (lW h F sR aR cm2 o2 u2 s2 a2)
  obtain rfl : t = 0 := T_append hf
  rw [oc_0]
  refine ⟨rfl, ?_⟩
  rw [lW_sw]
  refine z_aload_n (j := 2) dL_law_310 rfl ?_
  refine z_aload_n (j := 0) dL_law_311 rfl ?_
  refine z_iload (j := 4) dL_law_312 rfl ?_
  refine z_iconst (v := 1) dL_law_314 (by decide) ?_
  refine z_iadd dL_law_315 ?_
  rw [show nI (6 * i) + 1 = nI (6 * i + 1) from nI_add (6 * i) 1]
  refine z_sld (vp_in_nI (by omega) (by omega)) dL_law_316 ?_
  refine z_aload_n (j := 0) dL_law_317 rfl ?_
  refine z_iload (j := 4) dL_law_318 rfl ?_
  refine z_iconst (v := 2) dL_law_320 (by decide) ?_
  refine z_iadd dL_law_321 ?_
  rw [show nI (6 * i) + 2 = nI (6 * i + 2) from nI_add (6 * i) 2]
  refine z_sld (vp_in_nI (by omega) (by omega)) dL_law_322 ?_
  refine z_aload_n (j := 0) dL_law_323 rfl ?_
  refine z_iload (j := 4) dL_law_324 rfl ?_
  refine z_iconst (v := 3) dL_law_326 (by decide) ?_
  refine z_iadd dL_law_327 ?_
  rw [show nI (6 * i) + 3 = nI (6 * i + 3) from nI_add (6 * i) 3]
  refine z_sld (vp_in_nI (by omega) (by omega)) dL_law_328 ?_
  refine z_aload_n (j := 0) dL_law_329 rfl ?_
  refine z_iload (j := 4) dL_law_330 rfl ?_
  refine z_iconst (v := 4) dL_law_332 (by decide) ?_
  refine z_iadd dL_law_333 ?_
  rw [show nI (6 * i) + 4 = nI (6 * i + 4) from nI_add (6 * i) 4]
  refine z_sld (vp_in_nI (by omega) (by omega)) dL_law_334 ?_
  refine z_aload_n (j := 0) dL_law_335 rfl ?_
  refine z_iload (j := 4) dL_law_336 rfl ?_
  refine z_iconst (v := 5) dL_law_338 (by decide) ?_
  refine z_iadd dL_law_339 ?_
  rw [show nI (6 * i) + 5 = nI (6 * i + 5) from nI_add (6 * i) 5]
  refine z_sld (vp_in_nI (by omega) (by omega)) dL_law_340 ?_
  refine z_kV [.int ((l.2.2 (nI (6 * i + 1)).toNatClampNeg)), .int ((l.2.2 (nI (6 * i + 2)).toNatClampNeg)), .int ((l.2.2 (nI (6 * i + 3)).toNatClampNeg)), .int ((l.2.2 (nI (6 * i + 4)).toNatClampNeg)), .int ((l.2.2 (nI (6 * i + 5)).toNatClampNeg))] 0 0 kc ks yoX8_append yvX8_append rfl (by decide) lL_110 (by decide) mW_obj rfl rfl (Nat.le_of_ble_eq_true rfl) (Nat.le_of_ble_eq_true rfl) dL_law_341 (by omega) (by omega) (z_room (by omega) (Nat.le_refl _) (Nat.le_refl _) (R_append (d := 0) (by decide) hM (fun t3 v3 g3 s3 a3 hf3 hM3 h20 => ⟨rfl, ?_⟩)))
  obtain ⟨et, ev, eg⟩ : 0 = t3 ∧ v = v3 ∧ g2 = g3 := by
    have e9 := hf.symm.trans hf3
    cases e9
    exact ⟨rfl, rfl, rfl⟩
  rw [← eg] at hM3
  refine z_icmp_eq (tgt := 2334) dL_law_344 (by decide) (fun czq344 => ?_) (fun czq344 => absurd ev czq344)
  rw [← lW_sw]
  exact hnext _ _ _ _ _ _ _ _ _ hC2 hM3

set_option maxHeartbeats 4000000 in
set_option maxRecDepth 100000 in
theorem L_1 {l : zL} {d kc ks i : Nat} {h : Nat → va_E} {F : Nat → Int64} {sR : Nat → Int32} {aR : Nat → Nat → Int32} {cm : Value} {o u : Nat → Nat → Int32} {s : Nat → Nat → Int32} {a : Nat → Nat → Nat → Int32} {g : zGs} {Q : zQ} (hi : 6 * i + 6 ≤ l.2.1) (hl : l.2.1 ≤ 3072) (hC : cI g o u s a) (hM : mI g sR aR) (hnext : ∀ F' sR' aR' cm' o' u' s' a' g', cI g' o' u' s' a' → mI g' sR' aR' → Zj l mL_law (d + 20) kc ks 2334 [(0, .ref (zB + 500)), (1, .ref 0), (2, .ref 89), (3, .ref 103), (4, .int (nI (6 * i)))] [] 104 (lW h F' sR' aR' cm' o' u' s' a') Q) : Zj l mL_law (d + 20) (kc + 3) (ks + 18) 349 [(0, .ref ((zB + 500))), (1, .ref 0), (2, .ref 89), (3, .ref 103), (4, .int ((nI (6 * i))))] [] 104 (lW h F sR aR cm o u s a) Q := by
  refine z_aload_n (j := 1) dL_law_349 rfl ?_
  refine z_aload_n (j := 0) dL_law_350 rfl ?_
  refine z_iload (j := 4) dL_law_351 rfl ?_
  refine z_iconst (v := 1) dL_law_353 (by decide) ?_
  refine z_iadd dL_law_354 ?_
  rw [show nI (6 * i) + 1 = nI (6 * i + 1) from nI_add (6 * i) 1]
  refine z_sld (vp_in_nI (by omega) (by omega)) dL_law_355 ?_
  refine z_aload_n (j := 3) dL_law_356 rfl ?_
  refine z_kSW [.ref 0, .int ((l.2.2 (nI (6 * i + 1)).toNatClampNeg)), .ref 103] (0 + 3) (0 + 18) kc ks yoL_truncateInput ysL_truncateInput (by decide) (by decide) lL_111 rfl (Nat.le_of_ble_eq_true rfl) (Nat.le_of_ble_eq_true rfl) dL_law_357 (by omega) (by omega) (z_room (by omega) (Nat.le_refl _) (Nat.le_refl _) (V_truncateInput (d := 0) hC (fun t v g2 cm2 o2 u2 s2 a2 F2 hf hC2 hz => ⟨rfl, ?_⟩)))
  rw [lW_sw]
  refine z_istore [1, 2, 3, 4, 5, 0] [(0, .ref ((zB + 500))), (1, .ref 0), (2, .ref 89), (3, .ref 103), (4, .int ((nI (6 * i)))), (5, .int t)] dL_law_360 (by decide) rfl ?_
  refine z_aload_n (j := 2) dL_law_362 rfl ?_
  refine z_aload_n (j := 0) dL_law_363 rfl ?_
  refine z_iload (j := 4) dL_law_364 rfl ?_
  refine z_iconst (v := 1) dL_law_366 (by decide) ?_
  refine z_iadd dL_law_367 ?_
  rw [show nI (6 * i) + 1 = nI (6 * i + 1) from nI_add (6 * i) 1]
  refine z_sld (vp_in_nI (by omega) (by omega)) dL_law_368 ?_
  refine z_kV [.int ((l.2.2 (nI (6 * i + 1)).toNatClampNeg))] 0 0 kc ks yoX8_truncateInput yvX8_truncateInput rfl (by decide) lL_116 (by decide) mW_obj rfl rfl (Nat.le_of_ble_eq_true rfl) (Nat.le_of_ble_eq_true rfl) dL_law_369 (by omega) (by omega) (z_room (by omega) (Nat.le_refl _) (Nat.le_refl _) (R_truncateInput (d := 0) (by decide) hM (fun t3 v3 g3 s3 a3 hf3 hM3 h20 => ⟨rfl, ?_⟩)))
  obtain ⟨et, ev, eg⟩ : t = t3 ∧ v = v3 ∧ g2 = g3 := by
    have e9 := hf.symm.trans hf3
    cases e9
    exact ⟨rfl, rfl, rfl⟩
  rw [← eg] at hM3
  refine z_istore [1, 2, 3, 4, 5, 6, 0] [(0, .ref ((zB + 500))), (1, .ref 0), (2, .ref 89), (3, .ref 103), (4, .int ((nI (6 * i)))), (5, .int t), (6, .int v3)] dL_law_372 (by decide) rfl ?_
  refine z_aload_n (j := 2) dL_law_374 rfl ?_
  refine z_kV [] 0 0 kc ks yoX8_thrown yvX8_thrown rfl (by decide) lL_117 (by decide) mW_obj rfl rfl (Nat.le_of_ble_eq_true rfl) (Nat.le_of_ble_eq_true rfl) dL_law_375 (by omega) (by omega) (z_room (by omega) (Nat.le_refl _) (Nat.le_refl _) (m_thrown (d := 0) (by decide) ⟨rfl, ?_⟩))
  refine z_iload (j := 5) dL_law_378 rfl ?_
  refine z_icmp_eq (tgt := 385) dL_law_380 (by decide) (fun czq380 => ?_) (fun czq380 => absurd (h20.trans et.symm) czq380)
  refine z_iload (j := 5) dL_law_385 rfl ?_
  refine z_if_ne (tgt := 402) dL_law_387 (by decide) (fun czq387 => ?_) (fun czq387 => ?_)
  · refine z_goto (tgt := 2334) dL_law_402 (by decide) ?_
    refine z_lv [(0, .ref ((zB + 500))), (1, .ref 0), (2, .ref 89), (3, .ref 103), (4, .int ((nI (6 * i))))] [0, 1, 2, 3, 4] rfl ?_
    rw [← lW_sw]
    exact hnext _ _ _ _ _ _ _ _ _ hC2 hM3
  · refine z_aload_n (j := 3) dL_law_390 rfl ?_
    refine z_iconst (v := 0) dL_law_391 (by decide) ?_
    refine l_aldM (x := v.toInt64) (hz czq387) dL_law_392 ?_
    refine z_iload (j := 6) dL_law_393 rfl ?_
    refine z_i2l dL_law_395 ?_
    refine z_lcmp dL_law_396 ?_
    rw [show lg_cmp v.toInt64 v3.toInt64 = 0 from (lg_cmp_eq _ _).mpr (by rw [ev])]
    refine z_if_eq (tgt := 402) dL_law_397 (by decide) (fun czq397 => ?_) (fun czq397 => absurd rfl czq397)
    refine z_goto (tgt := 2334) dL_law_402 (by decide) ?_
    refine z_lv [(0, .ref ((zB + 500))), (1, .ref 0), (2, .ref 89), (3, .ref 103), (4, .int ((nI (6 * i))))] [0, 1, 2, 3, 4] rfl ?_
    rw [← lW_sw]
    exact hnext _ _ _ _ _ _ _ _ _ hC2 hM3

set_option maxHeartbeats 4000000 in
set_option maxRecDepth 100000 in
theorem L_2 {l : zL} {d kc ks i : Nat} {h : Nat → va_E} {F : Nat → Int64} {sR : Nat → Int32} {aR : Nat → Nat → Int32} {cm : Value} {o u : Nat → Nat → Int32} {s : Nat → Nat → Int32} {a : Nat → Nat → Nat → Int32} {g : zGs} {Q : zQ} (hi : 6 * i + 6 ≤ l.2.1) (hl : l.2.1 ≤ 3072) (hC : cI g o u s a) (hM : mI g sR aR) (hnext : ∀ F' sR' aR' cm' o' u' s' a' g', cI g' o' u' s' a' → mI g' sR' aR' → Zj l mL_law (d + 20) kc ks 2334 [(0, .ref (zB + 500)), (1, .ref 0), (2, .ref 89), (3, .ref 103), (4, .int (nI (6 * i)))] [] 104 (lW h F' sR' aR' cm' o' u' s' a') Q) : Zj l mL_law (d + 20) (kc + 3) (ks + 18) 405 [(0, .ref ((zB + 500))), (1, .ref 0), (2, .ref 89), (3, .ref 103), (4, .int ((nI (6 * i))))] [] 104 (lW h F sR aR cm o u s a) Q := by
  refine z_aload_n (j := 1) dL_law_405 rfl ?_
  refine z_kV [] (0 + 3) (0 + 18) kc ks yoX7_runScript yvX7_runScript rfl (by decide) lL_120 (by decide) lW_0 rfl rfl (Nat.le_of_ble_eq_true rfl) (Nat.le_of_ble_eq_true rfl) dL_law_406 (by omega) (by omega) (z_room (by omega) (Nat.le_refl _) (Nat.le_refl _) (K_runScript (d := 0) (by decide) hC (fun t v g2 cm2 o2 u2 s2 a2 hf hC2 => ?_)))
  show zk mL_law l _ kc ks 406 _ _ 104 Q (oc IAE ISE t v) 104 (lW h F sR aR cm2 o2 u2 s2 a2)
  obtain rfl : t = 0 := T_runScript hf
  rw [oc_0]
  refine ⟨rfl, ?_⟩
  rw [lW_sw]
  refine z_aload_n (j := 2) dL_law_409 rfl ?_
  refine z_kV [] 0 0 kc ks yoX8_runScript yvX8_runScript rfl (by decide) lL_123 (by decide) mW_obj rfl rfl (Nat.le_of_ble_eq_true rfl) (Nat.le_of_ble_eq_true rfl) dL_law_410 (by omega) (by omega) (z_room (by omega) (Nat.le_refl _) (Nat.le_refl _) (R_runScript (d := 0) (by decide) hM (fun t3 v3 g3 s3 a3 hf3 hM3 h20 => ⟨rfl, ?_⟩)))
  obtain ⟨et, ev, eg⟩ : 0 = t3 ∧ v = v3 ∧ g2 = g3 := by
    have e9 := hf.symm.trans hf3
    cases e9
    exact ⟨rfl, rfl, rfl⟩
  rw [← eg] at hM3
  refine z_icmp_eq (tgt := 2334) dL_law_413 (by decide) (fun czq413 => ?_) (fun czq413 => absurd ev czq413)
  rw [← lW_sw]
  exact hnext _ _ _ _ _ _ _ _ _ hC2 hM3

set_option maxHeartbeats 4000000 in
set_option maxRecDepth 100000 in
theorem L_3 {l : zL} {d kc ks i : Nat} {h : Nat → va_E} {F : Nat → Int64} {sR : Nat → Int32} {aR : Nat → Nat → Int32} {cm : Value} {o u : Nat → Nat → Int32} {s : Nat → Nat → Int32} {a : Nat → Nat → Nat → Int32} {g : zGs} {Q : zQ} (hi : 6 * i + 6 ≤ l.2.1) (hl : l.2.1 ≤ 3072) (hC : cI g o u s a) (hM : mI g sR aR) (hnext : ∀ F' sR' aR' cm' o' u' s' a' g', cI g' o' u' s' a' → mI g' sR' aR' → Zj l mL_law (d + 20) kc ks 2334 [(0, .ref (zB + 500)), (1, .ref 0), (2, .ref 89), (3, .ref 103), (4, .int (nI (6 * i)))] [] 104 (lW h F' sR' aR' cm' o' u' s' a') Q) : Zj l mL_law (d + 20) (kc + 3) (ks + 18) 418 [(0, .ref ((zB + 500))), (1, .ref 0), (2, .ref 89), (3, .ref 103), (4, .int ((nI (6 * i))))] [] 104 (lW h F sR aR cm o u s a) Q := by
  refine z_aload_n (j := 1) dL_law_418 rfl ?_
  refine z_aload_n (j := 0) dL_law_419 rfl ?_
  refine z_iload (j := 4) dL_law_420 rfl ?_
  refine z_iconst (v := 1) dL_law_422 (by decide) ?_
  refine z_iadd dL_law_423 ?_
  rw [show nI (6 * i) + 1 = nI (6 * i + 1) from nI_add (6 * i) 1]
  refine z_sld (vp_in_nI (by omega) (by omega)) dL_law_424 ?_
  refine z_aload_n (j := 0) dL_law_425 rfl ?_
  refine z_iload (j := 4) dL_law_426 rfl ?_
  refine z_iconst (v := 2) dL_law_428 (by decide) ?_
  refine z_iadd dL_law_429 ?_
  rw [show nI (6 * i) + 2 = nI (6 * i + 2) from nI_add (6 * i) 2]
  refine z_sld (vp_in_nI (by omega) (by omega)) dL_law_430 ?_
  refine z_aload_n (j := 3) dL_law_431 rfl ?_
  refine z_kSW [.ref 0, .int ((l.2.2 (nI (6 * i + 1)).toNatClampNeg)), .int ((l.2.2 (nI (6 * i + 2)).toNatClampNeg)), .ref 103] (0 + 3) (0 + 18) kc ks yoL_add ysL_add (by decide) (by decide) lL_124 rfl (Nat.le_of_ble_eq_true rfl) (Nat.le_of_ble_eq_true rfl) dL_law_432 (by omega) (by omega) (z_room (by omega) (Nat.le_refl _) (Nat.le_refl _) (V_add (d := 0) hC (fun t v g2 cm2 o2 u2 s2 a2 F2 hf hC2 hz => ⟨rfl, ?_⟩)))
  rw [lW_sw]
  refine z_istore [1, 2, 3, 4, 5, 0] [(0, .ref ((zB + 500))), (1, .ref 0), (2, .ref 89), (3, .ref 103), (4, .int ((nI (6 * i)))), (5, .int t)] dL_law_435 (by decide) rfl ?_
  refine z_aload_n (j := 2) dL_law_437 rfl ?_
  refine z_aload_n (j := 0) dL_law_438 rfl ?_
  refine z_iload (j := 4) dL_law_439 rfl ?_
  refine z_iconst (v := 1) dL_law_441 (by decide) ?_
  refine z_iadd dL_law_442 ?_
  rw [show nI (6 * i) + 1 = nI (6 * i + 1) from nI_add (6 * i) 1]
  refine z_sld (vp_in_nI (by omega) (by omega)) dL_law_443 ?_
  refine z_aload_n (j := 0) dL_law_444 rfl ?_
  refine z_iload (j := 4) dL_law_445 rfl ?_
  refine z_iconst (v := 2) dL_law_447 (by decide) ?_
  refine z_iadd dL_law_448 ?_
  rw [show nI (6 * i) + 2 = nI (6 * i + 2) from nI_add (6 * i) 2]
  refine z_sld (vp_in_nI (by omega) (by omega)) dL_law_449 ?_
  refine z_kV [.int ((l.2.2 (nI (6 * i + 1)).toNatClampNeg)), .int ((l.2.2 (nI (6 * i + 2)).toNatClampNeg))] 0 0 kc ks yoX8_add yvX8_add rfl (by decide) lL_127 (by decide) mW_obj rfl rfl (Nat.le_of_ble_eq_true rfl) (Nat.le_of_ble_eq_true rfl) dL_law_450 (by omega) (by omega) (z_room (by omega) (Nat.le_refl _) (Nat.le_refl _) (R_add (d := 0) (by decide) hM (fun t3 v3 g3 s3 a3 hf3 hM3 h20 => ⟨rfl, ?_⟩)))
  obtain ⟨et, ev, eg⟩ : t = t3 ∧ v = v3 ∧ g2 = g3 := by
    have e9 := hf.symm.trans hf3
    cases e9
    exact ⟨rfl, rfl, rfl⟩
  rw [← eg] at hM3
  refine z_istore [1, 2, 3, 4, 5, 6, 0] [(0, .ref ((zB + 500))), (1, .ref 0), (2, .ref 89), (3, .ref 103), (4, .int ((nI (6 * i)))), (5, .int t), (6, .int v3)] dL_law_453 (by decide) rfl ?_
  refine z_aload_n (j := 2) dL_law_455 rfl ?_
  refine z_kV [] 0 0 kc ks yoX8_thrown yvX8_thrown rfl (by decide) lL_117 (by decide) mW_obj rfl rfl (Nat.le_of_ble_eq_true rfl) (Nat.le_of_ble_eq_true rfl) dL_law_456 (by omega) (by omega) (z_room (by omega) (Nat.le_refl _) (Nat.le_refl _) (m_thrown (d := 0) (by decide) ⟨rfl, ?_⟩))
  refine z_iload (j := 5) dL_law_459 rfl ?_
  refine z_icmp_eq (tgt := 466) dL_law_461 (by decide) (fun czq461 => ?_) (fun czq461 => absurd (h20.trans et.symm) czq461)
  refine z_iload (j := 5) dL_law_466 rfl ?_
  refine z_if_ne (tgt := 483) dL_law_468 (by decide) (fun czq468 => ?_) (fun czq468 => ?_)
  · refine z_goto (tgt := 2334) dL_law_483 (by decide) ?_
    refine z_lv [(0, .ref ((zB + 500))), (1, .ref 0), (2, .ref 89), (3, .ref 103), (4, .int ((nI (6 * i))))] [0, 1, 2, 3, 4] rfl ?_
    rw [← lW_sw]
    exact hnext _ _ _ _ _ _ _ _ _ hC2 hM3
  · refine z_aload_n (j := 3) dL_law_471 rfl ?_
    refine z_iconst (v := 0) dL_law_472 (by decide) ?_
    refine l_aldM (x := v.toInt64) (hz czq468) dL_law_473 ?_
    refine z_iload (j := 6) dL_law_474 rfl ?_
    refine z_i2l dL_law_476 ?_
    refine z_lcmp dL_law_477 ?_
    rw [show lg_cmp v.toInt64 v3.toInt64 = 0 from (lg_cmp_eq _ _).mpr (by rw [ev])]
    refine z_if_eq (tgt := 483) dL_law_478 (by decide) (fun czq478 => ?_) (fun czq478 => absurd rfl czq478)
    refine z_goto (tgt := 2334) dL_law_483 (by decide) ?_
    refine z_lv [(0, .ref ((zB + 500))), (1, .ref 0), (2, .ref 89), (3, .ref 103), (4, .int ((nI (6 * i))))] [0, 1, 2, 3, 4] rfl ?_
    rw [← lW_sw]
    exact hnext _ _ _ _ _ _ _ _ _ hC2 hM3

set_option maxHeartbeats 4000000 in
set_option maxRecDepth 100000 in
theorem L_4 {l : zL} {d kc ks i : Nat} {h : Nat → va_E} {F : Nat → Int64} {sR : Nat → Int32} {aR : Nat → Nat → Int32} {cm : Value} {o u : Nat → Nat → Int32} {s : Nat → Nat → Int32} {a : Nat → Nat → Nat → Int32} {g : zGs} {Q : zQ} (hi : 6 * i + 6 ≤ l.2.1) (hl : l.2.1 ≤ 3072) (hC : cI g o u s a) (hM : mI g sR aR) (hnext : ∀ F' sR' aR' cm' o' u' s' a' g', cI g' o' u' s' a' → mI g' sR' aR' → Zj l mL_law (d + 20) kc ks 2334 [(0, .ref (zB + 500)), (1, .ref 0), (2, .ref 89), (3, .ref 103), (4, .int (nI (6 * i)))] [] 104 (lW h F' sR' aR' cm' o' u' s' a') Q) : Zj l mL_law (d + 20) (kc + 3) (ks + 18) 486 [(0, .ref ((zB + 500))), (1, .ref 0), (2, .ref 89), (3, .ref 103), (4, .int ((nI (6 * i))))] [] 104 (lW h F sR aR cm o u s a) Q := by
  refine z_aload_n (j := 1) dL_law_486 rfl ?_
  refine z_aload_n (j := 0) dL_law_487 rfl ?_
  refine z_iload (j := 4) dL_law_488 rfl ?_
  refine z_iconst (v := 1) dL_law_490 (by decide) ?_
  refine z_iadd dL_law_491 ?_
  rw [show nI (6 * i) + 1 = nI (6 * i + 1) from nI_add (6 * i) 1]
  refine z_sld (vp_in_nI (by omega) (by omega)) dL_law_492 ?_
  refine z_aload_n (j := 0) dL_law_493 rfl ?_
  refine z_iload (j := 4) dL_law_494 rfl ?_
  refine z_iconst (v := 2) dL_law_496 (by decide) ?_
  refine z_iadd dL_law_497 ?_
  rw [show nI (6 * i) + 2 = nI (6 * i + 2) from nI_add (6 * i) 2]
  refine z_sld (vp_in_nI (by omega) (by omega)) dL_law_498 ?_
  refine z_aload_n (j := 3) dL_law_499 rfl ?_
  refine z_kSW [.ref 0, .int ((l.2.2 (nI (6 * i + 1)).toNatClampNeg)), .int ((l.2.2 (nI (6 * i + 2)).toNatClampNeg)), .ref 103] (0 + 3) (0 + 18) kc ks yoL_put ysL_put (by decide) (by decide) lL_128 rfl (Nat.le_of_ble_eq_true rfl) (Nat.le_of_ble_eq_true rfl) dL_law_500 (by omega) (by omega) (z_room (by omega) (Nat.le_refl _) (Nat.le_refl _) (V_put (d := 0) hC (fun t v g2 cm2 o2 u2 s2 a2 F2 hf hC2 hz => ⟨rfl, ?_⟩)))
  rw [lW_sw]
  refine z_istore [1, 2, 3, 4, 5, 0] [(0, .ref ((zB + 500))), (1, .ref 0), (2, .ref 89), (3, .ref 103), (4, .int ((nI (6 * i)))), (5, .int t)] dL_law_503 (by decide) rfl ?_
  refine z_aload_n (j := 2) dL_law_505 rfl ?_
  refine z_aload_n (j := 0) dL_law_506 rfl ?_
  refine z_iload (j := 4) dL_law_507 rfl ?_
  refine z_iconst (v := 1) dL_law_509 (by decide) ?_
  refine z_iadd dL_law_510 ?_
  rw [show nI (6 * i) + 1 = nI (6 * i + 1) from nI_add (6 * i) 1]
  refine z_sld (vp_in_nI (by omega) (by omega)) dL_law_511 ?_
  refine z_aload_n (j := 0) dL_law_512 rfl ?_
  refine z_iload (j := 4) dL_law_513 rfl ?_
  refine z_iconst (v := 2) dL_law_515 (by decide) ?_
  refine z_iadd dL_law_516 ?_
  rw [show nI (6 * i) + 2 = nI (6 * i + 2) from nI_add (6 * i) 2]
  refine z_sld (vp_in_nI (by omega) (by omega)) dL_law_517 ?_
  refine z_kV [.int ((l.2.2 (nI (6 * i + 1)).toNatClampNeg)), .int ((l.2.2 (nI (6 * i + 2)).toNatClampNeg))] 0 0 kc ks yoX8_put yvX8_put rfl (by decide) lL_130 (by decide) mW_obj rfl rfl (Nat.le_of_ble_eq_true rfl) (Nat.le_of_ble_eq_true rfl) dL_law_518 (by omega) (by omega) (z_room (by omega) (Nat.le_refl _) (Nat.le_refl _) (R_put (d := 0) (by decide) hM (fun t3 v3 g3 s3 a3 hf3 hM3 h20 => ⟨rfl, ?_⟩)))
  obtain ⟨et, ev, eg⟩ : t = t3 ∧ v = v3 ∧ g2 = g3 := by
    have e9 := hf.symm.trans hf3
    cases e9
    exact ⟨rfl, rfl, rfl⟩
  rw [← eg] at hM3
  refine z_istore [1, 2, 3, 4, 5, 6, 0] [(0, .ref ((zB + 500))), (1, .ref 0), (2, .ref 89), (3, .ref 103), (4, .int ((nI (6 * i)))), (5, .int t), (6, .int v3)] dL_law_521 (by decide) rfl ?_
  refine z_aload_n (j := 2) dL_law_523 rfl ?_
  refine z_kV [] 0 0 kc ks yoX8_thrown yvX8_thrown rfl (by decide) lL_117 (by decide) mW_obj rfl rfl (Nat.le_of_ble_eq_true rfl) (Nat.le_of_ble_eq_true rfl) dL_law_524 (by omega) (by omega) (z_room (by omega) (Nat.le_refl _) (Nat.le_refl _) (m_thrown (d := 0) (by decide) ⟨rfl, ?_⟩))
  refine z_iload (j := 5) dL_law_527 rfl ?_
  refine z_icmp_eq (tgt := 534) dL_law_529 (by decide) (fun czq529 => ?_) (fun czq529 => absurd (h20.trans et.symm) czq529)
  refine z_iload (j := 5) dL_law_534 rfl ?_
  refine z_if_ne (tgt := 551) dL_law_536 (by decide) (fun czq536 => ?_) (fun czq536 => ?_)
  · refine z_goto (tgt := 2334) dL_law_551 (by decide) ?_
    refine z_lv [(0, .ref ((zB + 500))), (1, .ref 0), (2, .ref 89), (3, .ref 103), (4, .int ((nI (6 * i))))] [0, 1, 2, 3, 4] rfl ?_
    rw [← lW_sw]
    exact hnext _ _ _ _ _ _ _ _ _ hC2 hM3
  · refine z_aload_n (j := 3) dL_law_539 rfl ?_
    refine z_iconst (v := 0) dL_law_540 (by decide) ?_
    refine l_aldM (x := v.toInt64) (hz czq536) dL_law_541 ?_
    refine z_iload (j := 6) dL_law_542 rfl ?_
    refine z_i2l dL_law_544 ?_
    refine z_lcmp dL_law_545 ?_
    rw [show lg_cmp v.toInt64 v3.toInt64 = 0 from (lg_cmp_eq _ _).mpr (by rw [ev])]
    refine z_if_eq (tgt := 551) dL_law_546 (by decide) (fun czq546 => ?_) (fun czq546 => absurd rfl czq546)
    refine z_goto (tgt := 2334) dL_law_551 (by decide) ?_
    refine z_lv [(0, .ref ((zB + 500))), (1, .ref 0), (2, .ref 89), (3, .ref 103), (4, .int ((nI (6 * i))))] [0, 1, 2, 3, 4] rfl ?_
    rw [← lW_sw]
    exact hnext _ _ _ _ _ _ _ _ _ hC2 hM3

set_option maxHeartbeats 4000000 in
set_option maxRecDepth 100000 in
theorem L_5 {l : zL} {d kc ks i : Nat} {h : Nat → va_E} {F : Nat → Int64} {sR : Nat → Int32} {aR : Nat → Nat → Int32} {cm : Value} {o u : Nat → Nat → Int32} {s : Nat → Nat → Int32} {a : Nat → Nat → Nat → Int32} {g : zGs} {Q : zQ} (hi : 6 * i + 6 ≤ l.2.1) (hl : l.2.1 ≤ 3072) (hC : cI g o u s a) (hM : mI g sR aR) (hnext : ∀ F' sR' aR' cm' o' u' s' a' g', cI g' o' u' s' a' → mI g' sR' aR' → Zj l mL_law (d + 20) kc ks 2334 [(0, .ref (zB + 500)), (1, .ref 0), (2, .ref 89), (3, .ref 103), (4, .int (nI (6 * i)))] [] 104 (lW h F' sR' aR' cm' o' u' s' a') Q) : Zj l mL_law (d + 20) (kc + 3) (ks + 18) 554 [(0, .ref ((zB + 500))), (1, .ref 0), (2, .ref 89), (3, .ref 103), (4, .int ((nI (6 * i))))] [] 104 (lW h F sR aR cm o u s a) Q := by
  refine z_aload_n (j := 1) dL_law_554 rfl ?_
  refine z_aload_n (j := 0) dL_law_555 rfl ?_
  refine z_iload (j := 4) dL_law_556 rfl ?_
  refine z_iconst (v := 1) dL_law_558 (by decide) ?_
  refine z_iadd dL_law_559 ?_
  rw [show nI (6 * i) + 1 = nI (6 * i + 1) from nI_add (6 * i) 1]
  refine z_sld (vp_in_nI (by omega) (by omega)) dL_law_560 ?_
  refine z_aload_n (j := 0) dL_law_561 rfl ?_
  refine z_iload (j := 4) dL_law_562 rfl ?_
  refine z_iconst (v := 2) dL_law_564 (by decide) ?_
  refine z_iadd dL_law_565 ?_
  rw [show nI (6 * i) + 2 = nI (6 * i + 2) from nI_add (6 * i) 2]
  refine z_sld (vp_in_nI (by omega) (by omega)) dL_law_566 ?_
  refine z_aload_n (j := 0) dL_law_567 rfl ?_
  refine z_iload (j := 4) dL_law_568 rfl ?_
  refine z_iconst (v := 3) dL_law_570 (by decide) ?_
  refine z_iadd dL_law_571 ?_
  rw [show nI (6 * i) + 3 = nI (6 * i + 3) from nI_add (6 * i) 3]
  refine z_sld (vp_in_nI (by omega) (by omega)) dL_law_572 ?_
  refine z_aload_n (j := 3) dL_law_573 rfl ?_
  refine z_kSW [.ref 0, .int ((l.2.2 (nI (6 * i + 1)).toNatClampNeg)), .int ((l.2.2 (nI (6 * i + 2)).toNatClampNeg)), .int ((l.2.2 (nI (6 * i + 3)).toNatClampNeg)), .ref 103] (0 + 3) (0 + 18) kc ks yoL_addRow ysL_addRow (by decide) (by decide) lL_131 rfl (Nat.le_of_ble_eq_true rfl) (Nat.le_of_ble_eq_true rfl) dL_law_574 (by omega) (by omega) (z_room (by omega) (Nat.le_refl _) (Nat.le_refl _) (V_addRow (d := 0) hC (fun t v g2 cm2 o2 u2 s2 a2 F2 hf hC2 hz => ⟨rfl, ?_⟩)))
  rw [lW_sw]
  refine z_istore [1, 2, 3, 4, 5, 0] [(0, .ref ((zB + 500))), (1, .ref 0), (2, .ref 89), (3, .ref 103), (4, .int ((nI (6 * i)))), (5, .int t)] dL_law_577 (by decide) rfl ?_
  refine z_aload_n (j := 2) dL_law_579 rfl ?_
  refine z_aload_n (j := 0) dL_law_580 rfl ?_
  refine z_iload (j := 4) dL_law_581 rfl ?_
  refine z_iconst (v := 1) dL_law_583 (by decide) ?_
  refine z_iadd dL_law_584 ?_
  rw [show nI (6 * i) + 1 = nI (6 * i + 1) from nI_add (6 * i) 1]
  refine z_sld (vp_in_nI (by omega) (by omega)) dL_law_585 ?_
  refine z_aload_n (j := 0) dL_law_586 rfl ?_
  refine z_iload (j := 4) dL_law_587 rfl ?_
  refine z_iconst (v := 2) dL_law_589 (by decide) ?_
  refine z_iadd dL_law_590 ?_
  rw [show nI (6 * i) + 2 = nI (6 * i + 2) from nI_add (6 * i) 2]
  refine z_sld (vp_in_nI (by omega) (by omega)) dL_law_591 ?_
  refine z_aload_n (j := 0) dL_law_592 rfl ?_
  refine z_iload (j := 4) dL_law_593 rfl ?_
  refine z_iconst (v := 3) dL_law_595 (by decide) ?_
  refine z_iadd dL_law_596 ?_
  rw [show nI (6 * i) + 3 = nI (6 * i + 3) from nI_add (6 * i) 3]
  refine z_sld (vp_in_nI (by omega) (by omega)) dL_law_597 ?_
  refine z_kV [.int ((l.2.2 (nI (6 * i + 1)).toNatClampNeg)), .int ((l.2.2 (nI (6 * i + 2)).toNatClampNeg)), .int ((l.2.2 (nI (6 * i + 3)).toNatClampNeg))] 0 0 kc ks yoX8_addRow yvX8_addRow rfl (by decide) lL_134 (by decide) mW_obj rfl rfl (Nat.le_of_ble_eq_true rfl) (Nat.le_of_ble_eq_true rfl) dL_law_598 (by omega) (by omega) (z_room (by omega) (Nat.le_refl _) (Nat.le_refl _) (R_addRow (d := 0) (by decide) hM (fun t3 v3 g3 s3 a3 hf3 hM3 h20 => ⟨rfl, ?_⟩)))
  obtain ⟨et, ev, eg⟩ : t = t3 ∧ v = v3 ∧ g2 = g3 := by
    have e9 := hf.symm.trans hf3
    cases e9
    exact ⟨rfl, rfl, rfl⟩
  rw [← eg] at hM3
  refine z_istore [1, 2, 3, 4, 5, 6, 0] [(0, .ref ((zB + 500))), (1, .ref 0), (2, .ref 89), (3, .ref 103), (4, .int ((nI (6 * i)))), (5, .int t), (6, .int v3)] dL_law_601 (by decide) rfl ?_
  refine z_aload_n (j := 2) dL_law_603 rfl ?_
  refine z_kV [] 0 0 kc ks yoX8_thrown yvX8_thrown rfl (by decide) lL_117 (by decide) mW_obj rfl rfl (Nat.le_of_ble_eq_true rfl) (Nat.le_of_ble_eq_true rfl) dL_law_604 (by omega) (by omega) (z_room (by omega) (Nat.le_refl _) (Nat.le_refl _) (m_thrown (d := 0) (by decide) ⟨rfl, ?_⟩))
  refine z_iload (j := 5) dL_law_607 rfl ?_
  refine z_icmp_eq (tgt := 614) dL_law_609 (by decide) (fun czq609 => ?_) (fun czq609 => absurd (h20.trans et.symm) czq609)
  refine z_iload (j := 5) dL_law_614 rfl ?_
  refine z_if_ne (tgt := 631) dL_law_616 (by decide) (fun czq616 => ?_) (fun czq616 => ?_)
  · refine z_goto (tgt := 2334) dL_law_631 (by decide) ?_
    refine z_lv [(0, .ref ((zB + 500))), (1, .ref 0), (2, .ref 89), (3, .ref 103), (4, .int ((nI (6 * i))))] [0, 1, 2, 3, 4] rfl ?_
    rw [← lW_sw]
    exact hnext _ _ _ _ _ _ _ _ _ hC2 hM3
  · refine z_aload_n (j := 3) dL_law_619 rfl ?_
    refine z_iconst (v := 0) dL_law_620 (by decide) ?_
    refine l_aldM (x := v.toInt64) (hz czq616) dL_law_621 ?_
    refine z_iload (j := 6) dL_law_622 rfl ?_
    refine z_i2l dL_law_624 ?_
    refine z_lcmp dL_law_625 ?_
    rw [show lg_cmp v.toInt64 v3.toInt64 = 0 from (lg_cmp_eq _ _).mpr (by rw [ev])]
    refine z_if_eq (tgt := 631) dL_law_626 (by decide) (fun czq626 => ?_) (fun czq626 => absurd rfl czq626)
    refine z_goto (tgt := 2334) dL_law_631 (by decide) ?_
    refine z_lv [(0, .ref ((zB + 500))), (1, .ref 0), (2, .ref 89), (3, .ref 103), (4, .int ((nI (6 * i))))] [0, 1, 2, 3, 4] rfl ?_
    rw [← lW_sw]
    exact hnext _ _ _ _ _ _ _ _ _ hC2 hM3

set_option maxHeartbeats 4000000 in
set_option maxRecDepth 100000 in
theorem L_6 {l : zL} {d kc ks i : Nat} {h : Nat → va_E} {F : Nat → Int64} {sR : Nat → Int32} {aR : Nat → Nat → Int32} {cm : Value} {o u : Nat → Nat → Int32} {s : Nat → Nat → Int32} {a : Nat → Nat → Nat → Int32} {g : zGs} {Q : zQ} (hi : 6 * i + 6 ≤ l.2.1) (hl : l.2.1 ≤ 3072) (hC : cI g o u s a) (hM : mI g sR aR) (hnext : ∀ F' sR' aR' cm' o' u' s' a' g', cI g' o' u' s' a' → mI g' sR' aR' → Zj l mL_law (d + 20) kc ks 2334 [(0, .ref (zB + 500)), (1, .ref 0), (2, .ref 89), (3, .ref 103), (4, .int (nI (6 * i)))] [] 104 (lW h F' sR' aR' cm' o' u' s' a') Q) : Zj l mL_law (d + 20) (kc + 3) (ks + 18) 634 [(0, .ref ((zB + 500))), (1, .ref 0), (2, .ref 89), (3, .ref 103), (4, .int ((nI (6 * i))))] [] 104 (lW h F sR aR cm o u s a) Q := by
  refine z_aload_n (j := 1) dL_law_634 rfl ?_
  refine z_aload_n (j := 0) dL_law_635 rfl ?_
  refine z_iload (j := 4) dL_law_636 rfl ?_
  refine z_iconst (v := 1) dL_law_638 (by decide) ?_
  refine z_iadd dL_law_639 ?_
  rw [show nI (6 * i) + 1 = nI (6 * i + 1) from nI_add (6 * i) 1]
  refine z_sld (vp_in_nI (by omega) (by omega)) dL_law_640 ?_
  refine z_aload_n (j := 3) dL_law_641 rfl ?_
  refine z_kSW [.ref 0, .int ((l.2.2 (nI (6 * i + 1)).toNatClampNeg)), .ref 103] (0 + 3) (0 + 18) kc ks yoL_remove ysL_remove (by decide) (by decide) lL_135 rfl (Nat.le_of_ble_eq_true rfl) (Nat.le_of_ble_eq_true rfl) dL_law_642 (by omega) (by omega) (z_room (by omega) (Nat.le_refl _) (Nat.le_refl _) (V_remove (d := 0) hC (fun t v g2 cm2 o2 u2 s2 a2 F2 hf hC2 hz => ⟨rfl, ?_⟩)))
  rw [lW_sw]
  refine z_istore [1, 2, 3, 4, 5, 0] [(0, .ref ((zB + 500))), (1, .ref 0), (2, .ref 89), (3, .ref 103), (4, .int ((nI (6 * i)))), (5, .int t)] dL_law_645 (by decide) rfl ?_
  refine z_aload_n (j := 2) dL_law_647 rfl ?_
  refine z_aload_n (j := 0) dL_law_648 rfl ?_
  refine z_iload (j := 4) dL_law_649 rfl ?_
  refine z_iconst (v := 1) dL_law_651 (by decide) ?_
  refine z_iadd dL_law_652 ?_
  rw [show nI (6 * i) + 1 = nI (6 * i + 1) from nI_add (6 * i) 1]
  refine z_sld (vp_in_nI (by omega) (by omega)) dL_law_653 ?_
  refine z_kV [.int ((l.2.2 (nI (6 * i + 1)).toNatClampNeg))] 0 0 kc ks yoX8_remove yvX8_remove rfl (by decide) lL_137 (by decide) mW_obj rfl rfl (Nat.le_of_ble_eq_true rfl) (Nat.le_of_ble_eq_true rfl) dL_law_654 (by omega) (by omega) (z_room (by omega) (Nat.le_refl _) (Nat.le_refl _) (R_remove (d := 0) (by decide) hM (fun t3 v3 g3 s3 a3 hf3 hM3 h20 => ⟨rfl, ?_⟩)))
  obtain ⟨et, ev, eg⟩ : t = t3 ∧ v = v3 ∧ g2 = g3 := by
    have e9 := hf.symm.trans hf3
    cases e9
    exact ⟨rfl, rfl, rfl⟩
  rw [← eg] at hM3
  refine z_istore [1, 2, 3, 4, 5, 6, 0] [(0, .ref ((zB + 500))), (1, .ref 0), (2, .ref 89), (3, .ref 103), (4, .int ((nI (6 * i)))), (5, .int t), (6, .int v3)] dL_law_657 (by decide) rfl ?_
  refine z_aload_n (j := 2) dL_law_659 rfl ?_
  refine z_kV [] 0 0 kc ks yoX8_thrown yvX8_thrown rfl (by decide) lL_117 (by decide) mW_obj rfl rfl (Nat.le_of_ble_eq_true rfl) (Nat.le_of_ble_eq_true rfl) dL_law_660 (by omega) (by omega) (z_room (by omega) (Nat.le_refl _) (Nat.le_refl _) (m_thrown (d := 0) (by decide) ⟨rfl, ?_⟩))
  refine z_iload (j := 5) dL_law_663 rfl ?_
  refine z_icmp_eq (tgt := 670) dL_law_665 (by decide) (fun czq665 => ?_) (fun czq665 => absurd (h20.trans et.symm) czq665)
  refine z_iload (j := 5) dL_law_670 rfl ?_
  refine z_if_ne (tgt := 687) dL_law_672 (by decide) (fun czq672 => ?_) (fun czq672 => ?_)
  · refine z_goto (tgt := 2334) dL_law_687 (by decide) ?_
    refine z_lv [(0, .ref ((zB + 500))), (1, .ref 0), (2, .ref 89), (3, .ref 103), (4, .int ((nI (6 * i))))] [0, 1, 2, 3, 4] rfl ?_
    rw [← lW_sw]
    exact hnext _ _ _ _ _ _ _ _ _ hC2 hM3
  · refine z_aload_n (j := 3) dL_law_675 rfl ?_
    refine z_iconst (v := 0) dL_law_676 (by decide) ?_
    refine l_aldM (x := v.toInt64) (hz czq672) dL_law_677 ?_
    refine z_iload (j := 6) dL_law_678 rfl ?_
    refine z_i2l dL_law_680 ?_
    refine z_lcmp dL_law_681 ?_
    rw [show lg_cmp v.toInt64 v3.toInt64 = 0 from (lg_cmp_eq _ _).mpr (by rw [ev])]
    refine z_if_eq (tgt := 687) dL_law_682 (by decide) (fun czq682 => ?_) (fun czq682 => absurd rfl czq682)
    refine z_goto (tgt := 2334) dL_law_687 (by decide) ?_
    refine z_lv [(0, .ref ((zB + 500))), (1, .ref 0), (2, .ref 89), (3, .ref 103), (4, .int ((nI (6 * i))))] [0, 1, 2, 3, 4] rfl ?_
    rw [← lW_sw]
    exact hnext _ _ _ _ _ _ _ _ _ hC2 hM3

set_option maxHeartbeats 4000000 in
set_option maxRecDepth 100000 in
theorem L_7 {l : zL} {d kc ks i : Nat} {h : Nat → va_E} {F : Nat → Int64} {sR : Nat → Int32} {aR : Nat → Nat → Int32} {cm : Value} {o u : Nat → Nat → Int32} {s : Nat → Nat → Int32} {a : Nat → Nat → Nat → Int32} {g : zGs} {Q : zQ} (hi : 6 * i + 6 ≤ l.2.1) (hl : l.2.1 ≤ 3072) (hC : cI g o u s a) (hM : mI g sR aR) (hnext : ∀ F' sR' aR' cm' o' u' s' a' g', cI g' o' u' s' a' → mI g' sR' aR' → Zj l mL_law (d + 20) kc ks 2334 [(0, .ref (zB + 500)), (1, .ref 0), (2, .ref 89), (3, .ref 103), (4, .int (nI (6 * i)))] [] 104 (lW h F' sR' aR' cm' o' u' s' a') Q) : Zj l mL_law (d + 20) (kc + 3) (ks + 18) 690 [(0, .ref ((zB + 500))), (1, .ref 0), (2, .ref 89), (3, .ref 103), (4, .int ((nI (6 * i))))] [] 104 (lW h F sR aR cm o u s a) Q := by
  refine z_aload_n (j := 1) dL_law_690 rfl ?_
  refine z_aload_n (j := 0) dL_law_691 rfl ?_
  refine z_iload (j := 4) dL_law_692 rfl ?_
  refine z_iconst (v := 1) dL_law_694 (by decide) ?_
  refine z_iadd dL_law_695 ?_
  rw [show nI (6 * i) + 1 = nI (6 * i + 1) from nI_add (6 * i) 1]
  refine z_sld (vp_in_nI (by omega) (by omega)) dL_law_696 ?_
  refine z_aload_n (j := 3) dL_law_697 rfl ?_
  refine z_kSW [.ref 0, .int ((l.2.2 (nI (6 * i + 1)).toNatClampNeg)), .ref 103] (0 + 3) (0 + 18) kc ks yoL_setNeighbourhood ysL_setNeighbourhood (by decide) (by decide) lL_138 rfl (Nat.le_of_ble_eq_true rfl) (Nat.le_of_ble_eq_true rfl) dL_law_698 (by omega) (by omega) (z_room (by omega) (Nat.le_refl _) (Nat.le_refl _) (V_setNeighbourhood (d := 0) hC (fun t v g2 cm2 o2 u2 s2 a2 F2 hf hC2 hz => ⟨rfl, ?_⟩)))
  rw [lW_sw]
  refine z_istore [1, 2, 3, 4, 5, 0] [(0, .ref ((zB + 500))), (1, .ref 0), (2, .ref 89), (3, .ref 103), (4, .int ((nI (6 * i)))), (5, .int t)] dL_law_701 (by decide) rfl ?_
  refine z_aload_n (j := 2) dL_law_703 rfl ?_
  refine z_aload_n (j := 0) dL_law_704 rfl ?_
  refine z_iload (j := 4) dL_law_705 rfl ?_
  refine z_iconst (v := 1) dL_law_707 (by decide) ?_
  refine z_iadd dL_law_708 ?_
  rw [show nI (6 * i) + 1 = nI (6 * i + 1) from nI_add (6 * i) 1]
  refine z_sld (vp_in_nI (by omega) (by omega)) dL_law_709 ?_
  refine z_kV [.int ((l.2.2 (nI (6 * i + 1)).toNatClampNeg))] 0 0 kc ks yoX8_setNeighbourhood yvX8_setNeighbourhood rfl (by decide) lL_140 (by decide) mW_obj rfl rfl (Nat.le_of_ble_eq_true rfl) (Nat.le_of_ble_eq_true rfl) dL_law_710 (by omega) (by omega) (z_room (by omega) (Nat.le_refl _) (Nat.le_refl _) (R_setNeighbourhood (d := 0) (by decide) hM (fun t3 v3 g3 s3 a3 hf3 hM3 h20 => ⟨rfl, ?_⟩)))
  obtain ⟨et, ev, eg⟩ : t = t3 ∧ v = v3 ∧ g2 = g3 := by
    have e9 := hf.symm.trans hf3
    cases e9
    exact ⟨rfl, rfl, rfl⟩
  rw [← eg] at hM3
  refine z_istore [1, 2, 3, 4, 5, 6, 0] [(0, .ref ((zB + 500))), (1, .ref 0), (2, .ref 89), (3, .ref 103), (4, .int ((nI (6 * i)))), (5, .int t), (6, .int v3)] dL_law_713 (by decide) rfl ?_
  refine z_aload_n (j := 2) dL_law_715 rfl ?_
  refine z_kV [] 0 0 kc ks yoX8_thrown yvX8_thrown rfl (by decide) lL_117 (by decide) mW_obj rfl rfl (Nat.le_of_ble_eq_true rfl) (Nat.le_of_ble_eq_true rfl) dL_law_716 (by omega) (by omega) (z_room (by omega) (Nat.le_refl _) (Nat.le_refl _) (m_thrown (d := 0) (by decide) ⟨rfl, ?_⟩))
  refine z_iload (j := 5) dL_law_719 rfl ?_
  refine z_icmp_eq (tgt := 726) dL_law_721 (by decide) (fun czq721 => ?_) (fun czq721 => absurd (h20.trans et.symm) czq721)
  refine z_iload (j := 5) dL_law_726 rfl ?_
  refine z_if_ne (tgt := 743) dL_law_728 (by decide) (fun czq728 => ?_) (fun czq728 => ?_)
  · refine z_goto (tgt := 2334) dL_law_743 (by decide) ?_
    refine z_lv [(0, .ref ((zB + 500))), (1, .ref 0), (2, .ref 89), (3, .ref 103), (4, .int ((nI (6 * i))))] [0, 1, 2, 3, 4] rfl ?_
    rw [← lW_sw]
    exact hnext _ _ _ _ _ _ _ _ _ hC2 hM3
  · refine z_aload_n (j := 3) dL_law_731 rfl ?_
    refine z_iconst (v := 0) dL_law_732 (by decide) ?_
    refine l_aldM (x := v.toInt64) (hz czq728) dL_law_733 ?_
    refine z_iload (j := 6) dL_law_734 rfl ?_
    refine z_i2l dL_law_736 ?_
    refine z_lcmp dL_law_737 ?_
    rw [show lg_cmp v.toInt64 v3.toInt64 = 0 from (lg_cmp_eq _ _).mpr (by rw [ev])]
    refine z_if_eq (tgt := 743) dL_law_738 (by decide) (fun czq738 => ?_) (fun czq738 => absurd rfl czq738)
    refine z_goto (tgt := 2334) dL_law_743 (by decide) ?_
    refine z_lv [(0, .ref ((zB + 500))), (1, .ref 0), (2, .ref 89), (3, .ref 103), (4, .int ((nI (6 * i))))] [0, 1, 2, 3, 4] rfl ?_
    rw [← lW_sw]
    exact hnext _ _ _ _ _ _ _ _ _ hC2 hM3

set_option maxHeartbeats 4000000 in
set_option maxRecDepth 100000 in
theorem L_8 {l : zL} {d kc ks i : Nat} {h : Nat → va_E} {F : Nat → Int64} {sR : Nat → Int32} {aR : Nat → Nat → Int32} {cm : Value} {o u : Nat → Nat → Int32} {s : Nat → Nat → Int32} {a : Nat → Nat → Nat → Int32} {g : zGs} {Q : zQ} (hi : 6 * i + 6 ≤ l.2.1) (hl : l.2.1 ≤ 3072) (hC : cI g o u s a) (hM : mI g sR aR) (hnext : ∀ F' sR' aR' cm' o' u' s' a' g', cI g' o' u' s' a' → mI g' sR' aR' → Zj l mL_law (d + 20) kc ks 2334 [(0, .ref (zB + 500)), (1, .ref 0), (2, .ref 89), (3, .ref 103), (4, .int (nI (6 * i)))] [] 104 (lW h F' sR' aR' cm' o' u' s' a') Q) : Zj l mL_law (d + 20) (kc + 3) (ks + 18) 746 [(0, .ref ((zB + 500))), (1, .ref 0), (2, .ref 89), (3, .ref 103), (4, .int ((nI (6 * i))))] [] 104 (lW h F sR aR cm o u s a) Q := by
  refine z_aload_n (j := 1) dL_law_746 rfl ?_
  refine z_aload_n (j := 0) dL_law_747 rfl ?_
  refine z_iload (j := 4) dL_law_748 rfl ?_
  refine z_iconst (v := 1) dL_law_750 (by decide) ?_
  refine z_iadd dL_law_751 ?_
  rw [show nI (6 * i) + 1 = nI (6 * i + 1) from nI_add (6 * i) 1]
  refine z_sld (vp_in_nI (by omega) (by omega)) dL_law_752 ?_
  refine z_aload_n (j := 3) dL_law_753 rfl ?_
  refine z_kSW [.ref 0, .int ((l.2.2 (nI (6 * i + 1)).toNatClampNeg)), .ref 103] (0 + 3) (0 + 18) kc ks yoL_setMultiplier ysL_setMultiplier (by decide) (by decide) lL_141 rfl (Nat.le_of_ble_eq_true rfl) (Nat.le_of_ble_eq_true rfl) dL_law_754 (by omega) (by omega) (z_room (by omega) (Nat.le_refl _) (Nat.le_refl _) (V_setMultiplier (d := 0) hC (fun t v g2 cm2 o2 u2 s2 a2 F2 hf hC2 hz => ⟨rfl, ?_⟩)))
  rw [lW_sw]
  refine z_istore [1, 2, 3, 4, 5, 0] [(0, .ref ((zB + 500))), (1, .ref 0), (2, .ref 89), (3, .ref 103), (4, .int ((nI (6 * i)))), (5, .int t)] dL_law_757 (by decide) rfl ?_
  refine z_aload_n (j := 2) dL_law_759 rfl ?_
  refine z_aload_n (j := 0) dL_law_760 rfl ?_
  refine z_iload (j := 4) dL_law_761 rfl ?_
  refine z_iconst (v := 1) dL_law_763 (by decide) ?_
  refine z_iadd dL_law_764 ?_
  rw [show nI (6 * i) + 1 = nI (6 * i + 1) from nI_add (6 * i) 1]
  refine z_sld (vp_in_nI (by omega) (by omega)) dL_law_765 ?_
  refine z_kV [.int ((l.2.2 (nI (6 * i + 1)).toNatClampNeg))] 0 0 kc ks yoX8_setMultiplier yvX8_setMultiplier rfl (by decide) lL_143 (by decide) mW_obj rfl rfl (Nat.le_of_ble_eq_true rfl) (Nat.le_of_ble_eq_true rfl) dL_law_766 (by omega) (by omega) (z_room (by omega) (Nat.le_refl _) (Nat.le_refl _) (R_setMultiplier (d := 0) (by decide) hM (fun t3 v3 g3 s3 a3 hf3 hM3 h20 => ⟨rfl, ?_⟩)))
  obtain ⟨et, ev, eg⟩ : t = t3 ∧ v = v3 ∧ g2 = g3 := by
    have e9 := hf.symm.trans hf3
    cases e9
    exact ⟨rfl, rfl, rfl⟩
  rw [← eg] at hM3
  refine z_istore [1, 2, 3, 4, 5, 6, 0] [(0, .ref ((zB + 500))), (1, .ref 0), (2, .ref 89), (3, .ref 103), (4, .int ((nI (6 * i)))), (5, .int t), (6, .int v3)] dL_law_769 (by decide) rfl ?_
  refine z_aload_n (j := 2) dL_law_771 rfl ?_
  refine z_kV [] 0 0 kc ks yoX8_thrown yvX8_thrown rfl (by decide) lL_117 (by decide) mW_obj rfl rfl (Nat.le_of_ble_eq_true rfl) (Nat.le_of_ble_eq_true rfl) dL_law_772 (by omega) (by omega) (z_room (by omega) (Nat.le_refl _) (Nat.le_refl _) (m_thrown (d := 0) (by decide) ⟨rfl, ?_⟩))
  refine z_iload (j := 5) dL_law_775 rfl ?_
  refine z_icmp_eq (tgt := 782) dL_law_777 (by decide) (fun czq777 => ?_) (fun czq777 => absurd (h20.trans et.symm) czq777)
  refine z_iload (j := 5) dL_law_782 rfl ?_
  refine z_if_ne (tgt := 799) dL_law_784 (by decide) (fun czq784 => ?_) (fun czq784 => ?_)
  · refine z_goto (tgt := 2334) dL_law_799 (by decide) ?_
    refine z_lv [(0, .ref ((zB + 500))), (1, .ref 0), (2, .ref 89), (3, .ref 103), (4, .int ((nI (6 * i))))] [0, 1, 2, 3, 4] rfl ?_
    rw [← lW_sw]
    exact hnext _ _ _ _ _ _ _ _ _ hC2 hM3
  · refine z_aload_n (j := 3) dL_law_787 rfl ?_
    refine z_iconst (v := 0) dL_law_788 (by decide) ?_
    refine l_aldM (x := v.toInt64) (hz czq784) dL_law_789 ?_
    refine z_iload (j := 6) dL_law_790 rfl ?_
    refine z_i2l dL_law_792 ?_
    refine z_lcmp dL_law_793 ?_
    rw [show lg_cmp v.toInt64 v3.toInt64 = 0 from (lg_cmp_eq _ _).mpr (by rw [ev])]
    refine z_if_eq (tgt := 799) dL_law_794 (by decide) (fun czq794 => ?_) (fun czq794 => absurd rfl czq794)
    refine z_goto (tgt := 2334) dL_law_799 (by decide) ?_
    refine z_lv [(0, .ref ((zB + 500))), (1, .ref 0), (2, .ref 89), (3, .ref 103), (4, .int ((nI (6 * i))))] [0, 1, 2, 3, 4] rfl ?_
    rw [← lW_sw]
    exact hnext _ _ _ _ _ _ _ _ _ hC2 hM3

set_option maxHeartbeats 4000000 in
set_option maxRecDepth 100000 in
theorem L_9 {l : zL} {d kc ks i : Nat} {h : Nat → va_E} {F : Nat → Int64} {sR : Nat → Int32} {aR : Nat → Nat → Int32} {cm : Value} {o u : Nat → Nat → Int32} {s : Nat → Nat → Int32} {a : Nat → Nat → Nat → Int32} {g : zGs} {Q : zQ} (hi : 6 * i + 6 ≤ l.2.1) (hl : l.2.1 ≤ 3072) (hC : cI g o u s a) (hM : mI g sR aR) (hnext : ∀ F' sR' aR' cm' o' u' s' a' g', cI g' o' u' s' a' → mI g' sR' aR' → Zj l mL_law (d + 20) kc ks 2334 [(0, .ref (zB + 500)), (1, .ref 0), (2, .ref 89), (3, .ref 103), (4, .int (nI (6 * i)))] [] 104 (lW h F' sR' aR' cm' o' u' s' a') Q) : Zj l mL_law (d + 20) (kc + 3) (ks + 18) 802 [(0, .ref ((zB + 500))), (1, .ref 0), (2, .ref 89), (3, .ref 103), (4, .int ((nI (6 * i))))] [] 104 (lW h F sR aR cm o u s a) Q := by
  refine z_aload_n (j := 1) dL_law_802 rfl ?_
  refine z_aload_n (j := 0) dL_law_803 rfl ?_
  refine z_iload (j := 4) dL_law_804 rfl ?_
  refine z_iconst (v := 1) dL_law_806 (by decide) ?_
  refine z_iadd dL_law_807 ?_
  rw [show nI (6 * i) + 1 = nI (6 * i + 1) from nI_add (6 * i) 1]
  refine z_sld (vp_in_nI (by omega) (by omega)) dL_law_808 ?_
  refine z_if_eq (tgt := 816) dL_law_809 (by decide) (fun czq809 => ?_) (fun czq809 => ?_)
  · refine z_iconst (v := 0) dL_law_816 (by decide) ?_
    refine z_kV [.int 0] (0 + 3) (0 + 18) kc ks yoX7_setPulling yvX7_setPulling rfl (by decide) lL_144 (by decide) lW_0 rfl rfl (Nat.le_of_ble_eq_true rfl) (Nat.le_of_ble_eq_true rfl) dL_law_817 (by omega) (by omega) (z_room (by omega) (Nat.le_refl _) (Nat.le_refl _) (K_setPulling (d := 0) (Or.inl rfl) (by decide) hC (fun t v g2 cm2 o2 u2 s2 a2 hf hC2 => ?_)))
    show zk mL_law l _ kc ks 817 _ _ 104 Q (oc IAE ISE t v) 104 (lW h F sR aR cm2 o2 u2 s2 a2)
    obtain rfl : t = 0 := T_setPulling hf
    rw [oc_0]
    refine ⟨rfl, ?_⟩
    rw [lW_sw]
    refine z_aload_n (j := 2) dL_law_820 rfl ?_
    refine z_aload_n (j := 0) dL_law_821 rfl ?_
    refine z_iload (j := 4) dL_law_822 rfl ?_
    refine z_iconst (v := 1) dL_law_824 (by decide) ?_
    refine z_iadd dL_law_825 ?_
    rw [show nI (6 * i) + 1 = nI (6 * i + 1) from nI_add (6 * i) 1]
    refine z_sld (vp_in_nI (by omega) (by omega)) dL_law_826 ?_
    refine z_if_eq (tgt := 834) dL_law_827 (by decide) (fun czq827 => ?_) (fun czq827 => absurd czq809 czq827)
    refine z_iconst (v := 0) dL_law_834 (by decide) ?_
    refine z_kV [.int 0] 0 0 kc ks yoX8_setPulling yvX8_setPulling rfl (by decide) lL_148 (by decide) mW_obj rfl rfl (Nat.le_of_ble_eq_true rfl) (Nat.le_of_ble_eq_true rfl) dL_law_835 (by omega) (by omega) (z_room (by omega) (Nat.le_refl _) (Nat.le_refl _) (R_setPulling (d := 0) (Or.inl rfl) (by decide) hM (fun t3 v3 g3 s3 a3 hf3 hM3 h20 => ⟨rfl, ?_⟩)))
    obtain ⟨et, ev, eg⟩ : 0 = t3 ∧ v = v3 ∧ g2 = g3 := by
      have e9 := hf.symm.trans hf3
      cases e9
      exact ⟨rfl, rfl, rfl⟩
    rw [← eg] at hM3
    refine z_icmp_eq (tgt := 2334) dL_law_838 (by decide) (fun czq838 => ?_) (fun czq838 => absurd ev czq838)
    rw [← lW_sw]
    exact hnext _ _ _ _ _ _ _ _ _ hC2 hM3
  · refine z_iconst (v := 1) dL_law_812 (by decide) ?_
    refine z_goto (tgt := 817) dL_law_813 (by decide) ?_
    refine z_kV [.int 1] (0 + 3) (0 + 18) kc ks yoX7_setPulling yvX7_setPulling rfl (by decide) lL_144 (by decide) lW_0 rfl rfl (Nat.le_of_ble_eq_true rfl) (Nat.le_of_ble_eq_true rfl) dL_law_817 (by omega) (by omega) (z_room (by omega) (Nat.le_refl _) (Nat.le_refl _) (K_setPulling (d := 0) (Or.inr rfl) (by decide) hC (fun t v g2 cm2 o2 u2 s2 a2 hf hC2 => ?_)))
    show zk mL_law l _ kc ks 817 _ _ 104 Q (oc IAE ISE t v) 104 (lW h F sR aR cm2 o2 u2 s2 a2)
    obtain rfl : t = 0 := T_setPulling hf
    rw [oc_0]
    refine ⟨rfl, ?_⟩
    rw [lW_sw]
    refine z_aload_n (j := 2) dL_law_820 rfl ?_
    refine z_aload_n (j := 0) dL_law_821 rfl ?_
    refine z_iload (j := 4) dL_law_822 rfl ?_
    refine z_iconst (v := 1) dL_law_824 (by decide) ?_
    refine z_iadd dL_law_825 ?_
    rw [show nI (6 * i) + 1 = nI (6 * i + 1) from nI_add (6 * i) 1]
    refine z_sld (vp_in_nI (by omega) (by omega)) dL_law_826 ?_
    refine z_if_eq (tgt := 834) dL_law_827 (by decide) (fun czq827 => absurd czq827 czq809) (fun czq827 => ?_)
    refine z_iconst (v := 1) dL_law_830 (by decide) ?_
    refine z_goto (tgt := 835) dL_law_831 (by decide) ?_
    refine z_kV [.int 1] 0 0 kc ks yoX8_setPulling yvX8_setPulling rfl (by decide) lL_148 (by decide) mW_obj rfl rfl (Nat.le_of_ble_eq_true rfl) (Nat.le_of_ble_eq_true rfl) dL_law_835 (by omega) (by omega) (z_room (by omega) (Nat.le_refl _) (Nat.le_refl _) (R_setPulling (d := 0) (Or.inr rfl) (by decide) hM (fun t3 v3 g3 s3 a3 hf3 hM3 h20 => ⟨rfl, ?_⟩)))
    obtain ⟨et, ev, eg⟩ : 0 = t3 ∧ v = v3 ∧ g2 = g3 := by
      have e9 := hf.symm.trans hf3
      cases e9
      exact ⟨rfl, rfl, rfl⟩
    rw [← eg] at hM3
    refine z_icmp_eq (tgt := 2334) dL_law_838 (by decide) (fun czq838 => ?_) (fun czq838 => absurd ev czq838)
    rw [← lW_sw]
    exact hnext _ _ _ _ _ _ _ _ _ hC2 hM3

set_option maxHeartbeats 4000000 in
set_option maxRecDepth 100000 in
theorem L_10 {l : zL} {d kc ks i : Nat} {h : Nat → va_E} {F : Nat → Int64} {sR : Nat → Int32} {aR : Nat → Nat → Int32} {cm : Value} {o u : Nat → Nat → Int32} {s : Nat → Nat → Int32} {a : Nat → Nat → Nat → Int32} {g : zGs} {Q : zQ} (hi : 6 * i + 6 ≤ l.2.1) (hl : l.2.1 ≤ 3072) (hC : cI g o u s a) (hM : mI g sR aR) (hnext : ∀ F' sR' aR' cm' o' u' s' a' g', cI g' o' u' s' a' → mI g' sR' aR' → Zj l mL_law (d + 20) kc ks 2334 [(0, .ref (zB + 500)), (1, .ref 0), (2, .ref 89), (3, .ref 103), (4, .int (nI (6 * i)))] [] 104 (lW h F' sR' aR' cm' o' u' s' a') Q) : Zj l mL_law (d + 20) (kc + 3) (ks + 18) 843 [(0, .ref ((zB + 500))), (1, .ref 0), (2, .ref 89), (3, .ref 103), (4, .int ((nI (6 * i))))] [] 104 (lW h F sR aR cm o u s a) Q := by
  refine z_aload_n (j := 1) dL_law_843 rfl ?_
  refine z_aload_n (j := 3) dL_law_844 rfl ?_
  refine z_kSW [.ref 0, .ref 103] (0 + 3) (0 + 18) kc ks yoL_grow ysL_grow (by decide) (by decide) lL_149 rfl (Nat.le_of_ble_eq_true rfl) (Nat.le_of_ble_eq_true rfl) dL_law_845 (by omega) (by omega) (z_room (by omega) (Nat.le_refl _) (Nat.le_refl _) (V_grow (d := 0) hC (fun t v g2 cm2 o2 u2 s2 a2 F2 hf hC2 hz => ⟨rfl, ?_⟩)))
  rw [lW_sw]
  refine z_istore [1, 2, 3, 4, 5, 0] [(0, .ref ((zB + 500))), (1, .ref 0), (2, .ref 89), (3, .ref 103), (4, .int ((nI (6 * i)))), (5, .int t)] dL_law_848 (by decide) rfl ?_
  refine z_aload_n (j := 2) dL_law_850 rfl ?_
  refine z_kV [] 0 0 kc ks yoX8_grow yvX8_grow rfl (by decide) lL_152 (by decide) mW_obj rfl rfl (Nat.le_of_ble_eq_true rfl) (Nat.le_of_ble_eq_true rfl) dL_law_851 (by omega) (by omega) (z_room (by omega) (Nat.le_refl _) (Nat.le_refl _) (R_grow (d := 0) (by decide) hM (fun t3 v3 g3 s3 a3 hf3 hM3 h20 => ⟨rfl, ?_⟩)))
  obtain ⟨et, ev, eg⟩ : t = t3 ∧ v = v3 ∧ g2 = g3 := by
    have e9 := hf.symm.trans hf3
    cases e9
    exact ⟨rfl, rfl, rfl⟩
  rw [← eg] at hM3
  refine z_istore [1, 2, 3, 4, 5, 6, 0] [(0, .ref ((zB + 500))), (1, .ref 0), (2, .ref 89), (3, .ref 103), (4, .int ((nI (6 * i)))), (5, .int t), (6, .int v3)] dL_law_854 (by decide) rfl ?_
  refine z_aload_n (j := 2) dL_law_856 rfl ?_
  refine z_kV [] 0 0 kc ks yoX8_thrown yvX8_thrown rfl (by decide) lL_117 (by decide) mW_obj rfl rfl (Nat.le_of_ble_eq_true rfl) (Nat.le_of_ble_eq_true rfl) dL_law_857 (by omega) (by omega) (z_room (by omega) (Nat.le_refl _) (Nat.le_refl _) (m_thrown (d := 0) (by decide) ⟨rfl, ?_⟩))
  refine z_iload (j := 5) dL_law_860 rfl ?_
  refine z_icmp_eq (tgt := 867) dL_law_862 (by decide) (fun czq862 => ?_) (fun czq862 => absurd (h20.trans et.symm) czq862)
  refine z_iload (j := 5) dL_law_867 rfl ?_
  refine z_if_ne (tgt := 884) dL_law_869 (by decide) (fun czq869 => ?_) (fun czq869 => ?_)
  · refine z_goto (tgt := 2334) dL_law_884 (by decide) ?_
    refine z_lv [(0, .ref ((zB + 500))), (1, .ref 0), (2, .ref 89), (3, .ref 103), (4, .int ((nI (6 * i))))] [0, 1, 2, 3, 4] rfl ?_
    rw [← lW_sw]
    exact hnext _ _ _ _ _ _ _ _ _ hC2 hM3
  · refine z_aload_n (j := 3) dL_law_872 rfl ?_
    refine z_iconst (v := 0) dL_law_873 (by decide) ?_
    refine l_aldM (x := v.toInt64) (hz czq869) dL_law_874 ?_
    refine z_iload (j := 6) dL_law_875 rfl ?_
    refine z_i2l dL_law_877 ?_
    refine z_lcmp dL_law_878 ?_
    rw [show lg_cmp v.toInt64 v3.toInt64 = 0 from (lg_cmp_eq _ _).mpr (by rw [ev])]
    refine z_if_eq (tgt := 884) dL_law_879 (by decide) (fun czq879 => ?_) (fun czq879 => absurd rfl czq879)
    refine z_goto (tgt := 2334) dL_law_884 (by decide) ?_
    refine z_lv [(0, .ref ((zB + 500))), (1, .ref 0), (2, .ref 89), (3, .ref 103), (4, .int ((nI (6 * i))))] [0, 1, 2, 3, 4] rfl ?_
    rw [← lW_sw]
    exact hnext _ _ _ _ _ _ _ _ _ hC2 hM3

set_option maxHeartbeats 4000000 in
set_option maxRecDepth 100000 in
theorem L_11 {l : zL} {d kc ks i : Nat} {h : Nat → va_E} {F : Nat → Int64} {sR : Nat → Int32} {aR : Nat → Nat → Int32} {cm : Value} {o u : Nat → Nat → Int32} {s : Nat → Nat → Int32} {a : Nat → Nat → Nat → Int32} {g : zGs} {Q : zQ} (hi : 6 * i + 6 ≤ l.2.1) (hl : l.2.1 ≤ 3072) (hC : cI g o u s a) (hM : mI g sR aR) (hnext : ∀ F' sR' aR' cm' o' u' s' a' g', cI g' o' u' s' a' → mI g' sR' aR' → Zj l mL_law (d + 20) kc ks 2334 [(0, .ref (zB + 500)), (1, .ref 0), (2, .ref 89), (3, .ref 103), (4, .int (nI (6 * i)))] [] 104 (lW h F' sR' aR' cm' o' u' s' a') Q) : Zj l mL_law (d + 20) (kc + 3) (ks + 18) 887 [(0, .ref ((zB + 500))), (1, .ref 0), (2, .ref 89), (3, .ref 103), (4, .int ((nI (6 * i))))] [] 104 (lW h F sR aR cm o u s a) Q := by
  refine z_aload_n (j := 1) dL_law_887 rfl ?_
  refine z_kV [] (0 + 3) (0 + 18) kc ks yoX7_clear yvX7_clear rfl (by decide) lL_153 (by decide) lW_0 rfl rfl (Nat.le_of_ble_eq_true rfl) (Nat.le_of_ble_eq_true rfl) dL_law_888 (by omega) (by omega) (z_room (by omega) (Nat.le_refl _) (Nat.le_refl _) (K_clear (d := 0) (by decide) hC (fun t v g2 cm2 o2 u2 s2 a2 hf hC2 => ?_)))
  show zk mL_law l _ kc ks 888 _ _ 104 Q (oc IAE ISE t v) 104 (lW h F sR aR cm2 o2 u2 s2 a2)
  obtain rfl : t = 0 := T_clear hf
  rw [oc_0]
  refine ⟨rfl, ?_⟩
  rw [lW_sw]
  refine z_aload_n (j := 2) dL_law_891 rfl ?_
  refine z_kV [] 0 0 kc ks yoX8_clear yvX8_clear rfl (by decide) lL_156 (by decide) mW_obj rfl rfl (Nat.le_of_ble_eq_true rfl) (Nat.le_of_ble_eq_true rfl) dL_law_892 (by omega) (by omega) (z_room (by omega) (Nat.le_refl _) (Nat.le_refl _) (R_clear (d := 0) (by decide) hM (fun t3 v3 g3 s3 a3 hf3 hM3 h20 => ⟨rfl, ?_⟩)))
  obtain ⟨et, ev, eg⟩ : 0 = t3 ∧ v = v3 ∧ g2 = g3 := by
    have e9 := hf.symm.trans hf3
    cases e9
    exact ⟨rfl, rfl, rfl⟩
  rw [← eg] at hM3
  refine z_icmp_eq (tgt := 2334) dL_law_895 (by decide) (fun czq895 => ?_) (fun czq895 => absurd ev czq895)
  rw [← lW_sw]
  exact hnext _ _ _ _ _ _ _ _ _ hC2 hM3

set_option maxHeartbeats 4000000 in
set_option maxRecDepth 100000 in
theorem L_12 {l : zL} {d kc ks i : Nat} {h : Nat → va_E} {F : Nat → Int64} {sR : Nat → Int32} {aR : Nat → Nat → Int32} {cm : Value} {o u : Nat → Nat → Int32} {s : Nat → Nat → Int32} {a : Nat → Nat → Nat → Int32} {g : zGs} {Q : zQ} (hi : 6 * i + 6 ≤ l.2.1) (hl : l.2.1 ≤ 3072) (hC : cI g o u s a) (hM : mI g sR aR) (hnext : ∀ F' sR' aR' cm' o' u' s' a' g', cI g' o' u' s' a' → mI g' sR' aR' → Zj l mL_law (d + 20) kc ks 2334 [(0, .ref (zB + 500)), (1, .ref 0), (2, .ref 89), (3, .ref 103), (4, .int (nI (6 * i)))] [] 104 (lW h F' sR' aR' cm' o' u' s' a') Q) : Zj l mL_law (d + 20) (kc + 3) (ks + 18) 900 [(0, .ref ((zB + 500))), (1, .ref 0), (2, .ref 89), (3, .ref 103), (4, .int ((nI (6 * i))))] [] 104 (lW h F sR aR cm o u s a) Q := by
  refine z_aload_n (j := 1) dL_law_900 rfl ?_
  refine z_kV [] (0 + 3) (0 + 18) kc ks yoX7_undo yvX7_undo rfl (by decide) lL_157 (by decide) lW_0 rfl rfl (Nat.le_of_ble_eq_true rfl) (Nat.le_of_ble_eq_true rfl) dL_law_901 (by omega) (by omega) (z_room (by omega) (Nat.le_refl _) (Nat.le_refl _) (K_undo (d := 0) (by decide) hC (fun t v g2 cm2 o2 u2 s2 a2 hf hC2 => ?_)))
  show zk mL_law l _ kc ks 901 _ _ 104 Q (oc IAE ISE t v) 104 (lW h F sR aR cm2 o2 u2 s2 a2)
  obtain rfl : t = 0 := T_undo hf
  rw [oc_0]
  refine ⟨rfl, ?_⟩
  rw [lW_sw]
  refine z_aload_n (j := 2) dL_law_904 rfl ?_
  refine z_kV [] 0 0 kc ks yoX8_undo yvX8_undo rfl (by decide) lL_160 (by decide) mW_obj rfl rfl (Nat.le_of_ble_eq_true rfl) (Nat.le_of_ble_eq_true rfl) dL_law_905 (by omega) (by omega) (z_room (by omega) (Nat.le_refl _) (Nat.le_refl _) (R_undo (d := 0) (by decide) hM (fun t3 v3 g3 s3 a3 hf3 hM3 h20 => ⟨rfl, ?_⟩)))
  obtain ⟨et, ev, eg⟩ : 0 = t3 ∧ v = v3 ∧ g2 = g3 := by
    have e9 := hf.symm.trans hf3
    cases e9
    exact ⟨rfl, rfl, rfl⟩
  rw [← eg] at hM3
  refine z_icmp_eq (tgt := 2334) dL_law_908 (by decide) (fun czq908 => ?_) (fun czq908 => absurd ev czq908)
  rw [← lW_sw]
  exact hnext _ _ _ _ _ _ _ _ _ hC2 hM3

set_option maxHeartbeats 4000000 in
set_option maxRecDepth 100000 in
theorem L_13 {l : zL} {d kc ks i : Nat} {h : Nat → va_E} {F : Nat → Int64} {sR : Nat → Int32} {aR : Nat → Nat → Int32} {cm : Value} {o u : Nat → Nat → Int32} {s : Nat → Nat → Int32} {a : Nat → Nat → Nat → Int32} {g : zGs} {Q : zQ} (hi : 6 * i + 6 ≤ l.2.1) (hl : l.2.1 ≤ 3072) (hC : cI g o u s a) (hM : mI g sR aR) (hnext : ∀ F' sR' aR' cm' o' u' s' a' g', cI g' o' u' s' a' → mI g' sR' aR' → Zj l mL_law (d + 20) kc ks 2334 [(0, .ref (zB + 500)), (1, .ref 0), (2, .ref 89), (3, .ref 103), (4, .int (nI (6 * i)))] [] 104 (lW h F' sR' aR' cm' o' u' s' a') Q) : Zj l mL_law (d + 20) (kc + 3) (ks + 18) 913 [(0, .ref ((zB + 500))), (1, .ref 0), (2, .ref 89), (3, .ref 103), (4, .int ((nI (6 * i))))] [] 104 (lW h F sR aR cm o u s a) Q := by
  refine z_aload_n (j := 1) dL_law_913 rfl ?_
  refine z_kV [] (0 + 3) (0 + 18) kc ks yoX7_undoCount yvX7_undoCount rfl (by decide) lL_161 (by decide) lW_0 rfl rfl (Nat.le_of_ble_eq_true rfl) (Nat.le_of_ble_eq_true rfl) dL_law_914 (by omega) (by omega) (z_room (by omega) (Nat.le_refl _) (Nat.le_refl _) (K_undoCount (d := 0) (by decide) hC (fun t v g2 cm2 o2 u2 s2 a2 hf hC2 => ?_)))
  show zk mL_law l _ kc ks 914 _ _ 104 Q (oc IAE ISE t v) 104 (lW h F sR aR cm2 o2 u2 s2 a2)
  obtain rfl : t = 0 := T_undoCount hf
  rw [oc_0]
  refine ⟨rfl, ?_⟩
  rw [lW_sw]
  refine z_aload_n (j := 2) dL_law_917 rfl ?_
  refine z_kV [] 0 0 kc ks yoX8_undoCount yvX8_undoCount rfl (by decide) lL_164 (by decide) mW_obj rfl rfl (Nat.le_of_ble_eq_true rfl) (Nat.le_of_ble_eq_true rfl) dL_law_918 (by omega) (by omega) (z_room (by omega) (Nat.le_refl _) (Nat.le_refl _) (R_undoCount (d := 0) (by decide) hM (fun t3 v3 g3 s3 a3 hf3 hM3 h20 => ⟨rfl, ?_⟩)))
  obtain ⟨et, ev, eg⟩ : 0 = t3 ∧ v = v3 ∧ g2 = g3 := by
    have e9 := hf.symm.trans hf3
    cases e9
    exact ⟨rfl, rfl, rfl⟩
  rw [← eg] at hM3
  refine z_icmp_eq (tgt := 2334) dL_law_921 (by decide) (fun czq921 => ?_) (fun czq921 => absurd ev czq921)
  rw [← lW_sw]
  exact hnext _ _ _ _ _ _ _ _ _ hC2 hM3
