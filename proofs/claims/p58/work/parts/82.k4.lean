/-! THE CLASS'S OWN METHODS, fourth part: predictions, checks, snapshot, undo -/
theorem up_up {α : Type} {f : Nat → α} {t : Nat} {v w : α} : va_up (va_up f t v) t w = va_up f t w := by
  funext k
  by_cases hk : k = t
  · subst hk; rw [up_eq, up_eq]
  · rw [up_ne hk, up_ne hk, up_ne hk]
theorem sTry_no {S : zS} {key bk : Nat} (h : sFind S key = some bk) : sTry S key = none := by
  unfold sTry; rw [h]
theorem sTry_in {S : zS} {key : Nat} (h : sFind S key = none) : sTry S key = sAdd S key 0 := by
  unfold sTry; rw [h]
theorem sWhy_0 {S : zS} {key bk : Nat} {S' : zS} (h : sFind S key = none) (h2 : sAdd S key 0 = some (bk, S')) : sWhy S key = 0 := by
  unfold sWhy; rw [h]; simp only [h2]
theorem sWhy_1 {S : zS} {key bk : Nat} (h : sFind S key = some bk) : sWhy S key = 1 := by
  unfold sWhy; rw [h]
theorem sWhy_2 {S : zS} {key : Nat} (h : sFind S key = none) (h2 : sAdd S key 0 = none) : sWhy S key = 2 := by
  unfold sWhy; rw [h]; simp only [h2]

set_option maxHeartbeats 4000000 in
set_option maxRecDepth 100000 in
theorem w_try {l : zL} {d kc ks n : Nat} {h : Nat → va_E} {cm : Value} {o u : Nat → Nat → Int32} {s : Nat → Nat → Int32} {a : Nat → Nat → Nat → Int32} {Q : zQ} {S : zS} {key : Nat} (hn : 89 ≤ n) (hT : cT S (s 1) (a 1)) (hkey : key ≤ 9999) (hq1 : ∀ s2 a2, sTry S key = none → Q (.inl (some (.int (-1)))) n (gW h cm o u (va_up s 2 s2) (va_up a 2 a2))) (hq2 : ∀ bk S' s2 a2, sTry S key = some (bk, S') → cT S' s2 a2 → bk < S'.1 → Q (.inl (some (.int (nI bk)))) n (gW h cm o u (va_up s 2 s2) (va_up a 2 a2))) : Zj l mX7_tryToInsert (d + 7) kc ks 0 [(0, .ref 0), (1, .int ((nI key)))] [] n (gW h cm o u s a) Q := by
  refine z_aload_n (j := 0) dX7_tryToInsert_0 rfl ?_
  refine z_get (v := .ref 13) (by omega) gW_0 fX7_28 rfl dX7_tryToInsert_1 ?_
  refine z_iload_n (j := 1) dX7_tryToInsert_4 rfl ?_
  refine z_kV [.int ((nI key))] 0 0 kc ks yoX6_bucketWith yvX6_bucketWith rfl (by decide) lX7_124 (by omega) gW_13T rfl rfl (Nat.le_of_ble_eq_true rfl) (Nat.le_of_ble_eq_true rfl) dX7_tryToInsert_5 (by omega) (by omega) (z_room (by omega) (Nat.le_refl _) (Nat.le_refl _) (g_find (d := 0) (t := 1) (S := S) (by decide) rfl (by omega) hT hkey (fun hf => ⟨rfl, ?_⟩) (fun b1 hf hb1 hK1 => ⟨rfl, ?_⟩)))
  · refine z_iconst (v := (-1)) dX7_tryToInsert_8 (by decide) ?_
    refine z_icmp_eq (tgt := 14) dX7_tryToInsert_9 (by decide) (fun czq9 => ?_) (fun czq9 => absurd rfl czq9)
    refine z_aload_n (j := 0) dX7_tryToInsert_14 rfl ?_
    refine z_get (v := .ref 19) (by omega) gW_0 fX7_32 rfl dX7_tryToInsert_15 ?_
    refine z_aload_n (j := 0) dX7_tryToInsert_18 rfl ?_
    refine z_get (v := .ref 13) (by omega) gW_0 fX7_28 rfl dX7_tryToInsert_19 ?_
    refine z_kV [.ref 13] 0 0 kc ks yoX6_copyFrom yvX6_copyFrom rfl (by decide) lX7_109 (by omega) gW_19T rfl rfl (Nat.le_of_ble_eq_true rfl) (Nat.le_of_ble_eq_true rfl) dX7_tryToInsert_22 (by omega) (by omega) (z_room (by omega) (Nat.le_refl _) (Nat.le_refl _) (g_copy (d := 0) (t := 2) (t2 := 1) (by decide) (by decide) (by decide) rfl rfl (by omega) hT (fun s1 a1 hT1 => ⟨rfl, ?_⟩)))
    refine z_aload_n (j := 0) dX7_tryToInsert_25 rfl ?_
    refine z_get (v := .ref 19) (by omega) gW_0 fX7_32 rfl dX7_tryToInsert_26 ?_
    refine z_iload_n (j := 1) dX7_tryToInsert_29 rfl ?_
    refine z_iconst (v := 0) dX7_tryToInsert_30 (by decide) ?_
    refine z_kV [.int ((nI key)), .int 0] 0 0 kc ks yoX6_insert yvX6_insert rfl (by decide) lX7_60 (by omega) gW_19T rfl rfl (Nat.le_of_ble_eq_true rfl) (Nat.le_of_ble_eq_true rfl) dX7_tryToInsert_31 (by omega) (by omega) (z_room (by omega) (Nat.le_refl _) (Nat.le_refl _) (g_insert (d := 0) (t := 2) (S := S) (by decide) rfl (by omega) (by rw [up_eq, up_eq]; exact hT1) hkey (Nat.zero_le _) hf (fun s2 a2 ea => ⟨rfl, ?_⟩) (fun bk S' s2 a2 ea hT2 hbk => ⟨rfl, ?_⟩)))
    · exact z_iret rfl dX7_tryToInsert_34 (by
          rw [up_up, up_up]
          exact hq1 s2 a2 ((sTry_in hf).trans ea))
    · exact z_iret rfl dX7_tryToInsert_34 (by
          rw [up_up, up_up]
          exact hq2 bk S' s2 a2 ((sTry_in hf).trans ea) hT2 hbk)
  · have hle := hT.okb.le
    refine z_iconst (v := (-1)) dX7_tryToInsert_8 (by decide) ?_
    refine z_icmp_eq (tgt := 14) dX7_tryToInsert_9 (by decide) (fun czq9 => absurd czq9 (nI_neg1 (by omega))) (fun czq9 => ?_)
    refine z_iconst (v := (-1)) dX7_tryToInsert_12 (by decide) ?_
    exact z_iret rfl dX7_tryToInsert_13 (by
        have q := hq1 (s 2) (a 2) (sTry_no hf)
        rw [up_self, up_self] at q
        exact q)

set_option maxHeartbeats 4000000 in
set_option maxRecDepth 100000 in
theorem K_whyNoAdd {l : zL} {d kc ks n : Nat} {h : Nat → va_E} {cm : Value} {o u : Nat → Nat → Int32} {s : Nat → Nat → Int32} {a : Nat → Nat → Nat → Int32} {g : zGs} {Q : zQ} {p : Int32} (hn : 89 ≤ n) (hno : ∀ E n' h', ¬ Q (.inr E) n' h') (hC : cI g o u s a) (hq : ∀ t v g' cm' o' u' s' a', f_whyNoAdd g p = (t, v, g') → cI g' o' u' s' a' → Q (oc IAE ISE t v) n (gW h cm' o' u' s' a')) : Zj l mX7_whyNoAdd (d + 8) kc ks 0 [(0, .ref 0), (1, .int p)] [] n (gW h cm o u s a) Q := by
  obtain ⟨⟨B, H, T, K, V, c⟩, sv, Sn, k, hi, L, x, ek, eo, rl, rb⟩ := g
  obtain ⟨hT, ho05, hsv, hsn, hk8, ho32, ⟨nx, hnx, ho31, hhi⟩, hL, ho11, hu0, hx256, ho210, ho211, hrl, ho41, hu4, hrb⟩ := id hC
  obtain ⟨hR, ⟨hI, hd3, h3⟩, e9, e10, e11, e12, e13, e14, e15⟩ := id hT
  obtain ⟨okb, h2H, hH6, h1T, hT99, e6, e7, e8, ek_, ev_, eh_, ekv, ez⟩ := id hR
  have hle := okb.le
  refine z_iload_n (j := 1) dX7_whyNoAdd_0 rfl ?_
  refine z_kS [.int p] 0 0 kc ks yoX7_needKey ysX7_needKey rfl (by decide) lX7_118 rfl (Nat.le_of_ble_eq_true rfl) (Nat.le_of_ble_eq_true rfl) dX7_whyNoAdd_1 (by omega) (by omega) (z_room (by omega) (Nat.le_refl _) (Nat.le_refl _) (w_needKey (d := 0) (hno := zk_no hno)  (fun ep => ⟨rfl, ?_⟩) (fun ep => ⟨rfl, ?_⟩)))
  · obtain ⟨key, -, hkey, rfl, hkx⟩ := iO_yes 0 9999 (by decide) (by decide) ep
    refine z_aload_n (j := 0) dX7_whyNoAdd_4 rfl ?_
    refine z_get (v := .ref 13) (by omega) gW_0 fX7_28 rfl dX7_whyNoAdd_5 ?_
    refine z_iload_n (j := 1) dX7_whyNoAdd_8 rfl ?_
    refine z_kV [.int ((nI key))] 0 0 kc ks yoX6_bucketWith yvX6_bucketWith rfl (by decide) lX7_124 (by omega) gW_13T rfl rfl (Nat.le_of_ble_eq_true rfl) (Nat.le_of_ble_eq_true rfl) dX7_whyNoAdd_9 (by omega) (by omega) (z_room (by omega) (Nat.le_refl _) (Nat.le_refl _) (g_find (d := 0) (t := 1) (S := (B, H, T, K, V, c)) (by decide) rfl (by omega) hT hkey (fun hf => ⟨rfl, ?_⟩) (fun b1 hf hb1 hK1 => ⟨rfl, ?_⟩)))
    · refine z_iconst (v := (-1)) dX7_whyNoAdd_12 (by decide) ?_
      refine z_icmp_eq (tgt := 18) dX7_whyNoAdd_13 (by decide) (fun czq13 => ?_) (fun czq13 => absurd rfl czq13)
      refine z_aload_n (j := 0) dX7_whyNoAdd_18 rfl ?_
      refine z_iload_n (j := 1) dX7_whyNoAdd_19 rfl ?_
      refine z_kV [.int ((nI key))] 0 0 kc ks yoX7_tryToInsert yvX7_tryToInsert rfl (by decide) lX7_254 (by omega) gW_0 rfl rfl (Nat.le_of_ble_eq_true rfl) (Nat.le_of_ble_eq_true rfl) dX7_whyNoAdd_20 (by omega) (by omega) (z_room (by omega) (Nat.le_refl _) (Nat.le_refl _) (w_try (d := 0) (S := (B, H, T, K, V, c)) (by omega) hT hkey (fun s2 a2 et => ⟨rfl, ?_⟩) (fun bk S' s2 a2 et hT2 hbk => ⟨rfl, ?_⟩)))
      · refine z_iconst (v := (-1)) dX7_whyNoAdd_23 (by decide) ?_
        refine z_icmp_ne (tgt := 31) dX7_whyNoAdd_24 (by decide) (fun czq24 => absurd rfl czq24) (fun czq24 => ?_)
        refine z_iconst (v := 2) dX7_whyNoAdd_27 (by decide) ?_
        refine z_goto (tgt := 32) dX7_whyNoAdd_28 (by decide) ?_
        exact z_iret rfl dX7_whyNoAdd_32 (by
            exact hq 0 _ _ _ _ _ _ _ (by unfold f_whyNoAdd; rw [if_pos ep, hkx]; rw [sWhy_2 hf ((sTry_in hf).symm.trans et)]) hC.trial)
      · have hle2 := hT2.okb.le
        refine z_iconst (v := (-1)) dX7_whyNoAdd_23 (by decide) ?_
        refine z_icmp_ne (tgt := 31) dX7_whyNoAdd_24 (by decide) (fun czq24 => ?_) (fun czq24 => absurd czq24 (nI_neg1 (by omega)))
        refine z_iconst (v := 0) dX7_whyNoAdd_31 (by decide) ?_
        exact z_iret rfl dX7_whyNoAdd_32 (by
            exact hq 0 _ _ _ _ _ _ _ (by unfold f_whyNoAdd; rw [if_pos ep, hkx]; rw [sWhy_0 hf ((sTry_in hf).symm.trans et)]) hC.trial)
    · have hb1 : b1 < B := hb1
      refine z_iconst (v := (-1)) dX7_whyNoAdd_12 (by decide) ?_
      refine z_icmp_eq (tgt := 18) dX7_whyNoAdd_13 (by decide) (fun czq13 => absurd czq13 (nI_neg1 (by omega))) (fun czq13 => ?_)
      refine z_iconst (v := 1) dX7_whyNoAdd_16 (by decide) ?_
      exact z_iret rfl dX7_whyNoAdd_17 (by
          exact hq 0 _ _ _ _ _ _ _ (by unfold f_whyNoAdd; rw [if_pos ep, hkx]; rw [sWhy_1 hf]) hC)
  · exact hq 1 0 _ _ _ _ _ _ (by unfold f_whyNoAdd; rw [if_neg ep]) hC

set_option maxHeartbeats 4000000 in
set_option maxRecDepth 100000 in
theorem K_bucketsWith {l : zL} {d kc ks n : Nat} {h : Nat → va_E} {cm : Value} {o u : Nat → Nat → Int32} {s : Nat → Nat → Int32} {a : Nat → Nat → Nat → Int32} {g : zGs} {Q : zQ} {p : Int32} (hn : 89 ≤ n) (hno : ∀ E n' h', ¬ Q (.inr E) n' h') (hC : cI g o u s a) (hq : ∀ t v g' cm' o' u' s' a', f_bucketsWith g p = (t, v, g') → cI g' o' u' s' a' → Q (oc IAE ISE t v) n (gW h cm' o' u' s' a')) : Zj l mX7_bucketsWith (d + 8) kc ks 0 [(0, .ref 0), (1, .int p)] [] n (gW h cm o u s a) Q := by
  obtain ⟨⟨B, H, T, K, V, c⟩, sv, Sn, k, hi, L, x, ek, eo, rl, rb⟩ := g
  obtain ⟨hT, ho05, hsv, hsn, hk8, ho32, ⟨nx, hnx, ho31, hhi⟩, hL, ho11, hu0, hx256, ho210, ho211, hrl, ho41, hu4, hrb⟩ := id hC
  obtain ⟨hR, ⟨hI, hd3, h3⟩, e9, e10, e11, e12, e13, e14, e15⟩ := id hT
  obtain ⟨okb, h2H, hH6, h1T, hT99, e6, e7, e8, ek_, ev_, eh_, ekv, ez⟩ := id hR
  have hle := okb.le
  refine z_iload_n (j := 1) dX7_bucketsWith_0 rfl ?_
  refine z_kS [.int p] 0 0 kc ks yoX7_isNear ysX7_isNear rfl (by decide) lX7_168 rfl (Nat.le_of_ble_eq_true rfl) (Nat.le_of_ble_eq_true rfl) dX7_bucketsWith_1 (by omega) (by omega) (z_room (by omega) (Nat.le_refl _) (Nat.le_refl _) (w_isNear (d := 0)  ⟨rfl, ?_⟩))
  refine z_if_ne (tgt := 17) dX7_bucketsWith_4 (by decide) (fun czq4 => ?_) (fun czq4 => ?_)
  · have ep := bI_n.mp czq4
    obtain ⟨y, hy1, hy2, rfl, hkx⟩ := iO_yes 2 6 (by decide) (by decide) ep
    refine z_aload_n (j := 0) dX7_bucketsWith_17 rfl ?_
    refine z_get (v := .ref 19) (by omega) gW_0 fX7_32 rfl dX7_bucketsWith_18 ?_
    refine z_aload_n (j := 0) dX7_bucketsWith_21 rfl ?_
    refine z_get (v := .ref 13) (by omega) gW_0 fX7_28 rfl dX7_bucketsWith_22 ?_
    refine z_kV [.ref 13] 0 0 kc ks yoX6_copyFrom yvX6_copyFrom rfl (by decide) lX7_109 (by omega) gW_19T rfl rfl (Nat.le_of_ble_eq_true rfl) (Nat.le_of_ble_eq_true rfl) dX7_bucketsWith_25 (by omega) (by omega) (z_room (by omega) (Nat.le_refl _) (Nat.le_refl _) (g_copy (d := 0) (t := 2) (t2 := 1) (by decide) (by decide) (by decide) rfl rfl (by omega) hT (fun s1 a1 hT1 => ⟨rfl, ?_⟩)))
    refine z_aload_n (j := 0) dX7_bucketsWith_28 rfl ?_
    refine z_get (v := .ref 19) (by omega) gW_0 fX7_32 rfl dX7_bucketsWith_29 ?_
    refine z_iload_n (j := 1) dX7_bucketsWith_32 rfl ?_
    refine z_kV [.int ((nI y))] 0 0 kc ks yoX6_changeNear yvX6_changeNear rfl (by decide) lX7_173 (by omega) gW_19T rfl rfl (Nat.le_of_ble_eq_true rfl) (Nat.le_of_ble_eq_true rfl) dX7_bucketsWith_33 (by omega) (by omega) (z_room (by omega) (Nat.le_refl _) (Nat.le_refl _) (g_near (d := 0) (t := 2) (S := (B, H, T, K, V, c)) (by decide) rfl (by omega) (by rw [up_eq, up_eq]; exact hT1) hy1 hy2 (fun s2 a2 ea => ⟨rfl, ?_⟩) (fun S' s2 a2 ea hT2 => ⟨rfl, ?_⟩)))
    · refine z_if_eq (tgt := 49) dX7_bucketsWith_36 (by decide) (fun czq36 => ?_) (fun czq36 => absurd rfl czq36)
      refine z_iconst (v := (-1)) dX7_bucketsWith_49 (by decide) ?_
      exact z_iret rfl dX7_bucketsWith_50 (by
          rw [up_up, up_up]
          exact hq 0 _ _ _ _ _ _ _ (by unfold f_bucketsWith; rw [if_pos ep, hkx]; simp only [ea] <;> rfl) hC.trial)
    · refine z_if_eq (tgt := 49) dX7_bucketsWith_36 (by decide) (fun czq36 => absurd czq36 (by decide)) (fun czq36 => ?_)
      refine z_aload_n (j := 0) dX7_bucketsWith_39 rfl ?_
      refine z_get (v := .ref 19) (by omega) gW_0 fX7_32 rfl dX7_bucketsWith_40 ?_
      refine z_get (v := .int ((va_up (va_up s 2 s1) 2 s2) 2 6)) (by omega) gW_19T fX7_178 rfl dX7_bucketsWith_43 ?_
      refine z_goto (tgt := 50) dX7_bucketsWith_46 (by decide) ?_
      exact z_iret rfl dX7_bucketsWith_50 (by
          rw [up_up, up_up, show va_up s 2 s2 2 6 = nI S'.1 from by rw [up_eq]; exact hT2.six]
          exact hq 0 _ _ _ _ _ _ _ (by unfold f_bucketsWith; rw [if_pos ep, hkx]; simp only [ea] <;> rfl) hC.trial)
  · exact z_thr hno (hq 1 0 _ _ _ _ _ _ (by unfold f_bucketsWith; exact if_neg (bI_0.mp czq4)) hC)

set_option maxHeartbeats 4000000 in
set_option maxRecDepth 100000 in
theorem K_violations {l : zL} {d kc ks n : Nat} {h : Nat → va_E} {cm : Value} {o u : Nat → Nat → Int32} {s : Nat → Nat → Int32} {a : Nat → Nat → Nat → Int32} {g : zGs} {Q : zQ} (hn : 89 ≤ n) (hC : cI g o u s a) (hq : ∀ t v g' cm' o' u' s' a', f_violations g = (t, v, g') → cI g' o' u' s' a' → Q (oc IAE ISE t v) n (gW h cm' o' u' s' a')) : Zj l mX7_violations (d + 7) kc ks 0 [(0, .ref 0)] [] n (gW h cm o u s a) Q := by
  obtain ⟨⟨B, H, T, K, V, c⟩, sv, Sn, k, hi, L, x, ek, eo, rl, rb⟩ := g
  obtain ⟨hT, ho05, hsv, hsn, hk8, ho32, ⟨nx, hnx, ho31, hhi⟩, hL, ho11, hu0, hx256, ho210, ho211, hrl, ho41, hu4, hrb⟩ := id hC
  obtain ⟨hR, ⟨hI, hd3, h3⟩, e9, e10, e11, e12, e13, e14, e15⟩ := id hT
  obtain ⟨okb, h2H, hH6, h1T, hT99, e6, e7, e8, ek_, ev_, eh_, ekv, ez⟩ := id hR
  have hle := okb.le
  refine z_aload_n (j := 0) dX7_violations_0 rfl ?_
  refine z_get (v := .ref 13) (by omega) gW_0 fX7_28 rfl dX7_violations_1 ?_
  refine z_get (v := .int (s 1 14)) (by omega) gW_13T fX7_268 rfl dX7_violations_4 ?_
  refine z_aload_n (j := 0) dX7_violations_7 rfl ?_
  refine z_get (v := .ref 13) (by omega) gW_0 fX7_28 rfl dX7_violations_8 ?_
  refine z_get (v := .int (s 1 15)) (by omega) gW_13T fX7_271 rfl dX7_violations_11 ?_
  refine z_aload_n (j := 0) dX7_violations_14 rfl ?_
  refine z_get (v := .ref 13) (by omega) gW_0 fX7_28 rfl dX7_violations_15 ?_
  refine z_get (v := .int (s 1 10)) (by omega) gW_13T fX7_115 rfl dX7_violations_18 ?_
  refine z_iadd dX7_violations_21 ?_
  refine z_isub dX7_violations_22 ?_
  refine z_mabs lX7_274 mm_abs1 mm_ini mm_abs2 (Nat.le_of_ble_eq_true rfl) dX7_violations_23 ?_
  rw [show ((s 1 14) - ((s 1 15) + (s 1 10))) = sGap (B, H, T, K, V, c) from by rw [e14, e15, e10]; rfl]
  refine z_istore_n [1, 0] [(0, .ref 0), (1, .int ((if 0 ≤ sGap (B, H, T, K, V, c) then sGap (B, H, T, K, V, c) else 0 - sGap (B, H, T, K, V, c))))] dX7_violations_26 (by decide) rfl ?_
  refine z_aload_n (j := 0) dX7_violations_27 rfl ?_
  refine z_get (v := .ref 13) (by omega) gW_0 fX7_28 rfl dX7_violations_28 ?_
  refine z_kV [] 0 0 kc ks yoX6_strayEntries yvX6_strayEntries rfl (by decide) lX7_279 (by omega) gW_13T rfl rfl (Nat.le_of_ble_eq_true rfl) (Nat.le_of_ble_eq_true rfl) dX7_violations_31 (by omega) (by omega) (z_room (by omega) (Nat.le_refl _) (Nat.le_refl _) (g_strayEntries (d := 0) (t := 1) (by decide) rfl (by omega) hR ⟨rfl, ?_⟩))
  refine z_aload_n (j := 0) dX7_violations_34 rfl ?_
  refine z_get (v := .ref 13) (by omega) gW_0 fX7_28 rfl dX7_violations_35 ?_
  refine z_kV [] 0 0 kc ks yoX6_wrongHops yvX6_wrongHops rfl (by decide) lX7_282 (by omega) gW_13T rfl rfl (Nat.le_of_ble_eq_true rfl) (Nat.le_of_ble_eq_true rfl) dX7_violations_38 (by omega) (by omega) (z_room (by omega) (Nat.le_refl _) (Nat.le_refl _) (g_wrongHops (d := 0) (t := 1) (by decide) rfl (by omega) hR ⟨rfl, ?_⟩))
  refine z_iadd dX7_violations_41 ?_
  refine z_aload_n (j := 0) dX7_violations_42 rfl ?_
  refine z_get (v := .ref 13) (by omega) gW_0 fX7_28 rfl dX7_violations_43 ?_
  refine z_kV [] 0 0 kc ks yoX6_twins yvX6_twins rfl (by decide) lX7_285 (by omega) gW_13T rfl rfl (Nat.le_of_ble_eq_true rfl) (Nat.le_of_ble_eq_true rfl) dX7_violations_46 (by omega) (by omega) (z_room (by omega) (Nat.le_refl _) (Nat.le_refl _) (g_twins (d := 0) (t := 1) (by decide) rfl (by omega) hR ⟨rfl, ?_⟩))
  refine z_iadd dX7_violations_49 ?_
  refine z_iload_n (j := 1) dX7_violations_50 rfl ?_
  refine z_iadd dX7_violations_51 ?_
  exact z_iret rfl dX7_violations_52 (by
      rw [Int32.add_zero]
      exact hq 0 _ _ _ _ _ _ _ rfl hC)

set_option maxHeartbeats 4000000 in
set_option maxRecDepth 100000 in
theorem K_undo {l : zL} {d kc ks n : Nat} {h : Nat → va_E} {cm : Value} {o u : Nat → Nat → Int32} {s : Nat → Nat → Int32} {a : Nat → Nat → Nat → Int32} {g : zGs} {Q : zQ} (hn : 89 ≤ n) (hC : cI g o u s a) (hq : ∀ t v g' cm' o' u' s' a', f_undo g = (t, v, g') → cI g' o' u' s' a' → Q (oc IAE ISE t v) n (gW h cm' o' u' s' a')) : Zj l mX7_undo (d + 8) kc ks 0 [(0, .ref 0)] [] n (gW h cm o u s a) Q := by
  obtain ⟨⟨B, H, T, K, V, c⟩, sv, Sn, k, hi, L, x, ek, eo, rl, rb⟩ := g
  obtain ⟨hT, ho05, hsv, hsn, hk8, ho32, ⟨nx, hnx, ho31, hhi⟩, hL, ho11, hu0, hx256, ho210, ho211, hrl, ho41, hu4, hrb⟩ := id hC
  obtain ⟨hR, ⟨hI, hd3, h3⟩, e9, e10, e11, e12, e13, e14, e15⟩ := id hT
  obtain ⟨okb, h2H, hH6, h1T, hT99, e6, e7, e8, ek_, ev_, eh_, ekv, ez⟩ := id hR
  have hle := okb.le
  refine z_aload_n (j := 0) dX7_undo_0 rfl ?_
  refine z_get (v := .ref 31) (by omega) gW_0 fX7_45 rfl dX7_undo_1 ?_
  refine z_get (v := .int (o 3 2)) (by omega) gW_31 fX7_196 rfl dX7_undo_4 ?_
  refine z_if_ne (tgt := 12) dX7_undo_7 (by decide) (fun czq7 => ?_) (fun czq7 => ?_)
  · refine z_aload_n (j := 0) dX7_undo_12 rfl ?_
    have hk0 : 0 < k := Nat.pos_of_ne_zero (fun q => czq7 (by rw [ho32, q]; rfl))
    have hK := hhi 0 hk0
    have hny : (nx + 8 - 0) % 9 = (if nx = 0 then 8 else nx - 1) := by split <;> omega
    rw [hny] at hK
    refine z_get (v := .ref 31) (by omega) gW_0 fX7_45 rfl dX7_undo_13 ?_
    refine z_aload_n (j := 0) dX7_undo_16 rfl ?_
    refine z_get (v := .ref 13) (by omega) gW_0 fX7_28 rfl dX7_undo_17 ?_
    refine z_kV [.ref 13] 0 0 kc ks yoX2_goBack yvX2_goBack rfl (by decide) lX7_199 (by omega) gW_31 rfl rfl (Nat.le_of_ble_eq_true rfl) (Nat.le_of_ble_eq_true rfl) dX7_undo_20 (by omega) (by omega) (z_room (by omega) (Nat.le_refl _) (Nat.le_refl _) (w_goBack (d := 0) (S := hi 0) hk0 hk8 hnx (by omega) ho31 ho32 hK (fun o1 s2 a2 hT2 k31 k32 ko => ⟨rfl, ?_⟩)))
    refine z_aload_n (j := 0) dX7_undo_23 rfl ?_
    refine z_get (v := .ref 31) (by omega) gW_0 fX7_45 rfl dX7_undo_24 ?_
    refine z_get (v := .int (o1 3 2)) (by omega) gW_31 fX7_196 rfl dX7_undo_27 ?_
    exact z_iret rfl dX7_undo_30 (by
        rw [k32]
        refine hq 0 _ _ _ _ _ _ _ (by unfold f_undo; simp only [if_neg (show ¬ k = 0 by omega)] <;> rfl) ?_
        refine ⟨by rw [up_eq, up_eq]; exact hT2, by rw [ko 0 (by decide)]; exact ho05, hsv, fun e => by rw [up_ne (by decide), up_ne (by decide)]; exact hsn e, by omega, k32, ⟨if nx = 0 then 8 else nx - 1, by split <;> omega, k31, fun j hj => ?_⟩, hL, by rw [ko 1 (by decide)]; exact ho11, hu0, hx256, by rw [ko 2 (by decide)]; exact ho210, by rw [ko 2 (by decide)]; exact ho211, hrl, by rw [ko 4 (by decide)]; exact ho41, hu4, hrb⟩
        rw [show ((if nx = 0 then 8 else nx - 1) + 8 - j) % 9 = (nx + 8 - (j + 1)) % 9 by split <;> omega, up_ne (by omega), up_ne (by omega)]
        exact hhi (j + 1) (by omega))
  · refine z_iconst (v := (-1)) dX7_undo_10 (by decide) ?_
    exact z_iret rfl dX7_undo_11 (by
        have hk0 : k = 0 := (nI_eq (by omega) (by decide)).mp (ho32.symm.trans czq7)
        exact hq 0 _ _ _ _ _ _ _ (by unfold f_undo; simp only [if_pos hk0] <;> rfl) hC)

theorem bstF_skip {S : zS} {n m : Nat} {f : Option Nat} {le : Nat} (h : sWith S m = none) : bstF S (n + 1) m f le = bstF S n (m + 1) f le := by simp [bstF, h]
theorem bstF_take {S : zS} {n m z : Nat} {f : Option Nat} {le : Nat} (h : sWith S m = some z) (h2 : f = none ∨ z < le) : bstF S (n + 1) m f le = bstF S n (m + 1) (some m) z := by simp only [bstF, h]; rw [if_pos h2]
theorem bstF_leave {S : zS} {n m z : Nat} {f : Option Nat} {le : Nat} (h : sWith S m = some z) (h2 : ¬ (f = none ∨ z < le)) : bstF S (n + 1) m f le = bstF S n (m + 1) f le := by simp only [bstF, h]; rw [if_neg h2]
theorem sSum_le {S : zS} {s : Nat → Int32} {a : Nat → Nat → Int32} (h : cT S s a) : sSum S ≤ 64 * 64 := by
  obtain ⟨B, H, T, K, V, c⟩ := S
  have okb := h.1.1
  have hle := okb.le
  have h1 := sumN_le (f := offN B T K) (M := 64) (fun i => offN_le okb i) B
  show sumN (offN B T K) B ≤ 64 * 64
  have h2 : 64 * B ≤ 64 * 64 := Nat.mul_le_mul_left 64 hle.2
  omega

set_option maxHeartbeats 4000000 in
set_option maxRecDepth 100000 in
theorem K_best_l {l : zL} {d kc ks n : Nat} {h : Nat → va_E} {cm : Value} {o u : Nat → Nat → Int32} {g : zGs} {Q : zQ} {M : Nat} (hn : 89 ≤ n) (hM : M ≤ 30) : ∀ j m (f : Option Nat) (le : Nat), m + j = M + 1 → le ≤ 64 * 64 → ∀ (s : Nat → Nat → Int32) (a : Nat → Nat → Nat → Int32), cI g o u s a → (∀ f0, f = some f0 → f0 ≤ 30) → 1 ≤ m → (∀ s2 a2, cI g o u (va_up s 2 s2) (va_up a 2 a2) → Q (.inl (some (.int (optI (bstF g.1 j m f le))))) n (gW h cm o u (va_up s 2 s2) (va_up a 2 a2))) → Zj l mX7_bestMultiplier (d + 8) kc ks 29 [(0, .ref 0), (1, .int ((nI M))), (2, .int ((optI f))), (3, .int ((nI le))), (4, .int ((nI m)))] [] n (gW h cm o u s a) Q := by
  intro j
  induction j with
  | zero =>
    intro m f le hm hle9 s a hC hf30 h1m hq
    refine z_iload (j := 4) dX7_bestMultiplier_29 rfl ?_
    refine z_iload_n (j := 1) dX7_bestMultiplier_31 rfl ?_
    refine z_icmp_gt (tgt := 110) dX7_bestMultiplier_32 (by decide) (fun czq32 => ?_) (fun czq32 => absurd (nI_lt (by omega) (by omega)) czq32)
    refine z_iload_n (j := 2) dX7_bestMultiplier_110 rfl ?_
    exact z_iret rfl dX7_bestMultiplier_111 (by
        have q := hq (s 2) (a 2) (by rw [up_self, up_self]; exact hC)
        rw [up_self, up_self] at q
        exact q)
  | succ j ih =>
    intro m f le hm hle9 s a hC hf30 h1m hq
    obtain ⟨⟨B, H, T, K, V, c⟩, sv, Sn, k, hi, L, x, ek, eo, rl, rb⟩ := g
    obtain ⟨hT, ho05, hsv, hsn, hk8, ho32, ⟨nx, hnx, ho31, hhi⟩, hL, ho11, hu0, hx256, ho210, ho211, hrl, ho41, hu4, hrb⟩ := id hC
    obtain ⟨hR, ⟨hI, hd3, h3⟩, e9, e10, e11, e12, e13, e14, e15⟩ := id hT
    obtain ⟨okb, h2H, hH6, h1T, hT99, e6, e7, e8, ek_, ev_, eh_, ekv, ez⟩ := id hR
    have hle := okb.le
    refine z_iload (j := 4) dX7_bestMultiplier_29 rfl ?_
    refine z_iload_n (j := 1) dX7_bestMultiplier_31 rfl ?_
    refine z_icmp_gt (tgt := 110) dX7_bestMultiplier_32 (by decide) (fun czq32 => absurd czq32 (nI_nlt (by omega) (by omega))) (fun czq32 => ?_)
    refine z_aload_n (j := 0) dX7_bestMultiplier_35 rfl ?_
    refine z_get (v := .ref 19) (by omega) gW_0 fX7_32 rfl dX7_bestMultiplier_36 ?_
    refine z_aload_n (j := 0) dX7_bestMultiplier_39 rfl ?_
    refine z_get (v := .ref 13) (by omega) gW_0 fX7_28 rfl dX7_bestMultiplier_40 ?_
    refine z_kV [.ref 13] 0 0 kc ks yoX6_copyFrom yvX6_copyFrom rfl (by decide) lX7_109 (by omega) gW_19T rfl rfl (Nat.le_of_ble_eq_true rfl) (Nat.le_of_ble_eq_true rfl) dX7_bestMultiplier_43 (by omega) (by omega) (z_room (by omega) (Nat.le_refl _) (Nat.le_refl _) (g_copy (d := 0) (t := 2) (t2 := 1) (by decide) (by decide) (by decide) rfl rfl (by omega) hT (fun s1 a1 hT1 => ⟨rfl, ?_⟩)))
    refine z_aload_n (j := 0) dX7_bestMultiplier_46 rfl ?_
    refine z_get (v := .ref 19) (by omega) gW_0 fX7_32 rfl dX7_bestMultiplier_47 ?_
    refine z_iload (j := 4) dX7_bestMultiplier_50 rfl ?_
    refine z_kV [.int ((nI m))] 0 0 kc ks yoX6_changeTimes yvX6_changeTimes rfl (by decide) lX7_186 (by omega) gW_19T rfl rfl (Nat.le_of_ble_eq_true rfl) (Nat.le_of_ble_eq_true rfl) dX7_bestMultiplier_52 (by omega) (by omega) (z_room (by omega) (Nat.le_refl _) (Nat.le_refl _) (g_times (d := 0) (t := 2) (S := (B, H, T, K, V, c)) (by decide) rfl (by omega) (by rw [up_eq, up_eq]; exact hT1) (show 1 ≤ m by omega) (by omega) (fun s2 a2 ea => ⟨rfl, ?_⟩) (fun S' s2 a2 ea hT2 => ⟨rfl, ?_⟩)))
    · have hsw : sWith (B, H, T, K, V, c) m = none := by
        unfold sWith
        simp only [ea]
      refine z_if_eq (tgt := 104) dX7_bestMultiplier_55 (by decide) (fun czq55 => ?_) (fun czq55 => absurd rfl czq55)
      skip
      refine z_iinc ((nI (m + 1))) [1, 2, 3, 4, 0] [(0, .ref 0), (1, .int ((nI M))), (2, .int ((optI f))), (3, .int ((nI le))), (4, .int ((nI (m + 1))))] dX7_bestMultiplier_104 (j := 4) rfl (nI_1 m) (by decide) rfl ?_
      refine z_goto (tgt := 29) dX7_bestMultiplier_107 (by decide) ?_
      rw [up_up, up_up]
      refine ih (m + 1) f le (by omega) hle9 (va_up s 2 s2) (va_up a 2 a2) hC.trial hf30 (by omega) (fun s3 a3 h9 => ?_)
      rw [up_up, up_up] at h9 ⊢
      have q := hq s3 a3 h9
      rw [bstF_skip hsw] at q
      exact q
    · have h26 : va_up (va_up s 2 s1) 2 s2 2 6 = nI S'.1 := by rw [up_eq]; exact hT2.six
      have h16 : va_up (va_up s 2 s1) 2 s2 1 6 = nI B := by rw [up_ne (by decide), up_ne (by decide)]; exact e6
      have hle2 := hT2.okb.le
      have hsl := sSum_le hT2
      refine z_if_eq (tgt := 104) dX7_bestMultiplier_55 (by decide) (fun czq55 => absurd czq55 (by decide)) (fun czq55 => ?_)
      refine z_aload_n (j := 0) dX7_bestMultiplier_58 rfl ?_
      refine z_get (v := .ref 19) (by omega) gW_0 fX7_32 rfl dX7_bestMultiplier_59 ?_
      refine z_get (v := .int ((va_up (va_up s 2 s1) 2 s2) 2 6)) (by omega) gW_19T fX7_178 rfl dX7_bestMultiplier_62 ?_
      refine z_aload_n (j := 0) dX7_bestMultiplier_65 rfl ?_
      refine z_get (v := .ref 13) (by omega) gW_0 fX7_28 rfl dX7_bestMultiplier_66 ?_
      refine z_get (v := .int ((va_up (va_up s 2 s1) 2 s2) 1 6)) (by omega) gW_13T fX7_178 rfl dX7_bestMultiplier_69 ?_
      refine z_icmp_eq (tgt := 78) dX7_bestMultiplier_72 (by decide) (fun czq72 => ?_) (fun czq72 => ?_)
      · have heB : S'.1 = B := (nI_eq (by omega) (by omega)).mp (by rw [← h26, ← h16]; exact czq72)
        have hsw : sWith (B, H, T, K, V, c) m = some (sSum S') := by
          unfold sWith
          simp only [ea]
          rw [if_pos heB]
        obtain ⟨B', H', T', K', V', c'⟩ := S'
        refine z_aload_n (j := 0) dX7_bestMultiplier_78 rfl ?_
        refine z_get (v := .ref 19) (by omega) gW_0 fX7_32 rfl dX7_bestMultiplier_79 ?_
        refine z_kV [] 0 0 kc ks yoX6_sumOfSteps yvX6_sumOfSteps rfl (by decide) lX7_248 (by omega) gW_19T rfl rfl (Nat.le_of_ble_eq_true rfl) (Nat.le_of_ble_eq_true rfl) dX7_bestMultiplier_82 (by omega) (by omega) (z_room (by omega) (Nat.le_refl _) (Nat.le_refl _) (g_sumOfSteps (d := 0) (t := 2) (B := B') (H := H') (T := T') (K := K') (V := V') (by decide) rfl (by omega) (by rw [up_eq, up_eq]; exact hT2.1) ⟨rfl, ?_⟩))
        have hsl : sumN (offN B' T' K') B' ≤ 64 * 64 := hsl
        refine z_istore [1, 2, 3, 4, 5, 0] [(0, .ref 0), (1, .int ((nI M))), (2, .int ((optI f))), (3, .int ((nI le))), (4, .int ((nI m))), (5, .int ((nI (sumN (offN B' T' K') B'))))] dX7_bestMultiplier_85 (by decide) rfl ?_
        refine z_iload_n (j := 2) dX7_bestMultiplier_87 rfl ?_
        refine z_iconst (v := (-1)) dX7_bestMultiplier_88 (by decide) ?_
        refine z_icmp_eq (tgt := 98) dX7_bestMultiplier_89 (by decide) (fun czq89 => ?_) (fun czq89 => ?_)
        · refine z_iload (j := 4) dX7_bestMultiplier_98 rfl ?_
          refine z_istore_n [1, 2, 0, 3, 4, 5] [(0, .ref 0), (1, .int ((nI M))), (2, .int ((nI m))), (3, .int ((nI le))), (4, .int ((nI m))), (5, .int ((nI (sumN (offN B' T' K') B'))))] dX7_bestMultiplier_100 (by decide) rfl ?_
          refine z_iload (j := 5) dX7_bestMultiplier_101 rfl ?_
          refine z_istore_n [1, 2, 3, 0, 4, 5] [(0, .ref 0), (1, .int ((nI M))), (2, .int ((nI m))), (3, .int ((nI (sumN (offN B' T' K') B')))), (4, .int ((nI m))), (5, .int ((nI (sumN (offN B' T' K') B'))))] dX7_bestMultiplier_103 (by decide) rfl ?_
          skip
          refine z_iinc ((nI (m + 1))) [1, 2, 3, 4, 0, 5] [(0, .ref 0), (1, .int ((nI M))), (2, .int ((nI m))), (3, .int ((nI (sumN (offN B' T' K') B')))), (4, .int ((nI (m + 1)))), (5, .int ((nI (sumN (offN B' T' K') B'))))] dX7_bestMultiplier_104 (j := 4) rfl (nI_1 m) (by decide) rfl ?_
          refine z_goto (tgt := 29) dX7_bestMultiplier_107 (by decide) ?_
          refine z_lv [(0, .ref 0), (1, .int ((nI M))), (2, .int ((nI m))), (3, .int ((nI (sumN (offN B' T' K') B')))), (4, .int ((nI (m + 1))))] [0, 1, 2, 3, 4] rfl ?_
          rw [up_up, up_up]
          refine ih (m + 1) (some m) (sumN (offN B' T' K') B') (by omega) hsl (va_up s 2 s2) (va_up a 2 a2) hC.trial (fun f0 e => by cases e; omega) (by omega) (fun s3 a3 h9 => ?_)
          rw [up_up, up_up] at h9 ⊢
          have q := hq s3 a3 h9
          rw [bstF_take hsw (Or.inl (by
            cases f with
            | none => rfl
            | some f0 => exact absurd czq89 (nI_neg1 (by have := hf30 f0 rfl; omega))))] at q
          exact q
        · refine z_iload (j := 5) dX7_bestMultiplier_92 rfl ?_
          refine z_iload_n (j := 3) dX7_bestMultiplier_94 rfl ?_
          refine z_icmp_ge (tgt := 104) dX7_bestMultiplier_95 (by decide) (fun czq95 => ?_) (fun czq95 => ?_)
          · skip
            refine z_iinc ((nI (m + 1))) [1, 2, 3, 4, 0, 5] [(0, .ref 0), (1, .int ((nI M))), (2, .int ((optI f))), (3, .int ((nI le))), (4, .int ((nI (m + 1)))), (5, .int ((nI (sumN (offN B' T' K') B'))))] dX7_bestMultiplier_104 (j := 4) rfl (nI_1 m) (by decide) rfl ?_
            refine z_goto (tgt := 29) dX7_bestMultiplier_107 (by decide) ?_
            refine z_lv [(0, .ref 0), (1, .int ((nI M))), (2, .int ((optI f))), (3, .int ((nI le))), (4, .int ((nI (m + 1))))] [0, 1, 2, 3, 4] rfl ?_
            rw [up_up, up_up]
            refine ih (m + 1) f le (by omega) hle9 (va_up s 2 s2) (va_up a 2 a2) hC.trial hf30 (by omega) (fun s3 a3 h9 => ?_)
            rw [up_up, up_up] at h9 ⊢
            have q := hq s3 a3 h9
            rw [bstF_leave hsw (fun q => q.elim (fun e => czq89 (by rw [e]; rfl)) (fun e => nI_ge (show sSum (B', H', T', K', V', c') < le from e) (by omega) czq95))] at q
            exact q
          · refine z_iload (j := 4) dX7_bestMultiplier_98 rfl ?_
            refine z_istore_n [1, 2, 0, 3, 4, 5] [(0, .ref 0), (1, .int ((nI M))), (2, .int ((nI m))), (3, .int ((nI le))), (4, .int ((nI m))), (5, .int ((nI (sumN (offN B' T' K') B'))))] dX7_bestMultiplier_100 (by decide) rfl ?_
            refine z_iload (j := 5) dX7_bestMultiplier_101 rfl ?_
            refine z_istore_n [1, 2, 3, 0, 4, 5] [(0, .ref 0), (1, .int ((nI M))), (2, .int ((nI m))), (3, .int ((nI (sumN (offN B' T' K') B')))), (4, .int ((nI m))), (5, .int ((nI (sumN (offN B' T' K') B'))))] dX7_bestMultiplier_103 (by decide) rfl ?_
            skip
            refine z_iinc ((nI (m + 1))) [1, 2, 3, 4, 0, 5] [(0, .ref 0), (1, .int ((nI M))), (2, .int ((nI m))), (3, .int ((nI (sumN (offN B' T' K') B')))), (4, .int ((nI (m + 1)))), (5, .int ((nI (sumN (offN B' T' K') B'))))] dX7_bestMultiplier_104 (j := 4) rfl (nI_1 m) (by decide) rfl ?_
            refine z_goto (tgt := 29) dX7_bestMultiplier_107 (by decide) ?_
            refine z_lv [(0, .ref 0), (1, .int ((nI M))), (2, .int ((nI m))), (3, .int ((nI (sumN (offN B' T' K') B')))), (4, .int ((nI (m + 1))))] [0, 1, 2, 3, 4] rfl ?_
            rw [up_up, up_up]
            refine ih (m + 1) (some m) (sumN (offN B' T' K') B') (by omega) hsl (va_up s 2 s2) (va_up a 2 a2) hC.trial (fun f0 e => by cases e; omega) (by omega) (fun s3 a3 h9 => ?_)
            rw [up_up, up_up] at h9 ⊢
            have q := hq s3 a3 h9
            rw [bstF_take hsw (Or.inr (show sSum (B', H', T', K', V', c') < le from by
              have h9 : sumN (offN B' T' K') B' < le ∨ le ≤ sumN (offN B' T' K') B' := by omega
              rcases h9 with h9 | h9
              · exact h9
              · exact absurd (nI_le h9 (by omega)) czq95))] at q
            exact q
      · have hne : ¬ S'.1 = B := fun q => czq72 (by rw [h26, h16, q])
        have hsw : sWith (B, H, T, K, V, c) m = none := by
          unfold sWith
          simp only [ea]
          rw [if_neg hne]
        refine z_goto (tgt := 104) dX7_bestMultiplier_75 (by decide) ?_
        skip
        refine z_iinc ((nI (m + 1))) [1, 2, 3, 4, 0] [(0, .ref 0), (1, .int ((nI M))), (2, .int ((optI f))), (3, .int ((nI le))), (4, .int ((nI (m + 1))))] dX7_bestMultiplier_104 (j := 4) rfl (nI_1 m) (by decide) rfl ?_
        refine z_goto (tgt := 29) dX7_bestMultiplier_107 (by decide) ?_
        rw [up_up, up_up]
        refine ih (m + 1) f le (by omega) hle9 (va_up s 2 s2) (va_up a 2 a2) hC.trial hf30 (by omega) (fun s3 a3 h9 => ?_)
        rw [up_up, up_up] at h9 ⊢
        have q := hq s3 a3 h9
        rw [bstF_skip hsw] at q
        exact q

set_option maxHeartbeats 4000000 in
set_option maxRecDepth 100000 in
theorem K_bestMultiplier {l : zL} {d kc ks n : Nat} {h : Nat → va_E} {cm : Value} {o u : Nat → Nat → Int32} {s : Nat → Nat → Int32} {a : Nat → Nat → Nat → Int32} {g : zGs} {Q : zQ} {p : Int32} (hn : 89 ≤ n) (hno : ∀ E n' h', ¬ Q (.inr E) n' h') (hC : cI g o u s a) (hq : ∀ t v g' cm' o' u' s' a', f_bestMultiplier g p = (t, v, g') → cI g' o' u' s' a' → Q (oc IAE ISE t v) n (gW h cm' o' u' s' a')) : Zj l mX7_bestMultiplier (d + 8) kc ks 0 [(0, .ref 0), (1, .int p)] [] n (gW h cm o u s a) Q := by
  obtain ⟨⟨B, H, T, K, V, c⟩, sv, Sn, k, hi, L, x, ek, eo, rl, rb⟩ := g
  obtain ⟨hT, ho05, hsv, hsn, hk8, ho32, ⟨nx, hnx, ho31, hhi⟩, hL, ho11, hu0, hx256, ho210, ho211, hrl, ho41, hu4, hrb⟩ := id hC
  obtain ⟨hR, ⟨hI, hd3, h3⟩, e9, e10, e11, e12, e13, e14, e15⟩ := id hT
  obtain ⟨okb, h2H, hH6, h1T, hT99, e6, e7, e8, ek_, ev_, eh_, ekv, ez⟩ := id hR
  have hle := okb.le
  refine z_iload_n (j := 1) dX7_bestMultiplier_0 rfl ?_
  refine z_iconst (v := 1) dX7_bestMultiplier_1 (by decide) ?_
  refine z_icmp_lt (tgt := 11) dX7_bestMultiplier_2 (by decide) (fun czq2 => ?_) (fun czq2 => ?_)
  · exact z_thr hno (hq 1 0 _ _ _ _ _ _ (by unfold f_bestMultiplier; exact if_neg (iO_f1 czq2)) hC)
  · refine z_iload_n (j := 1) dX7_bestMultiplier_5 rfl ?_
    refine z_bipush (v := 30) dX7_bestMultiplier_6 (by decide) ?_
    refine z_icmp_le (tgt := 22) dX7_bestMultiplier_8 (by decide) (fun czq8 => ?_) (fun czq8 => ?_)
    · have ep : iO 1 30 p = true := iO_t czq2 (Int32.not_lt.mpr czq8)
      obtain ⟨M, hM1, hM2, rfl, hMx⟩ := iO_yes 1 30 (by decide) (by decide) ep
      refine z_iconst (v := (-1)) dX7_bestMultiplier_22 (by decide) ?_
      refine z_istore_n [1, 2, 0] [(0, .ref 0), (1, .int ((nI M))), (2, .int ((-1)))] dX7_bestMultiplier_23 (by decide) rfl ?_
      refine z_iconst (v := 0) dX7_bestMultiplier_24 (by decide) ?_
      refine z_istore_n [1, 2, 3, 0] [(0, .ref 0), (1, .int ((nI M))), (2, .int ((-1))), (3, .int 0)] dX7_bestMultiplier_25 (by decide) rfl ?_
      refine z_iconst (v := 1) dX7_bestMultiplier_26 (by decide) ?_
      refine z_istore [1, 2, 3, 4, 0] [(0, .ref 0), (1, .int ((nI M))), (2, .int ((-1))), (3, .int 0), (4, .int 1)] dX7_bestMultiplier_27 (by decide) rfl ?_
      refine z_room (Nat.le_refl _) (by omega) (by omega) (K_best_l (d := d) (kc := kc) (ks := ks) hn hM2 M 1 none 0 (by omega) (by omega) s a hC (fun f0 e => by cases e) (by omega) (fun s2 a2 h9 => ?_))
      exact hq 0 _ _ _ _ _ _ _ (by unfold f_bestMultiplier; rw [if_pos ep, hMx]) h9
    · exact z_thr hno (hq 1 0 _ _ _ _ _ _ (by unfold f_bestMultiplier; exact if_neg (iO_f2 (Int32.not_le.mp czq8))) hC)
