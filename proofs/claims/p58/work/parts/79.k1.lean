/-! THE CLASS'S OWN METHODS, first part: static tests, history -/
theorem gW_4T {h : Nat → va_E} {cm : Value} {o u : Nat → Nat → Int32} {s : Nat → Nat → Int32} {a : Nat → Nat → Nat → Int32} : gW h cm o u s a 4 = .inr (4, tF 4 (s 0)) := gW_obj (t := 0) (by decide)
theorem gW_13T {h : Nat → va_E} {cm : Value} {o u : Nat → Nat → Int32} {s : Nat → Nat → Int32} {a : Nat → Nat → Nat → Int32} : gW h cm o u s a 13 = .inr (4, tF 13 (s 1)) := gW_obj (t := 1) (by decide)
theorem gW_19T {h : Nat → va_E} {cm : Value} {o u : Nat → Nat → Int32} {s : Nat → Nat → Int32} {a : Nat → Nat → Nat → Int32} : gW h cm o u s a 19 = .inr (4, tF 19 (s 2)) := gW_obj (t := 2) (by decide)
theorem gW_25T {h : Nat → va_E} {cm : Value} {o u : Nat → Nat → Int32} {s : Nat → Nat → Int32} {a : Nat → Nat → Nat → Int32} : gW h cm o u s a 25 = .inr (4, tF 25 (s 3)) := gW_obj (t := 3) (by decide)
theorem rg_tp {i : Nat} : 33 + 6 * i = tp (4 + i) := by
  unfold tp
  rw [if_neg (by omega), if_neg (by omega)]
  omega
theorem gW_rg {h : Nat → va_E} {cm : Value} {o u : Nat → Nat → Int32} {s : Nat → Nat → Int32} {a : Nat → Nat → Nat → Int32} {i : Nat} (hi : i < 9) : gW h cm o u s a (33 + 6 * i) = .inr (4, tF (33 + 6 * i) (s (4 + i))) := by
  rw [rg_tp]
  exact gW_obj (t := 4 + i) (by omega)
theorem iO_t {x a b : Int32} (h1 : ¬ x < a) (h2 : ¬ b < x) : iO a b x = true := by
  simp only [iO, Bool.and_eq_true, decide_eq_true_eq]
  exact ⟨Int32.not_lt.mp h1, Int32.not_lt.mp h2⟩
theorem iO_f1 {x a b : Int32} (h1 : x < a) : ¬ iO a b x = true := by
  simp only [iO, Bool.and_eq_true, decide_eq_true_eq]
  exact fun q => Int32.not_lt.mpr q.1 h1
theorem iO_f2 {x a b : Int32} (h1 : b < x) : ¬ iO a b x = true := by
  simp only [iO, Bool.and_eq_true, decide_eq_true_eq]
  exact fun q => Int32.not_lt.mpr q.2 h1

set_option maxHeartbeats 4000000 in
set_option maxRecDepth 100000 in
theorem w_isKey {l : zL} {d kc ks n : Nat} {h : Nat → va_E} {p : Int32} {Q : zQ} (hq : Q (.inl (some (.int (bI (iO 0 9999 p = true))))) n h) : Zj l mX7_isKey d kc ks 0 [(0, .int p)] [] n h Q := by
  refine z_iload_n (j := 0) dX7_isKey_0 rfl ?_
  refine z_if_lt (tgt := 15) dX7_isKey_1 (by decide) (fun czq1 => ?_) (fun czq1 => ?_)
  · refine z_iconst (v := 0) dX7_isKey_15 (by decide) ?_
    exact z_zret rfl rfl dX7_isKey_16 (by
        rw [bI_f (iO_f1 czq1)] at hq
        exact hq)
  · refine z_iload_n (j := 0) dX7_isKey_4 rfl ?_
    refine z_sipush (v := 9999) dX7_isKey_5 (by decide) ?_
    refine z_icmp_gt (tgt := 15) dX7_isKey_8 (by decide) (fun czq8 => ?_) (fun czq8 => ?_)
    · refine z_iconst (v := 0) dX7_isKey_15 (by decide) ?_
      exact z_zret rfl rfl dX7_isKey_16 (by
          rw [bI_f (iO_f2 czq8)] at hq
          exact hq)
    · refine z_iconst (v := 1) dX7_isKey_11 (by decide) ?_
      refine z_goto (tgt := 16) dX7_isKey_12 (by decide) ?_
      exact z_zret rfl rfl dX7_isKey_16 (by
          rw [bI_t (iO_t czq1 czq8)] at hq
          exact hq)

set_option maxHeartbeats 4000000 in
set_option maxRecDepth 100000 in
theorem w_isValue {l : zL} {d kc ks n : Nat} {h : Nat → va_E} {p : Int32} {Q : zQ} (hq : Q (.inl (some (.int (bI (iO 0 999 p = true))))) n h) : Zj l mX7_isValue d kc ks 0 [(0, .int p)] [] n h Q := by
  refine z_iload_n (j := 0) dX7_isValue_0 rfl ?_
  refine z_if_lt (tgt := 15) dX7_isValue_1 (by decide) (fun czq1 => ?_) (fun czq1 => ?_)
  · refine z_iconst (v := 0) dX7_isValue_15 (by decide) ?_
    exact z_zret rfl rfl dX7_isValue_16 (by
        rw [bI_f (iO_f1 czq1)] at hq
        exact hq)
  · refine z_iload_n (j := 0) dX7_isValue_4 rfl ?_
    refine z_sipush (v := 999) dX7_isValue_5 (by decide) ?_
    refine z_icmp_gt (tgt := 15) dX7_isValue_8 (by decide) (fun czq8 => ?_) (fun czq8 => ?_)
    · refine z_iconst (v := 0) dX7_isValue_15 (by decide) ?_
      exact z_zret rfl rfl dX7_isValue_16 (by
          rw [bI_f (iO_f2 czq8)] at hq
          exact hq)
    · refine z_iconst (v := 1) dX7_isValue_11 (by decide) ?_
      refine z_goto (tgt := 16) dX7_isValue_12 (by decide) ?_
      exact z_zret rfl rfl dX7_isValue_16 (by
          rw [bI_t (iO_t czq1 czq8)] at hq
          exact hq)

set_option maxHeartbeats 4000000 in
set_option maxRecDepth 100000 in
theorem w_isNear {l : zL} {d kc ks n : Nat} {h : Nat → va_E} {p : Int32} {Q : zQ} (hq : Q (.inl (some (.int (bI (iO 2 6 p = true))))) n h) : Zj l mX7_isNear d kc ks 0 [(0, .int p)] [] n h Q := by
  refine z_iload_n (j := 0) dX7_isNear_0 rfl ?_
  refine z_iconst (v := 2) dX7_isNear_1 (by decide) ?_
  refine z_icmp_lt (tgt := 15) dX7_isNear_2 (by decide) (fun czq2 => ?_) (fun czq2 => ?_)
  · refine z_iconst (v := 0) dX7_isNear_15 (by decide) ?_
    exact z_zret rfl rfl dX7_isNear_16 (by
        rw [bI_f (iO_f1 czq2)] at hq
        exact hq)
  · refine z_iload_n (j := 0) dX7_isNear_5 rfl ?_
    refine z_bipush (v := 6) dX7_isNear_6 (by decide) ?_
    refine z_icmp_gt (tgt := 15) dX7_isNear_8 (by decide) (fun czq8 => ?_) (fun czq8 => ?_)
    · refine z_iconst (v := 0) dX7_isNear_15 (by decide) ?_
      exact z_zret rfl rfl dX7_isNear_16 (by
          rw [bI_f (iO_f2 czq8)] at hq
          exact hq)
    · refine z_iconst (v := 1) dX7_isNear_11 (by decide) ?_
      refine z_goto (tgt := 16) dX7_isNear_12 (by decide) ?_
      exact z_zret rfl rfl dX7_isNear_16 (by
          rw [bI_t (iO_t czq2 czq8)] at hq
          exact hq)

set_option maxHeartbeats 4000000 in
set_option maxRecDepth 100000 in
theorem w_isTimes {l : zL} {d kc ks n : Nat} {h : Nat → va_E} {p : Int32} {Q : zQ} (hq : Q (.inl (some (.int (bI (iO 1 99 p = true))))) n h) : Zj l mX7_isTimes d kc ks 0 [(0, .int p)] [] n h Q := by
  refine z_iload_n (j := 0) dX7_isTimes_0 rfl ?_
  refine z_iconst (v := 1) dX7_isTimes_1 (by decide) ?_
  refine z_icmp_lt (tgt := 15) dX7_isTimes_2 (by decide) (fun czq2 => ?_) (fun czq2 => ?_)
  · refine z_iconst (v := 0) dX7_isTimes_15 (by decide) ?_
    exact z_zret rfl rfl dX7_isTimes_16 (by
        rw [bI_f (iO_f1 czq2)] at hq
        exact hq)
  · refine z_iload_n (j := 0) dX7_isTimes_5 rfl ?_
    refine z_bipush (v := 99) dX7_isTimes_6 (by decide) ?_
    refine z_icmp_gt (tgt := 15) dX7_isTimes_8 (by decide) (fun czq8 => ?_) (fun czq8 => ?_)
    · refine z_iconst (v := 0) dX7_isTimes_15 (by decide) ?_
      exact z_zret rfl rfl dX7_isTimes_16 (by
          rw [bI_f (iO_f2 czq8)] at hq
          exact hq)
    · refine z_iconst (v := 1) dX7_isTimes_11 (by decide) ?_
      refine z_goto (tgt := 16) dX7_isTimes_12 (by decide) ?_
      exact z_zret rfl rfl dX7_isTimes_16 (by
          rw [bI_t (iO_t czq2 czq8)] at hq
          exact hq)

set_option maxHeartbeats 4000000 in
set_option maxRecDepth 100000 in
theorem w_needKey {l : zL} {d kc ks n : Nat} {h : Nat → va_E} {p : Int32} {Q : zQ} (hno : ∀ E n' h', ¬ Q (.inr E) n' h') (hqT : iO 0 9999 p = true → Q (.inl none) n h) (hqF : ¬ iO 0 9999 p = true → Q (.inr IAE) n h) : Zj l mX7_needKey (d + 1) kc ks 0 [(0, .int p)] [] n h Q := by
  refine z_iload_n (j := 0) dX7_needKey_0 rfl ?_
  refine z_kS [.int p] 0 0 kc ks yoX7_isKey ysX7_isKey rfl (by decide) lX7_144 rfl (Nat.le_of_ble_eq_true rfl) (Nat.le_of_ble_eq_true rfl) dX7_needKey_1 (by omega) (by omega) (z_room (by omega) (Nat.le_refl _) (Nat.le_refl _) (w_isKey (d := 0)  ⟨rfl, ?_⟩))
  refine z_if_ne (tgt := 18) dX7_needKey_4 (by decide) (fun czq4 => ?_) (fun czq4 => ?_)
  · exact z_vret rfl dX7_needKey_18 (hqT (bI_n.mp czq4))
  · exact z_thr hno (hqF (bI_0.mp czq4))

set_option maxHeartbeats 4000000 in
set_option maxRecDepth 100000 in
theorem w_needValue {l : zL} {d kc ks n : Nat} {h : Nat → va_E} {p : Int32} {Q : zQ} (hno : ∀ E n' h', ¬ Q (.inr E) n' h') (hqT : iO 0 999 p = true → Q (.inl none) n h) (hqF : ¬ iO 0 999 p = true → Q (.inr IAE) n h) : Zj l mX7_needValue (d + 1) kc ks 0 [(0, .int p)] [] n h Q := by
  refine z_iload_n (j := 0) dX7_needValue_0 rfl ?_
  refine z_kS [.int p] 0 0 kc ks yoX7_isValue ysX7_isValue rfl (by decide) lX7_301 rfl (Nat.le_of_ble_eq_true rfl) (Nat.le_of_ble_eq_true rfl) dX7_needValue_1 (by omega) (by omega) (z_room (by omega) (Nat.le_refl _) (Nat.le_refl _) (w_isValue (d := 0)  ⟨rfl, ?_⟩))
  refine z_if_ne (tgt := 18) dX7_needValue_4 (by decide) (fun czq4 => ?_) (fun czq4 => ?_)
  · exact z_vret rfl dX7_needValue_18 (hqT (bI_n.mp czq4))
  · exact z_thr hno (hqF (bI_0.mp czq4))

set_option maxHeartbeats 4000000 in
set_option maxRecDepth 100000 in
theorem w_hasBucketG {l : zL} {d kc ks n b B H T : Nat} {h : Nat → va_E} {K V : Nat → Nat} {s : Nat → Int32} {a : Nat → Nat → Int32} {Q : zQ} {p : Int32} (hb : b + 6 ≤ n) (hR : tR B H T K V s a) (hq : Q (.inl (some (.int (bI (iO 0 (nI (B - 1)) p = true))))) n (tW h b s a)) : Zj l mX6_hasBucket d kc ks 0 [(0, .ref b), (1, .int p)] [] n (tW h b s a) Q := by
  obtain ⟨okb, h2H, hH6, h1T, hT99, e6, e7, e8, ek, ev, eh, ekv, ez⟩ := id hR
  have hle := okb.le
  refine z_iload_n (j := 1) dX6_hasBucket_0 rfl ?_
  refine z_if_lt (tgt := 22) dX6_hasBucket_1 (by decide) (fun czq1 => ?_) (fun czq1 => ?_)
  · refine z_iconst (v := 0) dX6_hasBucket_22 (by decide) ?_
    exact z_zret rfl rfl dX6_hasBucket_23 (by
        rw [bI_f (iO_f1 czq1)] at hq
        exact hq)
  · refine z_iload_n (j := 1) dX6_hasBucket_4 rfl ?_
    refine z_aload_n (j := 0) dX6_hasBucket_5 rfl ?_
    refine z_get (v := .int (s 6)) (by omega) tW_obj fX6_64 rfl dX6_hasBucket_6 ?_
    refine z_icmp_ge (tgt := 22) dX6_hasBucket_9 (by decide) (fun czq9 => ?_) (fun czq9 => ?_)
    · refine z_iconst (v := 0) dX6_hasBucket_22 (by decide) ?_
      exact z_zret rfl rfl dX6_hasBucket_23 (by
          have hle := okb.le
          rw [e6] at czq9
          rw [bI_f (iO_f2 (Int32.lt_of_lt_of_le (nI_lt (show B - 1 < B by omega) (by omega)) czq9))] at hq
          exact hq)
    · refine z_iload_n (j := 1) dX6_hasBucket_12 rfl ?_
      refine z_bipush (v := 64) dX6_hasBucket_13 (by decide) ?_
      refine z_icmp_ge (tgt := 22) dX6_hasBucket_15 (by decide) (fun czq15 => ?_) (fun czq15 => ?_)
      · refine z_iconst (v := 0) dX6_hasBucket_22 (by decide) ?_
        exact z_zret rfl rfl dX6_hasBucket_23 (by
            have hle := okb.le
            rw [e6] at czq9
            exact absurd (Int32.le_trans (nI_le (show B ≤ 64 by omega) (by decide)) czq15) czq9)
      · refine z_iconst (v := 1) dX6_hasBucket_18 (by decide) ?_
        refine z_goto (tgt := 23) dX6_hasBucket_19 (by decide) ?_
        exact z_zret rfl rfl dX6_hasBucket_23 (by
            have hle := okb.le
            rw [e6] at czq9
            have h2 : ¬ nI (B - 1) < p := fun q => czq9 (by
              obtain ⟨z, hz1, hz2⟩ := nI_of czq1
              subst hz2
              have a1 := (nI_ltI (by omega) (by omega)).mp q
              exact nI_le (by omega) hz1)
            rw [bI_t (iO_t czq1 h2)] at hq
            exact hq)

theorem g_hasBucketG {l : zL} {d kc ks n b B H T : Nat} {h : Nat → va_E} {cm : Value} {o u : Nat → Nat → Int32} {s : Nat → Nat → Int32} {a : Nat → Nat → Nat → Int32} {t : Nat} {K V : Nat → Nat} {Q : zQ} {p : Int32} (ht : t < 13) (hbt : b = tp t) (hn : 89 ≤ n) (hR : tR B H T K V (s t) (a t)) (hq : Q (.inl (some (.int (bI (iO 0 (nI (B - 1)) p = true))))) n (gW h cm o u s a)) : Zj l mX6_hasBucket d kc ks 0 [(0, .ref b), (1, .int p)] [] n (gW h cm o u s a) Q := by
  subst hbt
  have hle := tp_le ht
  rw [← gT_eq ht]
  exact w_hasBucketG (by omega) hR (by rw [gT_eq ht]; exact hq)

set_option maxHeartbeats 4000000 in
set_option maxRecDepth 100000 in
theorem w_needBucket {l : zL} {d kc ks n : Nat} {h : Nat → va_E} {cm : Value} {o u : Nat → Nat → Int32} {s : Nat → Nat → Int32} {a : Nat → Nat → Nat → Int32} {Q : zQ} {B H T : Nat} {K V : Nat → Nat} {p : Int32} (hn : 89 ≤ n) (hR : tR B H T K V (s 1) (a 1)) (hno : ∀ E n' h', ¬ Q (.inr E) n' h') (hqT : iO 0 (nI (B - 1)) p = true → Q (.inl none) n (gW h cm o u s a)) (hqF : ¬ iO 0 (nI (B - 1)) p = true → Q (.inr IOE) n (gW h cm o u s a)) : Zj l mX7_needBucket (d + 1) kc ks 0 [(0, .ref 0), (1, .int p)] [] n (gW h cm o u s a) Q := by
  refine z_aload_n (j := 0) dX7_needBucket_0 rfl ?_
  refine z_get (v := .ref 13) (by omega) gW_0 fX7_28 rfl dX7_needBucket_1 ?_
  refine z_iload_n (j := 1) dX7_needBucket_4 rfl ?_
  refine z_kV [.int p] 0 0 kc ks yoX6_hasBucket yvX6_hasBucket rfl (by decide) lX7_306 (by omega) gW_13T rfl rfl (Nat.le_of_ble_eq_true rfl) (Nat.le_of_ble_eq_true rfl) dX7_needBucket_5 (by omega) (by omega) (z_room (by omega) (Nat.le_refl _) (Nat.le_refl _) (g_hasBucketG (d := 0) (t := 1) (by decide) rfl (by omega) hR ⟨rfl, ?_⟩))
  refine z_if_ne (tgt := 22) dX7_needBucket_8 (by decide) (fun czq8 => ?_) (fun czq8 => ?_)
  · exact z_vret rfl dX7_needBucket_22 (hqT (bI_n.mp czq8))
  · exact z_thr hno (hqF (bI_0.mp czq8))

set_option maxHeartbeats 4000000 in
set_option maxRecDepth 100000 in
theorem w_nextPlace {l : zL} {d kc ks n : Nat} {h : Nat → va_E} {cm : Value} {o u : Nat → Nat → Int32} {s : Nat → Nat → Int32} {a : Nat → Nat → Nat → Int32} {Q : zQ} {nx : Nat} (hnx : nx < 9) (hn : 89 ≤ n) (e31 : o 3 1 = nI nx) (hq : Q (.inl (some (.ref (33 + 6 * nx)))) n (gW h cm o u s a)) : Zj l mX2_nextPlace d kc ks 0 [(0, .ref 31)] [] n (gW h cm o u s a) Q := by
  refine z_aload_n (j := 0) dX2_nextPlace_0 rfl ?_
  refine z_get (v := .int (o 3 1)) (by omega) gW_31 fX2_24 rfl dX2_nextPlace_1 ?_
  refine z_if_lt (tgt := 31) dX2_nextPlace_4 (by decide) (fun czq4 => absurd czq4 (by rw [e31]; exact nI_pos (by omega))) (fun czq4 => ?_)
  refine z_aload_n (j := 0) dX2_nextPlace_7 rfl ?_
  refine z_get (v := .int (o 3 1)) (by omega) gW_31 fX2_24 rfl dX2_nextPlace_8 ?_
  refine z_aload_n (j := 0) dX2_nextPlace_11 rfl ?_
  refine z_get (v := .ref 32) (by omega) gW_31 fX2_11 rfl dX2_nextPlace_12 ?_
  refine z_alen (by omega) gW_32 (by decide) rfl dX2_nextPlace_15 ?_
  refine z_icmp_ge (tgt := 31) dX2_nextPlace_16 (by decide) (fun czq16 => absurd czq16 (by rw [e31]; exact nI_ge hnx (by decide))) (fun czq16 => ?_)
  refine z_aload_n (j := 0) dX2_nextPlace_19 rfl ?_
  refine z_get (v := .ref 32) (by omega) gW_31 fX2_11 rfl dX2_nextPlace_20 ?_
  refine z_aload_n (j := 0) dX2_nextPlace_23 rfl ?_
  refine z_get (v := .int (o 3 1)) (by omega) gW_31 fX2_24 rfl dX2_nextPlace_24 ?_
  rw [e31]
  refine g_arl (i := nx) (by omega) hnx dX2_nextPlace_27 ?_
  refine z_goto (tgt := 32) dX2_nextPlace_28 (by decide) ?_
  exact z_aret rfl (Or.inl ⟨_, rfl⟩) dX2_nextPlace_32 (hq)

set_option maxHeartbeats 4000000 in
set_option maxRecDepth 100000 in
theorem w_mark {l : zL} {d kc ks n : Nat} {h : Nat → va_E} {cm : Value} {o u : Nat → Nat → Int32} {s : Nat → Nat → Int32} {a : Nat → Nat → Nat → Int32} {Q : zQ} {S : zS} {nx : Nat} (hnx : nx < 9) (hn : 89 ≤ n) (e31 : o 3 1 = nI nx) (hT : cT S (s 1) (a 1)) (hq : ∀ s' a', cT S s' a' → Q (.inl none) n (gW h cm o u (va_up s (4 + nx) s') (va_up a (4 + nx) a'))) : Zj l mX2_mark (d + 1) kc ks 0 [(0, .ref 31), (1, .ref 13)] [] n (gW h cm o u s a) Q := by
  refine z_aload_n (j := 0) dX2_mark_0 rfl ?_
  refine z_kV [] 0 0 kc ks yoX2_nextPlace yvX2_nextPlace rfl (by decide) lX2_16 (by omega) gW_31 rfl rfl (Nat.le_of_ble_eq_true rfl) (Nat.le_of_ble_eq_true rfl) dX2_mark_1 (by omega) (by omega) (z_room (by omega) (Nat.le_refl _) (Nat.le_refl _) (w_nextPlace (d := 0) hnx hn e31 ⟨rfl, ?_⟩))
  refine z_astore_n [1, 2, 0] [(0, .ref 31), (1, .ref 13), (2, .ref ((33 + 6 * nx)))] dX2_mark_4 (by decide) rfl ?_
  refine z_aload_n (j := 2) dX2_mark_5 rfl ?_
  refine z_ifnull dX2_mark_6 ?_
  refine z_aload_n (j := 2) dX2_mark_9 rfl ?_
  refine z_aload_n (j := 1) dX2_mark_10 rfl ?_
  refine z_kV [.ref 13] 0 0 kc ks yoX6_copyFrom yvX6_copyFrom rfl (by decide) lX2_20 (by omega) (gW_rg hnx) rfl rfl (Nat.le_of_ble_eq_true rfl) (Nat.le_of_ble_eq_true rfl) dX2_mark_11 (by omega) (by omega) (z_room (by omega) (Nat.le_refl _) (Nat.le_refl _) (g_copy (d := 0) (t := 4 + nx) (t2 := 1) (by omega) (by decide) (by omega) rg_tp rfl hn hT (fun s' a' hT' => ⟨rfl, ?_⟩)))
  exact z_vret rfl dX2_mark_14 (hq s' a' hT')

set_option maxHeartbeats 4000000 in
set_option maxRecDepth 100000 in
theorem w_takeBack {l : zL} {d kc ks n : Nat} {h : Nat → va_E} {cm : Value} {o u : Nat → Nat → Int32} {s : Nat → Nat → Int32} {a : Nat → Nat → Nat → Int32} {Q : zQ} {S : zS} {nx : Nat} (hnx : nx < 9) (hn : 89 ≤ n) (e31 : o 3 1 = nI nx) (hT : cT S (s (4 + nx)) (a (4 + nx))) (hq : ∀ s' a', cT S s' a' → Q (.inl none) n (gW h cm o u (va_up s 1 s') (va_up a 1 a'))) : Zj l mX2_takeBack (d + 1) kc ks 0 [(0, .ref 31), (1, .ref 13)] [] n (gW h cm o u s a) Q := by
  refine z_aload_n (j := 0) dX2_takeBack_0 rfl ?_
  refine z_kV [] 0 0 kc ks yoX2_nextPlace yvX2_nextPlace rfl (by decide) lX2_16 (by omega) gW_31 rfl rfl (Nat.le_of_ble_eq_true rfl) (Nat.le_of_ble_eq_true rfl) dX2_takeBack_1 (by omega) (by omega) (z_room (by omega) (Nat.le_refl _) (Nat.le_refl _) (w_nextPlace (d := 0) hnx hn e31 ⟨rfl, ?_⟩))
  refine z_astore_n [1, 2, 0] [(0, .ref 31), (1, .ref 13), (2, .ref ((33 + 6 * nx)))] dX2_takeBack_4 (by decide) rfl ?_
  refine z_aload_n (j := 2) dX2_takeBack_5 rfl ?_
  refine z_ifnull dX2_takeBack_6 ?_
  refine z_aload_n (j := 1) dX2_takeBack_9 rfl ?_
  refine z_aload_n (j := 2) dX2_takeBack_10 rfl ?_
  refine z_kV [.ref ((33 + 6 * nx))] 0 0 kc ks yoX6_copyFrom yvX6_copyFrom rfl (by decide) lX2_20 (by omega) gW_13T rfl rfl (Nat.le_of_ble_eq_true rfl) (Nat.le_of_ble_eq_true rfl) dX2_takeBack_11 (by omega) (by omega) (z_room (by omega) (Nat.le_refl _) (Nat.le_refl _) (g_copy (d := 0) (t := 1) (t2 := 4 + nx) (by decide) (by omega) (by omega) rfl rg_tp hn hT (fun s' a' hT' => ⟨rfl, ?_⟩)))
  exact z_vret rfl dX2_takeBack_14 (hq s' a' hT')

set_option maxHeartbeats 4000000 in
set_option maxRecDepth 100000 in
theorem w_keep {l : zL} {d kc ks n : Nat} {h : Nat → va_E} {cm : Value} {o u : Nat → Nat → Int32} {s : Nat → Nat → Int32} {a : Nat → Nat → Nat → Int32} {Q : zQ} {k : Nat} (hk8 : k ≤ 8) {nx : Nat} (hnx : nx < 9) (hn : 89 ≤ n) (e31 : o 3 1 = nI nx) (e32 : o 3 2 = nI k) (hq : ∀ o', o' 3 1 = nI (if nx + 1 < 9 then nx + 1 else 0) → o' 3 2 = nI (if k < 8 then k + 1 else 8) → (∀ c, c ≠ 3 → o' c = o c) → Q (.inl none) n (gW h cm o' u s a)) : Zj l mX2_keep (d + 1) kc ks 0 [(0, .ref 31)] [] n (gW h cm o u s a) Q := by
  refine z_aload_n (j := 0) dX2_keep_0 rfl ?_
  refine z_aload_n (j := 0) dX2_keep_1 rfl ?_
  refine z_get (v := .int (o 3 1)) (by omega) gW_31 fX2_24 rfl dX2_keep_2 ?_
  refine z_iconst (v := 1) dX2_keep_5 (by decide) ?_
  refine z_iadd dX2_keep_6 ?_
  refine z_bipush (v := 9) dX2_keep_7 (by decide) ?_
  refine z_icmp_ge (tgt := 21) dX2_keep_9 (by decide) (fun czq9 => ?_) (fun czq9 => ?_)
  · refine z_iconst (v := 0) dX2_keep_21 (by decide) ?_
    refine g_put 3 (by decide) (by omega) (by decide) rfl rfl fX2_24 gg2 rfl fin2_1 (by show 1 < 3; decide) dX2_keep_22 ?_
    refine z_aload_n (j := 0) dX2_keep_25 rfl ?_
    refine z_aload_n (j := 0) dX2_keep_26 rfl ?_
    refine z_get (v := .int ((va_up o 3 (va_up (o 3) 1 0)) 3 2)) (by omega) gW_31 fX2_28 rfl dX2_keep_27 ?_
    refine z_iconst (v := 1) dX2_keep_30 (by decide) ?_
    refine z_iadd dX2_keep_31 ?_
    refine z_bipush (v := 8) dX2_keep_32 (by decide) ?_
    refine z_mmin lX2_31 mm_min1 mm_ini mm_min2 (Nat.le_of_ble_eq_true rfl) dX2_keep_34 ?_
    have hkk : (if (8 : Int32) < (((va_up o 3 (va_up (o 3) 1 0)) 3 2) + 1) then (8 : Int32) else (((va_up o 3 (va_up (o 3) 1 0)) 3 2) + 1)) = nI (if k < 8 then k + 1 else 8) := by
      simp only [va_up, if_neg (show ¬ (2 : Nat) = 1 by decide), if_true]
      rw [e32, nI_1]
      by_cases hk : k < 8
      · rw [if_pos hk, if_neg (show ¬ (8 : Int32) < nI (k + 1) from nI_nlt (b := k + 1) (a := 8) (by omega) (by omega))]
      · rw [if_neg hk, show k = 8 by omega]
        rfl
    rw [hkk]
    refine g_put 3 (by decide) (by omega) (by decide) rfl rfl fX2_28 gg2 rfl fin2_2 (by show 2 < 3; decide) dX2_keep_37 ?_
    exact z_vret rfl dX2_keep_40 (hq _ (by
        simp only [va_up, if_true, if_neg (show ¬ (1 : Nat) = 2 by decide)]
        rw [if_neg (show ¬ nx + 1 < 9 from fun q => by
          rw [e31, nI_1] at czq9
          exact nI_ge q (by decide) czq9)]
        rfl) (by
        simp only [va_up, if_true]) (fun c h1 => by
        simp only [va_up, if_neg h1]))
  · refine z_aload_n (j := 0) dX2_keep_12 rfl ?_
    refine z_get (v := .int (o 3 1)) (by omega) gW_31 fX2_24 rfl dX2_keep_13 ?_
    refine z_iconst (v := 1) dX2_keep_16 (by decide) ?_
    refine z_iadd dX2_keep_17 ?_
    refine z_goto (tgt := 22) dX2_keep_18 (by decide) ?_
    refine g_put 3 (by decide) (by omega) (by decide) rfl rfl fX2_24 gg2 rfl fin2_1 (by show 1 < 3; decide) dX2_keep_22 ?_
    refine z_aload_n (j := 0) dX2_keep_25 rfl ?_
    refine z_aload_n (j := 0) dX2_keep_26 rfl ?_
    refine z_get (v := .int ((va_up o 3 (va_up (o 3) 1 ((o 3 1) + 1))) 3 2)) (by omega) gW_31 fX2_28 rfl dX2_keep_27 ?_
    refine z_iconst (v := 1) dX2_keep_30 (by decide) ?_
    refine z_iadd dX2_keep_31 ?_
    refine z_bipush (v := 8) dX2_keep_32 (by decide) ?_
    refine z_mmin lX2_31 mm_min1 mm_ini mm_min2 (Nat.le_of_ble_eq_true rfl) dX2_keep_34 ?_
    have hkk : (if (8 : Int32) < (((va_up o 3 (va_up (o 3) 1 ((o 3 1) + 1))) 3 2) + 1) then (8 : Int32) else (((va_up o 3 (va_up (o 3) 1 ((o 3 1) + 1))) 3 2) + 1)) = nI (if k < 8 then k + 1 else 8) := by
      simp only [va_up, if_neg (show ¬ (2 : Nat) = 1 by decide), if_true]
      rw [e32, nI_1]
      by_cases hk : k < 8
      · rw [if_pos hk, if_neg (show ¬ (8 : Int32) < nI (k + 1) from nI_nlt (b := k + 1) (a := 8) (by omega) (by omega))]
      · rw [if_neg hk, show k = 8 by omega]
        rfl
    rw [hkk]
    refine g_put 3 (by decide) (by omega) (by decide) rfl rfl fX2_28 gg2 rfl fin2_2 (by show 2 < 3; decide) dX2_keep_37 ?_
    exact z_vret rfl dX2_keep_40 (hq _ (by
        simp only [va_up, if_true, if_neg (show ¬ (1 : Nat) = 2 by decide)]
        rw [if_pos (show nx + 1 < 9 from by
          rw [e31, nI_1] at czq9
          have h9 : ¬ 9 ≤ nx + 1 := fun q => czq9 (nI_le (a := 9) q (by omega))
          omega), e31, nI_1]) (by
        simp only [va_up, if_true]) (fun c h1 => by
        simp only [va_up, if_neg h1]))

set_option maxHeartbeats 4000000 in
set_option maxRecDepth 100000 in
theorem w_goBack {l : zL} {d kc ks n : Nat} {h : Nat → va_E} {cm : Value} {o u : Nat → Nat → Int32} {s : Nat → Nat → Int32} {a : Nat → Nat → Nat → Int32} {Q : zQ} {S : zS} {k : Nat} (hk0 : 0 < k) (hk8 : k ≤ 8) {nx : Nat} (hnx : nx < 9) (hn : 89 ≤ n) (e31 : o 3 1 = nI nx) (e32 : o 3 2 = nI k) (hT : cT S (s (4 + (if nx = 0 then 8 else nx - 1))) (a (4 + (if nx = 0 then 8 else nx - 1)))) (hq : ∀ o' s' a', cT S s' a' → o' 3 1 = nI (if nx = 0 then 8 else nx - 1) → o' 3 2 = nI (k - 1) → (∀ c, c ≠ 3 → o' c = o c) → Q (.inl none) n (gW h cm o' u (va_up s 1 s') (va_up a 1 a'))) : Zj l mX2_goBack (d + 2) kc ks 0 [(0, .ref 31), (1, .ref 13)] [] n (gW h cm o u s a) Q := by
  refine z_aload_n (j := 0) dX2_goBack_0 rfl ?_
  refine z_aload_n (j := 0) dX2_goBack_1 rfl ?_
  refine z_get (v := .int (o 3 1)) (by omega) gW_31 fX2_24 rfl dX2_goBack_2 ?_
  refine z_if_le (tgt := 17) dX2_goBack_5 (by decide) (fun czq5 => ?_) (fun czq5 => ?_)
  · refine z_bipush (v := 8) dX2_goBack_17 (by decide) ?_
    rw [show (8 : Int32) = nI (if nx = 0 then 8 else nx - 1) from by
      rw [if_pos (show nx = 0 from by
        rw [e31] at czq5
        exact Decidable.byContradiction fun z => nI_nle2 (b := 0) (by omega) (by omega) czq5)]
      rfl]
    refine g_put 3 (by decide) (by omega) (by decide) rfl rfl fX2_24 gg2 rfl fin2_1 (by show 1 < 3; decide) dX2_goBack_19 ?_
    refine z_aload_n (j := 0) dX2_goBack_22 rfl ?_
    refine z_dup rfl dX2_goBack_23 ?_
    refine z_get (v := .int ((va_up o 3 (va_up (o 3) 1 (nI (if nx = 0 then 8 else nx - 1)))) 3 2)) (by omega) gW_31 fX2_28 rfl dX2_goBack_24 ?_
    refine z_iconst (v := 1) dX2_goBack_27 (by decide) ?_
    refine z_isub dX2_goBack_28 ?_
    rw [show (((va_up o 3 (va_up (o 3) 1 (nI (if nx = 0 then 8 else nx - 1)))) 3 2) - 1) = nI (k - 1) from by
      simp only [va_up, if_neg (show ¬ (2 : Nat) = 1 by decide), if_true]
      rw [e32]
      obtain ⟨z, rfl⟩ : ∃ z, k = z + 1 := ⟨k - 1, by omega⟩
      rw [nI_pred]
      rfl]
    refine g_put 3 (by decide) (by omega) (by decide) rfl rfl fX2_28 gg2 rfl fin2_2 (by show 2 < 3; decide) dX2_goBack_29 ?_
    refine z_aload_n (j := 0) dX2_goBack_32 rfl ?_
    refine z_aload_n (j := 1) dX2_goBack_33 rfl ?_
    have hny : (if nx = 0 then 8 else nx - 1) < 9 := by split <;> omega
    refine z_kV [.ref 13] 0 0 kc ks yoX2_takeBack yvX2_takeBack rfl (by decide) lX2_37 (by omega) gW_31 rfl rfl (Nat.le_of_ble_eq_true rfl) (Nat.le_of_ble_eq_true rfl) dX2_goBack_34 (by omega) (by omega) (z_room (by omega) (Nat.le_refl _) (Nat.le_refl _) (w_takeBack (d := 0) (S := S) hny hn (by simp only [va_up, if_true, if_neg (show ¬ (1 : Nat) = 2 by decide)]) hT (fun s' a' hT' => ⟨rfl, ?_⟩)))
    exact z_vret rfl dX2_goBack_37 (hq _ s' a' hT' (by
        simp only [va_up, if_true, if_neg (show ¬ (1 : Nat) = 2 by decide)]) (by
        simp only [va_up, if_true]) (fun c h1 => by
        simp only [va_up, if_neg h1]))
  · refine z_aload_n (j := 0) dX2_goBack_8 rfl ?_
    refine z_get (v := .int (o 3 1)) (by omega) gW_31 fX2_24 rfl dX2_goBack_9 ?_
    refine z_iconst (v := 1) dX2_goBack_12 (by decide) ?_
    refine z_isub dX2_goBack_13 ?_
    refine z_goto (tgt := 19) dX2_goBack_14 (by decide) ?_
    rw [show o 3 1 - 1 = nI (if nx = 0 then 8 else nx - 1) from by
      have h0 : ¬ nx = 0 := fun q => czq5 (by rw [e31, q]; decide)
      rw [if_neg h0, e31, show nx = (nx - 1) + 1 by omega, nI_pred]
      rfl]
    refine g_put 3 (by decide) (by omega) (by decide) rfl rfl fX2_24 gg2 rfl fin2_1 (by show 1 < 3; decide) dX2_goBack_19 ?_
    refine z_aload_n (j := 0) dX2_goBack_22 rfl ?_
    refine z_dup rfl dX2_goBack_23 ?_
    refine z_get (v := .int ((va_up o 3 (va_up (o 3) 1 (nI (if nx = 0 then 8 else nx - 1)))) 3 2)) (by omega) gW_31 fX2_28 rfl dX2_goBack_24 ?_
    refine z_iconst (v := 1) dX2_goBack_27 (by decide) ?_
    refine z_isub dX2_goBack_28 ?_
    rw [show (((va_up o 3 (va_up (o 3) 1 (nI (if nx = 0 then 8 else nx - 1)))) 3 2) - 1) = nI (k - 1) from by
      simp only [va_up, if_neg (show ¬ (2 : Nat) = 1 by decide), if_true]
      rw [e32]
      obtain ⟨z, rfl⟩ : ∃ z, k = z + 1 := ⟨k - 1, by omega⟩
      rw [nI_pred]
      rfl]
    refine g_put 3 (by decide) (by omega) (by decide) rfl rfl fX2_28 gg2 rfl fin2_2 (by show 2 < 3; decide) dX2_goBack_29 ?_
    refine z_aload_n (j := 0) dX2_goBack_32 rfl ?_
    refine z_aload_n (j := 1) dX2_goBack_33 rfl ?_
    have hny : (if nx = 0 then 8 else nx - 1) < 9 := by split <;> omega
    refine z_kV [.ref 13] 0 0 kc ks yoX2_takeBack yvX2_takeBack rfl (by decide) lX2_37 (by omega) gW_31 rfl rfl (Nat.le_of_ble_eq_true rfl) (Nat.le_of_ble_eq_true rfl) dX2_goBack_34 (by omega) (by omega) (z_room (by omega) (Nat.le_refl _) (Nat.le_refl _) (w_takeBack (d := 0) (S := S) hny hn (by simp only [va_up, if_true, if_neg (show ¬ (1 : Nat) = 2 by decide)]) hT (fun s' a' hT' => ⟨rfl, ?_⟩)))
    exact z_vret rfl dX2_goBack_37 (hq _ s' a' hT' (by
        simp only [va_up, if_true, if_neg (show ¬ (1 : Nat) = 2 by decide)]) (by
        simp only [va_up, if_true]) (fun c h1 => by
        simp only [va_up, if_neg h1]))
