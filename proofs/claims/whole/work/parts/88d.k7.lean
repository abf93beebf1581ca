/-! THE CLASS'S OWN METHODS, seventh part: append, mean and load; those of the reference -/
def fmean (S : zS) : UInt64 := if sCnt S = 0 then FP.dconst0 else FP.ddiv (FP.i2d (nI (sSum S))) (FP.i2d (nI (sCnt S)))
def fload (S : zS) : UInt32 := FP.fdiv (FP.i2f (nI (sCnt S))) (FP.i2f (nI S.1))
set_option maxRecDepth 100000 in
theorem dd_all : ∀ s, s < 321 → ∀ c, c < 64 → FP.ddiv (FP.i2d (nI s)) (FP.i2d (nI (c + 1))) &&& 0x7fffffffffffffff ≤ 0x7ff0000000000000 := by decide +kernel
set_option maxRecDepth 100000 in
theorem ff_all : ∀ s, s < 65 → ∀ c, c < 4 → FP.fdiv (FP.i2f (nI s)) (FP.i2f (nI (2 ^ (c + 3)))) &&& 0x7fffffff ≤ 0x7f800000 := by decide +kernel
theorem dd_ok {s c : Nat} (hs : s ≤ 320) (h0 : ¬ c = 0) (hc : c ≤ 64) : vf_n64 (FP.ddiv (FP.i2d (nI s)) (FP.i2d (nI c))) := by
  obtain ⟨z, rfl⟩ : ∃ z, c = z + 1 := ⟨c - 1, by omega⟩
  exact dd_all s (by omega) z (by omega)
theorem ff_ok {s B : Nat} (hs : s ≤ 64) (hB : okB B) : vf_n32 (FP.fdiv (FP.i2f (nI s)) (FP.i2f (nI B))) := by
  rcases hB with rfl | rfl | rfl | rfl
  · exact ff_all s (by omega) 0 (by decide)
  · exact ff_all s (by omega) 1 (by decide)
  · exact ff_all s (by omega) 2 (by decide)
  · exact ff_all s (by omega) 3 (by decide)
theorem sum_320 {B H T : Nat} {K : Nat → Nat} (hB : okB B) (hH : H ≤ 6) (hI : inH B H T K) (ez : ∀ i, B ≤ i → K i = 0) : sumN (offN B T K) B ≤ 320 := by
  have h1 := sumN_le (f := offN B T K) (M := 5) (fun i => by
    by_cases hi : i < B
    · exact offN_5 hB hH hI hi
    · unfold offN
      rw [if_pos (ez i (by omega))]
      omega) B
  have := hB.le.2
  omega
theorem cnt_B {K : Nat → Nat} : ∀ B, cnt K B ≤ B
  | 0 => Nat.le_refl _
  | B + 1 => by
    have := cnt_B (K := K) B
    rw [cnt]
    split <;> omega

set_option maxHeartbeats 4000000 in
set_option maxRecDepth 100000 in
theorem K_append {l : zL} {d kc ks n : Nat} {h : Nat → va_E} {cm : Value} {o u : Nat → Nat → Int32} {s : Nat → Nat → Int32} {a : Nat → Nat → Nat → Int32} {g : zGs} {Q : zQ} {p q r y w : Int32} (hn : 104 ≤ n) (hC : cI g o u s a) (hq : ∀ t v g' cm' o' u' s' a', f_append g p q r y w = (t, v, g') → cI g' o' u' s' a' → Q (oc IAE ISE t v) n (gW h cm' o' u' s' a')) : Zj l mX7_append (d + 12) (kc + 3) (ks + 18) 0 [(0, .ref 0), (1, .int p), (2, .int q), (3, .int r), (4, .int y), (5, .int w)] [] n (gW h cm o u s a) Q := by
  obtain ⟨⟨B, H, T, K, V, c⟩, sv, Sn, k, hi, L, x, ek, eo, rl, rb⟩ := g
  obtain ⟨hT, ho05, hsv, hsn, hk8, ho32, ⟨nx, hnx, ho31, hhi⟩, hL, ho11, hu0, hx256, ho210, ho211, hrl, ho41, hu4, hrb⟩ := id hC
  obtain ⟨hR, ⟨hI, hd3, h3⟩, e9, e10, e11, e12, e13, e14, e15⟩ := id hT
  obtain ⟨okb, h2H, hH6, h1T, hT99, e6, e7, e8, ek_, ev_, eh_, ekv, ez⟩ := id hR
  have hle := okb.le
  refine z_aload_n (j := 0) dX7_append_0 rfl ?_
  refine z_get (v := .ref 1) (by omega) gW_0 fX7_10 rfl dX7_append_1 ?_
  refine z_get (v := .int (o 1 1)) (by omega) gW_1 fX7_71 rfl dX7_append_4 ?_
  refine z_bipush (v := 20) dX7_append_7 (by decide) ?_
  refine z_iadd dX7_append_9 ?_
  refine z_sipush (v := 600) dX7_append_10 (by decide) ?_
  rw [show ((o 1 1) + 20) = nI (L + 20) from by rw [ho11]; exact nI_add _ 20]
  refine z_icmp_le (tgt := 18) dX7_append_13 (by decide) (fun czq13 => ?_) (fun czq13 => ?_)
  · have h6 : L + 20 ≤ 600 := Decidable.byContradiction fun z => nI_nle2 (b := 600) (by omega) (by omega) czq13
    refine z_aload_n (j := 0) dX7_append_18 rfl ?_
    refine z_get (v := .ref 1) (by omega) gW_0 fX7_10 rfl dX7_append_19 ?_
    refine z_iload_n (j := 1) dX7_append_22 rfl ?_
    refine z_kV [.int p] 0 0 (kc + 3) (ks + 18) yoX3_addFourBytes yvX3_addFourBytes rfl (by decide) lX7_75 (by omega) gW_1 rfl rfl (Nat.le_of_ble_eq_true rfl) (Nat.le_of_ble_eq_true rfl) dX7_append_23 (by omega) (by omega) (z_room (by omega) (Nat.le_refl _) (Nat.le_refl _) (w_four (d := 0) (L := L) (by omega) (by omega) ho11 (fun o1 u1 ha1 hc1 hd1 hs1 he1 => ⟨rfl, ?_⟩)))
    refine z_aload_n (j := 0) dX7_append_26 rfl ?_
    refine z_get (v := .ref 1) (by omega) gW_0 fX7_10 rfl dX7_append_27 ?_
    refine z_iload_n (j := 2) dX7_append_30 rfl ?_
    refine z_kV [.int q] 0 0 (kc + 3) (ks + 18) yoX3_addFourBytes yvX3_addFourBytes rfl (by decide) lX7_75 (by omega) gW_1 rfl rfl (Nat.le_of_ble_eq_true rfl) (Nat.le_of_ble_eq_true rfl) dX7_append_31 (by omega) (by omega) (z_room (by omega) (Nat.le_refl _) (Nat.le_refl _) (w_four (d := 0) (L := L + 4) (by omega) (by omega) ha1 (fun o2 u2 ha2 hc2 hd2 hs2 he2 => ⟨rfl, ?_⟩)))
    refine z_aload_n (j := 0) dX7_append_34 rfl ?_
    refine z_get (v := .ref 1) (by omega) gW_0 fX7_10 rfl dX7_append_35 ?_
    refine z_iload_n (j := 3) dX7_append_38 rfl ?_
    refine z_kV [.int r] 0 0 (kc + 3) (ks + 18) yoX3_addFourBytes yvX3_addFourBytes rfl (by decide) lX7_75 (by omega) gW_1 rfl rfl (Nat.le_of_ble_eq_true rfl) (Nat.le_of_ble_eq_true rfl) dX7_append_39 (by omega) (by omega) (z_room (by omega) (Nat.le_refl _) (Nat.le_refl _) (w_four (d := 0) (L := L + 4 + 4) (by omega) (by omega) ha2 (fun o3 u3 ha3 hc3 hd3 hs3 he3 => ⟨rfl, ?_⟩)))
    refine z_aload_n (j := 0) dX7_append_42 rfl ?_
    refine z_get (v := .ref 1) (by omega) gW_0 fX7_10 rfl dX7_append_43 ?_
    refine z_iload (j := 4) dX7_append_46 rfl ?_
    refine z_kV [.int y] 0 0 (kc + 3) (ks + 18) yoX3_addFourBytes yvX3_addFourBytes rfl (by decide) lX7_75 (by omega) gW_1 rfl rfl (Nat.le_of_ble_eq_true rfl) (Nat.le_of_ble_eq_true rfl) dX7_append_48 (by omega) (by omega) (z_room (by omega) (Nat.le_refl _) (Nat.le_refl _) (w_four (d := 0) (L := L + 4 + 4 + 4) (by omega) (by omega) ha3 (fun o4 u4 ha4 hc4 hd4 hs4 he4 => ⟨rfl, ?_⟩)))
    refine z_aload_n (j := 0) dX7_append_51 rfl ?_
    refine z_get (v := .ref 1) (by omega) gW_0 fX7_10 rfl dX7_append_52 ?_
    refine z_iload (j := 5) dX7_append_55 rfl ?_
    refine z_kV [.int w] 0 0 (kc + 3) (ks + 18) yoX3_addFourBytes yvX3_addFourBytes rfl (by decide) lX7_75 (by omega) gW_1 rfl rfl (Nat.le_of_ble_eq_true rfl) (Nat.le_of_ble_eq_true rfl) dX7_append_57 (by omega) (by omega) (z_room (by omega) (Nat.le_refl _) (Nat.le_refl _) (w_four (d := 0) (L := L + 4 + 4 + 4 + 4) (by omega) (by omega) ha4 (fun o5 u5 ha5 hc5 hd5 hs5 he5 => ⟨rfl, ?_⟩)))
    refine z_aload_n (j := 0) dX7_append_60 rfl ?_
    refine z_get (v := .ref 1) (by omega) gW_0 fX7_10 rfl dX7_append_61 ?_
    refine z_get (v := .int (o5 1 1)) (by omega) gW_1 fX7_71 rfl dX7_append_64 ?_
    exact z_iret rfl dX7_append_67 (by
        have eL : L + 4 + 4 + 4 + 4 + 4 = L + 20 := by omega
        rw [ha5, eL]
        have k0 := (hs5 0 (by decide)).trans ((hs4 0 (by decide)).trans ((hs3 0 (by decide)).trans ((hs2 0 (by decide)).trans (hs1 0 (by decide)))))
        have k2 := (hs5 2 (by decide)).trans ((hs4 2 (by decide)).trans ((hs3 2 (by decide)).trans ((hs2 2 (by decide)).trans (hs1 2 (by decide)))))
        have k3 := (hs5 3 (by decide)).trans ((hs4 3 (by decide)).trans ((hs3 3 (by decide)).trans ((hs2 3 (by decide)).trans (hs1 3 (by decide)))))
        have k4 := (hs5 4 (by decide)).trans ((hs4 4 (by decide)).trans ((hs3 4 (by decide)).trans ((hs2 4 (by decide)).trans (hs1 4 (by decide)))))
        have j4 := (he5 4 (by decide)).trans ((he4 4 (by decide)).trans ((he3 4 (by decide)).trans ((he2 4 (by decide)).trans (he1 4 (by decide)))))
        refine hq 0 (nI (L + 20)) (gInp ((B, H, T, K, V, c), sv, Sn, k, hi, L, x, ek, eo, rl, rb) (L + 20) (inx L x (p5 p q r y w))) _ _ _ _ _ (by unfold f_append; exact if_neg (by show ¬ 600 < L + 20; omega)) ⟨hT, by rw [k0]; exact ho05, hsv, hsn, hk8, by rw [k3]; exact ho32, ⟨nx, hnx, by rw [k3]; exact ho31, hhi⟩, by omega, by rw [ha5, eL], ?_, fun i => ?_, by rw [k2]; exact ho210, by rw [k2]; exact ho211, hrl, by rw [k4]; exact ho41, by rw [j4]; exact hu4, hrb⟩
        · intro i hi
          show u5 0 i = nI (inx L x (p5 p q r y w) i)
          unfold inx
          by_cases h : i < L
          · rw [if_pos h, hd5 i (by omega), hd4 i (by omega), hd3 i (by omega), hd2 i (by omega), hd1 i h]
            exact hu0 i h
          · rw [if_neg h]
            obtain ⟨j, hj, t, ht, rfl⟩ : ∃ j, j < 4 ∧ ∃ t, t < 5 ∧ i = L + 4 * t + j := ⟨(i - L) % 4, by omega, (i - L) / 4, by omega, by omega⟩
            have q1 : (L + 4 * t + j - L) / 4 = t := by omega
            have q2 : (L + 4 * t + j - L) % 4 = j := by omega
            rw [q1, q2]
            rcases (show t = 0 ∨ t = 1 ∨ t = 2 ∨ t = 3 ∨ t = 4 by omega) with rfl | rfl | rfl | rfl | rfl
            · rw [hd5 _ (by omega), hd4 _ (by omega), hd3 _ (by omega), hd2 _ (by omega)]
              exact hc1 j hj
            · rw [hd5 _ (by omega), hd4 _ (by omega), hd3 _ (by omega)]
              exact hc2 j hj
            · rw [hd5 _ (by omega), hd4 _ (by omega)]
              exact hc3 j hj
            · rw [hd5 _ (by omega)]
              exact hc4 j hj
            · exact hc5 j hj
        · show inx L x (p5 p q r y w) i < 256
          unfold inx
          by_cases h : i < L
          · rw [if_pos h]; exact hx256 i
          · rw [if_neg h]; exact by_lt)
  · refine z_iconst (v := (-1)) dX7_append_16 (by decide) ?_
    exact z_iret rfl dX7_append_17 (by
        have h6 : 600 < L + 20 := Decidable.byContradiction fun z => czq13 (nI_le (b := 600) (by omega) (by decide))
        exact hq 0 (-1) _ _ _ _ _ _ (by unfold f_append; exact if_pos h6) hC)

set_option maxHeartbeats 4000000 in
set_option maxRecDepth 100000 in
theorem K_meanDistance {l : zL} {d kc ks n : Nat} {h : Nat → va_E} {cm : Value} {o u : Nat → Nat → Int32} {s : Nat → Nat → Int32} {a : Nat → Nat → Nat → Int32} {g : zGs} {Q : zQ} (hn : 104 ≤ n) (hC : cI g o u s a) (hq : Q (.inl (some (.double (fmean g.1)))) n (gW h cm o u s a)) : Zj l mX7_meanDistance (d + 12) (kc + 3) (ks + 18) 0 [(0, .ref 0)] [] n (gW h cm o u s a) Q := by
  obtain ⟨⟨B, H, T, K, V, c⟩, sv, Sn, k, hi, L, x, ek, eo, rl, rb⟩ := g
  obtain ⟨hT, ho05, hsv, hsn, hk8, ho32, ⟨nx, hnx, ho31, hhi⟩, hL, ho11, hu0, hx256, ho210, ho211, hrl, ho41, hu4, hrb⟩ := id hC
  obtain ⟨hR, ⟨hI, hd3, h3⟩, e9, e10, e11, e12, e13, e14, e15⟩ := id hT
  obtain ⟨okb, h2H, hH6, h1T, hT99, e6, e7, e8, ek_, ev_, eh_, ekv, ez⟩ := id hR
  have hle := okb.le
  refine z_aload_n (j := 0) dX7_meanDistance_0 rfl ?_
  refine z_get (v := .ref 13) (by omega) gW_0 fX7_28 rfl dX7_meanDistance_1 ?_
  refine z_get (v := .int (s 1 10)) (by omega) gW_13T fX7_115 rfl dX7_meanDistance_4 ?_
  refine z_if_ne (tgt := 14) dX7_meanDistance_7 (by decide) (fun czq7 => ?_) (fun czq7 => ?_)
  · refine z_aload_n (j := 0) dX7_meanDistance_14 rfl ?_
    refine z_get (v := .ref 13) (by omega) gW_0 fX7_28 rfl dX7_meanDistance_15 ?_
    refine z_kV [] 0 0 (kc + 3) (ks + 18) yoX6_sumOfSteps yvX6_sumOfSteps rfl (by decide) lX7_248 (by omega) gW_13T rfl rfl (Nat.le_of_ble_eq_true rfl) (Nat.le_of_ble_eq_true rfl) dX7_meanDistance_18 (by omega) (by omega) (z_room (by omega) (Nat.le_refl _) (Nat.le_refl _) (g_sumOfSteps (d := 0) (t := 1) (by decide) rfl (by omega) hR ⟨rfl, ?_⟩))
    refine z_i2d dX7_meanDistance_21 ?_
    refine z_aload_n (j := 0) dX7_meanDistance_22 rfl ?_
    refine z_get (v := .ref 13) (by omega) gW_0 fX7_28 rfl dX7_meanDistance_23 ?_
    refine z_get (v := .int (s 1 10)) (by omega) gW_13T fX7_115 rfl dX7_meanDistance_26 ?_
    rw [show (s 1 10) = nI (cnt K B) from e10]
    refine z_i2d dX7_meanDistance_29 ?_
    refine z_ddiv (dd_ok (sum_320 okb hH6 hI ez) (fun z => czq7 (by rw [e10, z]; rfl)) (Nat.le_trans (cnt_B B) hle.2)) dX7_meanDistance_30 ?_
    exact z_dret rfl dX7_meanDistance_31 (by
        have e : fmean (B, H, T, K, V, c) = FP.ddiv (FP.i2d (nI (sumN (offN B T K) B))) (FP.i2d (nI (cnt K B))) := if_neg (fun z => czq7 (by rw [e10, show cnt K B = 0 from z]; rfl))
        rw [← e]
        exact hq)
  · refine z_dconst0 dX7_meanDistance_10 ?_
    refine z_goto (tgt := 31) dX7_meanDistance_11 (by decide) ?_
    exact z_dret rfl dX7_meanDistance_31 (by
        have h0 : cnt K B = 0 := (nI_eq (b := 0) (by have := cnt_B (K := K) B; omega) (by decide)).mp (e10.symm.trans czq7)
        have e : fmean (B, H, T, K, V, c) = FP.dconst0 := if_pos h0
        rw [← e]
        exact hq)

set_option maxHeartbeats 4000000 in
set_option maxRecDepth 100000 in
theorem K_load {l : zL} {d kc ks n : Nat} {h : Nat → va_E} {cm : Value} {o u : Nat → Nat → Int32} {s : Nat → Nat → Int32} {a : Nat → Nat → Nat → Int32} {g : zGs} {Q : zQ} (hn : 104 ≤ n) (hC : cI g o u s a) (hq : Q (.inl (some (.float (fload g.1)))) n (gW h cm o u s a)) : Zj l mX7_load (d + 12) (kc + 3) (ks + 18) 0 [(0, .ref 0)] [] n (gW h cm o u s a) Q := by
  obtain ⟨⟨B, H, T, K, V, c⟩, sv, Sn, k, hi, L, x, ek, eo, rl, rb⟩ := g
  obtain ⟨hT, ho05, hsv, hsn, hk8, ho32, ⟨nx, hnx, ho31, hhi⟩, hL, ho11, hu0, hx256, ho210, ho211, hrl, ho41, hu4, hrb⟩ := id hC
  obtain ⟨hR, ⟨hI, hd3, h3⟩, e9, e10, e11, e12, e13, e14, e15⟩ := id hT
  obtain ⟨okb, h2H, hH6, h1T, hT99, e6, e7, e8, ek_, ev_, eh_, ekv, ez⟩ := id hR
  have hle := okb.le
  refine z_aload_n (j := 0) dX7_load_0 rfl ?_
  refine z_get (v := .ref 13) (by omega) gW_0 fX7_28 rfl dX7_load_1 ?_
  refine z_get (v := .int (s 1 6)) (by omega) gW_13T fX7_178 rfl dX7_load_4 ?_
  refine z_if_ne (tgt := 14) dX7_load_7 (by decide) (fun czq7 => ?_) (fun czq7 => absurd czq7 (by rw [e6]; exact nI_ne0 (by omega) (by omega)))
  refine z_aload_n (j := 0) dX7_load_14 rfl ?_
  refine z_get (v := .ref 13) (by omega) gW_0 fX7_28 rfl dX7_load_15 ?_
  refine z_get (v := .int (s 1 10)) (by omega) gW_13T fX7_115 rfl dX7_load_18 ?_
  rw [show (s 1 10) = nI (cnt K B) from e10]
  refine z_i2f dX7_load_21 ?_
  refine z_aload_n (j := 0) dX7_load_22 rfl ?_
  refine z_get (v := .ref 13) (by omega) gW_0 fX7_28 rfl dX7_load_23 ?_
  refine z_get (v := .int (s 1 6)) (by omega) gW_13T fX7_178 rfl dX7_load_26 ?_
  rw [show (s 1 6) = nI B from e6]
  refine z_i2f dX7_load_29 ?_
  refine z_fdiv (ff_ok (Nat.le_trans (cnt_B B) hle.2) okb) dX7_load_30 ?_
  exact z_fret rfl dX7_load_31 (hq)

set_option maxHeartbeats 4000000 in
set_option maxRecDepth 100000 in
theorem R_meanDistance {l : zL} {d kc ks n b : Nat} {h : Nat → va_E} {s : Nat → Int32} {a : Nat → Nat → Int32} {g : zGs} {Q : zQ} (hb : b + 14 ≤ n) (hM : mI g s a) (hq : ∀ s', mI g s' a → s' 20 = 0 → Q (.inl (some (.double (fmean g.1)))) n (mW h b s' a)) : Zj l mX8_meanDistance (d + 12) kc ks 0 [(0, .ref b)] [] n (mW h b s a) Q := by
  obtain ⟨⟨B, H, T, K, V, c⟩, sv, Sn, k, hi, L, x, ek, eo, rl, rb⟩ := g
  obtain ⟨hT, h11, hsv, hsn, hk8, h9, hhi, hL, h14, ha9, hx256, h16, h17, hrl, h19, ha11, hrb⟩ := id hM
  obtain ⟨hV, ⟨hI, hd3, h3⟩, e3⟩ := id hT
  obtain ⟨okb, h2H, hH6, h1T, hT99, e0, e1, e2, ek_, ev_, ekv, ez⟩ := id hV
  have hle := okb.le
  refine z_aload_n (j := 0) dX8_meanDistance_0 rfl ?_
  refine z_iconst (v := 0) dX8_meanDistance_1 (by decide) ?_
  refine m_put (k := 20) (by omega) fX8_64 (by unfold mS; omega) (by decide) dX8_meanDistance_2 ?_
  refine z_aload_n (j := 0) dX8_meanDistance_5 rfl ?_
  refine z_kV [] 0 0 kc ks yoX8_entries yvX8_entries rfl (by decide) lX8_148 (by omega) mW_obj rfl rfl (Nat.le_of_ble_eq_true rfl) (Nat.le_of_ble_eq_true rfl) dX8_meanDistance_6 (by omega) (by omega) (z_room (by omega) (Nat.le_refl _) (Nat.le_refl _) (r_entries (d := 0) hb hV ⟨rfl, ?_⟩))
  refine z_istore_n [1, 0] [(0, .ref b), (1, .int ((nI (cnt K B))))] dX8_meanDistance_9 (by decide) rfl ?_
  refine z_iload_n (j := 1) dX8_meanDistance_10 rfl ?_
  refine z_if_ne (tgt := 18) dX8_meanDistance_11 (by decide) (fun czq11 => ?_) (fun czq11 => ?_)
  · refine z_aload_n (j := 0) dX8_meanDistance_18 rfl ?_
    refine z_kV [] 0 0 kc ks yoX8_offTogether yvX8_offTogether rfl (by decide) lX8_358 (by omega) mW_obj rfl rfl (Nat.le_of_ble_eq_true rfl) (Nat.le_of_ble_eq_true rfl) dX8_meanDistance_19 (by omega) (by omega) (z_room (by omega) (Nat.le_refl _) (Nat.le_refl _) (r_offTogether (d := 0) hb hV ⟨rfl, ?_⟩))
    refine z_i2d dX8_meanDistance_22 ?_
    refine z_iload_n (j := 1) dX8_meanDistance_23 rfl ?_
    refine z_i2d dX8_meanDistance_24 ?_
    refine z_ddiv (dd_ok (sum_320 okb hH6 hI ez) (fun z => czq11 (by rw [z]; rfl)) (Nat.le_trans (cnt_B B) hle.2)) dX8_meanDistance_25 ?_
    exact z_dret rfl dX8_meanDistance_26 (by
        have e : fmean (B, H, T, K, V, c) = FP.ddiv (FP.i2d (nI (sumN (offN B T K) B))) (FP.i2d (nI (cnt K B))) := if_neg (fun z => czq11 (by rw [show cnt K B = 0 from z]; rfl))
        rw [← e]
        exact hq _ hM.th (by rw [up_eq]))
  · refine z_dconst0 dX8_meanDistance_14 ?_
    refine z_goto (tgt := 26) dX8_meanDistance_15 (by decide) ?_
    exact z_dret rfl dX8_meanDistance_26 (by
        have h0 : cnt K B = 0 := (nI_eq (b := 0) (by have := cnt_B (K := K) B; omega) (by decide)).mp czq11
        have e : fmean (B, H, T, K, V, c) = FP.dconst0 := if_pos h0
        rw [← e]
        exact hq _ hM.th (by rw [up_eq]))

set_option maxHeartbeats 4000000 in
set_option maxRecDepth 100000 in
theorem R_load {l : zL} {d kc ks n b : Nat} {h : Nat → va_E} {s : Nat → Int32} {a : Nat → Nat → Int32} {g : zGs} {Q : zQ} (hb : b + 14 ≤ n) (hM : mI g s a) (hq : ∀ s', mI g s' a → s' 20 = 0 → Q (.inl (some (.float (fload g.1)))) n (mW h b s' a)) : Zj l mX8_load (d + 12) kc ks 0 [(0, .ref b)] [] n (mW h b s a) Q := by
  obtain ⟨⟨B, H, T, K, V, c⟩, sv, Sn, k, hi, L, x, ek, eo, rl, rb⟩ := g
  obtain ⟨hT, h11, hsv, hsn, hk8, h9, hhi, hL, h14, ha9, hx256, h16, h17, hrl, h19, ha11, hrb⟩ := id hM
  obtain ⟨hV, ⟨hI, hd3, h3⟩, e3⟩ := id hT
  obtain ⟨okb, h2H, hH6, h1T, hT99, e0, e1, e2, ek_, ev_, ekv, ez⟩ := id hV
  have hle := okb.le
  refine z_aload_n (j := 0) dX8_load_0 rfl ?_
  refine z_iconst (v := 0) dX8_load_1 (by decide) ?_
  refine m_put (k := 20) (by omega) fX8_64 (by unfold mS; omega) (by decide) dX8_load_2 ?_
  refine z_aload_n (j := 0) dX8_load_5 rfl ?_
  refine z_kV [] 0 0 kc ks yoX8_entries yvX8_entries rfl (by decide) lX8_148 (by omega) mW_obj rfl rfl (Nat.le_of_ble_eq_true rfl) (Nat.le_of_ble_eq_true rfl) dX8_load_6 (by omega) (by omega) (z_room (by omega) (Nat.le_refl _) (Nat.le_refl _) (r_entries (d := 0) hb hV ⟨rfl, ?_⟩))
  refine z_i2f dX8_load_9 ?_
  refine z_aload_n (j := 0) dX8_load_10 rfl ?_
  refine z_get (v := .ref (b + 1)) (by omega) mW_obj fX8_7 rfl dX8_load_11 ?_
  refine z_iconst (v := 0) dX8_load_14 (by decide) ?_
  refine m_aldN 0 137 0 (by decide) rfl rfl hb rfl (by omega) (by decide) dX8_load_15 ?_
  rw [show (a 0 0) = nI B from e0]
  refine z_i2f dX8_load_16 ?_
  refine z_fdiv (ff_ok (Nat.le_trans (cnt_B B) hle.2) okb) dX8_load_17 ?_
  exact z_fret rfl dX8_load_18 (hq _ hM.th (by rw [up_eq]))
