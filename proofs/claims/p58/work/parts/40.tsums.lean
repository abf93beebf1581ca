set_option maxHeartbeats 4000000 in
set_option maxRecDepth 100000 in
theorem w_bitCount {l : zL} {d kc ks n : Nat} {h : Nat → va_E} {x : Int32} {Q : zQ} (hq : Q (.inl (some (.int (popI x)))) n h) : Zj l mJ6_bitCount_0f7a4 d kc ks 0 [(0, .int x)] [] n h Q := by
  refine z_iload_n (j := 0) dJ6_bitCount_0f7a4_0 rfl ?_
  refine z_iload_n (j := 0) dJ6_bitCount_0f7a4_1 rfl ?_
  refine z_iconst (v := 1) dJ6_bitCount_0f7a4_2 (by decide) ?_
  refine z_iushr dJ6_bitCount_0f7a4_3 ?_
  refine z_ldcw lJ6_265 dJ6_bitCount_0f7a4_4 ?_
  refine z_iand dJ6_bitCount_0f7a4_7 ?_
  refine z_isub dJ6_bitCount_0f7a4_8 ?_
  refine z_istore_n [0] [(0, .int ((x - ((zushr x 1) &&& 1431655765))))] dJ6_bitCount_0f7a4_9 (by decide) rfl ?_
  refine z_iload_n (j := 0) dJ6_bitCount_0f7a4_10 rfl ?_
  refine z_ldcw lJ6_266 dJ6_bitCount_0f7a4_11 ?_
  refine z_iand dJ6_bitCount_0f7a4_14 ?_
  refine z_iload_n (j := 0) dJ6_bitCount_0f7a4_15 rfl ?_
  refine z_iconst (v := 2) dJ6_bitCount_0f7a4_16 (by decide) ?_
  refine z_iushr dJ6_bitCount_0f7a4_17 ?_
  refine z_ldcw lJ6_266 dJ6_bitCount_0f7a4_18 ?_
  refine z_iand dJ6_bitCount_0f7a4_21 ?_
  refine z_iadd dJ6_bitCount_0f7a4_22 ?_
  refine z_istore_n [0] [(0, .int ((((x - ((zushr x 1) &&& 1431655765)) &&& 858993459) + ((zushr (x - ((zushr x 1) &&& 1431655765)) 2) &&& 858993459))))] dJ6_bitCount_0f7a4_23 (by decide) rfl ?_
  refine z_iload_n (j := 0) dJ6_bitCount_0f7a4_24 rfl ?_
  refine z_iload_n (j := 0) dJ6_bitCount_0f7a4_25 rfl ?_
  refine z_iconst (v := 4) dJ6_bitCount_0f7a4_26 (by decide) ?_
  refine z_iushr dJ6_bitCount_0f7a4_27 ?_
  refine z_iadd dJ6_bitCount_0f7a4_28 ?_
  refine z_ldcw lJ6_267 dJ6_bitCount_0f7a4_29 ?_
  refine z_iand dJ6_bitCount_0f7a4_32 ?_
  refine z_istore_n [0] [(0, .int ((((((x - ((zushr x 1) &&& 1431655765)) &&& 858993459) + ((zushr (x - ((zushr x 1) &&& 1431655765)) 2) &&& 858993459)) + (zushr (((x - ((zushr x 1) &&& 1431655765)) &&& 858993459) + ((zushr (x - ((zushr x 1) &&& 1431655765)) 2) &&& 858993459)) 4)) &&& 252645135)))] dJ6_bitCount_0f7a4_33 (by decide) rfl ?_
  refine z_iload_n (j := 0) dJ6_bitCount_0f7a4_34 rfl ?_
  refine z_iload_n (j := 0) dJ6_bitCount_0f7a4_35 rfl ?_
  refine z_bipush (v := 8) dJ6_bitCount_0f7a4_36 (by decide) ?_
  refine z_iushr dJ6_bitCount_0f7a4_38 ?_
  refine z_iadd dJ6_bitCount_0f7a4_39 ?_
  refine z_istore_n [0] [(0, .int (((((((x - ((zushr x 1) &&& 1431655765)) &&& 858993459) + ((zushr (x - ((zushr x 1) &&& 1431655765)) 2) &&& 858993459)) + (zushr (((x - ((zushr x 1) &&& 1431655765)) &&& 858993459) + ((zushr (x - ((zushr x 1) &&& 1431655765)) 2) &&& 858993459)) 4)) &&& 252645135) + (zushr (((((x - ((zushr x 1) &&& 1431655765)) &&& 858993459) + ((zushr (x - ((zushr x 1) &&& 1431655765)) 2) &&& 858993459)) + (zushr (((x - ((zushr x 1) &&& 1431655765)) &&& 858993459) + ((zushr (x - ((zushr x 1) &&& 1431655765)) 2) &&& 858993459)) 4)) &&& 252645135) 8))))] dJ6_bitCount_0f7a4_40 (by decide) rfl ?_
  refine z_iload_n (j := 0) dJ6_bitCount_0f7a4_41 rfl ?_
  refine z_iload_n (j := 0) dJ6_bitCount_0f7a4_42 rfl ?_
  refine z_bipush (v := 16) dJ6_bitCount_0f7a4_43 (by decide) ?_
  refine z_iushr dJ6_bitCount_0f7a4_45 ?_
  refine z_iadd dJ6_bitCount_0f7a4_46 ?_
  refine z_istore_n [0] [(0, .int ((((((((x - ((zushr x 1) &&& 1431655765)) &&& 858993459) + ((zushr (x - ((zushr x 1) &&& 1431655765)) 2) &&& 858993459)) + (zushr (((x - ((zushr x 1) &&& 1431655765)) &&& 858993459) + ((zushr (x - ((zushr x 1) &&& 1431655765)) 2) &&& 858993459)) 4)) &&& 252645135) + (zushr (((((x - ((zushr x 1) &&& 1431655765)) &&& 858993459) + ((zushr (x - ((zushr x 1) &&& 1431655765)) 2) &&& 858993459)) + (zushr (((x - ((zushr x 1) &&& 1431655765)) &&& 858993459) + ((zushr (x - ((zushr x 1) &&& 1431655765)) 2) &&& 858993459)) 4)) &&& 252645135) 8)) + (zushr ((((((x - ((zushr x 1) &&& 1431655765)) &&& 858993459) + ((zushr (x - ((zushr x 1) &&& 1431655765)) 2) &&& 858993459)) + (zushr (((x - ((zushr x 1) &&& 1431655765)) &&& 858993459) + ((zushr (x - ((zushr x 1) &&& 1431655765)) 2) &&& 858993459)) 4)) &&& 252645135) + (zushr (((((x - ((zushr x 1) &&& 1431655765)) &&& 858993459) + ((zushr (x - ((zushr x 1) &&& 1431655765)) 2) &&& 858993459)) + (zushr (((x - ((zushr x 1) &&& 1431655765)) &&& 858993459) + ((zushr (x - ((zushr x 1) &&& 1431655765)) 2) &&& 858993459)) 4)) &&& 252645135) 8)) 16))))] dJ6_bitCount_0f7a4_47 (by decide) rfl ?_
  refine z_iload_n (j := 0) dJ6_bitCount_0f7a4_48 rfl ?_
  refine z_bipush (v := 63) dJ6_bitCount_0f7a4_49 (by decide) ?_
  refine z_iand dJ6_bitCount_0f7a4_51 ?_
  exact z_iret rfl dJ6_bitCount_0f7a4_52 (hq)

set_option maxHeartbeats 4000000 in
set_option maxRecDepth 100000 in
theorem w_sumOfSteps_l {l : zL} {d kc ks n b B H T : Nat} {h : Nat → va_E} {K V : Nat → Nat} {s : Nat → Int32} {a : Nat → Nat → Int32} {Q : zQ} (hb : b + 6 ≤ n) (hR : tR B H T K V s a) : ∀ m i, i + m = B → Q (.inl (some (.int (nI (sumN (offN B T K) B))))) n (tW h b s a) → Zj l mX6_sumOfSteps (d + 2) kc ks 4 [(0, .ref b), (1, .int ((nI (sumN (offN B T K) i)))), (2, .int ((nI i)))] [] n (tW h b s a) Q := by
  obtain ⟨okb, h2H, hH6, h1T, hT99, e6, e7, e8, ek, ev, eh, ekv, ez⟩ := id hR
  have hle := okb.le
  intro m
  induction m with
  | zero =>
    intro i hi hq
    refine z_iload_n (j := 2) dX6_sumOfSteps_4 rfl ?_
    refine z_aload_n (j := 0) dX6_sumOfSteps_5 rfl ?_
    refine z_get (v := .int (s 6)) (by omega) tW_obj fX6_64 rfl dX6_sumOfSteps_6 ?_
    refine z_icmp_ge (tgt := 30) dX6_sumOfSteps_9 (by decide) (fun c_9 => ?_) (fun c_9 => absurd (by rw [e6]; exact nI_le (by omega) (by omega)) c_9)
    refine z_iload_n (j := 1) dX6_sumOfSteps_30 rfl ?_
    exact z_iret rfl dX6_sumOfSteps_31 (by
        obtain rfl : i = B := by omega
        exact hq)
  | succ m ih =>
    intro i hi hq
    refine z_iload_n (j := 2) dX6_sumOfSteps_4 rfl ?_
    refine z_aload_n (j := 0) dX6_sumOfSteps_5 rfl ?_
    refine z_get (v := .int (s 6)) (by omega) tW_obj fX6_64 rfl dX6_sumOfSteps_6 ?_
    refine z_icmp_ge (tgt := 30) dX6_sumOfSteps_9 (by decide) (fun c_9 => absurd c_9 (by rw [e6]; exact nI_ge (by omega) (by omega))) (fun c_9 => ?_)
    refine z_iload_n (j := 1) dX6_sumOfSteps_12 rfl ?_
    refine z_iconst (v := 0) dX6_sumOfSteps_13 (by decide) ?_
    refine z_aload_n (j := 0) dX6_sumOfSteps_14 rfl ?_
    refine z_iload_n (j := 2) dX6_sumOfSteps_15 rfl ?_
    refine z_cV [.int ((nI i))] (some (.int ((sfh B T K i)))) yoX6_stepsFromHome yvX6_stepsFromHome rfl (by decide) lX6_97 (by omega) tW_obj rfl rfl (Nat.le_of_ble_eq_true rfl) (Nat.le_of_ble_eq_true rfl) dX6_sumOfSteps_16 (z_room (by omega) (Nat.le_refl _) (Nat.le_refl _) (w_stepsFromHome (d := 0) hb hR (show i < B by omega) ⟨rfl, rfl, rfl⟩)) ?_
    refine z_mmax lX6_127 mm_max1 mm_ini mm_max2 (Nat.le_of_ble_eq_true rfl) dX6_sumOfSteps_19 ?_
    rw [show (if (0 : Int32) < sfh B T K i then sfh B T K i else 0) = nI (offN B T K i) from by
      have := max_sfh (T := T) (K := K) (i := i) (m := 0) okb (by omega)
      rw [show nI 0 = 0 from rfl] at this
      rw [this]
      by_cases h0 : 0 < offN B T K i
      · rw [if_pos h0]
      · rw [if_neg h0, show offN B T K i = 0 by omega]]
    refine z_iadd dX6_sumOfSteps_22 ?_
    rw [show ((nI (sumN (offN B T K) i)) + (nI (offN B T K i))) = (nI (sumN (offN B T K) (i + 1))) from nI_add _ _]
    refine z_istore_n [1, 0, 2] [(0, .ref b), (1, .int ((nI (sumN (offN B T K) (i + 1))))), (2, .int ((nI i)))] dX6_sumOfSteps_23 (by decide) rfl ?_
    skip
    refine z_iinc ((nI (i + 1))) [1, 2, 0] [(0, .ref b), (1, .int ((nI (sumN (offN B T K) (i + 1))))), (2, .int ((nI (i + 1))))] dX6_sumOfSteps_24 (j := 2) rfl (nI_1 i) (by decide) rfl ?_
    refine z_goto (tgt := 4) dX6_sumOfSteps_27 (by decide) ?_
    exact ih (i + 1) (by omega) hq

set_option maxHeartbeats 4000000 in
set_option maxRecDepth 100000 in
theorem w_sumOfSteps {l : zL} {d kc ks n b B H T : Nat} {h : Nat → va_E} {K V : Nat → Nat} {s : Nat → Int32} {a : Nat → Nat → Int32} {Q : zQ} (hb : b + 6 ≤ n) (hR : tR B H T K V s a) (hq : Q (.inl (some (.int (nI (sumN (offN B T K) B))))) n (tW h b s a)) : Zj l mX6_sumOfSteps (d + 2) kc ks 0 [(0, .ref b)] [] n (tW h b s a) Q := by
  refine z_iconst (v := 0) dX6_sumOfSteps_0 (by decide) ?_
  refine z_istore_n [1, 0] [(0, .ref b), (1, .int 0)] dX6_sumOfSteps_1 (by decide) rfl ?_
  refine z_iconst (v := 0) dX6_sumOfSteps_2 (by decide) ?_
  refine z_istore_n [1, 2, 0] [(0, .ref b), (1, .int 0), (2, .int 0)] dX6_sumOfSteps_3 (by decide) rfl ?_
  exact w_sumOfSteps_l hb hR B 0 (by omega) hq

set_option maxHeartbeats 4000000 in
set_option maxRecDepth 100000 in
theorem w_mostSteps_l {l : zL} {d kc ks n b B H T : Nat} {h : Nat → va_E} {K V : Nat → Nat} {s : Nat → Int32} {a : Nat → Nat → Int32} {Q : zQ} (hb : b + 6 ≤ n) (hR : tR B H T K V s a) : ∀ m i, i + m = B → Q (.inl (some (.int (nI (maxN (offN B T K) B))))) n (tW h b s a) → Zj l mX6_mostSteps (d + 2) kc ks 4 [(0, .ref b), (1, .int ((nI (maxN (offN B T K) i)))), (2, .int ((nI i)))] [] n (tW h b s a) Q := by
  obtain ⟨okb, h2H, hH6, h1T, hT99, e6, e7, e8, ek, ev, eh, ekv, ez⟩ := id hR
  have hle := okb.le
  intro m
  induction m with
  | zero =>
    intro i hi hq
    refine z_iload_n (j := 2) dX6_mostSteps_4 rfl ?_
    refine z_aload_n (j := 0) dX6_mostSteps_5 rfl ?_
    refine z_get (v := .int (s 6)) (by omega) tW_obj fX6_64 rfl dX6_mostSteps_6 ?_
    refine z_icmp_ge (tgt := 28) dX6_mostSteps_9 (by decide) (fun c_9 => ?_) (fun c_9 => absurd (by rw [e6]; exact nI_le (by omega) (by omega)) c_9)
    refine z_iload_n (j := 1) dX6_mostSteps_28 rfl ?_
    exact z_iret rfl dX6_mostSteps_29 (by
        obtain rfl : i = B := by omega
        exact hq)
  | succ m ih =>
    intro i hi hq
    refine z_iload_n (j := 2) dX6_mostSteps_4 rfl ?_
    refine z_aload_n (j := 0) dX6_mostSteps_5 rfl ?_
    refine z_get (v := .int (s 6)) (by omega) tW_obj fX6_64 rfl dX6_mostSteps_6 ?_
    refine z_icmp_ge (tgt := 28) dX6_mostSteps_9 (by decide) (fun c_9 => absurd c_9 (by rw [e6]; exact nI_ge (by omega) (by omega))) (fun c_9 => ?_)
    refine z_iload_n (j := 1) dX6_mostSteps_12 rfl ?_
    refine z_aload_n (j := 0) dX6_mostSteps_13 rfl ?_
    refine z_iload_n (j := 2) dX6_mostSteps_14 rfl ?_
    refine z_cV [.int ((nI i))] (some (.int ((sfh B T K i)))) yoX6_stepsFromHome yvX6_stepsFromHome rfl (by decide) lX6_97 (by omega) tW_obj rfl rfl (Nat.le_of_ble_eq_true rfl) (Nat.le_of_ble_eq_true rfl) dX6_mostSteps_15 (z_room (by omega) (Nat.le_refl _) (Nat.le_refl _) (w_stepsFromHome (d := 0) hb hR (show i < B by omega) ⟨rfl, rfl, rfl⟩)) ?_
    refine z_mmax lX6_127 mm_max1 mm_ini mm_max2 (Nat.le_of_ble_eq_true rfl) dX6_mostSteps_18 ?_
    rw [max_sfh okb (maxN_le (offN_le okb) i)]
    refine z_istore_n [1, 0, 2] [(0, .ref b), (1, .int ((nI (maxN (offN B T K) (i + 1))))), (2, .int ((nI i)))] dX6_mostSteps_21 (by decide) rfl ?_
    skip
    refine z_iinc ((nI (i + 1))) [1, 2, 0] [(0, .ref b), (1, .int ((nI (maxN (offN B T K) (i + 1))))), (2, .int ((nI (i + 1))))] dX6_mostSteps_22 (j := 2) rfl (nI_1 i) (by decide) rfl ?_
    refine z_goto (tgt := 4) dX6_mostSteps_25 (by decide) ?_
    exact ih (i + 1) (by omega) hq

set_option maxHeartbeats 4000000 in
set_option maxRecDepth 100000 in
theorem w_mostSteps {l : zL} {d kc ks n b B H T : Nat} {h : Nat → va_E} {K V : Nat → Nat} {s : Nat → Int32} {a : Nat → Nat → Int32} {Q : zQ} (hb : b + 6 ≤ n) (hR : tR B H T K V s a) (hq : Q (.inl (some (.int (nI (maxN (offN B T K) B))))) n (tW h b s a)) : Zj l mX6_mostSteps (d + 2) kc ks 0 [(0, .ref b)] [] n (tW h b s a) Q := by
  refine z_iconst (v := 0) dX6_mostSteps_0 (by decide) ?_
  refine z_istore_n [1, 0] [(0, .ref b), (1, .int 0)] dX6_mostSteps_1 (by decide) rfl ?_
  refine z_iconst (v := 0) dX6_mostSteps_2 (by decide) ?_
  refine z_istore_n [1, 2, 0] [(0, .ref b), (1, .int 0), (2, .int 0)] dX6_mostSteps_3 (by decide) rfl ?_
  exact w_mostSteps_l hb hR B 0 (by omega) hq

set_option maxHeartbeats 4000000 in
set_option maxRecDepth 100000 in
theorem w_strayEntries_l {l : zL} {d kc ks n b B H T : Nat} {h : Nat → va_E} {K V : Nat → Nat} {s : Nat → Int32} {a : Nat → Nat → Int32} {Q : zQ} (hb : b + 6 ≤ n) (hR : tR B H T K V s a) : ∀ m i, i + m = B → Q (.inl (some (.int (nI (sumN (strN B H T K) B))))) n (tW h b s a) → Zj l mX6_strayEntries (d + 2) kc ks 4 [(0, .ref b), (1, .int ((nI (sumN (strN B H T K) i)))), (2, .int ((nI i)))] [] n (tW h b s a) Q := by
  obtain ⟨okb, h2H, hH6, h1T, hT99, e6, e7, e8, ek, ev, eh, ekv, ez⟩ := id hR
  have hle := okb.le
  intro m
  induction m with
  | zero =>
    intro i hi hq
    refine z_iload_n (j := 2) dX6_strayEntries_4 rfl ?_
    refine z_aload_n (j := 0) dX6_strayEntries_5 rfl ?_
    refine z_get (v := .int (s 6)) (by omega) tW_obj fX6_64 rfl dX6_strayEntries_6 ?_
    refine z_icmp_ge (tgt := 33) dX6_strayEntries_9 (by decide) (fun c_9 => ?_) (fun c_9 => absurd (by rw [e6]; exact nI_le (by omega) (by omega)) c_9)
    refine z_iload_n (j := 1) dX6_strayEntries_33 rfl ?_
    exact z_iret rfl dX6_strayEntries_34 (by
        obtain rfl : i = B := by omega
        exact hq)
  | succ m ih =>
    intro i hi hq
    refine z_iload_n (j := 2) dX6_strayEntries_4 rfl ?_
    refine z_aload_n (j := 0) dX6_strayEntries_5 rfl ?_
    refine z_get (v := .int (s 6)) (by omega) tW_obj fX6_64 rfl dX6_strayEntries_6 ?_
    refine z_icmp_ge (tgt := 33) dX6_strayEntries_9 (by decide) (fun c_9 => absurd c_9 (by rw [e6]; exact nI_ge (by omega) (by omega))) (fun c_9 => ?_)
    refine z_aload_n (j := 0) dX6_strayEntries_12 rfl ?_
    refine z_iload_n (j := 2) dX6_strayEntries_13 rfl ?_
    refine z_cV [.int ((nI i))] (some (.int ((sfh B T K i)))) yoX6_stepsFromHome yvX6_stepsFromHome rfl (by decide) lX6_97 (by omega) tW_obj rfl rfl (Nat.le_of_ble_eq_true rfl) (Nat.le_of_ble_eq_true rfl) dX6_strayEntries_14 (z_room (by omega) (Nat.le_refl _) (Nat.le_refl _) (w_stepsFromHome (d := 0) hb hR (show i < B by omega) ⟨rfl, rfl, rfl⟩)) ?_
    refine z_aload_n (j := 0) dX6_strayEntries_17 rfl ?_
    refine z_get (v := .int (s 7)) (by omega) tW_obj fX6_31 rfl dX6_strayEntries_18 ?_
    refine z_icmp_lt (tgt := 27) dX6_strayEntries_21 (by decide) (fun c_21 => ?_) (fun c_21 => ?_)
    · skip
      refine z_iinc ((nI (i + 1))) [1, 2, 0] [(0, .ref b), (1, .int ((nI (sumN (strN B H T K) i)))), (2, .int ((nI (i + 1))))] dX6_strayEntries_27 (j := 2) rfl (nI_1 i) (by decide) rfl ?_
      refine z_goto (tgt := 4) dX6_strayEntries_30 (by decide) ?_
      have hb0 : strN B H T K i = 0 := if_neg (fun e => by
        have hd := dst_lt (T := T) (K := K) (i := i) okb
        rw [sfh, if_neg e.1, e7] at c_21
        have := (nI_ltI (by omega) (by omega)).mp c_21
        omega)
      have hs : sumN (strN B H T K) (i + 1) = sumN (strN B H T K) i + 0 := by simp only [sumN, hb0]
      refine ih (i + 1) (by omega) hq |> fun z => ?_
      rw [hs] at z
      exact z
    · skip
      refine z_iinc ((nI (sumN (strN B H T K) i + 1))) [1, 0, 2] [(0, .ref b), (1, .int ((nI (sumN (strN B H T K) i + 1)))), (2, .int ((nI i)))] dX6_strayEntries_24 (j := 1) rfl (nI_1 _) (by decide) rfl ?_
      skip
      refine z_iinc ((nI (i + 1))) [1, 2, 0] [(0, .ref b), (1, .int ((nI (sumN (strN B H T K) i + 1)))), (2, .int ((nI (i + 1))))] dX6_strayEntries_27 (j := 2) rfl (nI_1 i) (by decide) rfl ?_
      refine z_goto (tgt := 4) dX6_strayEntries_30 (by decide) ?_
      have hb0 : strN B H T K i = 1 := by
        have hd := dst_lt (T := T) (K := K) (i := i) okb
        rw [sfh, e7] at c_21
        by_cases hK : K i = 0
        · rw [if_pos hK] at c_21
          exact absurd (Int32.lt_of_lt_of_le (by decide : (-1 : Int32) < 0) (nI_pos' (by omega))) c_21
        · rw [if_neg hK] at c_21
          refine if_pos ⟨hK, ?_⟩
          by_cases h9 : H ≤ dst B T K i
          · exact h9
          · exact absurd (nI_lt (show dst B T K i < H by omega) (by omega)) c_21
      have hs : sumN (strN B H T K) (i + 1) = sumN (strN B H T K) i + 1 := by simp only [sumN, hb0]
      refine ih (i + 1) (by omega) hq |> fun z => ?_
      rw [hs] at z
      exact z

set_option maxHeartbeats 4000000 in
set_option maxRecDepth 100000 in
theorem w_strayEntries {l : zL} {d kc ks n b B H T : Nat} {h : Nat → va_E} {K V : Nat → Nat} {s : Nat → Int32} {a : Nat → Nat → Int32} {Q : zQ} (hb : b + 6 ≤ n) (hR : tR B H T K V s a) (hq : Q (.inl (some (.int (nI (sumN (strN B H T K) B))))) n (tW h b s a)) : Zj l mX6_strayEntries (d + 2) kc ks 0 [(0, .ref b)] [] n (tW h b s a) Q := by
  refine z_iconst (v := 0) dX6_strayEntries_0 (by decide) ?_
  refine z_istore_n [1, 0] [(0, .ref b), (1, .int 0)] dX6_strayEntries_1 (by decide) rfl ?_
  refine z_iconst (v := 0) dX6_strayEntries_2 (by decide) ?_
  refine z_istore_n [1, 2, 0] [(0, .ref b), (1, .int 0), (2, .int 0)] dX6_strayEntries_3 (by decide) rfl ?_
  exact w_strayEntries_l hb hR B 0 (by omega) hq

theorem max_run {B : Nat} {K : Nat → Nat} : ∀ i, maxN (fun j => runN B K (j + 1)) i ≤ i
  | 0 => Nat.le_refl _
  | i + 1 => by
    have h1 := max_run (B := B) (K := K) i
    have h2 := runN_le (B := B) (K := K) (i + 1)
    simp only [maxN]
    split <;> omega
theorem min_nI {a b : Nat} (ha : a < 2 ^ 31) (hb : b < 2 ^ 31) : (if nI a < nI b then nI a else nI b) = nI (if a < b then a else b) := by
  by_cases h : a < b
  · rw [if_pos h, if_pos (nI_lt h hb)]
  · rw [if_neg h, if_neg (nI_nlt (by omega) ha)]
