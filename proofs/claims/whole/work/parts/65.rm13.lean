set_option maxHeartbeats 4000000 in
set_option maxRecDepth 100000 in
theorem r_hops_l {l : zL} {d kc ks n b B H T : Nat} {h : Nat → va_E} {K V : Nat → Nat} {s : Nat → Int32} {a : Nat → Nat → Int32} {Q : zQ} {hm : Nat} (hb : b + 14 ≤ n) (hM : mV B H T K V (a 0)) (hhm : hm < B) : ∀ m k, k + m = H → Q (.inl (some (.int (nI (hop B H T K hm))))) n (mW h b s a) → Zj l mX8_hops (d + 2) kc ks 4 [(0, .ref b), (1, .int ((nI hm))), (2, .int ((nI (hb6 (fun k => isO B T K ((hm + k) % B) hm) k)))), (3, .int ((nI k)))] [] n (mW h b s a) Q := by
  obtain ⟨okb, h2H, hH6, h1T, hT99, e0, e1, e2, ek, ev, ekv, ez⟩ := id hM
  have hle := okb.le
  intro m
  induction m with
  | zero =>
    intro k hk hq
    refine z_iload_n (j := 3) dX8_hops_4 rfl ?_
    refine z_aload_n (j := 0) dX8_hops_5 rfl ?_
    refine z_get (v := .ref (b + 1)) (by omega) mW_obj fX8_7 rfl dX8_hops_6 ?_
    refine z_iconst (v := 1) dX8_hops_9 (by decide) ?_
    refine m_aldN 0 137 1 (by decide) rfl rfl hb rfl (by omega) (by decide) dX8_hops_10 ?_
    refine z_icmp_ge (tgt := 44) dX8_hops_11 (by decide) (fun c_11 => ?_) (fun c_11 => absurd (by rw [e1]; exact nI_le (by omega) (by omega)) c_11)
    refine z_iload_n (j := 2) dX8_hops_44 rfl ?_
    exact z_iret rfl dX8_hops_45 (by
        obtain rfl : k = H := by omega
        exact hq)
  | succ m ih =>
    intro k hk hq
    refine z_iload_n (j := 3) dX8_hops_4 rfl ?_
    refine z_aload_n (j := 0) dX8_hops_5 rfl ?_
    refine z_get (v := .ref (b + 1)) (by omega) mW_obj fX8_7 rfl dX8_hops_6 ?_
    refine z_iconst (v := 1) dX8_hops_9 (by decide) ?_
    refine m_aldN 0 137 1 (by decide) rfl rfl hb rfl (by omega) (by decide) dX8_hops_10 ?_
    refine z_icmp_ge (tgt := 44) dX8_hops_11 (by decide) (fun c_11 => absurd c_11 (by rw [e1]; exact nI_ge (by omega) (by omega))) (fun c_11 => ?_)
    refine z_iload_n (j := 2) dX8_hops_14 rfl ?_
    refine z_aload_n (j := 0) dX8_hops_15 rfl ?_
    refine z_aload_n (j := 0) dX8_hops_16 rfl ?_
    refine z_iload_n (j := 1) dX8_hops_17 rfl ?_
    refine z_iload_n (j := 3) dX8_hops_18 rfl ?_
    refine z_cV [.int ((nI hm)), .int ((nI k))] (some (.int ((nI ((hm + k) % B))))) yoX8_behind yvX8_behind rfl (by decide) lX8_86 (by omega) mW_obj rfl rfl (Nat.le_of_ble_eq_true rfl) (Nat.le_of_ble_eq_true rfl) dX8_hops_19 (z_room (by omega) (Nat.le_refl _) (Nat.le_refl _) (r_behind (d := 0) hb hM (by omega) (by omega) ⟨rfl, rfl, rfl⟩)) ?_
    refine z_iload_n (j := 1) dX8_hops_22 rfl ?_
    refine z_cV [.int ((nI ((hm + k) % B))), .int ((nI hm))] (some (.int ((bI (isO B T K ((hm + k) % B) hm = true))))) yoX8_isOf yvX8_isOf rfl (by decide) lX8_89 (by omega) mW_obj rfl rfl (Nat.le_of_ble_eq_true rfl) (Nat.le_of_ble_eq_true rfl) dX8_hops_23 (z_room (by omega) (Nat.le_refl _) (Nat.le_refl _) (r_isOf (d := 0) hb hM (mod_lt' okb) hhm ⟨rfl, rfl, rfl⟩)) ?_
    refine z_if_eq (tgt := 35) dX8_hops_26 (by decide) (fun c_26 => ?_) (fun c_26 => ?_)
    · refine z_iconst (v := 0) dX8_hops_35 (by decide) ?_
      refine z_ior dX8_hops_36 ?_
      have hno : ¬ isO B T K ((hm + k) % B) hm = true := bI_0.mp c_26
      rw [show nI (hb6 (fun k => isO B T K ((hm + k) % B) hm) k) ||| 0 = nI (hb6 (fun k => isO B T K ((hm + k) % B) hm) (k + 1)) from by rw [or_zero, hb6, if_neg hno, Nat.add_zero]]
      refine z_istore_n [1, 2, 0, 3] [(0, .ref b), (1, .int ((nI hm))), (2, .int ((nI (hb6 (fun k => isO B T K ((hm + k) % B) hm) (k + 1))))), (3, .int ((nI k)))] dX8_hops_37 (by decide) rfl ?_
      skip
      refine z_iinc ((nI (k + 1))) [1, 2, 3, 0] [(0, .ref b), (1, .int ((nI hm))), (2, .int ((nI (hb6 (fun k => isO B T K ((hm + k) % B) hm) (k + 1))))), (3, .int ((nI (k + 1))))] dX8_hops_38 (j := 3) rfl (nI_1 k) (by decide) rfl ?_
      refine z_goto (tgt := 4) dX8_hops_41 (by decide) ?_
      exact ih (k + 1) (by omega) hq
    · refine z_iconst (v := 1) dX8_hops_29 (by decide) ?_
      refine z_iload_n (j := 3) dX8_hops_30 rfl ?_
      refine z_ishl dX8_hops_31 ?_
      refine z_goto (tgt := 36) dX8_hops_32 (by decide) ?_
      refine z_ior dX8_hops_36 ?_
      have hyes : isO B T K ((hm + k) % B) hm = true := bI_n.mp c_26
      rw [show nI (hb6 (fun k => isO B T K ((hm + k) % B) hm) k) ||| ((1 : Int32) <<< (nI k &&& 31)) = nI (hb6 (fun k => isO B T K ((hm + k) % B) hm) (k + 1)) from by rw [or_bit k (by omega) _ (hb6_lt _ k), hb6, if_pos hyes]]
      refine z_istore_n [1, 2, 0, 3] [(0, .ref b), (1, .int ((nI hm))), (2, .int ((nI (hb6 (fun k => isO B T K ((hm + k) % B) hm) (k + 1))))), (3, .int ((nI k)))] dX8_hops_37 (by decide) rfl ?_
      skip
      refine z_iinc ((nI (k + 1))) [1, 2, 3, 0] [(0, .ref b), (1, .int ((nI hm))), (2, .int ((nI (hb6 (fun k => isO B T K ((hm + k) % B) hm) (k + 1))))), (3, .int ((nI (k + 1))))] dX8_hops_38 (j := 3) rfl (nI_1 k) (by decide) rfl ?_
      refine z_goto (tgt := 4) dX8_hops_41 (by decide) ?_
      exact ih (k + 1) (by omega) hq

set_option maxHeartbeats 4000000 in
set_option maxRecDepth 100000 in
theorem r_hops {l : zL} {d kc ks n b B H T : Nat} {h : Nat → va_E} {K V : Nat → Nat} {s : Nat → Int32} {a : Nat → Nat → Int32} {Q : zQ} {hm : Nat} (hb : b + 14 ≤ n) (hM : mV B H T K V (a 0)) (hhm : hm < B) (hq : Q (.inl (some (.int (nI (hop B H T K hm))))) n (mW h b s a)) : Zj l mX8_hops (d + 2) kc ks 0 [(0, .ref b), (1, .int ((nI hm)))] [] n (mW h b s a) Q := by
  refine z_iconst (v := 0) dX8_hops_0 (by decide) ?_
  refine z_istore_n [1, 2, 0] [(0, .ref b), (1, .int ((nI hm))), (2, .int 0)] dX8_hops_1 (by decide) rfl ?_
  refine z_iconst (v := 0) dX8_hops_2 (by decide) ?_
  refine z_istore_n [1, 2, 3, 0] [(0, .ref b), (1, .int ((nI hm))), (2, .int 0), (3, .int 0)] dX8_hops_3 (by decide) rfl ?_
  exact r_hops_l hb hM hhm H 0 (by omega) hq

set_option maxHeartbeats 4000000 in
set_option maxRecDepth 100000 in
theorem r_doublesOf_l {l : zL} {d kc ks n b B H T : Nat} {h : Nat → va_E} {K V : Nat → Nat} {s : Nat → Int32} {a : Nat → Nat → Int32} {Q : zQ} {i : Nat} (hb : b + 14 ≤ n) (hM : mV B H T K V (a 0)) (hiB : i < B) : ∀ m j, j + m = i → Q (.inl (some (.int (nI (sumN (twN K i) i))))) n (mW h b s a) → Zj l mX8_doublesOf (d + 1) kc ks 4 [(0, .ref b), (1, .int ((nI i))), (2, .int ((nI (sumN (twN K i) j)))), (3, .int ((nI j)))] [] n (mW h b s a) Q := by
  obtain ⟨okb, h2H, hH6, h1T, hT99, e0, e1, e2, ek, ev, ekv, ez⟩ := id hM
  have hle := okb.le
  intro m
  induction m with
  | zero =>
    intro j hj hq
    refine z_iload_n (j := 3) dX8_doublesOf_4 rfl ?_
    refine z_iload_n (j := 1) dX8_doublesOf_5 rfl ?_
    refine z_icmp_ge (tgt := 44) dX8_doublesOf_6 (by decide) (fun c_6 => ?_) (fun c_6 => absurd (nI_le (by omega) (by omega)) c_6)
    refine z_iload_n (j := 2) dX8_doublesOf_44 rfl ?_
    exact z_iret rfl dX8_doublesOf_45 (by
        obtain rfl : j = i := by omega
        exact hq)
  | succ m ih =>
    intro j hj hq
    refine z_iload_n (j := 3) dX8_doublesOf_4 rfl ?_
    refine z_iload_n (j := 1) dX8_doublesOf_5 rfl ?_
    refine z_icmp_ge (tgt := 44) dX8_doublesOf_6 (by decide) (fun c_6 => absurd c_6 (nI_ge (by omega) (by omega))) (fun c_6 => ?_)
    refine z_iload_n (j := 2) dX8_doublesOf_9 rfl ?_
    refine z_aload_n (j := 0) dX8_doublesOf_10 rfl ?_
    refine z_iload_n (j := 1) dX8_doublesOf_11 rfl ?_
    refine z_cV [.int ((nI i))] (some (.int ((bI (K i = 0))))) yoX8_isFree yvX8_isFree rfl (by decide) lX8_82 (by omega) mW_obj rfl rfl (Nat.le_of_ble_eq_true rfl) (Nat.le_of_ble_eq_true rfl) dX8_doublesOf_12 (z_room (by omega) (Nat.le_refl _) (Nat.le_refl _) (r_isFree (d := 0) hb hM hiB ⟨rfl, rfl, rfl⟩)) ?_
    refine z_if_ne (tgt := 35) dX8_doublesOf_15 (by decide) (fun c_15 => ?_) (fun c_15 => ?_)
    · refine z_iconst (v := 0) dX8_doublesOf_35 (by decide) ?_
      refine z_iadd dX8_doublesOf_36 ?_
      have hb0 : twN K i j = 0 := if_neg (fun e => e.1 (bI_n.mp c_15))
      rw [show nI (sumN (twN K i) j) + 0 = nI (sumN (twN K i) (j + 1)) from by rw [sumN, hb0]; exact Int32.add_zero _]
      refine z_istore_n [1, 2, 0, 3] [(0, .ref b), (1, .int ((nI i))), (2, .int ((nI (sumN (twN K i) (j + 1))))), (3, .int ((nI j)))] dX8_doublesOf_37 (by decide) rfl ?_
      skip
      refine z_iinc ((nI (j + 1))) [1, 2, 3, 0] [(0, .ref b), (1, .int ((nI i))), (2, .int ((nI (sumN (twN K i) (j + 1))))), (3, .int ((nI (j + 1))))] dX8_doublesOf_38 (j := 3) rfl (nI_1 j) (by decide) rfl ?_
      refine z_goto (tgt := 4) dX8_doublesOf_41 (by decide) ?_
      exact ih (j + 1) (by omega) hq
    · refine z_aload_n (j := 0) dX8_doublesOf_18 rfl ?_
      refine z_iload_n (j := 3) dX8_doublesOf_19 rfl ?_
      refine z_cV [.int ((nI j))] (some (.int ((tkey (K j))))) yoX8_key yvX8_key rfl (by decide) lX8_71 (by omega) mW_obj rfl rfl (Nat.le_of_ble_eq_true rfl) (Nat.le_of_ble_eq_true rfl) dX8_doublesOf_20 (z_room (by omega) (Nat.le_refl _) (Nat.le_refl _) (r_key (d := 0) hb hM (by omega) ⟨rfl, rfl, rfl⟩)) ?_
      refine z_aload_n (j := 0) dX8_doublesOf_23 rfl ?_
      refine z_iload_n (j := 1) dX8_doublesOf_24 rfl ?_
      refine z_cV [.int ((nI i))] (some (.int ((tkey (K i))))) yoX8_key yvX8_key rfl (by decide) lX8_71 (by omega) mW_obj rfl rfl (Nat.le_of_ble_eq_true rfl) (Nat.le_of_ble_eq_true rfl) dX8_doublesOf_25 (z_room (by omega) (Nat.le_refl _) (Nat.le_refl _) (r_key (d := 0) hb hM hiB ⟨rfl, rfl, rfl⟩)) ?_
      refine z_icmp_ne (tgt := 35) dX8_doublesOf_28 (by decide) (fun c_28 => ?_) (fun c_28 => ?_)
      · refine z_iconst (v := 0) dX8_doublesOf_35 (by decide) ?_
        refine z_iadd dX8_doublesOf_36 ?_
        have hK : K i ≠ 0 := bI_0.mp c_15
        have hiff : tkey (K j) = tkey (K i) ↔ K i = K j := by
          unfold tkey
          have h1 := ekv i
          have h2 := ekv j
          by_cases h3 : K j = 0
          · rw [if_pos h3, if_neg hK]
            exact ⟨fun e => absurd e.symm (nI_neg1 (by omega)), fun e => absurd (e.trans h3) hK⟩
          · rw [if_neg hK, if_neg h3, nI_eq (by omega) (by omega)]
            omega
        have hb0 : twN K i j = 0 := if_neg (fun e => c_28 (hiff.mpr e.2))
        rw [show nI (sumN (twN K i) j) + 0 = nI (sumN (twN K i) (j + 1)) from by rw [sumN, hb0]; exact Int32.add_zero _]
        refine z_istore_n [1, 2, 0, 3] [(0, .ref b), (1, .int ((nI i))), (2, .int ((nI (sumN (twN K i) (j + 1))))), (3, .int ((nI j)))] dX8_doublesOf_37 (by decide) rfl ?_
        skip
        refine z_iinc ((nI (j + 1))) [1, 2, 3, 0] [(0, .ref b), (1, .int ((nI i))), (2, .int ((nI (sumN (twN K i) (j + 1))))), (3, .int ((nI (j + 1))))] dX8_doublesOf_38 (j := 3) rfl (nI_1 j) (by decide) rfl ?_
        refine z_goto (tgt := 4) dX8_doublesOf_41 (by decide) ?_
        exact ih (j + 1) (by omega) hq
      · refine z_iconst (v := 1) dX8_doublesOf_31 (by decide) ?_
        refine z_goto (tgt := 36) dX8_doublesOf_32 (by decide) ?_
        refine z_iadd dX8_doublesOf_36 ?_
        have hK : K i ≠ 0 := bI_0.mp c_15
        have hiff : tkey (K j) = tkey (K i) ↔ K i = K j := by
          unfold tkey
          have h1 := ekv i
          have h2 := ekv j
          by_cases h3 : K j = 0
          · rw [if_pos h3, if_neg hK]
            exact ⟨fun e => absurd e.symm (nI_neg1 (by omega)), fun e => absurd (e.trans h3) hK⟩
          · rw [if_neg hK, if_neg h3, nI_eq (by omega) (by omega)]
            omega
        have hb0 : twN K i j = 1 := if_pos ⟨hK, hiff.mp c_28⟩
        rw [show nI (sumN (twN K i) j) + 1 = nI (sumN (twN K i) (j + 1)) from by rw [sumN, hb0]; exact nI_1 _]
        refine z_istore_n [1, 2, 0, 3] [(0, .ref b), (1, .int ((nI i))), (2, .int ((nI (sumN (twN K i) (j + 1))))), (3, .int ((nI j)))] dX8_doublesOf_37 (by decide) rfl ?_
        skip
        refine z_iinc ((nI (j + 1))) [1, 2, 3, 0] [(0, .ref b), (1, .int ((nI i))), (2, .int ((nI (sumN (twN K i) (j + 1))))), (3, .int ((nI (j + 1))))] dX8_doublesOf_38 (j := 3) rfl (nI_1 j) (by decide) rfl ?_
        refine z_goto (tgt := 4) dX8_doublesOf_41 (by decide) ?_
        exact ih (j + 1) (by omega) hq

set_option maxHeartbeats 4000000 in
set_option maxRecDepth 100000 in
theorem r_doublesOf {l : zL} {d kc ks n b B H T : Nat} {h : Nat → va_E} {K V : Nat → Nat} {s : Nat → Int32} {a : Nat → Nat → Int32} {Q : zQ} {i : Nat} (hb : b + 14 ≤ n) (hM : mV B H T K V (a 0)) (hiB : i < B) (hq : Q (.inl (some (.int (nI (sumN (twN K i) i))))) n (mW h b s a)) : Zj l mX8_doublesOf (d + 1) kc ks 0 [(0, .ref b), (1, .int ((nI i)))] [] n (mW h b s a) Q := by
  refine z_iconst (v := 0) dX8_doublesOf_0 (by decide) ?_
  refine z_istore_n [1, 2, 0] [(0, .ref b), (1, .int ((nI i))), (2, .int 0)] dX8_doublesOf_1 (by decide) rfl ?_
  refine z_iconst (v := 0) dX8_doublesOf_2 (by decide) ?_
  refine z_istore_n [1, 2, 3, 0] [(0, .ref b), (1, .int ((nI i))), (2, .int 0), (3, .int 0)] dX8_doublesOf_3 (by decide) rfl ?_
  exact r_doublesOf_l hb hM hiB i 0 (by omega) hq
