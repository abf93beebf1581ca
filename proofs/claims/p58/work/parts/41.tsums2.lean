set_option maxHeartbeats 4000000 in
set_option maxRecDepth 100000 in
theorem w_twins_j {l : zL} {d kc ks n b B H T : Nat} {h : Nat → va_E} {K V : Nat → Nat} {s : Nat → Int32} {a : Nat → Nat → Int32} {Q : zQ} {i : Nat} (hb : b + 6 ≤ n) (hR : tR B H T K V s a) (hiB : i < B) : ∀ m j, j + m = i → Zj l mX6_twins (d + 1) kc ks 4 [(0, .ref b), (1, .int (nI (sumN (fun i => sumN (twN K i) i) (i + 1)))), (2, .int (nI (i + 1)))] [] n (tW h b s a) Q → Zj l mX6_twins (d + 1) kc ks 14 [(0, .ref b), (1, .int ((nI (sumN (fun i => sumN (twN K i) i) i + sumN (twN K i) j)))), (2, .int ((nI i))), (3, .int ((nI j)))] [] n (tW h b s a) Q := by
  obtain ⟨okb, h2H, hH6, h1T, hT99, e6, e7, e8, ek, ev, eh, ekv, ez⟩ := id hR
  have hle := okb.le
  intro m
  induction m with
  | zero =>
    intro j hj hk
    refine z_iload_n (j := 3) dX6_twins_14 rfl ?_
    refine z_iload_n (j := 2) dX6_twins_15 rfl ?_
    refine z_icmp_ge (tgt := 50) dX6_twins_16 (by decide) (fun c_16 => ?_) (fun c_16 => absurd (nI_le (by omega) (by omega)) c_16)
    skip
    refine z_iinc ((nI (i + 1))) [1, 2, 0, 3] [(0, .ref b), (1, .int ((nI (sumN (fun i => sumN (twN K i) i) i + sumN (twN K i) j)))), (2, .int ((nI (i + 1)))), (3, .int ((nI j)))] dX6_twins_50 (j := 2) rfl (nI_1 i) (by decide) rfl ?_
    refine z_goto (tgt := 4) dX6_twins_53 (by decide) ?_
    refine z_lv [(0, .ref b), (1, .int ((nI (sumN (fun i => sumN (twN K i) i) i + sumN (twN K i) j)))), (2, .int ((nI (i + 1))))] [0, 1, 2] rfl ?_
    obtain rfl : j = i := by omega
    exact hk
  | succ m ih =>
    intro j hj hk
    refine z_iload_n (j := 3) dX6_twins_14 rfl ?_
    refine z_iload_n (j := 2) dX6_twins_15 rfl ?_
    refine z_icmp_ge (tgt := 50) dX6_twins_16 (by decide) (fun c_16 => absurd c_16 (nI_ge (by omega) (by omega))) (fun c_16 => ?_)
    refine z_aload_n (j := 0) dX6_twins_19 rfl ?_
    refine z_iload_n (j := 2) dX6_twins_20 rfl ?_
    refine z_cV [.int ((nI i))] (some (.int ((tkey (K i))))) yoX6_keyIn yvX6_keyIn rfl (by decide) lX6_124 (by omega) tW_obj rfl rfl (Nat.le_of_ble_eq_true rfl) (Nat.le_of_ble_eq_true rfl) dX6_twins_21 (z_room (by omega) (Nat.le_refl _) (Nat.le_refl _) (w_keyIn (d := 0) hb hR (show i < B by omega) ⟨rfl, rfl, rfl⟩)) ?_
    refine z_iconst (v := (-1)) dX6_twins_24 (by decide) ?_
    refine z_icmp_eq (tgt := 44) dX6_twins_25 (by decide) (fun c_25 => ?_) (fun c_25 => ?_)
    · skip
      refine z_iinc ((nI (j + 1))) [1, 2, 3, 0] [(0, .ref b), (1, .int ((nI (sumN (fun i => sumN (twN K i) i) i + sumN (twN K i) j)))), (2, .int ((nI i))), (3, .int ((nI (j + 1))))] dX6_twins_44 (j := 3) rfl (nI_1 j) (by decide) rfl ?_
      refine z_goto (tgt := 14) dX6_twins_47 (by decide) ?_
      have hb0 : twN K i j = 0 := if_neg (fun e => e.1 ((tkey_eq (ekv i).1).mp c_25))
      have hs : sumN (fun i => sumN (twN K i) i) i + sumN (twN K i) (j + 1) = sumN (fun i => sumN (twN K i) i) i + sumN (twN K i) j + 0 := by simp only [sumN, hb0]; omega
      refine ih (j + 1) (by omega) hk |> fun z => ?_
      rw [hs] at z
      exact z
    · refine z_aload_n (j := 0) dX6_twins_28 rfl ?_
      refine z_iload_n (j := 2) dX6_twins_29 rfl ?_
      refine z_cV [.int ((nI i))] (some (.int ((tkey (K i))))) yoX6_keyIn yvX6_keyIn rfl (by decide) lX6_124 (by omega) tW_obj rfl rfl (Nat.le_of_ble_eq_true rfl) (Nat.le_of_ble_eq_true rfl) dX6_twins_30 (z_room (by omega) (Nat.le_refl _) (Nat.le_refl _) (w_keyIn (d := 0) hb hR (show i < B by omega) ⟨rfl, rfl, rfl⟩)) ?_
      refine z_aload_n (j := 0) dX6_twins_33 rfl ?_
      refine z_iload_n (j := 3) dX6_twins_34 rfl ?_
      refine z_cV [.int ((nI j))] (some (.int ((tkey (K j))))) yoX6_keyIn yvX6_keyIn rfl (by decide) lX6_124 (by omega) tW_obj rfl rfl (Nat.le_of_ble_eq_true rfl) (Nat.le_of_ble_eq_true rfl) dX6_twins_35 (z_room (by omega) (Nat.le_refl _) (Nat.le_refl _) (w_keyIn (d := 0) hb hR (show j < B by omega) ⟨rfl, rfl, rfl⟩)) ?_
      refine z_icmp_ne (tgt := 44) dX6_twins_38 (by decide) (fun c_38 => ?_) (fun c_38 => ?_)
      · skip
        refine z_iinc ((nI (j + 1))) [1, 2, 3, 0] [(0, .ref b), (1, .int ((nI (sumN (fun i => sumN (twN K i) i) i + sumN (twN K i) j)))), (2, .int ((nI i))), (3, .int ((nI (j + 1))))] dX6_twins_44 (j := 3) rfl (nI_1 j) (by decide) rfl ?_
        refine z_goto (tgt := 14) dX6_twins_47 (by decide) ?_
        have hK : K i ≠ 0 := fun e => c_25 ((tkey_eq (ekv i).1).mpr e)
        have hiff : tkey (K i) = tkey (K j) ↔ K i = K j := by
          unfold tkey
          have h1 := ekv i
          have h2 := ekv j
          by_cases h3 : K j = 0
          · rw [if_neg hK, if_pos h3]
            exact ⟨fun e => absurd e (nI_neg1 (by omega)), fun e => absurd (e.trans h3) hK⟩
          · rw [if_neg hK, if_neg h3, nI_eq (by omega) (by omega)]
            omega
        have hb0 : twN K i j = 0 := if_neg (fun e => c_38 (hiff.mpr e.2))
        have hs : sumN (fun i => sumN (twN K i) i) i + sumN (twN K i) (j + 1) = sumN (fun i => sumN (twN K i) i) i + sumN (twN K i) j + 0 := by simp only [sumN, hb0]; omega
        refine ih (j + 1) (by omega) hk |> fun z => ?_
        rw [hs] at z
        exact z
      · skip
        refine z_iinc ((nI (sumN (fun i => sumN (twN K i) i) i + sumN (twN K i) j + 1))) [1, 0, 2, 3] [(0, .ref b), (1, .int ((nI (sumN (fun i => sumN (twN K i) i) i + sumN (twN K i) j + 1)))), (2, .int ((nI i))), (3, .int ((nI j)))] dX6_twins_41 (j := 1) rfl (nI_1 _) (by decide) rfl ?_
        skip
        refine z_iinc ((nI (j + 1))) [1, 2, 3, 0] [(0, .ref b), (1, .int ((nI (sumN (fun i => sumN (twN K i) i) i + sumN (twN K i) j + 1)))), (2, .int ((nI i))), (3, .int ((nI (j + 1))))] dX6_twins_44 (j := 3) rfl (nI_1 j) (by decide) rfl ?_
        refine z_goto (tgt := 14) dX6_twins_47 (by decide) ?_
        have hK : K i ≠ 0 := fun e => c_25 ((tkey_eq (ekv i).1).mpr e)
        have hiff : tkey (K i) = tkey (K j) ↔ K i = K j := by
          unfold tkey
          have h1 := ekv i
          have h2 := ekv j
          by_cases h3 : K j = 0
          · rw [if_neg hK, if_pos h3]
            exact ⟨fun e => absurd e (nI_neg1 (by omega)), fun e => absurd (e.trans h3) hK⟩
          · rw [if_neg hK, if_neg h3, nI_eq (by omega) (by omega)]
            omega
        have hb0 : twN K i j = 1 := if_pos ⟨hK, hiff.mp c_38⟩
        have hs : sumN (fun i => sumN (twN K i) i) i + sumN (twN K i) (j + 1) = sumN (fun i => sumN (twN K i) i) i + sumN (twN K i) j + 1 := by simp only [sumN, hb0]; omega
        refine ih (j + 1) (by omega) hk |> fun z => ?_
        rw [hs] at z
        exact z

set_option maxHeartbeats 4000000 in
set_option maxRecDepth 100000 in
theorem w_twins_l {l : zL} {d kc ks n b B H T : Nat} {h : Nat → va_E} {K V : Nat → Nat} {s : Nat → Int32} {a : Nat → Nat → Int32} {Q : zQ} (hb : b + 6 ≤ n) (hR : tR B H T K V s a) : ∀ m i, i + m = B → Q (.inl (some (.int (nI (sumN (fun i => sumN (twN K i) i) B))))) n (tW h b s a) → Zj l mX6_twins (d + 1) kc ks 4 [(0, .ref b), (1, .int ((nI (sumN (fun i => sumN (twN K i) i) i)))), (2, .int ((nI i)))] [] n (tW h b s a) Q := by
  obtain ⟨okb, h2H, hH6, h1T, hT99, e6, e7, e8, ek, ev, eh, ekv, ez⟩ := id hR
  have hle := okb.le
  intro m
  induction m with
  | zero =>
    intro i hi hq
    refine z_iload_n (j := 2) dX6_twins_4 rfl ?_
    refine z_aload_n (j := 0) dX6_twins_5 rfl ?_
    refine z_get (v := .int (s 6)) (by omega) tW_obj fX6_64 rfl dX6_twins_6 ?_
    refine z_icmp_ge (tgt := 56) dX6_twins_9 (by decide) (fun c_9 => ?_) (fun c_9 => absurd (by rw [e6]; exact nI_le (by omega) (by omega)) c_9)
    refine z_iload_n (j := 1) dX6_twins_56 rfl ?_
    exact z_iret rfl dX6_twins_57 (by
        obtain rfl : i = B := by omega
        exact hq)
  | succ m ih =>
    intro i hi hq
    refine z_iload_n (j := 2) dX6_twins_4 rfl ?_
    refine z_aload_n (j := 0) dX6_twins_5 rfl ?_
    refine z_get (v := .int (s 6)) (by omega) tW_obj fX6_64 rfl dX6_twins_6 ?_
    refine z_icmp_ge (tgt := 56) dX6_twins_9 (by decide) (fun c_9 => absurd c_9 (by rw [e6]; exact nI_ge (by omega) (by omega))) (fun c_9 => ?_)
    refine z_iconst (v := 0) dX6_twins_12 (by decide) ?_
    refine z_istore_n [1, 2, 3, 0] [(0, .ref b), (1, .int ((nI (sumN (fun i => sumN (twN K i) i) i)))), (2, .int ((nI i))), (3, .int 0)] dX6_twins_13 (by decide) rfl ?_
    exact w_twins_j hb hR (by omega) i 0 (by omega) (ih (i + 1) (by omega) hq)

set_option maxHeartbeats 4000000 in
set_option maxRecDepth 100000 in
theorem w_twins {l : zL} {d kc ks n b B H T : Nat} {h : Nat → va_E} {K V : Nat → Nat} {s : Nat → Int32} {a : Nat → Nat → Int32} {Q : zQ} (hb : b + 6 ≤ n) (hR : tR B H T K V s a) (hq : Q (.inl (some (.int (nI (sumN (fun i => sumN (twN K i) i) B))))) n (tW h b s a)) : Zj l mX6_twins (d + 1) kc ks 0 [(0, .ref b)] [] n (tW h b s a) Q := by
  refine z_iconst (v := 0) dX6_twins_0 (by decide) ?_
  refine z_istore_n [1, 0] [(0, .ref b), (1, .int 0)] dX6_twins_1 (by decide) rfl ?_
  refine z_iconst (v := 0) dX6_twins_2 (by decide) ?_
  refine z_istore_n [1, 2, 0] [(0, .ref b), (1, .int 0), (2, .int 0)] dX6_twins_3 (by decide) rfl ?_
  exact w_twins_l hb hR B 0 (by omega) hq

set_option maxHeartbeats 4000000 in
set_option maxRecDepth 100000 in
theorem w_wrongHops_k {l : zL} {d kc ks n b B H T : Nat} {h : Nat → va_E} {K V : Nat → Nat} {s : Nat → Int32} {a : Nat → Nat → Int32} {Q : zQ} {i : Nat} (hb : b + 6 ≤ n) (hR : tR B H T K V s a) (hiB : i < B) : ∀ m k, k + m = H → Zj l mX6_wrongHops (d + 1) kc ks 96 [(0, .ref b), (1, .int 0), (2, .int (nI i)), (3, .int (nI H))] [] n (tW h b s a) Q → Zj l mX6_wrongHops (d + 1) kc ks 14 [(0, .ref b), (1, .int 0), (2, .int ((nI i))), (3, .int ((nI k)))] [] n (tW h b s a) Q := by
  obtain ⟨okb, h2H, hH6, h1T, hT99, e6, e7, e8, ek, ev, eh, ekv, ez⟩ := id hR
  have hle := okb.le
  intro m
  induction m with
  | zero =>
    intro k hkm hk
    refine z_iload_n (j := 3) dX6_wrongHops_14 rfl ?_
    refine z_aload_n (j := 0) dX6_wrongHops_15 rfl ?_
    refine z_get (v := .int (s 7)) (by omega) tW_obj fX6_31 rfl dX6_wrongHops_16 ?_
    refine z_icmp_ge (tgt := 96) dX6_wrongHops_19 (by decide) (fun c_19 => ?_) (fun c_19 => absurd (by rw [e7]; exact nI_le (by omega) (by omega)) c_19)
    obtain rfl : k = H := by omega
    exact hk
  | succ m ih =>
    intro k hkm hk
    have hbit := hop_bit (B := B) (T := T) (K := K) (i := i) hH6 (show k < H by omega)
    have hx : (i + k) % B < B := mod_lt' okb
    refine z_iload_n (j := 3) dX6_wrongHops_14 rfl ?_
    refine z_aload_n (j := 0) dX6_wrongHops_15 rfl ?_
    refine z_get (v := .int (s 7)) (by omega) tW_obj fX6_31 rfl dX6_wrongHops_16 ?_
    refine z_icmp_ge (tgt := 96) dX6_wrongHops_19 (by decide) (fun c_19 => absurd c_19 (by rw [e7]; exact nI_ge (by omega) (by omega))) (fun c_19 => ?_)
    refine z_aload_n (j := 0) dX6_wrongHops_22 rfl ?_
    refine z_iload_n (j := 2) dX6_wrongHops_23 rfl ?_
    refine z_iload_n (j := 3) dX6_wrongHops_24 rfl ?_
    refine z_iadd dX6_wrongHops_25 ?_
    refine z_aload_n (j := 0) dX6_wrongHops_26 rfl ?_
    refine z_get (v := .int (s 6)) (by omega) tW_obj fX6_64 rfl dX6_wrongHops_27 ?_
    refine z_iconst (v := 1) dX6_wrongHops_30 (by decide) ?_
    refine z_isub dX6_wrongHops_31 ?_
    refine z_iand dX6_wrongHops_32 ?_
    rw [show (((nI i) + (nI k)) &&& ((s 6) - 1)) = (nI ((i + k) % B)) from by rw [e6]; exact mBadd okb (by omega) (by omega)]
    refine z_cV [.int ((nI ((i + k) % B)))] (some (.int ((tkey (K ((i + k) % B)))))) yoX6_keyIn yvX6_keyIn rfl (by decide) lX6_124 (by omega) tW_obj rfl rfl (Nat.le_of_ble_eq_true rfl) (Nat.le_of_ble_eq_true rfl) dX6_wrongHops_33 (z_room (by omega) (Nat.le_refl _) (Nat.le_refl _) (w_keyIn (d := 0) hb hR (mod_lt' okb) ⟨rfl, rfl, rfl⟩)) ?_
    refine z_istore [1, 2, 3, 4, 0] [(0, .ref b), (1, .int 0), (2, .int ((nI i))), (3, .int ((nI k))), (4, .int ((tkey (K ((i + k) % B)))))] dX6_wrongHops_36 (by decide) rfl ?_
    refine z_iload (j := 4) dX6_wrongHops_38 rfl ?_
    refine z_iconst (v := (-1)) dX6_wrongHops_40 (by decide) ?_
    refine z_icmp_eq (tgt := 58) dX6_wrongHops_41 (by decide) (fun c_41 => ?_) (fun c_41 => ?_)
    · refine z_iconst (v := 0) dX6_wrongHops_58 (by decide) ?_
      refine z_istore [1, 2, 3, 4, 5, 0] [(0, .ref b), (1, .int 0), (2, .int ((nI i))), (3, .int ((nI k))), (4, .int ((tkey (K ((i + k) % B))))), (5, .int 0)] dX6_wrongHops_59 (by decide) rfl ?_
      refine z_aload_n (j := 0) dX6_wrongHops_61 rfl ?_
      refine z_iload_n (j := 2) dX6_wrongHops_62 rfl ?_
      refine z_cV [.int ((nI i))] (some (.int ((nI (hop B H T K i))))) yoX6_hopsIn yvX6_hopsIn rfl (by decide) lX6_115 (by omega) tW_obj rfl rfl (Nat.le_of_ble_eq_true rfl) (Nat.le_of_ble_eq_true rfl) dX6_wrongHops_63 (z_room (by omega) (Nat.le_refl _) (Nat.le_refl _) (w_hopsIn (d := 0) hb hR (show i < B by omega) ⟨rfl, rfl, rfl⟩)) ?_
      refine z_iload_n (j := 3) dX6_wrongHops_66 rfl ?_
      refine z_ishr dX6_wrongHops_67 ?_
      refine z_iconst (v := 1) dX6_wrongHops_68 (by decide) ?_
      refine z_iand dX6_wrongHops_69 ?_
      refine z_if_eq (tgt := 77) dX6_wrongHops_70 (by decide) (fun c_70 => ?_) (fun c_70 => absurd (hbit.mpr (by simp [isO, (tkey_eq (ekv _).1).mp c_41])) c_70)
      refine z_iconst (v := 0) dX6_wrongHops_77 (by decide) ?_
      refine z_istore [1, 2, 3, 4, 5, 6, 0] [(0, .ref b), (1, .int 0), (2, .int ((nI i))), (3, .int ((nI k))), (4, .int ((tkey (K ((i + k) % B))))), (5, .int 0), (6, .int 0)] dX6_wrongHops_78 (by decide) rfl ?_
      refine z_iload (j := 5) dX6_wrongHops_80 rfl ?_
      refine z_iload (j := 6) dX6_wrongHops_82 rfl ?_
      refine z_icmp_eq (tgt := 90) dX6_wrongHops_84 (by decide) (fun c_84 => ?_) (fun c_84 => absurd rfl c_84)
      skip
      refine z_iinc ((nI (k + 1))) [1, 2, 3, 0, 4, 5, 6] [(0, .ref b), (1, .int 0), (2, .int ((nI i))), (3, .int ((nI (k + 1)))), (4, .int ((tkey (K ((i + k) % B))))), (5, .int 0), (6, .int 0)] dX6_wrongHops_90 (j := 3) rfl (nI_1 k) (by decide) rfl ?_
      refine z_goto (tgt := 14) dX6_wrongHops_93 (by decide) ?_
      refine z_lv [(0, .ref b), (1, .int 0), (2, .int ((nI i))), (3, .int ((nI (k + 1))))] [0, 1, 2, 3] rfl ?_
      exact ih (k + 1) (by omega) hk
    · have hK : K ((i + k) % B) ≠ 0 := fun e => c_41 ((tkey_eq (ekv _).1).mpr e)
      rw [tkey_ne hK]
      refine z_aload_n (j := 0) dX6_wrongHops_44 rfl ?_
      refine z_iload (j := 4) dX6_wrongHops_45 rfl ?_
      refine z_cV [.int ((nI (K ((i + k) % B) - 1)))] (some (.int ((nI (hmo B T (K ((i + k) % B) - 1)))))) yoX6_homeFor yvX6_homeFor rfl (by decide) lX6_94 (by omega) tW_obj rfl rfl (Nat.le_of_ble_eq_true rfl) (Nat.le_of_ble_eq_true rfl) dX6_wrongHops_47 (z_room (by omega) (Nat.le_refl _) (Nat.le_refl _) (w_homeFor (d := 0) hb hR (by have := ekv ((i + k) % B); omega) ⟨rfl, rfl, rfl⟩)) ?_
      refine z_iload_n (j := 2) dX6_wrongHops_50 rfl ?_
      refine z_icmp_ne (tgt := 58) dX6_wrongHops_51 (by decide) (fun c_51 => ?_) (fun c_51 => ?_)
      · refine z_iconst (v := 0) dX6_wrongHops_58 (by decide) ?_
        refine z_istore [1, 2, 3, 4, 5, 0] [(0, .ref b), (1, .int 0), (2, .int ((nI i))), (3, .int ((nI k))), (4, .int ((nI (K ((i + k) % B) - 1)))), (5, .int 0)] dX6_wrongHops_59 (by decide) rfl ?_
        refine z_aload_n (j := 0) dX6_wrongHops_61 rfl ?_
        refine z_iload_n (j := 2) dX6_wrongHops_62 rfl ?_
        refine z_cV [.int ((nI i))] (some (.int ((nI (hop B H T K i))))) yoX6_hopsIn yvX6_hopsIn rfl (by decide) lX6_115 (by omega) tW_obj rfl rfl (Nat.le_of_ble_eq_true rfl) (Nat.le_of_ble_eq_true rfl) dX6_wrongHops_63 (z_room (by omega) (Nat.le_refl _) (Nat.le_refl _) (w_hopsIn (d := 0) hb hR (show i < B by omega) ⟨rfl, rfl, rfl⟩)) ?_
        refine z_iload_n (j := 3) dX6_wrongHops_66 rfl ?_
        refine z_ishr dX6_wrongHops_67 ?_
        refine z_iconst (v := 1) dX6_wrongHops_68 (by decide) ?_
        refine z_iand dX6_wrongHops_69 ?_
        refine z_if_eq (tgt := 77) dX6_wrongHops_70 (by decide) (fun c_70 => ?_) (fun c_70 => absurd (hbit.mpr (by
              have hne : ¬ hmo B T (K ((i + k) % B) - 1) = i := fun e => c_51 (by rw [e])
              simp [isO, hne])) c_70)
        refine z_iconst (v := 0) dX6_wrongHops_77 (by decide) ?_
        refine z_istore [1, 2, 3, 4, 5, 6, 0] [(0, .ref b), (1, .int 0), (2, .int ((nI i))), (3, .int ((nI k))), (4, .int ((nI (K ((i + k) % B) - 1)))), (5, .int 0), (6, .int 0)] dX6_wrongHops_78 (by decide) rfl ?_
        refine z_iload (j := 5) dX6_wrongHops_80 rfl ?_
        refine z_iload (j := 6) dX6_wrongHops_82 rfl ?_
        refine z_icmp_eq (tgt := 90) dX6_wrongHops_84 (by decide) (fun c_84 => ?_) (fun c_84 => absurd rfl c_84)
        skip
        refine z_iinc ((nI (k + 1))) [1, 2, 3, 0, 4, 5, 6] [(0, .ref b), (1, .int 0), (2, .int ((nI i))), (3, .int ((nI (k + 1)))), (4, .int ((nI (K ((i + k) % B) - 1)))), (5, .int 0), (6, .int 0)] dX6_wrongHops_90 (j := 3) rfl (nI_1 k) (by decide) rfl ?_
        refine z_goto (tgt := 14) dX6_wrongHops_93 (by decide) ?_
        refine z_lv [(0, .ref b), (1, .int 0), (2, .int ((nI i))), (3, .int ((nI (k + 1))))] [0, 1, 2, 3] rfl ?_
        exact ih (k + 1) (by omega) hk
      · refine z_iconst (v := 1) dX6_wrongHops_54 (by decide) ?_
        refine z_goto (tgt := 59) dX6_wrongHops_55 (by decide) ?_
        refine z_istore [1, 2, 3, 4, 5, 0] [(0, .ref b), (1, .int 0), (2, .int ((nI i))), (3, .int ((nI k))), (4, .int ((nI (K ((i + k) % B) - 1)))), (5, .int 1)] dX6_wrongHops_59 (by decide) rfl ?_
        refine z_aload_n (j := 0) dX6_wrongHops_61 rfl ?_
        refine z_iload_n (j := 2) dX6_wrongHops_62 rfl ?_
        refine z_cV [.int ((nI i))] (some (.int ((nI (hop B H T K i))))) yoX6_hopsIn yvX6_hopsIn rfl (by decide) lX6_115 (by omega) tW_obj rfl rfl (Nat.le_of_ble_eq_true rfl) (Nat.le_of_ble_eq_true rfl) dX6_wrongHops_63 (z_room (by omega) (Nat.le_refl _) (Nat.le_refl _) (w_hopsIn (d := 0) hb hR (show i < B by omega) ⟨rfl, rfl, rfl⟩)) ?_
        refine z_iload_n (j := 3) dX6_wrongHops_66 rfl ?_
        refine z_ishr dX6_wrongHops_67 ?_
        refine z_iconst (v := 1) dX6_wrongHops_68 (by decide) ?_
        refine z_iand dX6_wrongHops_69 ?_
        refine z_if_eq (tgt := 77) dX6_wrongHops_70 (by decide) (fun c_70 => absurd c_70 (fun e => by
              have h1 := hbit.mp e
              have hh := hmo_lt okb T (K ((i + k) % B) - 1)
              have h2 : hmo B T (K ((i + k) % B) - 1) = i := (nI_eq (by omega) (by omega)).mp c_51
              simp [isO, h2, hK] at h1)) (fun c_70 => ?_)
        refine z_iconst (v := 1) dX6_wrongHops_73 (by decide) ?_
        refine z_goto (tgt := 78) dX6_wrongHops_74 (by decide) ?_
        refine z_istore [1, 2, 3, 4, 5, 6, 0] [(0, .ref b), (1, .int 0), (2, .int ((nI i))), (3, .int ((nI k))), (4, .int ((nI (K ((i + k) % B) - 1)))), (5, .int 1), (6, .int 1)] dX6_wrongHops_78 (by decide) rfl ?_
        refine z_iload (j := 5) dX6_wrongHops_80 rfl ?_
        refine z_iload (j := 6) dX6_wrongHops_82 rfl ?_
        refine z_icmp_eq (tgt := 90) dX6_wrongHops_84 (by decide) (fun c_84 => ?_) (fun c_84 => absurd rfl c_84)
        skip
        refine z_iinc ((nI (k + 1))) [1, 2, 3, 0, 4, 5, 6] [(0, .ref b), (1, .int 0), (2, .int ((nI i))), (3, .int ((nI (k + 1)))), (4, .int ((nI (K ((i + k) % B) - 1)))), (5, .int 1), (6, .int 1)] dX6_wrongHops_90 (j := 3) rfl (nI_1 k) (by decide) rfl ?_
        refine z_goto (tgt := 14) dX6_wrongHops_93 (by decide) ?_
        refine z_lv [(0, .ref b), (1, .int 0), (2, .int ((nI i))), (3, .int ((nI (k + 1))))] [0, 1, 2, 3] rfl ?_
        exact ih (k + 1) (by omega) hk

set_option maxHeartbeats 4000000 in
set_option maxRecDepth 100000 in
theorem w_wrongHops_t {l : zL} {d kc ks n b B H T : Nat} {h : Nat → va_E} {K V : Nat → Nat} {s : Nat → Int32} {a : Nat → Nat → Int32} {Q : zQ} {i : Nat} (hb : b + 6 ≤ n) (hR : tR B H T K V s a) (hiB : i < B) (hk : Zj l mX6_wrongHops (d + 1) kc ks 4 [(0, .ref b), (1, .int 0), (2, .int (nI (i + 1)))] [] n (tW h b s a) Q) : Zj l mX6_wrongHops (d + 1) kc ks 96 [(0, .ref b), (1, .int 0), (2, .int ((nI i))), (3, .int ((nI H)))] [] n (tW h b s a) Q := by
  obtain ⟨okb, h2H, hH6, h1T, hT99, e6, e7, e8, ek, ev, eh, ekv, ez⟩ := id hR
  have hle := okb.le
  refine z_iload_n (j := 1) dX6_wrongHops_96 rfl ?_
  refine z_aload_n (j := 0) dX6_wrongHops_97 rfl ?_
  refine z_iload_n (j := 2) dX6_wrongHops_98 rfl ?_
  refine z_cV [.int ((nI i))] (some (.int ((nI (hop B H T K i))))) yoX6_hopsIn yvX6_hopsIn rfl (by decide) lX6_115 (by omega) tW_obj rfl rfl (Nat.le_of_ble_eq_true rfl) (Nat.le_of_ble_eq_true rfl) dX6_wrongHops_99 (z_room (by omega) (Nat.le_refl _) (Nat.le_refl _) (w_hopsIn (d := 0) hb hR (show i < B by omega) ⟨rfl, rfl, rfl⟩)) ?_
  refine z_aload_n (j := 0) dX6_wrongHops_102 rfl ?_
  refine z_get (v := .int (s 7)) (by omega) tW_obj fX6_31 rfl dX6_wrongHops_103 ?_
  rw [show (s 7) = (nI H) from e7]
  refine z_ishr dX6_wrongHops_106 ?_
  rw [show ((nI (hop B H T K i)) >>> ((nI H) &&& 31)) = 0 from hop_out hH6]
  refine z_cS [.int 0] (some (.int ((popI 0)))) yoJ6_bitCount_0f7a4 ysJ6_bitCount_0f7a4 rfl (by decide) lX6_135 rfl (Nat.le_of_ble_eq_true rfl) (Nat.le_of_ble_eq_true rfl) dX6_wrongHops_107 (z_room (by omega) (Nat.le_refl _) (Nat.le_refl _) (w_bitCount (d := 0)  ⟨rfl, rfl, rfl⟩)) ?_
  refine z_iadd dX6_wrongHops_110 ?_
  rw [show (0 + (popI 0)) = 0 from (by decide)]
  refine z_istore_n [1, 0, 2, 3] [(0, .ref b), (1, .int 0), (2, .int ((nI i))), (3, .int ((nI H)))] dX6_wrongHops_111 (by decide) rfl ?_
  skip
  refine z_iinc ((nI (i + 1))) [1, 2, 0, 3] [(0, .ref b), (1, .int 0), (2, .int ((nI (i + 1)))), (3, .int ((nI H)))] dX6_wrongHops_112 (j := 2) rfl (nI_1 i) (by decide) rfl ?_
  refine z_goto (tgt := 4) dX6_wrongHops_115 (by decide) ?_
  refine z_lv [(0, .ref b), (1, .int 0), (2, .int ((nI (i + 1))))] [0, 1, 2] rfl ?_
  exact hk

set_option maxHeartbeats 4000000 in
set_option maxRecDepth 100000 in
theorem w_wrongHops_l {l : zL} {d kc ks n b B H T : Nat} {h : Nat → va_E} {K V : Nat → Nat} {s : Nat → Int32} {a : Nat → Nat → Int32} {Q : zQ} (hb : b + 6 ≤ n) (hR : tR B H T K V s a) : ∀ m i, i + m = B → Q (.inl (some (.int 0))) n (tW h b s a) → Zj l mX6_wrongHops (d + 1) kc ks 4 [(0, .ref b), (1, .int 0), (2, .int ((nI i)))] [] n (tW h b s a) Q := by
  obtain ⟨okb, h2H, hH6, h1T, hT99, e6, e7, e8, ek, ev, eh, ekv, ez⟩ := id hR
  have hle := okb.le
  intro m
  induction m with
  | zero =>
    intro i hi hq
    refine z_iload_n (j := 2) dX6_wrongHops_4 rfl ?_
    refine z_aload_n (j := 0) dX6_wrongHops_5 rfl ?_
    refine z_get (v := .int (s 6)) (by omega) tW_obj fX6_64 rfl dX6_wrongHops_6 ?_
    refine z_icmp_ge (tgt := 118) dX6_wrongHops_9 (by decide) (fun c_9 => ?_) (fun c_9 => absurd (by rw [e6]; exact nI_le (by omega) (by omega)) c_9)
    refine z_iload_n (j := 1) dX6_wrongHops_118 rfl ?_
    exact z_iret rfl dX6_wrongHops_119 (hq)
  | succ m ih =>
    intro i hi hq
    refine z_iload_n (j := 2) dX6_wrongHops_4 rfl ?_
    refine z_aload_n (j := 0) dX6_wrongHops_5 rfl ?_
    refine z_get (v := .int (s 6)) (by omega) tW_obj fX6_64 rfl dX6_wrongHops_6 ?_
    refine z_icmp_ge (tgt := 118) dX6_wrongHops_9 (by decide) (fun c_9 => absurd c_9 (by rw [e6]; exact nI_ge (by omega) (by omega))) (fun c_9 => ?_)
    refine z_iconst (v := 0) dX6_wrongHops_12 (by decide) ?_
    refine z_istore_n [1, 2, 3, 0] [(0, .ref b), (1, .int 0), (2, .int ((nI i))), (3, .int 0)] dX6_wrongHops_13 (by decide) rfl ?_
    exact w_wrongHops_k hb hR (by omega) H 0 (by omega) (w_wrongHops_t hb hR (by omega) (ih (i + 1) (by omega) hq))

set_option maxHeartbeats 4000000 in
set_option maxRecDepth 100000 in
theorem w_wrongHops {l : zL} {d kc ks n b B H T : Nat} {h : Nat → va_E} {K V : Nat → Nat} {s : Nat → Int32} {a : Nat → Nat → Int32} {Q : zQ} (hb : b + 6 ≤ n) (hR : tR B H T K V s a) (hq : Q (.inl (some (.int 0))) n (tW h b s a)) : Zj l mX6_wrongHops (d + 1) kc ks 0 [(0, .ref b)] [] n (tW h b s a) Q := by
  refine z_iconst (v := 0) dX6_wrongHops_0 (by decide) ?_
  refine z_istore_n [1, 0] [(0, .ref b), (1, .int 0)] dX6_wrongHops_1 (by decide) rfl ?_
  refine z_iconst (v := 0) dX6_wrongHops_2 (by decide) ?_
  refine z_istore_n [1, 2, 0] [(0, .ref b), (1, .int 0), (2, .int 0)] dX6_wrongHops_3 (by decide) rfl ?_
  exact w_wrongHops_l hb hR B 0 (by omega) hq
