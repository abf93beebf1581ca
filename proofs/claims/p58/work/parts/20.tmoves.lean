set_option maxHeartbeats 4000000 in
set_option maxRecDepth 100000 in
theorem w_bucketWith_l {l : zL} {d kc ks n b B H T : Nat} {h : Nat → va_E} {K V : Nat → Nat} {s : Nat → Int32} {a : Nat → Nat → Int32} {Q : zQ} {key : Nat} (hb : b + 6 ≤ n) (hR : tR B H T K V s a) (hkey : key ≤ 9999) : ∀ m k, k + m = H → Q (.inl (some (.int (optI ((fnd (bwp B T K key) m k).map fun k => (hmo B T key + k) % B))))) n (tW h b s a) → Zj l mX6_bucketWith (d + 1) kc ks 8 [(0, .ref b), (1, .int ((nI key))), (2, .int ((nI (hmo B T key)))), (3, .int ((nI k)))] [] n (tW h b s a) Q := by
  obtain ⟨okb, h2H, hH6, h1T, hT99, e6, e7, e8, ek, ev, eh, ekv, ez⟩ := id hR
  have hle := okb.le
  intro m
  induction m with
  | zero =>
    intro k hk hq
    refine z_iload_n (j := 3) dX6_bucketWith_8 rfl ?_
    refine z_aload_n (j := 0) dX6_bucketWith_9 rfl ?_
    refine z_get (v := .int (s 7)) (by omega) tW_obj fX6_31 rfl dX6_bucketWith_10 ?_
    refine z_icmp_ge (tgt := 59) dX6_bucketWith_13 (by decide) (fun c_13 => ?_) (fun c_13 => absurd (by rw [e7]; exact nI_le (by omega) (by omega)) c_13)
    refine z_iconst (v := (-1)) dX6_bucketWith_59 (by decide) ?_
    exact z_iret rfl dX6_bucketWith_60 (by rw [show fnd _ 0 k = none from rfl] at hq; exact hq)
  | succ m ih =>
    intro k hk hq
    have hbit := hop_bit (B := B) (T := T) (K := K) (i := hmo B T key) hH6 (show k < H by omega)
    refine z_iload_n (j := 3) dX6_bucketWith_8 rfl ?_
    refine z_aload_n (j := 0) dX6_bucketWith_9 rfl ?_
    refine z_get (v := .int (s 7)) (by omega) tW_obj fX6_31 rfl dX6_bucketWith_10 ?_
    refine z_icmp_ge (tgt := 59) dX6_bucketWith_13 (by decide) (fun c_13 => absurd c_13 (by rw [e7]; exact nI_ge (by omega) (by omega))) (fun c_13 => ?_)
    refine z_iload_n (j := 2) dX6_bucketWith_16 rfl ?_
    refine z_iload_n (j := 3) dX6_bucketWith_17 rfl ?_
    refine z_iadd dX6_bucketWith_18 ?_
    refine z_aload_n (j := 0) dX6_bucketWith_19 rfl ?_
    refine z_get (v := .int (s 6)) (by omega) tW_obj fX6_64 rfl dX6_bucketWith_20 ?_
    refine z_iconst (v := 1) dX6_bucketWith_23 (by decide) ?_
    refine z_isub dX6_bucketWith_24 ?_
    refine z_iand dX6_bucketWith_25 ?_
    rw [show (((nI (hmo B T key)) + (nI k)) &&& ((s 6) - 1)) = (nI ((hmo B T key + k) % B)) from by rw [e6]; exact mBadd okb (by have := hmo_lt okb T key; omega) (by omega)]
    refine z_istore [1, 2, 3, 4, 0] [(0, .ref b), (1, .int ((nI key))), (2, .int ((nI (hmo B T key)))), (3, .int ((nI k))), (4, .int ((nI ((hmo B T key + k) % B))))] dX6_bucketWith_26 (by decide) rfl ?_
    refine z_aload_n (j := 0) dX6_bucketWith_28 rfl ?_
    refine z_iload_n (j := 2) dX6_bucketWith_29 rfl ?_
    refine z_cV [.int ((nI (hmo B T key)))] (some (.int ((nI (hop B H T K (hmo B T key)))))) yoX6_hopsIn yvX6_hopsIn rfl (by decide) lX6_115 (by omega) tW_obj rfl rfl (Nat.le_of_ble_eq_true rfl) (Nat.le_of_ble_eq_true rfl) dX6_bucketWith_30 (z_room (by omega) (Nat.le_refl _) (Nat.le_refl _) (w_hopsIn (d := 0) hb hR (hmo_lt okb T key) ⟨rfl, rfl, rfl⟩)) ?_
    refine z_iload_n (j := 3) dX6_bucketWith_33 rfl ?_
    refine z_ishr dX6_bucketWith_34 ?_
    refine z_iconst (v := 1) dX6_bucketWith_35 (by decide) ?_
    refine z_iand dX6_bucketWith_36 ?_
    refine z_if_eq (tgt := 53) dX6_bucketWith_37 (by decide) (fun c_37 => ?_) (fun c_37 => ?_)
    · have hno : bwp B T K key k = false := by
        have h0 := hbit.mp c_37
        simp only [bwp, decide_eq_false_iff_not]
        intro e
        rw [isO_of e] at h0
        cases h0
      skip
      refine z_iinc ((nI (k + 1))) [1, 2, 3, 0, 4] [(0, .ref b), (1, .int ((nI key))), (2, .int ((nI (hmo B T key)))), (3, .int ((nI (k + 1)))), (4, .int ((nI ((hmo B T key + k) % B))))] dX6_bucketWith_53 (j := 3) rfl (nI_1 k) (by decide) rfl ?_
      refine z_goto (tgt := 8) dX6_bucketWith_56 (by decide) ?_
      refine z_lv [(0, .ref b), (1, .int ((nI key))), (2, .int ((nI (hmo B T key)))), (3, .int ((nI (k + 1))))] [0, 1, 2, 3] rfl ?_
      refine ih (k + 1) (by omega) ?_
      rw [fnd_no hno] at hq
      exact hq
    · refine z_aload_n (j := 0) dX6_bucketWith_40 rfl ?_
      refine z_iload (j := 4) dX6_bucketWith_41 rfl ?_
      refine z_cV [.int ((nI ((hmo B T key + k) % B)))] (some (.int ((tkey (K ((hmo B T key + k) % B)))))) yoX6_keyIn yvX6_keyIn rfl (by decide) lX6_124 (by omega) tW_obj rfl rfl (Nat.le_of_ble_eq_true rfl) (Nat.le_of_ble_eq_true rfl) dX6_bucketWith_43 (z_room (by omega) (Nat.le_refl _) (Nat.le_refl _) (w_keyIn (d := 0) hb hR (mod_lt' okb) ⟨rfl, rfl, rfl⟩)) ?_
      refine z_iload_n (j := 1) dX6_bucketWith_46 rfl ?_
      refine z_icmp_ne (tgt := 53) dX6_bucketWith_47 (by decide) (fun c_47 => ?_) (fun c_47 => ?_)
      · have hno : bwp B T K key k = false := by
          simp only [bwp, decide_eq_false_iff_not]
          intro e
          exact c_47 ((tkey_is (ekv _).1 hkey).mpr e)
        skip
        refine z_iinc ((nI (k + 1))) [1, 2, 3, 0, 4] [(0, .ref b), (1, .int ((nI key))), (2, .int ((nI (hmo B T key)))), (3, .int ((nI (k + 1)))), (4, .int ((nI ((hmo B T key + k) % B))))] dX6_bucketWith_53 (j := 3) rfl (nI_1 k) (by decide) rfl ?_
        refine z_goto (tgt := 8) dX6_bucketWith_56 (by decide) ?_
        refine z_lv [(0, .ref b), (1, .int ((nI key))), (2, .int ((nI (hmo B T key)))), (3, .int ((nI (k + 1))))] [0, 1, 2, 3] rfl ?_
        refine ih (k + 1) (by omega) ?_
        rw [fnd_no hno] at hq
        exact hq
      · refine z_iload (j := 4) dX6_bucketWith_50 rfl ?_
        exact z_iret rfl dX6_bucketWith_52 (by
            have hyes : bwp B T K key k = true := by
              simp only [bwp, decide_eq_true_eq]
              exact (tkey_is (ekv _).1 hkey).mp c_47
            rw [fnd_yes hyes] at hq
            exact hq)

set_option maxHeartbeats 4000000 in
set_option maxRecDepth 100000 in
theorem w_bucketWith {l : zL} {d kc ks n b B H T : Nat} {h : Nat → va_E} {K V : Nat → Nat} {s : Nat → Int32} {a : Nat → Nat → Int32} {Q : zQ} {key : Nat} (hb : b + 6 ≤ n) (hR : tR B H T K V s a) (hkey : key ≤ 9999) (hq : Q (.inl (some (.int (optI (bw B H T K key))))) n (tW h b s a)) : Zj l mX6_bucketWith (d + 1) kc ks 0 [(0, .ref b), (1, .int ((nI key)))] [] n (tW h b s a) Q := by
  refine z_aload_n (j := 0) dX6_bucketWith_0 rfl ?_
  refine z_iload_n (j := 1) dX6_bucketWith_1 rfl ?_
  refine z_cV [.int ((nI key))] (some (.int ((nI (hmo B T key))))) yoX6_homeFor yvX6_homeFor rfl (by decide) lX6_94 (by omega) tW_obj rfl rfl (Nat.le_of_ble_eq_true rfl) (Nat.le_of_ble_eq_true rfl) dX6_bucketWith_2 (z_room (by omega) (Nat.le_refl _) (Nat.le_refl _) (w_homeFor (d := 0) hb hR hkey ⟨rfl, rfl, rfl⟩)) ?_
  refine z_istore_n [1, 2, 0] [(0, .ref b), (1, .int ((nI key))), (2, .int ((nI (hmo B T key))))] dX6_bucketWith_5 (by decide) rfl ?_
  refine z_iconst (v := 0) dX6_bucketWith_6 (by decide) ?_
  refine z_istore_n [1, 2, 3, 0] [(0, .ref b), (1, .int ((nI key))), (2, .int ((nI (hmo B T key)))), (3, .int 0)] dX6_bucketWith_7 (by decide) rfl ?_
  exact w_bucketWith_l hb hR hkey H 0 (by omega) hq

set_option maxHeartbeats 4000000 in
set_option maxRecDepth 100000 in
theorem w_shift {l : zL} {d kc ks n b B H T : Nat} {h : Nat → va_E} {K V : Nat → Nat} {s : Nat → Int32} {a : Nat → Nat → Int32} {Q : zQ} {hm f t : Nat} (hb : b + 6 ≤ n) (hR : tR B H T K V s a) (hm1 : hm < B) (hf : f < H) (ht : t < H) (hft : f ≠ t) (ho : isO B T K ((hm + f) % B) hm = true) (hfree : K ((hm + t) % B) = 0) (hq : ∀ a', tR B H T (mvK K ((hm + f) % B) ((hm + t) % B)) (mvK V ((hm + f) % B) ((hm + t) % B)) s a' → a' 3 = a 3 → a' 4 = a 4 → Q (.inl none) n (tW h b s a')) : Zj l mX6_shift d kc ks 0 [(0, .ref b), (1, .int ((nI hm))), (2, .int ((nI f))), (3, .int ((nI t)))] [] n (tW h b s a) Q := by
  obtain ⟨okb, h2H, hH6, h1T, hT99, e6, e7, e8, ek, ev, eh, ekv, ez⟩ := id hR
  have hle := okb.le
  have hlf := mod_lt' okb (x := hm + f)
  have hlt := mod_lt' okb (x := hm + t)
  have hcs : (nI ((hm + f) % B)).toNatClampNeg = ((hm + f) % B) := nI_clamp (by omega)
  have hct : (nI ((hm + t) % B)).toNatClampNeg = ((hm + t) % B) := nI_clamp (by omega)
  have hch : (nI hm).toNatClampNeg = hm := nI_clamp (by omega)
  refine z_iload_n (j := 1) dX6_shift_0 rfl ?_
  refine z_iload_n (j := 2) dX6_shift_1 rfl ?_
  refine z_iadd dX6_shift_2 ?_
  refine z_aload_n (j := 0) dX6_shift_3 rfl ?_
  refine z_get (v := .int (s 6)) (by omega) tW_obj fX6_64 rfl dX6_shift_4 ?_
  refine z_iconst (v := 1) dX6_shift_7 (by decide) ?_
  refine z_isub dX6_shift_8 ?_
  refine z_iand dX6_shift_9 ?_
  rw [show (((nI hm) + (nI f)) &&& ((s 6) - 1)) = (nI ((hm + f) % B)) from by rw [e6]; exact mBadd okb (by omega) (by omega)]
  refine z_istore [1, 2, 3, 4, 0] [(0, .ref b), (1, .int ((nI hm))), (2, .int ((nI f))), (3, .int ((nI t))), (4, .int ((nI ((hm + f) % B))))] dX6_shift_10 (by decide) rfl ?_
  refine z_iload_n (j := 1) dX6_shift_12 rfl ?_
  refine z_iload_n (j := 3) dX6_shift_13 rfl ?_
  refine z_iadd dX6_shift_14 ?_
  refine z_aload_n (j := 0) dX6_shift_15 rfl ?_
  refine z_get (v := .int (s 6)) (by omega) tW_obj fX6_64 rfl dX6_shift_16 ?_
  refine z_iconst (v := 1) dX6_shift_19 (by decide) ?_
  refine z_isub dX6_shift_20 ?_
  refine z_iand dX6_shift_21 ?_
  rw [show (((nI hm) + (nI t)) &&& ((s 6) - 1)) = (nI ((hm + t) % B)) from by rw [e6]; exact mBadd okb (by omega) (by omega)]
  refine z_istore [1, 2, 3, 4, 5, 0] [(0, .ref b), (1, .int ((nI hm))), (2, .int ((nI f))), (3, .int ((nI t))), (4, .int ((nI ((hm + f) % B)))), (5, .int ((nI ((hm + t) % B))))] dX6_shift_22 (by decide) rfl ?_
  refine z_iload (j := 4) dX6_shift_24 rfl ?_
  refine z_if_lt (tgt := 54) dX6_shift_26 (by decide) (fun c_26 => absurd c_26 (nI_pos (by omega))) (fun c_26 => ?_)
  refine z_iload (j := 4) dX6_shift_29 rfl ?_
  refine z_aload_n (j := 0) dX6_shift_31 rfl ?_
  refine z_get (v := .ref (b + 1)) (by omega) tW_obj fX6_9 rfl dX6_shift_32 ?_
  refine t_alen 0 (by decide) hb dX6_shift_35 ?_
  refine z_icmp_ge (tgt := 54) dX6_shift_36 (by decide) (fun c_36 => absurd c_36 (nI_ge (b := 64) (by omega) (by decide))) (fun c_36 => ?_)
  refine z_iload (j := 5) dX6_shift_39 rfl ?_
  refine z_if_lt (tgt := 54) dX6_shift_41 (by decide) (fun c_41 => absurd c_41 (nI_pos (by omega))) (fun c_41 => ?_)
  refine z_iload (j := 5) dX6_shift_44 rfl ?_
  refine z_aload_n (j := 0) dX6_shift_46 rfl ?_
  refine z_get (v := .ref (b + 1)) (by omega) tW_obj fX6_9 rfl dX6_shift_47 ?_
  refine t_alen 0 (by decide) hb dX6_shift_50 ?_
  refine z_icmp_lt (tgt := 55) dX6_shift_51 (by decide) (fun c_51 => ?_) (fun c_51 => absurd (nI_lt (b := 64) (by omega) (by decide)) c_51)
  refine z_iload_n (j := 1) dX6_shift_55 rfl ?_
  refine z_if_lt (tgt := 68) dX6_shift_56 (by decide) (fun c_56 => absurd c_56 (nI_pos (by omega))) (fun c_56 => ?_)
  refine z_iload_n (j := 1) dX6_shift_59 rfl ?_
  refine z_aload_n (j := 0) dX6_shift_60 rfl ?_
  refine z_get (v := .ref (b + 3)) (by omega) tW_obj fX6_18 rfl dX6_shift_61 ?_
  refine t_alen 2 (by decide) hb dX6_shift_64 ?_
  refine z_icmp_lt (tgt := 69) dX6_shift_65 (by decide) (fun c_65 => ?_) (fun c_65 => absurd (nI_lt (b := 64) (by omega) (by decide)) c_65)
  refine z_aload_n (j := 0) dX6_shift_69 rfl ?_
  refine z_get (v := .ref (b + 1)) (by omega) tW_obj fX6_9 rfl dX6_shift_70 ?_
  refine z_iload (j := 5) dX6_shift_73 rfl ?_
  refine z_aload_n (j := 0) dX6_shift_75 rfl ?_
  refine z_get (v := .ref (b + 1)) (by omega) tW_obj fX6_9 rfl dX6_shift_76 ?_
  refine z_iload (j := 4) dX6_shift_79 rfl ?_
  refine t_ald 0 (by decide) hb (vp_in_nI (by omega) (by decide)) dX6_shift_81 ?_
  refine t_ast 0 (by decide) hb (vp_in_nI (by omega) (by decide)) dX6_shift_82 ?_
  refine z_aload_n (j := 0) dX6_shift_83 rfl ?_
  refine z_get (v := .ref (b + 2)) (by omega) tW_obj fX6_15 rfl dX6_shift_84 ?_
  refine z_iload (j := 5) dX6_shift_87 rfl ?_
  refine z_aload_n (j := 0) dX6_shift_89 rfl ?_
  refine z_get (v := .ref (b + 2)) (by omega) tW_obj fX6_15 rfl dX6_shift_90 ?_
  refine z_iload (j := 4) dX6_shift_93 rfl ?_
  refine t_ald 1 (by decide) hb (vp_in_nI (by omega) (by decide)) dX6_shift_95 ?_
  refine t_ast 1 (by decide) hb (vp_in_nI (by omega) (by decide)) dX6_shift_96 ?_
  refine z_aload_n (j := 0) dX6_shift_97 rfl ?_
  refine z_get (v := .ref (b + 1)) (by omega) tW_obj fX6_9 rfl dX6_shift_98 ?_
  refine z_iload (j := 4) dX6_shift_101 rfl ?_
  refine z_iconst (v := (-1)) dX6_shift_103 (by decide) ?_
  refine t_ast 0 (by decide) hb (vp_in_nI (by omega) (by decide)) dX6_shift_104 ?_
  refine z_aload_n (j := 0) dX6_shift_105 rfl ?_
  refine z_get (v := .ref (b + 2)) (by omega) tW_obj fX6_15 rfl dX6_shift_106 ?_
  refine z_iload (j := 4) dX6_shift_109 rfl ?_
  refine z_iconst (v := (-1)) dX6_shift_111 (by decide) ?_
  refine t_ast 1 (by decide) hb (vp_in_nI (by omega) (by decide)) dX6_shift_112 ?_
  refine z_aload_n (j := 0) dX6_shift_113 rfl ?_
  refine z_get (v := .ref (b + 3)) (by omega) tW_obj fX6_18 rfl dX6_shift_114 ?_
  refine z_iload_n (j := 1) dX6_shift_117 rfl ?_
  refine z_aload_n (j := 0) dX6_shift_118 rfl ?_
  refine z_get (v := .ref (b + 3)) (by omega) tW_obj fX6_18 rfl dX6_shift_119 ?_
  refine z_iload_n (j := 1) dX6_shift_122 rfl ?_
  refine t_ald 2 (by decide) hb (vp_in_nI (by omega) (by decide)) dX6_shift_123 ?_
  refine z_iconst (v := 1) dX6_shift_124 (by decide) ?_
  refine z_iload_n (j := 2) dX6_shift_125 rfl ?_
  refine z_ishl dX6_shift_126 ?_
  refine z_iconst (v := (-1)) dX6_shift_127 (by decide) ?_
  refine z_ixor dX6_shift_128 ?_
  refine z_iand dX6_shift_129 ?_
  refine z_iconst (v := 1) dX6_shift_130 (by decide) ?_
  refine z_iload_n (j := 3) dX6_shift_131 rfl ?_
  refine z_ishl dX6_shift_132 ?_
  refine z_ior dX6_shift_133 ?_
  refine t_ast 2 (by decide) hb (vp_in_nI (by omega) (by decide)) dX6_shift_134 ?_
  exact z_vret rfl dX6_shift_135 (by
      simp only [hcs, hct, hch]
      exact hq _ (tR_mv hR hf ht hft ho hfree hm1 (fun i hi => by simp [va_up]) (fun i hi => by simp [va_up]) (fun i hi => by simp [va_up])) (by simp [va_up]) (by simp [va_up]))
