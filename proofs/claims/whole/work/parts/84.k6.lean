/-! THE CLASS'S OWN METHODS, sixth part: the report written; append -/
theorem rp_len {B H T : Nat} {K V : Nat → Nat} {c : Nat → Int32} (hd : ∀ i, i < B → dst B T K i ≤ 5 ∨ K i = 0) : ∀ i, i ≤ B → (rpL (B, H, T, K, V, c) i).length + (if i = 0 then 0 else 1) ≤ 7 * i
  | 0, _ => by simp [rpL]
  | i + 1, h => by
    have ih := rp_len (H := H) (V := V) (c := c) hd i (by omega)
    have h1 : (rpB (B, H, T, K, V, c) i).length ≤ 6 := by
      unfold rpB
      simp only
      split
      · simp
      · rename_i hK
        have h2 : dst B T K i ≤ 5 := by
          rcases hd i (by omega) with h3 | h3
          · exact h3
          · exact absurd h3 hK
        have h4 := dgs_len (v := K i - 1)
        split
        · simp only [List.length_append, List.length_nil]; omega
        · have h5 : (dgs (dst B T K i)).length = 1 := by
            unfold dgs
            rw [if_pos (by omega)]
            rfl
          simp only [List.length_append, List.length_cons, h5]; omega
    rw [rpL]
    simp only [List.length_append]
    by_cases h0 : i = 0
    · subst h0
      simp [rpL] at ih ⊢
      omega
    · rw [if_neg h0] at ih ⊢
      rw [if_neg (show ¬ i + 1 = 0 by omega)]
      simp only [List.length_cons, List.length_nil]
      omega
theorem dst_5 {B H T : Nat} {K : Nat → Nat} (hB : okB B) (hH : H ≤ 6) (hI : inH B H T K) : ∀ i, i < B → dst B T K i ≤ 5 ∨ K i = 0 := fun i hi => by
  by_cases hK : K i = 0
  · exact Or.inr hK
  · have := offN_5 (T := T) hB hH hI hi
    unfold offN at this
    rw [if_neg hK] at this
    exact Or.inl this

set_option maxHeartbeats 4000000 in
set_option maxRecDepth 100000 in
theorem K_wt_l {l : zL} {d kc ks n : Nat} {h : Nat → va_E} {cm : Value} {s : Nat → Nat → Int32} {a : Nat → Nat → Nat → Int32} {B H T : Nat} {K V : Nat → Nat} {c : Nat → Int32} {Q : zQ} (hn : 104 ≤ n) (hR : tR B H T K V (s 1) (a 1)) (hI : inH B H T K) : ∀ m i (o u : Nat → Nat → Int32), i + m = B → rep (rpL (B, H, T, K, V, c) i) o u → (∀ o' u', rep (rpL (B, H, T, K, V, c) B) o' u' → fr4 o u o' u' → Q (.inl (some (.int (nI (rpL (B, H, T, K, V, c) B).length)))) n (gW h cm o' u' s a)) → Zj l mX7_writeTable (d + 3) kc ks 9 [(0, .ref 0), (1, .int ((nI i)))] [] n (gW h cm o u s a) Q := by
  obtain ⟨okb, h2H, hH6, h1T, hT99, e6, e7, e8, ek_, ev_, eh_, ekv, ez⟩ := id hR
  have hle := okb.le
  have hd5 := dst_5 okb hH6 hI
  intro m
  induction m with
  | zero =>
    intro i o u hi hr hq
    refine z_iload_n (j := 1) dX7_writeTable_9 rfl ?_
    refine z_aload_n (j := 0) dX7_writeTable_10 rfl ?_
    refine z_get (v := .ref 13) (by omega) gW_0 fX7_28 rfl dX7_writeTable_11 ?_
    refine z_get (v := .int (s 1 6)) (by omega) gW_13T fX7_178 rfl dX7_writeTable_14 ?_
    refine z_icmp_ge (tgt := 108) dX7_writeTable_17 (by decide) (fun czq17 => ?_) (fun czq17 => absurd (by rw [e6]; exact nI_le (by omega) (by omega)) czq17)
    refine z_aload_n (j := 0) dX7_writeTable_108 rfl ?_
    refine z_get (v := .ref 87) (by omega) gW_0 fX7_52 rfl dX7_writeTable_109 ?_
    refine z_get (v := .int (o 4 1)) (by omega) gW_87 fX7_295 rfl dX7_writeTable_112 ?_
    exact z_iret rfl dX7_writeTable_115 (by
        obtain rfl : i = B := by omega
        rw [hr.1]
        exact hq o u hr ⟨fun _ _ => rfl, fun _ _ => rfl⟩)
  | succ m ih =>
    intro i o u hi hr hq
    have hlen := rp_len (H := H) (V := V) (c := c) hd5 i (by omega)
    have hlen1 : (rpL (B, H, T, K, V, c) i).length ≤ 7 * 63 := by
      by_cases h0 : i = 0
      · subst h0; simp [rpL]
      · rw [if_neg h0] at hlen; omega
    refine z_iload_n (j := 1) dX7_writeTable_9 rfl ?_
    refine z_aload_n (j := 0) dX7_writeTable_10 rfl ?_
    refine z_get (v := .ref 13) (by omega) gW_0 fX7_28 rfl dX7_writeTable_11 ?_
    refine z_get (v := .int (s 1 6)) (by omega) gW_13T fX7_178 rfl dX7_writeTable_14 ?_
    refine z_icmp_ge (tgt := 108) dX7_writeTable_17 (by decide) (fun czq17 => absurd czq17 (by rw [e6]; exact nI_ge (by omega) (by omega))) (fun czq17 => ?_)
    refine z_iload_n (j := 1) dX7_writeTable_20 rfl ?_
    refine z_if_le (tgt := 33) dX7_writeTable_21 (by decide) (fun czq21 => ?_) (fun czq21 => ?_)
    · have hi0 : i = 0 := Decidable.byContradiction fun z => nI_nle2 (b := 0) (by omega) (by omega) czq21
      refine z_aload_n (j := 0) dX7_writeTable_33 rfl ?_
      refine z_get (v := .ref 13) (by omega) gW_0 fX7_28 rfl dX7_writeTable_34 ?_
      refine z_iload_n (j := 1) dX7_writeTable_37 rfl ?_
      refine z_kV [.int ((nI i))] 0 0 kc ks yoX6_keyIn yvX6_keyIn rfl (by decide) lX7_216 (by omega) gW_13T rfl rfl (Nat.le_of_ble_eq_true rfl) (Nat.le_of_ble_eq_true rfl) dX7_writeTable_38 (by omega) (by omega) (z_room (by omega) (Nat.le_refl _) (Nat.le_refl _) (g_keyIn (d := 0) (t := 1) (by decide) rfl (by omega) hR (show i < B by omega) ⟨rfl, ?_⟩))
      refine z_iconst (v := (-1)) dX7_writeTable_41 (by decide) ?_
      refine z_icmp_ne (tgt := 57) dX7_writeTable_42 (by decide) (fun czq42 => ?_) (fun czq42 => ?_)
      · have hK : ¬ K i = 0 := fun q => czq42 ((tkey_eq (ekv i).1).mpr q)
        have hdl := dgs_len (v := K i - 1)
        refine z_aload_n (j := 0) dX7_writeTable_57 rfl ?_
        refine z_get (v := .ref 87) (by omega) gW_0 fX7_52 rfl dX7_writeTable_58 ?_
        refine z_aload_n (j := 0) dX7_writeTable_61 rfl ?_
        refine z_get (v := .ref 13) (by omega) gW_0 fX7_28 rfl dX7_writeTable_62 ?_
        refine z_iload_n (j := 1) dX7_writeTable_65 rfl ?_
        refine z_kV [.int ((nI i))] 0 0 kc ks yoX6_keyIn yvX6_keyIn rfl (by decide) lX7_216 (by omega) gW_13T rfl rfl (Nat.le_of_ble_eq_true rfl) (Nat.le_of_ble_eq_true rfl) dX7_writeTable_66 (by omega) (by omega) (z_room (by omega) (Nat.le_refl _) (Nat.le_refl _) (g_keyIn (d := 0) (t := 1) (by decide) rfl (by omega) hR (show i < B by omega) ⟨rfl, ?_⟩))
        rw [tkey_ne hK]
        refine z_kV [.int ((nI (K i - 1)))] 0 0 kc ks yoX4_addNumber yvX4_addNumber rfl (by decide) lX7_292 (by omega) gW_87 rfl rfl (Nat.le_of_ble_eq_true rfl) (Nat.le_of_ble_eq_true rfl) dX7_writeTable_69 (by omega) (by omega) (z_room (by omega) (Nat.le_refl _) (Nat.le_refl _) (w_addNumber (d := 0) (l0 := rpL (B, H, T, K, V, c) i) (v := (K i - 1)) (by omega) hr (by first | omega | (simp only [List.length_append, List.length_cons, List.length_nil]; omega)) (by have := ekv i; omega) (fun o1 u1 hr1 hf1 => ⟨rfl, ?_⟩)))
        refine z_aload_n (j := 0) dX7_writeTable_72 rfl ?_
        refine z_get (v := .ref 13) (by omega) gW_0 fX7_28 rfl dX7_writeTable_73 ?_
        refine z_iload_n (j := 1) dX7_writeTable_76 rfl ?_
        refine z_kV [.int ((nI i))] 0 0 kc ks yoX6_stepsFromHome yvX6_stepsFromHome rfl (by decide) lX7_239 (by omega) gW_13T rfl rfl (Nat.le_of_ble_eq_true rfl) (Nat.le_of_ble_eq_true rfl) dX7_writeTable_77 (by omega) (by omega) (z_room (by omega) (Nat.le_refl _) (Nat.le_refl _) (g_stepsFromHome (d := 0) (t := 1) (by decide) rfl (by omega) hR (show i < B by omega) ⟨rfl, ?_⟩))
        rw [sfh, if_neg hK]
        refine z_istore_n [1, 2, 0] [(0, .ref 0), (1, .int ((nI i))), (2, .int ((nI (dst B T K i))))] dX7_writeTable_80 (by decide) rfl ?_
        refine z_iload_n (j := 2) dX7_writeTable_81 rfl ?_
        refine z_if_le (tgt := 102) dX7_writeTable_82 (by decide) (fun czq82 => ?_) (fun czq82 => ?_)
        · have hd9 := hd5 i (by omega)
          have hd0 : dst B T K i = 0 := Decidable.byContradiction fun z => nI_nle2 (b := 0) (by omega) (by omega) czq82
          skip
          refine z_iinc ((nI (i + 1))) [1, 0, 2] [(0, .ref 0), (1, .int ((nI (i + 1)))), (2, .int ((nI (dst B T K i))))] dX7_writeTable_102 (j := 1) rfl (nI_1 i) (by decide) rfl ?_
          refine z_goto (tgt := 9) dX7_writeTable_105 (by decide) ?_
          refine z_lv [(0, .ref 0), (1, .int ((nI (i + 1))))] [0, 1] rfl ?_
          have e : rpL (B, H, T, K, V, c) i ++ dgs (K i - 1) = rpL (B, H, T, K, V, c) (i + 1) := by
            rw [rpL]
            rw [if_pos (show i = 0 by omega)]
            unfold rpB
            simp only
            rw [if_neg hK]
            rw [if_pos hd0]
            try simp only [List.append_assoc, List.cons_append, List.nil_append, List.append_nil]
          rw [e] at hr1
          exact ih (i + 1) o1 u1 (by omega) hr1 (fun o' u' h1 h2 => hq o' u' h1 (hf1.tr h2))
        · have hd0 : ¬ dst B T K i = 0 := fun q => czq82 (by rw [q]; decide)
          refine z_aload_n (j := 0) dX7_writeTable_85 rfl ?_
          refine z_get (v := .ref 87) (by omega) gW_0 fX7_52 rfl dX7_writeTable_86 ?_
          refine z_bipush (v := 43) dX7_writeTable_89 (by decide) ?_
          show Zj _ _ _ _ _ _ _ (.int (nI 43) :: _) _ _ _
          refine z_kV [.int ((nI 43))] 0 0 kc ks yoX4_addSign yvX4_addSign rfl (by decide) lX7_289 (by omega) gW_87 rfl rfl (Nat.le_of_ble_eq_true rfl) (Nat.le_of_ble_eq_true rfl) dX7_writeTable_91 (by omega) (by omega) (z_room (by omega) (Nat.le_refl _) (Nat.le_refl _) (w_addSign (d := 0) (l0 := rpL (B, H, T, K, V, c) i ++ dgs (K i - 1)) (c := 43) (by omega) hr1 (by first | omega | (simp only [List.length_append, List.length_cons, List.length_nil]; omega)) (fun o2 u2 hr2 hf2 => ⟨rfl, ?_⟩)))
          refine z_aload_n (j := 0) dX7_writeTable_94 rfl ?_
          refine z_get (v := .ref 87) (by omega) gW_0 fX7_52 rfl dX7_writeTable_95 ?_
          refine z_iload_n (j := 2) dX7_writeTable_98 rfl ?_
          refine z_kV [.int ((nI (dst B T K i)))] 0 0 kc ks yoX4_addNumber yvX4_addNumber rfl (by decide) lX7_292 (by omega) gW_87 rfl rfl (Nat.le_of_ble_eq_true rfl) (Nat.le_of_ble_eq_true rfl) dX7_writeTable_99 (by omega) (by omega) (z_room (by omega) (Nat.le_refl _) (Nat.le_refl _) (w_addNumber3 (d := 0) (l0 := rpL (B, H, T, K, V, c) i ++ dgs (K i - 1) ++ [43]) (v := (dst B T K i)) (by omega) hr2 (by first | omega | (simp only [List.length_append, List.length_cons, List.length_nil]; omega)) (Nat.zero_le _) (by have := hd5 i (by omega); omega) (fun o3 u3 hr3 hf3 => ⟨rfl, ?_⟩)))
          
          skip
          refine z_iinc ((nI (i + 1))) [1, 0, 2] [(0, .ref 0), (1, .int ((nI (i + 1)))), (2, .int ((nI (dst B T K i))))] dX7_writeTable_102 (j := 1) rfl (nI_1 i) (by decide) rfl ?_
          refine z_goto (tgt := 9) dX7_writeTable_105 (by decide) ?_
          refine z_lv [(0, .ref 0), (1, .int ((nI (i + 1))))] [0, 1] rfl ?_
          have e : rpL (B, H, T, K, V, c) i ++ dgs (K i - 1) ++ [43] ++ dgs (dst B T K i) = rpL (B, H, T, K, V, c) (i + 1) := by
            rw [rpL]
            rw [if_pos (show i = 0 by omega)]
            unfold rpB
            simp only
            rw [if_neg hK]
            rw [if_neg hd0]
            try simp only [List.append_assoc, List.cons_append, List.nil_append, List.append_nil]
          rw [e] at hr3
          exact ih (i + 1) o3 u3 (by omega) hr3 (fun o' u' h1 h2 => hq o' u' h1 (((hf1.tr hf2).tr hf3).tr h2))
      · have hK0 : K i = 0 := (tkey_eq (ekv i).1).mp czq42
        refine z_aload_n (j := 0) dX7_writeTable_45 rfl ?_
        refine z_get (v := .ref 87) (by omega) gW_0 fX7_52 rfl dX7_writeTable_46 ?_
        refine z_bipush (v := 46) dX7_writeTable_49 (by decide) ?_
        show Zj _ _ _ _ _ _ _ (.int (nI 46) :: _) _ _ _
        refine z_kV [.int ((nI 46))] 0 0 kc ks yoX4_addSign yvX4_addSign rfl (by decide) lX7_289 (by omega) gW_87 rfl rfl (Nat.le_of_ble_eq_true rfl) (Nat.le_of_ble_eq_true rfl) dX7_writeTable_51 (by omega) (by omega) (z_room (by omega) (Nat.le_refl _) (Nat.le_refl _) (w_addSign (d := 0) (l0 := rpL (B, H, T, K, V, c) i) (c := 46) (by omega) hr (by first | omega | (simp only [List.length_append, List.length_cons, List.length_nil]; omega)) (fun o1 u1 hr1 hf1 => ⟨rfl, ?_⟩)))
        refine z_goto (tgt := 102) dX7_writeTable_54 (by decide) ?_
        
        skip
        refine z_iinc ((nI (i + 1))) [1, 0] [(0, .ref 0), (1, .int ((nI (i + 1))))] dX7_writeTable_102 (j := 1) rfl (nI_1 i) (by decide) rfl ?_
        refine z_goto (tgt := 9) dX7_writeTable_105 (by decide) ?_
        have e : rpL (B, H, T, K, V, c) i ++ [46] = rpL (B, H, T, K, V, c) (i + 1) := by
          rw [rpL]
          rw [if_pos (show i = 0 by omega)]
          unfold rpB
          simp only
          rw [if_pos hK0]
          try simp only [List.append_assoc, List.cons_append, List.nil_append, List.append_nil]
        rw [e] at hr1
        exact ih (i + 1) o1 u1 (by omega) hr1 (fun o' u' h1 h2 => hq o' u' h1 (hf1.tr h2))
    · have hi0 : ¬ i = 0 := fun q => czq21 (by rw [q]; decide)
      have hlen3 : (rpL (B, H, T, K, V, c) i).length + 1 ≤ 441 := by
        rw [if_neg hi0] at hlen
        omega
      refine z_aload_n (j := 0) dX7_writeTable_24 rfl ?_
      refine z_get (v := .ref 87) (by omega) gW_0 fX7_52 rfl dX7_writeTable_25 ?_
      refine z_bipush (v := 32) dX7_writeTable_28 (by decide) ?_
      show Zj _ _ _ _ _ _ _ (.int (nI 32) :: _) _ _ _
      refine z_kV [.int ((nI 32))] 0 0 kc ks yoX4_addSign yvX4_addSign rfl (by decide) lX7_289 (by omega) gW_87 rfl rfl (Nat.le_of_ble_eq_true rfl) (Nat.le_of_ble_eq_true rfl) dX7_writeTable_30 (by omega) (by omega) (z_room (by omega) (Nat.le_refl _) (Nat.le_refl _) (w_addSign (d := 0) (l0 := rpL (B, H, T, K, V, c) i) (c := 32) (by omega) hr (by first | omega | (simp only [List.length_append, List.length_cons, List.length_nil]; omega)) (fun o1 u1 hr1 hf1 => ⟨rfl, ?_⟩)))
      
      refine z_aload_n (j := 0) dX7_writeTable_33 rfl ?_
      refine z_get (v := .ref 13) (by omega) gW_0 fX7_28 rfl dX7_writeTable_34 ?_
      refine z_iload_n (j := 1) dX7_writeTable_37 rfl ?_
      refine z_kV [.int ((nI i))] 0 0 kc ks yoX6_keyIn yvX6_keyIn rfl (by decide) lX7_216 (by omega) gW_13T rfl rfl (Nat.le_of_ble_eq_true rfl) (Nat.le_of_ble_eq_true rfl) dX7_writeTable_38 (by omega) (by omega) (z_room (by omega) (Nat.le_refl _) (Nat.le_refl _) (g_keyIn (d := 0) (t := 1) (by decide) rfl (by omega) hR (show i < B by omega) ⟨rfl, ?_⟩))
      refine z_iconst (v := (-1)) dX7_writeTable_41 (by decide) ?_
      refine z_icmp_ne (tgt := 57) dX7_writeTable_42 (by decide) (fun czq42 => ?_) (fun czq42 => ?_)
      · have hK : ¬ K i = 0 := fun q => czq42 ((tkey_eq (ekv i).1).mpr q)
        have hdl := dgs_len (v := K i - 1)
        refine z_aload_n (j := 0) dX7_writeTable_57 rfl ?_
        refine z_get (v := .ref 87) (by omega) gW_0 fX7_52 rfl dX7_writeTable_58 ?_
        refine z_aload_n (j := 0) dX7_writeTable_61 rfl ?_
        refine z_get (v := .ref 13) (by omega) gW_0 fX7_28 rfl dX7_writeTable_62 ?_
        refine z_iload_n (j := 1) dX7_writeTable_65 rfl ?_
        refine z_kV [.int ((nI i))] 0 0 kc ks yoX6_keyIn yvX6_keyIn rfl (by decide) lX7_216 (by omega) gW_13T rfl rfl (Nat.le_of_ble_eq_true rfl) (Nat.le_of_ble_eq_true rfl) dX7_writeTable_66 (by omega) (by omega) (z_room (by omega) (Nat.le_refl _) (Nat.le_refl _) (g_keyIn (d := 0) (t := 1) (by decide) rfl (by omega) hR (show i < B by omega) ⟨rfl, ?_⟩))
        rw [tkey_ne hK]
        refine z_kV [.int ((nI (K i - 1)))] 0 0 kc ks yoX4_addNumber yvX4_addNumber rfl (by decide) lX7_292 (by omega) gW_87 rfl rfl (Nat.le_of_ble_eq_true rfl) (Nat.le_of_ble_eq_true rfl) dX7_writeTable_69 (by omega) (by omega) (z_room (by omega) (Nat.le_refl _) (Nat.le_refl _) (w_addNumber (d := 0) (l0 := rpL (B, H, T, K, V, c) i ++ [32]) (v := (K i - 1)) (by omega) hr1 (by first | omega | (simp only [List.length_append, List.length_cons, List.length_nil]; omega)) (by have := ekv i; omega) (fun o2 u2 hr2 hf2 => ⟨rfl, ?_⟩)))
        refine z_aload_n (j := 0) dX7_writeTable_72 rfl ?_
        refine z_get (v := .ref 13) (by omega) gW_0 fX7_28 rfl dX7_writeTable_73 ?_
        refine z_iload_n (j := 1) dX7_writeTable_76 rfl ?_
        refine z_kV [.int ((nI i))] 0 0 kc ks yoX6_stepsFromHome yvX6_stepsFromHome rfl (by decide) lX7_239 (by omega) gW_13T rfl rfl (Nat.le_of_ble_eq_true rfl) (Nat.le_of_ble_eq_true rfl) dX7_writeTable_77 (by omega) (by omega) (z_room (by omega) (Nat.le_refl _) (Nat.le_refl _) (g_stepsFromHome (d := 0) (t := 1) (by decide) rfl (by omega) hR (show i < B by omega) ⟨rfl, ?_⟩))
        rw [sfh, if_neg hK]
        refine z_istore_n [1, 2, 0] [(0, .ref 0), (1, .int ((nI i))), (2, .int ((nI (dst B T K i))))] dX7_writeTable_80 (by decide) rfl ?_
        refine z_iload_n (j := 2) dX7_writeTable_81 rfl ?_
        refine z_if_le (tgt := 102) dX7_writeTable_82 (by decide) (fun czq82 => ?_) (fun czq82 => ?_)
        · have hd9 := hd5 i (by omega)
          have hd0 : dst B T K i = 0 := Decidable.byContradiction fun z => nI_nle2 (b := 0) (by omega) (by omega) czq82
          skip
          refine z_iinc ((nI (i + 1))) [1, 0, 2] [(0, .ref 0), (1, .int ((nI (i + 1)))), (2, .int ((nI (dst B T K i))))] dX7_writeTable_102 (j := 1) rfl (nI_1 i) (by decide) rfl ?_
          refine z_goto (tgt := 9) dX7_writeTable_105 (by decide) ?_
          refine z_lv [(0, .ref 0), (1, .int ((nI (i + 1))))] [0, 1] rfl ?_
          have e : rpL (B, H, T, K, V, c) i ++ [32] ++ dgs (K i - 1) = rpL (B, H, T, K, V, c) (i + 1) := by
            rw [rpL]
            rw [if_neg (show ¬ i = 0 by omega)]
            unfold rpB
            simp only
            rw [if_neg hK]
            rw [if_pos hd0]
            try simp only [List.append_assoc, List.cons_append, List.nil_append, List.append_nil]
          rw [e] at hr2
          exact ih (i + 1) o2 u2 (by omega) hr2 (fun o' u' h1 h2 => hq o' u' h1 ((hf1.tr hf2).tr h2))
        · have hd0 : ¬ dst B T K i = 0 := fun q => czq82 (by rw [q]; decide)
          refine z_aload_n (j := 0) dX7_writeTable_85 rfl ?_
          refine z_get (v := .ref 87) (by omega) gW_0 fX7_52 rfl dX7_writeTable_86 ?_
          refine z_bipush (v := 43) dX7_writeTable_89 (by decide) ?_
          show Zj _ _ _ _ _ _ _ (.int (nI 43) :: _) _ _ _
          refine z_kV [.int ((nI 43))] 0 0 kc ks yoX4_addSign yvX4_addSign rfl (by decide) lX7_289 (by omega) gW_87 rfl rfl (Nat.le_of_ble_eq_true rfl) (Nat.le_of_ble_eq_true rfl) dX7_writeTable_91 (by omega) (by omega) (z_room (by omega) (Nat.le_refl _) (Nat.le_refl _) (w_addSign (d := 0) (l0 := rpL (B, H, T, K, V, c) i ++ [32] ++ dgs (K i - 1)) (c := 43) (by omega) hr2 (by first | omega | (simp only [List.length_append, List.length_cons, List.length_nil]; omega)) (fun o3 u3 hr3 hf3 => ⟨rfl, ?_⟩)))
          refine z_aload_n (j := 0) dX7_writeTable_94 rfl ?_
          refine z_get (v := .ref 87) (by omega) gW_0 fX7_52 rfl dX7_writeTable_95 ?_
          refine z_iload_n (j := 2) dX7_writeTable_98 rfl ?_
          refine z_kV [.int ((nI (dst B T K i)))] 0 0 kc ks yoX4_addNumber yvX4_addNumber rfl (by decide) lX7_292 (by omega) gW_87 rfl rfl (Nat.le_of_ble_eq_true rfl) (Nat.le_of_ble_eq_true rfl) dX7_writeTable_99 (by omega) (by omega) (z_room (by omega) (Nat.le_refl _) (Nat.le_refl _) (w_addNumber3 (d := 0) (l0 := rpL (B, H, T, K, V, c) i ++ [32] ++ dgs (K i - 1) ++ [43]) (v := (dst B T K i)) (by omega) hr3 (by first | omega | (simp only [List.length_append, List.length_cons, List.length_nil]; omega)) (Nat.zero_le _) (by have := hd5 i (by omega); omega) (fun o4 u4 hr4 hf4 => ⟨rfl, ?_⟩)))
          
          skip
          refine z_iinc ((nI (i + 1))) [1, 0, 2] [(0, .ref 0), (1, .int ((nI (i + 1)))), (2, .int ((nI (dst B T K i))))] dX7_writeTable_102 (j := 1) rfl (nI_1 i) (by decide) rfl ?_
          refine z_goto (tgt := 9) dX7_writeTable_105 (by decide) ?_
          refine z_lv [(0, .ref 0), (1, .int ((nI (i + 1))))] [0, 1] rfl ?_
          have e : rpL (B, H, T, K, V, c) i ++ [32] ++ dgs (K i - 1) ++ [43] ++ dgs (dst B T K i) = rpL (B, H, T, K, V, c) (i + 1) := by
            rw [rpL]
            rw [if_neg (show ¬ i = 0 by omega)]
            unfold rpB
            simp only
            rw [if_neg hK]
            rw [if_neg hd0]
            try simp only [List.append_assoc, List.cons_append, List.nil_append, List.append_nil]
          rw [e] at hr4
          exact ih (i + 1) o4 u4 (by omega) hr4 (fun o' u' h1 h2 => hq o' u' h1 ((((hf1.tr hf2).tr hf3).tr hf4).tr h2))
      · have hK0 : K i = 0 := (tkey_eq (ekv i).1).mp czq42
        refine z_aload_n (j := 0) dX7_writeTable_45 rfl ?_
        refine z_get (v := .ref 87) (by omega) gW_0 fX7_52 rfl dX7_writeTable_46 ?_
        refine z_bipush (v := 46) dX7_writeTable_49 (by decide) ?_
        show Zj _ _ _ _ _ _ _ (.int (nI 46) :: _) _ _ _
        refine z_kV [.int ((nI 46))] 0 0 kc ks yoX4_addSign yvX4_addSign rfl (by decide) lX7_289 (by omega) gW_87 rfl rfl (Nat.le_of_ble_eq_true rfl) (Nat.le_of_ble_eq_true rfl) dX7_writeTable_51 (by omega) (by omega) (z_room (by omega) (Nat.le_refl _) (Nat.le_refl _) (w_addSign (d := 0) (l0 := rpL (B, H, T, K, V, c) i ++ [32]) (c := 46) (by omega) hr1 (by first | omega | (simp only [List.length_append, List.length_cons, List.length_nil]; omega)) (fun o2 u2 hr2 hf2 => ⟨rfl, ?_⟩)))
        refine z_goto (tgt := 102) dX7_writeTable_54 (by decide) ?_
        
        skip
        refine z_iinc ((nI (i + 1))) [1, 0] [(0, .ref 0), (1, .int ((nI (i + 1))))] dX7_writeTable_102 (j := 1) rfl (nI_1 i) (by decide) rfl ?_
        refine z_goto (tgt := 9) dX7_writeTable_105 (by decide) ?_
        have e : rpL (B, H, T, K, V, c) i ++ [32] ++ [46] = rpL (B, H, T, K, V, c) (i + 1) := by
          rw [rpL]
          rw [if_neg (show ¬ i = 0 by omega)]
          unfold rpB
          simp only
          rw [if_pos hK0]
          try simp only [List.append_assoc, List.cons_append, List.nil_append, List.append_nil]
        rw [e] at hr2
        exact ih (i + 1) o2 u2 (by omega) hr2 (fun o' u' h1 h2 => hq o' u' h1 ((hf1.tr hf2).tr h2))

set_option maxHeartbeats 4000000 in
set_option maxRecDepth 100000 in
theorem w_repBegin {l : zL} {d kc ks n : Nat} {h : Nat → va_E} {cm : Value} {o u : Nat → Nat → Int32} {s : Nat → Nat → Int32} {a : Nat → Nat → Nat → Int32} {Q : zQ} (hn : 89 ≤ n) (hq : ∀ o', o' 4 1 = 0 → (∀ c, c ≠ 4 → o' c = o c) → Q (.inl none) n (gW h cm o' u s a)) : Zj l mX4_begin d kc ks 0 [(0, .ref 87)] [] n (gW h cm o u s a) Q := by
  refine z_aload_n (j := 0) dX4_begin_0 rfl ?_
  refine z_iconst (v := 0) dX4_begin_1 (by decide) ?_
  refine g_put 4 (by decide) (by omega) (by decide) rfl rfl fX4_15 gg4 rfl fin4_1 (by show 1 < 2; decide) dX4_begin_2 ?_
  exact z_vret rfl dX4_begin_5 (hq _ (by rw [up_eq, up_eq]) (fun c h => by rw [up_ne h]))

theorem dgs_256 {v : Nat} (hv : v ≤ 10000) : ∀ q ∈ dgs v, q < 256 := by
  intro q hq
  unfold dgs at hq
  split at hq
  · simp only [List.mem_cons, List.not_mem_nil, or_false] at hq; omega
  · split at hq
    · simp only [List.mem_cons, List.not_mem_nil, or_false] at hq; omega
    · split at hq
      · simp only [List.mem_cons, List.not_mem_nil, or_false] at hq; omega
      · simp only [List.mem_cons, List.not_mem_nil, or_false] at hq; omega
theorem rp_256m {B H T : Nat} {K V : Nat → Nat} {c : Nat → Int32} (hK : ∀ i, K i ≤ 10000) (hd : ∀ i, i < B → dst B T K i ≤ 5 ∨ K i = 0) : ∀ i, i ≤ B → ∀ q ∈ rpL (B, H, T, K, V, c) i, q < 256
  | 0, _ => fun q hq => by simp [rpL] at hq
  | i + 1, h => fun q hq => by
    rw [rpL] at hq
    rcases List.mem_append.mp hq with hq | hq
    · rcases List.mem_append.mp hq with hq | hq
      · exact rp_256m hK hd i (by omega) q hq
      · split at hq
        · cases hq
        · simp only [List.mem_cons, List.not_mem_nil, or_false] at hq; omega
    · unfold rpB at hq
      simp only at hq
      split at hq
      · simp only [List.mem_cons, List.not_mem_nil, or_false] at hq; omega
      · rename_i hK0
        rcases List.mem_append.mp hq with hq | hq
        · exact dgs_256 (by have := hK i; omega) q hq
        · split at hq
          · cases hq
          · rcases List.mem_cons.mp hq with hq | hq
            · omega
            · rcases hd i (by omega) with h3 | h3
              · exact dgs_256 (by omega) q hq
              · exact absurd h3 hK0
theorem rp_256 {B H T : Nat} {K V : Nat → Nat} {c : Nat → Int32} (hK : ∀ i, K i ≤ 10000) (hd : ∀ i, i < B → dst B T K i ≤ 5 ∨ K i = 0) (i : Nat) (h : i ≤ B) (j : Nat) : lG (rpL (B, H, T, K, V, c) i) j < 256 := by
  unfold lG
  cases hg : (rpL (B, H, T, K, V, c) i)[j]? with
  | none => exact (by decide : (0 : Nat) < 256)
  | some q => exact rp_256m hK hd i h q (List.mem_of_getElem? hg)

set_option maxHeartbeats 4000000 in
set_option maxRecDepth 100000 in
theorem K_writeTable {l : zL} {d kc ks n : Nat} {h : Nat → va_E} {cm : Value} {o u : Nat → Nat → Int32} {s : Nat → Nat → Int32} {a : Nat → Nat → Nat → Int32} {g : zGs} {Q : zQ} (hn : 104 ≤ n) (hC : cI g o u s a) (hq : ∀ t v g' cm' o' u' s' a', f_writeTable g = (t, v, g') → cI g' o' u' s' a' → Q (oc IAE ISE t v) n (gW h cm' o' u' s' a')) : Zj l mX7_writeTable (d + 12) (kc + 3) (ks + 18) 0 [(0, .ref 0)] [] n (gW h cm o u s a) Q := by
  obtain ⟨⟨B, H, T, K, V, c⟩, sv, Sn, k, hi, L, x, ek, eo, rl, rb⟩ := g
  obtain ⟨hT, ho05, hsv, hsn, hk8, ho32, ⟨nx, hnx, ho31, hhi⟩, hL, ho11, hu0, hx256, ho210, ho211, hrl, ho41, hu4, hrb⟩ := id hC
  obtain ⟨hR, ⟨hI, hd3, h3⟩, e9, e10, e11, e12, e13, e14, e15⟩ := id hT
  obtain ⟨okb, h2H, hH6, h1T, hT99, e6, e7, e8, ek_, ev_, eh_, ekv, ez⟩ := id hR
  have hle := okb.le
  refine z_aload_n (j := 0) dX7_writeTable_0 rfl ?_
  refine z_get (v := .ref 87) (by omega) gW_0 fX7_52 rfl dX7_writeTable_1 ?_
  refine z_kV [] 0 0 (kc + 3) (ks + 18) yoX4_begin yvX4_begin rfl (by decide) lX7_288 (by omega) gW_87 rfl rfl (Nat.le_of_ble_eq_true rfl) (Nat.le_of_ble_eq_true rfl) dX7_writeTable_4 (by omega) (by omega) (z_room (by omega) (Nat.le_refl _) (Nat.le_refl _) (w_repBegin (d := 0) (by omega) (fun o1 h41 h1o => ⟨rfl, ?_⟩)))
  refine z_iconst (v := 0) dX7_writeTable_7 (by decide) ?_
  refine z_istore_n [1, 0] [(0, .ref 0), (1, .int 0)] dX7_writeTable_8 (by decide) rfl ?_
  refine z_room (d' := d + 3) (by omega) (by omega) (by omega) (K_wt_l (d := d) (kc := kc) (ks := ks) (V := V) (c := c) hn hR hI B 0 o1 u (by omega) ⟨h41, fun i hi => absurd hi (Nat.not_lt_zero i)⟩ (fun o' u' h1 h2 => hq 0 _ _ _ _ _ _ _ rfl ?_))
  have hlen := rp_len (H := H) (V := V) (c := c) (dst_5 okb hH6 hI) B (Nat.le_refl B)
  rw [if_neg (show ¬ B = 0 by omega)] at hlen
  have kf := fun c hc => (h2.1 c hc).trans (h1o c hc)
  refine ⟨hT, by rw [kf 0 (by decide)]; exact ho05, hsv, hsn, hk8, by rw [kf 3 (by decide)]; exact ho32, ⟨nx, hnx, by rw [kf 3 (by decide)]; exact ho31, hhi⟩, hL, by rw [kf 1 (by decide)]; exact ho11, by rw [h2.2 0 (by decide)]; exact hu0, hx256, by rw [kf 2 (by decide)]; exact ho210, by rw [kf 2 (by decide)]; exact ho211, by show (rpL (B, H, T, K, V, c) B).length ≤ 447; omega, h1.1, h1.2, fun i => ?_⟩
  exact rp_256 (fun i => (ekv i).1) (fun i hi => dst_5 okb hH6 hI i hi) B (Nat.le_refl B) i

set_option maxHeartbeats 4000000 in
set_option maxRecDepth 100000 in
theorem w_four {l : zL} {d kc ks n : Nat} {h : Nat → va_E} {cm : Value} {o u : Nat → Nat → Int32} {s : Nat → Nat → Int32} {a : Nat → Nat → Nat → Int32} {Q : zQ} {L : Nat} {p : Int32} (hn : 89 ≤ n) (hL : L + 4 ≤ 600) (h1_0 : o 1 1 = nI L) (hq : ∀ o' u', o' 1 1 = nI (L + 4) → (∀ j, j < 4 → u' 0 (L + j) = nI (by4 p j)) → (∀ i, i < L → u' 0 i = u 0 i) → (∀ c, c ≠ 1 → o' c = o c) → (∀ j, j ≠ 0 → u' j = u j) → Q (.inl none) n (gW h cm o' u' s a)) : Zj l mX3_addFourBytes d kc ks 0 [(0, .ref 1), (1, .int p)] [] n (gW h cm o u s a) Q := by
  refine z_bipush (v := 24) dX3_addFourBytes_0 (by decide) ?_
  refine z_istore_n [1, 2, 0] [(0, .ref 1), (1, .int p), (2, .int 24)] dX3_addFourBytes_2 (by decide) rfl ?_
  refine z_iload_n (j := 2) dX3_addFourBytes_3 rfl ?_
  refine z_if_lt (tgt := 58) dX3_addFourBytes_4 (by decide) (fun czq4 => absurd czq4 (by decide)) (fun czq4 => ?_)
  refine z_aload_n (j := 0) dX3_addFourBytes_7 rfl ?_
  refine z_get (v := .int (o 1 1)) (by omega) gW_1 fX3_15 rfl dX3_addFourBytes_8 ?_
  refine z_if_lt (tgt := 52) dX3_addFourBytes_11 (by decide) (fun czq11 => absurd czq11 (by rw [h1_0]; exact nI_pos (by omega))) (fun czq11 => ?_)
  
  refine z_aload_n (j := 0) dX3_addFourBytes_14 rfl ?_
  refine z_get (v := .int (o 1 1)) (by omega) gW_1 fX3_15 rfl dX3_addFourBytes_15 ?_
  refine z_aload_n (j := 0) dX3_addFourBytes_18 rfl ?_
  refine z_get (v := .ref 2) (by omega) gW_1 fX3_11 rfl dX3_addFourBytes_19 ?_
  refine z_alen (by omega) gW_2 (by decide) rfl dX3_addFourBytes_22 ?_
  refine z_icmp_ge (tgt := 52) dX3_addFourBytes_23 (by decide) (fun czq23 => absurd czq23 (by rw [h1_0]; exact nI_ge (by omega) (by decide))) (fun czq23 => ?_)
  refine z_aload_n (j := 0) dX3_addFourBytes_26 rfl ?_
  refine z_get (v := .ref 2) (by omega) gW_1 fX3_11 rfl dX3_addFourBytes_27 ?_
  refine z_aload_n (j := 0) dX3_addFourBytes_30 rfl ?_
  refine z_get (v := .int (o 1 1)) (by omega) gW_1 fX3_15 rfl dX3_addFourBytes_31 ?_
  refine z_iload_n (j := 1) dX3_addFourBytes_34 rfl ?_
  refine z_iload_n (j := 2) dX3_addFourBytes_35 rfl ?_
  refine z_iushr dX3_addFourBytes_36 ?_
  refine z_sipush (v := 255) dX3_addFourBytes_37 (by decide) ?_
  refine z_iand dX3_addFourBytes_40 ?_
  rw [show ((zushr p 24) &&& 255) = nI (by4 p 0) from by_u24 p]
  rw [show (o 1 1) = nI L from h1_0]
  refine g_ast 0 (by decide) rfl (by omega) (vp_in_nI (by omega) (by decide)) dX3_addFourBytes_41 ?_
  refine z_aload_n (j := 0) dX3_addFourBytes_42 rfl ?_
  refine z_dup rfl dX3_addFourBytes_43 ?_
  refine z_get (v := .int (o 1 1)) (by omega) gW_1 fX3_15 rfl dX3_addFourBytes_44 ?_
  refine z_iconst (v := 1) dX3_addFourBytes_47 (by decide) ?_
  refine z_iadd dX3_addFourBytes_48 ?_
  have h1_1 : ((o 1 1) + 1) = nI (L + 1) := by rw [h1_0, nI_1]
  rw [h1_1]
  refine g_put 1 (by decide) (by omega) (by decide) rfl rfl fX3_15 gg3 rfl fin3_1 (by show 1 < 6; decide) dX3_addFourBytes_49 ?_
  skip
  refine z_iinc (16) [1, 2, 0] [(0, .ref 1), (1, .int p), (2, .int 16)] dX3_addFourBytes_52 (j := 2) rfl (by decide) (by decide) rfl ?_
  refine z_goto (tgt := 3) dX3_addFourBytes_55 (by decide) ?_
  refine z_iload_n (j := 2) dX3_addFourBytes_3 rfl ?_
  refine z_if_lt (tgt := 58) dX3_addFourBytes_4 (by decide) (fun czq4 => absurd czq4 (by decide)) (fun czq4 => ?_)
  refine z_aload_n (j := 0) dX3_addFourBytes_7 rfl ?_
  refine z_get (v := .int ((nI (L + 1)))) (by omega) gW_1 fX3_15 rfl dX3_addFourBytes_8 ?_
  refine z_if_lt (tgt := 52) dX3_addFourBytes_11 (by decide) (fun czq11 => absurd czq11 (nI_pos (by omega))) (fun czq11 => ?_)
  
  refine z_aload_n (j := 0) dX3_addFourBytes_14 rfl ?_
  refine z_get (v := .int ((nI (L + 1)))) (by omega) gW_1 fX3_15 rfl dX3_addFourBytes_15 ?_
  refine z_aload_n (j := 0) dX3_addFourBytes_18 rfl ?_
  refine z_get (v := .ref 2) (by omega) gW_1 fX3_11 rfl dX3_addFourBytes_19 ?_
  refine z_alen (by omega) gW_2 (by decide) rfl dX3_addFourBytes_22 ?_
  refine z_icmp_ge (tgt := 52) dX3_addFourBytes_23 (by decide) (fun czq23 => absurd czq23 (nI_ge (by omega) (by decide))) (fun czq23 => ?_)
  refine z_aload_n (j := 0) dX3_addFourBytes_26 rfl ?_
  refine z_get (v := .ref 2) (by omega) gW_1 fX3_11 rfl dX3_addFourBytes_27 ?_
  refine z_aload_n (j := 0) dX3_addFourBytes_30 rfl ?_
  refine z_get (v := .int ((nI (L + 1)))) (by omega) gW_1 fX3_15 rfl dX3_addFourBytes_31 ?_
  refine z_iload_n (j := 1) dX3_addFourBytes_34 rfl ?_
  refine z_iload_n (j := 2) dX3_addFourBytes_35 rfl ?_
  refine z_iushr dX3_addFourBytes_36 ?_
  refine z_sipush (v := 255) dX3_addFourBytes_37 (by decide) ?_
  refine z_iand dX3_addFourBytes_40 ?_
  rw [show ((zushr p 16) &&& 255) = nI (by4 p 1) from by_u16 p]
  refine g_ast 0 (by decide) rfl (by omega) (vp_in_nI (by omega) (by decide)) dX3_addFourBytes_41 ?_
  refine z_aload_n (j := 0) dX3_addFourBytes_42 rfl ?_
  refine z_dup rfl dX3_addFourBytes_43 ?_
  refine z_get (v := .int ((nI (L + 1)))) (by omega) gW_1 fX3_15 rfl dX3_addFourBytes_44 ?_
  refine z_iconst (v := 1) dX3_addFourBytes_47 (by decide) ?_
  refine z_iadd dX3_addFourBytes_48 ?_
  have h1_2 : ((nI (L + 1)) + 1) = nI (L + 2) := by rw [nI_1]
  rw [h1_2]
  refine g_put 1 (by decide) (by omega) (by decide) rfl rfl fX3_15 gg3 rfl fin3_1 (by show 1 < 6; decide) dX3_addFourBytes_49 ?_
  skip
  refine z_iinc (8) [1, 2, 0] [(0, .ref 1), (1, .int p), (2, .int 8)] dX3_addFourBytes_52 (j := 2) rfl (by decide) (by decide) rfl ?_
  refine z_goto (tgt := 3) dX3_addFourBytes_55 (by decide) ?_
  refine z_iload_n (j := 2) dX3_addFourBytes_3 rfl ?_
  refine z_if_lt (tgt := 58) dX3_addFourBytes_4 (by decide) (fun czq4 => absurd czq4 (by decide)) (fun czq4 => ?_)
  refine z_aload_n (j := 0) dX3_addFourBytes_7 rfl ?_
  refine z_get (v := .int ((nI (L + 2)))) (by omega) gW_1 fX3_15 rfl dX3_addFourBytes_8 ?_
  refine z_if_lt (tgt := 52) dX3_addFourBytes_11 (by decide) (fun czq11 => absurd czq11 (nI_pos (by omega))) (fun czq11 => ?_)
  
  refine z_aload_n (j := 0) dX3_addFourBytes_14 rfl ?_
  refine z_get (v := .int ((nI (L + 2)))) (by omega) gW_1 fX3_15 rfl dX3_addFourBytes_15 ?_
  refine z_aload_n (j := 0) dX3_addFourBytes_18 rfl ?_
  refine z_get (v := .ref 2) (by omega) gW_1 fX3_11 rfl dX3_addFourBytes_19 ?_
  refine z_alen (by omega) gW_2 (by decide) rfl dX3_addFourBytes_22 ?_
  refine z_icmp_ge (tgt := 52) dX3_addFourBytes_23 (by decide) (fun czq23 => absurd czq23 (nI_ge (by omega) (by decide))) (fun czq23 => ?_)
  refine z_aload_n (j := 0) dX3_addFourBytes_26 rfl ?_
  refine z_get (v := .ref 2) (by omega) gW_1 fX3_11 rfl dX3_addFourBytes_27 ?_
  refine z_aload_n (j := 0) dX3_addFourBytes_30 rfl ?_
  refine z_get (v := .int ((nI (L + 2)))) (by omega) gW_1 fX3_15 rfl dX3_addFourBytes_31 ?_
  refine z_iload_n (j := 1) dX3_addFourBytes_34 rfl ?_
  refine z_iload_n (j := 2) dX3_addFourBytes_35 rfl ?_
  refine z_iushr dX3_addFourBytes_36 ?_
  refine z_sipush (v := 255) dX3_addFourBytes_37 (by decide) ?_
  refine z_iand dX3_addFourBytes_40 ?_
  rw [show ((zushr p 8) &&& 255) = nI (by4 p 2) from by_u8 p]
  refine g_ast 0 (by decide) rfl (by omega) (vp_in_nI (by omega) (by decide)) dX3_addFourBytes_41 ?_
  refine z_aload_n (j := 0) dX3_addFourBytes_42 rfl ?_
  refine z_dup rfl dX3_addFourBytes_43 ?_
  refine z_get (v := .int ((nI (L + 2)))) (by omega) gW_1 fX3_15 rfl dX3_addFourBytes_44 ?_
  refine z_iconst (v := 1) dX3_addFourBytes_47 (by decide) ?_
  refine z_iadd dX3_addFourBytes_48 ?_
  have h1_3 : ((nI (L + 2)) + 1) = nI (L + 3) := by rw [nI_1]
  rw [h1_3]
  refine g_put 1 (by decide) (by omega) (by decide) rfl rfl fX3_15 gg3 rfl fin3_1 (by show 1 < 6; decide) dX3_addFourBytes_49 ?_
  skip
  refine z_iinc (0) [1, 2, 0] [(0, .ref 1), (1, .int p), (2, .int 0)] dX3_addFourBytes_52 (j := 2) rfl (by decide) (by decide) rfl ?_
  refine z_goto (tgt := 3) dX3_addFourBytes_55 (by decide) ?_
  refine z_iload_n (j := 2) dX3_addFourBytes_3 rfl ?_
  refine z_if_lt (tgt := 58) dX3_addFourBytes_4 (by decide) (fun czq4 => absurd czq4 (by decide)) (fun czq4 => ?_)
  refine z_aload_n (j := 0) dX3_addFourBytes_7 rfl ?_
  refine z_get (v := .int ((nI (L + 3)))) (by omega) gW_1 fX3_15 rfl dX3_addFourBytes_8 ?_
  refine z_if_lt (tgt := 52) dX3_addFourBytes_11 (by decide) (fun czq11 => absurd czq11 (nI_pos (by omega))) (fun czq11 => ?_)
  
  refine z_aload_n (j := 0) dX3_addFourBytes_14 rfl ?_
  refine z_get (v := .int ((nI (L + 3)))) (by omega) gW_1 fX3_15 rfl dX3_addFourBytes_15 ?_
  refine z_aload_n (j := 0) dX3_addFourBytes_18 rfl ?_
  refine z_get (v := .ref 2) (by omega) gW_1 fX3_11 rfl dX3_addFourBytes_19 ?_
  refine z_alen (by omega) gW_2 (by decide) rfl dX3_addFourBytes_22 ?_
  refine z_icmp_ge (tgt := 52) dX3_addFourBytes_23 (by decide) (fun czq23 => absurd czq23 (nI_ge (by omega) (by decide))) (fun czq23 => ?_)
  refine z_aload_n (j := 0) dX3_addFourBytes_26 rfl ?_
  refine z_get (v := .ref 2) (by omega) gW_1 fX3_11 rfl dX3_addFourBytes_27 ?_
  refine z_aload_n (j := 0) dX3_addFourBytes_30 rfl ?_
  refine z_get (v := .int ((nI (L + 3)))) (by omega) gW_1 fX3_15 rfl dX3_addFourBytes_31 ?_
  refine z_iload_n (j := 1) dX3_addFourBytes_34 rfl ?_
  refine z_iload_n (j := 2) dX3_addFourBytes_35 rfl ?_
  refine z_iushr dX3_addFourBytes_36 ?_
  refine z_sipush (v := 255) dX3_addFourBytes_37 (by decide) ?_
  refine z_iand dX3_addFourBytes_40 ?_
  rw [show ((zushr p 0) &&& 255) = nI (by4 p 3) from by_u0 p]
  refine g_ast 0 (by decide) rfl (by omega) (vp_in_nI (by omega) (by decide)) dX3_addFourBytes_41 ?_
  refine z_aload_n (j := 0) dX3_addFourBytes_42 rfl ?_
  refine z_dup rfl dX3_addFourBytes_43 ?_
  refine z_get (v := .int ((nI (L + 3)))) (by omega) gW_1 fX3_15 rfl dX3_addFourBytes_44 ?_
  refine z_iconst (v := 1) dX3_addFourBytes_47 (by decide) ?_
  refine z_iadd dX3_addFourBytes_48 ?_
  have h1_4 : ((nI (L + 3)) + 1) = nI (L + 4) := by rw [nI_1]
  rw [h1_4]
  refine g_put 1 (by decide) (by omega) (by decide) rfl rfl fX3_15 gg3 rfl fin3_1 (by show 1 < 6; decide) dX3_addFourBytes_49 ?_
  skip
  refine z_iinc ((-8)) [1, 2, 0] [(0, .ref 1), (1, .int p), (2, .int ((-8)))] dX3_addFourBytes_52 (j := 2) rfl (by decide) (by decide) rfl ?_
  refine z_goto (tgt := 3) dX3_addFourBytes_55 (by decide) ?_
  refine z_iload_n (j := 2) dX3_addFourBytes_3 rfl ?_
  refine z_if_lt (tgt := 58) dX3_addFourBytes_4 (by decide) (fun czq4 => ?_) (fun czq4 => absurd (by decide) czq4)
  exact z_vret rfl dX3_addFourBytes_58 (by
      refine hq _ _ ?_ (fun j hj => ?_) (fun i hi => ?_) (fun c hc => ?_) (fun j hj => ?_)
      · rw [up_eq, up_eq]
      · rcases (show j = 0 ∨ j = 1 ∨ j = 2 ∨ j = 3 by omega) with rfl | rfl | rfl | rfl
        · simp only [up_eq, nI_clamp (show L < 2 ^ 31 by omega), nI_clamp (show L + 1 < 2 ^ 31 by omega), nI_clamp (show L + 2 < 2 ^ 31 by omega), nI_clamp (show L + 3 < 2 ^ 31 by omega)]
          rw [up_ne (by omega), up_ne (by omega), up_ne (by omega), Nat.add_zero, up_eq]
        · simp only [up_eq, nI_clamp (show L < 2 ^ 31 by omega), nI_clamp (show L + 1 < 2 ^ 31 by omega), nI_clamp (show L + 2 < 2 ^ 31 by omega), nI_clamp (show L + 3 < 2 ^ 31 by omega)]
          rw [up_ne (by omega), up_ne (by omega), up_eq]
        · simp only [up_eq, nI_clamp (show L < 2 ^ 31 by omega), nI_clamp (show L + 1 < 2 ^ 31 by omega), nI_clamp (show L + 2 < 2 ^ 31 by omega), nI_clamp (show L + 3 < 2 ^ 31 by omega)]
          rw [up_ne (by omega), up_eq]
        · simp only [up_eq, nI_clamp (show L < 2 ^ 31 by omega), nI_clamp (show L + 1 < 2 ^ 31 by omega), nI_clamp (show L + 2 < 2 ^ 31 by omega), nI_clamp (show L + 3 < 2 ^ 31 by omega)]
      · simp only [up_eq, nI_clamp (show L < 2 ^ 31 by omega), nI_clamp (show L + 1 < 2 ^ 31 by omega), nI_clamp (show L + 2 < 2 ^ 31 by omega), nI_clamp (show L + 3 < 2 ^ 31 by omega)]
        rw [up_ne (by omega), up_ne (by omega), up_ne (by omega), up_ne (by omega)]
      · rw [up_ne hc, up_ne hc, up_ne hc, up_ne hc]
      · rw [up_ne hj, up_ne hj, up_ne hj, up_ne hj])
