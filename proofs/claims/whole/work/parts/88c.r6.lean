/-! THE REFERENCE'S PUBLIC METHODS, sixth part: input and report -/
theorem s_u (p : Int32) (k : Nat) (hk : k ≤ 24) : (p.toBitVec.sshiftRight k) &&& 255#32 = (p.toBitVec >>> k) &&& 255#32 := by
  apply BitVec.eq_of_getLsbD_eq
  intro i hi
  rw [BitVec.getLsbD_and, BitVec.getLsbD_and]
  by_cases h8 : i < 8
  · rw [BitVec.getLsbD_sshiftRight, BitVec.getLsbD_ushiftRight]
    have h1 : ¬ 32 ≤ i := by omega
    have h2 : k + i < 32 := by omega
    simp [h1, h2]
  · have : (255#32).getLsbD i = false := by
      rw [BitVec.getLsbD_ofNat]
      have h9 : (255 : Nat).testBit i = false := Nat.testBit_lt_two_pow (Nat.lt_of_lt_of_le (by decide : 255 < 2 ^ 8) (Nat.pow_le_pow_right (by decide) (by omega)))
      simp [h9]
    rw [this, Bool.and_false, Bool.and_false]

theorem by_s24 (p : Int32) : (p >>> ((24 : Int32) &&& 31)) &&& 255 = nI (by4 p 0) := by
  rw [← by_u24]
  apply Int32.toBitVec_inj.mp
  exact s_u p 24 (by decide)

theorem by_s16 (p : Int32) : (p >>> ((16 : Int32) &&& 31)) &&& 255 = nI (by4 p 1) := by
  rw [← by_u16]
  apply Int32.toBitVec_inj.mp
  exact s_u p 16 (by decide)

theorem by_s8 (p : Int32) : (p >>> ((8 : Int32) &&& 31)) &&& 255 = nI (by4 p 2) := by
  rw [← by_u8]
  apply Int32.toBitVec_inj.mp
  exact s_u p 8 (by decide)

theorem by_s0 (p : Int32) : (p >>> ((0 : Int32) &&& 31)) &&& 255 = nI (by4 p 3) := by
  rw [← by_u0]
  apply Int32.toBitVec_inj.mp
  exact s_u p 0 (by decide)

set_option maxHeartbeats 4000000 in
set_option maxRecDepth 100000 in
theorem r_type {l : zL} {d kc ks n b : Nat} {h : Nat → va_E} {s : Nat → Int32} {a : Nat → Nat → Int32} {L : Nat} {p : Int32} {Q : zQ} (hb : b + 14 ≤ n) (hL : L + 4 ≤ 600) (h14 : s 14 = nI L) (hq : ∀ s' a', s' 14 = nI (L + 4) → (∀ q, q ≠ 14 → s' q = s q) → (∀ j, j < 4 → a' 9 (L + j) = nI (by4 p j)) → (∀ i, i < L → a' 9 i = a 9 i) → (∀ q, q ≠ 9 → a' q = a q) → Q (.inl none) n (mW h b s' a')) : Zj l mX8_type d kc ks 0 [(0, .ref b), (1, .int p)] [] n (mW h b s a) Q := by
  refine z_bipush (v := 24) dX8_type_0 (by decide) ?_
  refine z_istore_n [1, 2, 0] [(0, .ref b), (1, .int p), (2, .int 24)] dX8_type_2 (by decide) rfl ?_
  refine z_iload_n (j := 2) dX8_type_3 rfl ?_
  refine z_if_lt (tgt := 39) dX8_type_4 (by decide) (fun czq4 => absurd czq4 (by decide)) (fun czq4 => ?_)
  refine z_aload_n (j := 0) dX8_type_7 rfl ?_
  refine z_get (v := .ref (b + 10)) (by omega) mW_obj fX8_37 rfl dX8_type_8 ?_
  refine z_aload_n (j := 0) dX8_type_11 rfl ?_
  refine z_get (v := .int (s 14)) (by omega) mW_obj fX8_309 rfl dX8_type_12 ?_
  refine z_iload_n (j := 1) dX8_type_15 rfl ?_
  refine z_iload_n (j := 2) dX8_type_16 rfl ?_
  refine z_ishr dX8_type_17 ?_
  refine z_sipush (v := 255) dX8_type_18 (by decide) ?_
  refine z_iand dX8_type_21 ?_
  rw [show ((p >>> (24 &&& 31)) &&& 255) = nI (by4 p 0) from by_s24 p]
  rw [show (s 14) = nI L from h14]
  refine m_astN 9 600 L (by decide) rfl rfl hb rfl (by omega) (by decide) dX8_type_22 ?_
  refine z_aload_n (j := 0) dX8_type_23 rfl ?_
  refine z_dup rfl dX8_type_24 ?_
  refine z_get (v := .int (s 14)) (by omega) mW_obj fX8_309 rfl dX8_type_25 ?_
  refine z_iconst (v := 1) dX8_type_28 (by decide) ?_
  refine z_iadd dX8_type_29 ?_
  rw [show ((s 14) + 1) = nI (L + 1) from by rw [h14, nI_1]]
  refine m_put (k := 14) (by omega) fX8_309 (by unfold mS; omega) (by decide) dX8_type_30 ?_
  skip
  refine z_iinc (16) [1, 2, 0] [(0, .ref b), (1, .int p), (2, .int 16)] dX8_type_33 (j := 2) rfl (by decide) (by decide) rfl ?_
  refine z_goto (tgt := 3) dX8_type_36 (by decide) ?_
  refine z_iload_n (j := 2) dX8_type_3 rfl ?_
  refine z_if_lt (tgt := 39) dX8_type_4 (by decide) (fun czq4 => absurd czq4 (by decide)) (fun czq4 => ?_)
  refine z_aload_n (j := 0) dX8_type_7 rfl ?_
  refine z_get (v := .ref (b + 10)) (by omega) mW_obj fX8_37 rfl dX8_type_8 ?_
  refine z_aload_n (j := 0) dX8_type_11 rfl ?_
  refine z_get (v := .int ((nI (L + 1)))) (by omega) mW_obj fX8_309 rfl dX8_type_12 ?_
  refine z_iload_n (j := 1) dX8_type_15 rfl ?_
  refine z_iload_n (j := 2) dX8_type_16 rfl ?_
  refine z_ishr dX8_type_17 ?_
  refine z_sipush (v := 255) dX8_type_18 (by decide) ?_
  refine z_iand dX8_type_21 ?_
  rw [show ((p >>> (16 &&& 31)) &&& 255) = nI (by4 p 1) from by_s16 p]
  refine m_astN 9 600 (L + 1) (by decide) rfl rfl hb rfl (by omega) (by decide) dX8_type_22 ?_
  refine z_aload_n (j := 0) dX8_type_23 rfl ?_
  refine z_dup rfl dX8_type_24 ?_
  refine z_get (v := .int ((nI (L + 1)))) (by omega) mW_obj fX8_309 rfl dX8_type_25 ?_
  refine z_iconst (v := 1) dX8_type_28 (by decide) ?_
  refine z_iadd dX8_type_29 ?_
  rw [show (((nI (L + 1))) + 1) = nI (L + 2) from by rw [nI_1]]
  refine m_put (k := 14) (by omega) fX8_309 (by unfold mS; omega) (by decide) dX8_type_30 ?_
  skip
  refine z_iinc (8) [1, 2, 0] [(0, .ref b), (1, .int p), (2, .int 8)] dX8_type_33 (j := 2) rfl (by decide) (by decide) rfl ?_
  refine z_goto (tgt := 3) dX8_type_36 (by decide) ?_
  refine z_iload_n (j := 2) dX8_type_3 rfl ?_
  refine z_if_lt (tgt := 39) dX8_type_4 (by decide) (fun czq4 => absurd czq4 (by decide)) (fun czq4 => ?_)
  refine z_aload_n (j := 0) dX8_type_7 rfl ?_
  refine z_get (v := .ref (b + 10)) (by omega) mW_obj fX8_37 rfl dX8_type_8 ?_
  refine z_aload_n (j := 0) dX8_type_11 rfl ?_
  refine z_get (v := .int ((nI (L + 2)))) (by omega) mW_obj fX8_309 rfl dX8_type_12 ?_
  refine z_iload_n (j := 1) dX8_type_15 rfl ?_
  refine z_iload_n (j := 2) dX8_type_16 rfl ?_
  refine z_ishr dX8_type_17 ?_
  refine z_sipush (v := 255) dX8_type_18 (by decide) ?_
  refine z_iand dX8_type_21 ?_
  rw [show ((p >>> (8 &&& 31)) &&& 255) = nI (by4 p 2) from by_s8 p]
  refine m_astN 9 600 (L + 2) (by decide) rfl rfl hb rfl (by omega) (by decide) dX8_type_22 ?_
  refine z_aload_n (j := 0) dX8_type_23 rfl ?_
  refine z_dup rfl dX8_type_24 ?_
  refine z_get (v := .int ((nI (L + 2)))) (by omega) mW_obj fX8_309 rfl dX8_type_25 ?_
  refine z_iconst (v := 1) dX8_type_28 (by decide) ?_
  refine z_iadd dX8_type_29 ?_
  rw [show (((nI (L + 2))) + 1) = nI (L + 3) from by rw [nI_1]]
  refine m_put (k := 14) (by omega) fX8_309 (by unfold mS; omega) (by decide) dX8_type_30 ?_
  skip
  refine z_iinc (0) [1, 2, 0] [(0, .ref b), (1, .int p), (2, .int 0)] dX8_type_33 (j := 2) rfl (by decide) (by decide) rfl ?_
  refine z_goto (tgt := 3) dX8_type_36 (by decide) ?_
  refine z_iload_n (j := 2) dX8_type_3 rfl ?_
  refine z_if_lt (tgt := 39) dX8_type_4 (by decide) (fun czq4 => absurd czq4 (by decide)) (fun czq4 => ?_)
  refine z_aload_n (j := 0) dX8_type_7 rfl ?_
  refine z_get (v := .ref (b + 10)) (by omega) mW_obj fX8_37 rfl dX8_type_8 ?_
  refine z_aload_n (j := 0) dX8_type_11 rfl ?_
  refine z_get (v := .int ((nI (L + 3)))) (by omega) mW_obj fX8_309 rfl dX8_type_12 ?_
  refine z_iload_n (j := 1) dX8_type_15 rfl ?_
  refine z_iload_n (j := 2) dX8_type_16 rfl ?_
  refine z_ishr dX8_type_17 ?_
  refine z_sipush (v := 255) dX8_type_18 (by decide) ?_
  refine z_iand dX8_type_21 ?_
  rw [show ((p >>> (0 &&& 31)) &&& 255) = nI (by4 p 3) from by_s0 p]
  refine m_astN 9 600 (L + 3) (by decide) rfl rfl hb rfl (by omega) (by decide) dX8_type_22 ?_
  refine z_aload_n (j := 0) dX8_type_23 rfl ?_
  refine z_dup rfl dX8_type_24 ?_
  refine z_get (v := .int ((nI (L + 3)))) (by omega) mW_obj fX8_309 rfl dX8_type_25 ?_
  refine z_iconst (v := 1) dX8_type_28 (by decide) ?_
  refine z_iadd dX8_type_29 ?_
  rw [show (((nI (L + 3))) + 1) = nI (L + 4) from by rw [nI_1]]
  refine m_put (k := 14) (by omega) fX8_309 (by unfold mS; omega) (by decide) dX8_type_30 ?_
  skip
  refine z_iinc ((-8)) [1, 2, 0] [(0, .ref b), (1, .int p), (2, .int ((-8)))] dX8_type_33 (j := 2) rfl (by decide) (by decide) rfl ?_
  refine z_goto (tgt := 3) dX8_type_36 (by decide) ?_
  refine z_iload_n (j := 2) dX8_type_3 rfl ?_
  refine z_if_lt (tgt := 39) dX8_type_4 (by decide) (fun czq4 => ?_) (fun czq4 => absurd (by decide) czq4)
  exact z_vret rfl dX8_type_39 (by
      refine hq _ _ ?_ (fun q hq9 => ?_) (fun j hj => ?_) (fun i hi => ?_) (fun q hq9 => ?_)
      · rw [up_eq]
      · rw [up_ne hq9, up_ne hq9, up_ne hq9, up_ne hq9]
      · rcases (show j = 0 ∨ j = 1 ∨ j = 2 ∨ j = 3 by omega) with rfl | rfl | rfl | rfl
        · simp only [up_eq]
          rw [up_ne (by omega), up_ne (by omega), up_ne (by omega), Nat.add_zero, up_eq]
        · simp only [up_eq]
          rw [up_ne (by omega), up_ne (by omega), up_eq]
        · simp only [up_eq]
          rw [up_ne (by omega), up_eq]
        · simp only [up_eq]
      · simp only [up_eq]
        rw [up_ne (by omega), up_ne (by omega), up_ne (by omega), up_ne (by omega)]
      · rw [up_ne hq9, up_ne hq9, up_ne hq9, up_ne hq9])

set_option maxHeartbeats 4000000 in
set_option maxRecDepth 100000 in
theorem R_append {l : zL} {d kc ks n b : Nat} {h : Nat → va_E} {s : Nat → Int32} {a : Nat → Nat → Int32} {g : zGs} {Q : zQ} {p q r u w : Int32} (hb : b + 14 ≤ n) (hM : mI g s a) (hq : ∀ t v g' s' a', f_append g p q r u w = (t, v, g') → mI g' s' a' → s' 20 = t → Q (.inl (some (.int v))) n (mW h b s' a')) : Zj l mX8_append (d + 12) kc ks 0 [(0, .ref b), (1, .int p), (2, .int q), (3, .int r), (4, .int u), (5, .int w)] [] n (mW h b s a) Q := by
  obtain ⟨⟨B, H, T, K, V, c⟩, sv, Sn, k, hi, L, x, ek, eo, rl, rb⟩ := g
  obtain ⟨hT, h11, hsv, hsn, hk8, h9, hhi, hL, h14, ha9, hx256, h16, h17, hrl, h19, ha11, hrb⟩ := id hM
  obtain ⟨hV, ⟨hI, hd3, h3⟩, e3⟩ := id hT
  obtain ⟨okb, h2H, hH6, h1T, hT99, e0, e1, e2, ek_, ev_, ekv, ez⟩ := id hV
  have hle := okb.le
  refine z_aload_n (j := 0) dX8_append_0 rfl ?_
  refine z_iconst (v := 0) dX8_append_1 (by decide) ?_
  refine m_put (k := 20) (by omega) fX8_64 (by unfold mS; omega) (by decide) dX8_append_2 ?_
  refine z_aload_n (j := 0) dX8_append_5 rfl ?_
  refine z_get (v := .int (s 14)) (by omega) mW_obj fX8_309 rfl dX8_append_6 ?_
  refine z_bipush (v := 20) dX8_append_9 (by decide) ?_
  refine z_iadd dX8_append_11 ?_
  refine z_sipush (v := 600) dX8_append_12 (by decide) ?_
  rw [show ((s 14) + 20) = nI (L + 20) from by rw [h14]; exact nI_add _ 20]
  refine z_icmp_le (tgt := 20) dX8_append_15 (by decide) (fun czq15 => ?_) (fun czq15 => ?_)
  · have h6 : L + 20 ≤ 600 := Decidable.byContradiction fun z => nI_nle2 (b := 600) (by omega) (by omega) czq15
    refine z_aload_n (j := 0) dX8_append_20 rfl ?_
    refine z_iload_n (j := 1) dX8_append_21 rfl ?_
    refine z_kV [.int p] 0 0 kc ks yoX8_type yvX8_type rfl (by decide) lX8_312 (by omega) mW_obj rfl rfl (Nat.le_of_ble_eq_true rfl) (Nat.le_of_ble_eq_true rfl) dX8_append_22 (by omega) (by omega) (z_room (by omega) (Nat.le_refl _) (Nat.le_refl _) (r_type (d := 0) (L := L) hb (by omega) ((up_ne (by decide)).trans h14) (fun s1 a1 ha1 hs1 hc1 hd1 he1 => ⟨rfl, ?_⟩)))
    refine z_aload_n (j := 0) dX8_append_25 rfl ?_
    refine z_iload_n (j := 2) dX8_append_26 rfl ?_
    refine z_kV [.int q] 0 0 kc ks yoX8_type yvX8_type rfl (by decide) lX8_312 (by omega) mW_obj rfl rfl (Nat.le_of_ble_eq_true rfl) (Nat.le_of_ble_eq_true rfl) dX8_append_27 (by omega) (by omega) (z_room (by omega) (Nat.le_refl _) (Nat.le_refl _) (r_type (d := 0) (L := L + 4) hb (by omega) (ha1) (fun s2 a2 ha2 hs2 hc2 hd2 he2 => ⟨rfl, ?_⟩)))
    refine z_aload_n (j := 0) dX8_append_30 rfl ?_
    refine z_iload_n (j := 3) dX8_append_31 rfl ?_
    refine z_kV [.int r] 0 0 kc ks yoX8_type yvX8_type rfl (by decide) lX8_312 (by omega) mW_obj rfl rfl (Nat.le_of_ble_eq_true rfl) (Nat.le_of_ble_eq_true rfl) dX8_append_32 (by omega) (by omega) (z_room (by omega) (Nat.le_refl _) (Nat.le_refl _) (r_type (d := 0) (L := L + 4 + 4) hb (by omega) (ha2) (fun s3 a3 ha3 hs3 hc3 hd3 he3 => ⟨rfl, ?_⟩)))
    refine z_aload_n (j := 0) dX8_append_35 rfl ?_
    refine z_iload (j := 4) dX8_append_36 rfl ?_
    refine z_kV [.int u] 0 0 kc ks yoX8_type yvX8_type rfl (by decide) lX8_312 (by omega) mW_obj rfl rfl (Nat.le_of_ble_eq_true rfl) (Nat.le_of_ble_eq_true rfl) dX8_append_38 (by omega) (by omega) (z_room (by omega) (Nat.le_refl _) (Nat.le_refl _) (r_type (d := 0) (L := L + 4 + 4 + 4) hb (by omega) (ha3) (fun s4 a4 ha4 hs4 hc4 hd4 he4 => ⟨rfl, ?_⟩)))
    refine z_aload_n (j := 0) dX8_append_41 rfl ?_
    refine z_iload (j := 5) dX8_append_42 rfl ?_
    refine z_kV [.int w] 0 0 kc ks yoX8_type yvX8_type rfl (by decide) lX8_312 (by omega) mW_obj rfl rfl (Nat.le_of_ble_eq_true rfl) (Nat.le_of_ble_eq_true rfl) dX8_append_44 (by omega) (by omega) (z_room (by omega) (Nat.le_refl _) (Nat.le_refl _) (r_type (d := 0) (L := L + 4 + 4 + 4 + 4) hb (by omega) (ha4) (fun s5 a5 ha5 hs5 hc5 hd5 he5 => ⟨rfl, ?_⟩)))
    refine z_aload_n (j := 0) dX8_append_47 rfl ?_
    refine z_get (v := .int (s5 14)) (by omega) mW_obj fX8_309 rfl dX8_append_48 ?_
    exact z_iret rfl dX8_append_51 (by
        have eL : L + 4 + 4 + 4 + 4 + 4 = L + 20 := by omega
        rw [ha5, eL]
        refine hq 0 (nI (L + 20)) (gInp ((B, H, T, K, V, c), sv, Sn, k, hi, L, x, ek, eo, rl, rb) (L + 20) (inx L x (p5 p q r u w))) _ _ (by unfold f_append; exact if_neg (by show ¬ 600 < L + 20; omega)) ⟨by rw [(he5 0 (by decide)).trans ((he4 0 (by decide)).trans ((he3 0 (by decide)).trans ((he2 0 (by decide)).trans (he1 0 (by decide)))))]; exact hT, ((hs5 11 (by decide)).trans ((hs4 11 (by decide)).trans ((hs3 11 (by decide)).trans ((hs2 11 (by decide)).trans ((hs1 11 (by decide)).trans (up_ne (by decide))))))).trans h11, hsv, fun e => by rw [(he5 6 (by decide)).trans ((he4 6 (by decide)).trans ((he3 6 (by decide)).trans ((he2 6 (by decide)).trans (he1 6 (by decide)))))]; exact hsn e, hk8, ((hs5 9 (by decide)).trans ((hs4 9 (by decide)).trans ((hs3 9 (by decide)).trans ((hs2 9 (by decide)).trans ((hs1 9 (by decide)).trans (up_ne (by decide))))))).trans h9, by rw [(he5 5 (by decide)).trans ((he4 5 (by decide)).trans ((he3 5 (by decide)).trans ((he2 5 (by decide)).trans (he1 5 (by decide)))))]; exact hhi, by omega, by rw [ha5, eL], ?_, fun i => ?_, ((hs5 16 (by decide)).trans ((hs4 16 (by decide)).trans ((hs3 16 (by decide)).trans ((hs2 16 (by decide)).trans ((hs1 16 (by decide)).trans (up_ne (by decide))))))).trans h16, ((hs5 17 (by decide)).trans ((hs4 17 (by decide)).trans ((hs3 17 (by decide)).trans ((hs2 17 (by decide)).trans ((hs1 17 (by decide)).trans (up_ne (by decide))))))).trans h17, hrl, ((hs5 19 (by decide)).trans ((hs4 19 (by decide)).trans ((hs3 19 (by decide)).trans ((hs2 19 (by decide)).trans ((hs1 19 (by decide)).trans (up_ne (by decide))))))).trans h19, by rw [(he5 11 (by decide)).trans ((he4 11 (by decide)).trans ((he3 11 (by decide)).trans ((he2 11 (by decide)).trans (he1 11 (by decide)))))]; exact ha11, hrb⟩ ((hs5 20 (by decide)).trans ((hs4 20 (by decide)).trans ((hs3 20 (by decide)).trans ((hs2 20 (by decide)).trans ((hs1 20 (by decide)).trans up_eq)))))
        · intro i hi
          show a5 9 i = nI (inx L x (p5 p q r u w) i)
          unfold inx
          by_cases h : i < L
          · rw [if_pos h, hd5 i (by omega), hd4 i (by omega), hd3 i (by omega), hd2 i (by omega), hd1 i h]
            exact ha9 i h
          · rw [if_neg h]
            obtain ⟨j, hj, t, ht, rfl⟩ : ∃ j, j < 4 ∧ ∃ t, t < 5 ∧ i = L + 4 * t + j := ⟨(i - L) % 4, by omega, (i - L) / 4, by omega, by omega⟩
            have q1 : (L + 4 * t + j - L) / 4 = t := by omega
            have q2 : (L + 4 * t + j - L) % 4 = j := by omega
            rw [q1, q2]
            rcases (show t = 0 ∨ t = 1 ∨ t = 2 ∨ t = 3 ∨ t = 4 by omega) with rfl | rfl | rfl | rfl | rfl
            · rw [hd5 _ (by omega), hd4 _ (by omega), hd3 _ (by omega), hd2 _ (by omega)]
              exact hc1 j hj
            · rw [hd5 _ (by omega), hd4 _ (by omega), hd3 _ (by omega)]
              exact hc2 j hj
            · rw [hd5 _ (by omega), hd4 _ (by omega)]
              exact hc3 j hj
            · rw [hd5 _ (by omega)]
              exact hc4 j hj
            · exact hc5 j hj
        · show inx L x (p5 p q r u w) i < 256
          unfold inx
          by_cases h : i < L
          · rw [if_pos h]; exact hx256 i
          · rw [if_neg h]; exact by_lt)
  · refine z_iconst (v := (-1)) dX8_append_18 (by decide) ?_
    exact z_iret rfl dX8_append_19 (by
        have h6 : 600 < L + 20 := Decidable.byContradiction fun z => czq15 (nI_le (b := 600) (by omega) (by decide))
        exact hq 0 (-1) _ _ _ (by unfold f_append; exact if_pos h6) hM.th (by rw [up_eq]))

theorem rp_in {rl : Nat} {p : Int32} (h : rl ≤ 447) : iO 0 (nI rl - 1) p = true ↔ (0 ≤ p ∧ p < nI rl) := by
  simp only [iO, Bool.and_eq_true, decide_eq_true_eq]
  rw [Int32.le_iff_toInt_le, Int32.le_iff_toInt_le, Int32.lt_iff_toInt_lt, nI_toInt (by omega)]
  cases rl with
  | zero =>
    rw [show (nI 0 - 1).toInt = -1 from by decide, show (0 : Int32).toInt = 0 from rfl]
    omega
  | succ z =>
    rw [show nI (z + 1) - 1 = nI z from nI_pred _, nI_toInt (by omega)]
    omega

set_option maxHeartbeats 4000000 in
set_option maxRecDepth 100000 in
theorem R_reportByte {l : zL} {d kc ks n b : Nat} {h : Nat → va_E} {s : Nat → Int32} {a : Nat → Nat → Int32} {g : zGs} {Q : zQ} {p : Int32} (hb : b + 14 ≤ n) (hM : mI g s a) (hq : ∀ t v g' s' a', f_reportByte g p = (t, v, g') → mI g' s' a' → s' 20 = t → Q (.inl (some (.int v))) n (mW h b s' a')) : Zj l mX8_reportByte (d + 12) kc ks 0 [(0, .ref b), (1, .int p)] [] n (mW h b s a) Q := by
  obtain ⟨⟨B, H, T, K, V, c⟩, sv, Sn, k, hi, L, x, ek, eo, rl, rb⟩ := g
  obtain ⟨hT, h11, hsv, hsn, hk8, h9, hhi, hL, h14, ha9, hx256, h16, h17, hrl, h19, ha11, hrb⟩ := id hM
  obtain ⟨hV, ⟨hI, hd3, h3⟩, e3⟩ := id hT
  obtain ⟨okb, h2H, hH6, h1T, hT99, e0, e1, e2, ek_, ev_, ekv, ez⟩ := id hV
  have hle := okb.le
  refine z_aload_n (j := 0) dX8_reportByte_0 rfl ?_
  refine z_iconst (v := 0) dX8_reportByte_1 (by decide) ?_
  refine m_put (k := 20) (by omega) fX8_64 (by unfold mS; omega) (by decide) dX8_reportByte_2 ?_
  refine z_iload_n (j := 1) dX8_reportByte_5 rfl ?_
  refine z_iconst (v := 0) dX8_reportByte_6 (by decide) ?_
  refine z_aload_n (j := 0) dX8_reportByte_7 rfl ?_
  refine z_get (v := .int (s 19)) (by omega) mW_obj fX8_370 rfl dX8_reportByte_8 ?_
  refine z_iconst (v := 1) dX8_reportByte_11 (by decide) ?_
  refine z_isub dX8_reportByte_12 ?_
  rw [show ((s 19) - 1) = nI rl - 1 from by rw [h19]]
  refine z_kS [.int p, .int 0, .int ((nI rl - 1))] 0 0 kc ks yoX8_in ysX8_in rfl (by decide) lX8_67 rfl (Nat.le_of_ble_eq_true rfl) (Nat.le_of_ble_eq_true rfl) dX8_reportByte_13 (by omega) (by omega) (z_room (by omega) (Nat.le_refl _) (Nat.le_refl _) (r_in (d := 0)  ⟨rfl, ?_⟩))
  refine z_if_eq (tgt := 28) dX8_reportByte_16 (by decide) (fun czq16 => ?_) (fun czq16 => ?_)
  · refine z_iconst (v := (-1)) dX8_reportByte_28 (by decide) ?_
    exact z_iret rfl dX8_reportByte_29 (by
        have hno := fun z => bI_0.mp czq16 ((rp_in hrl).mpr z)
        exact hq 0 _ _ _ _ (by unfold f_reportByte; simp only [if_neg hno]) hM.th (by rw [up_eq]))
  · have hpr := (rp_in hrl).mp (bI_n.mp czq16)
    obtain ⟨z, -, hz9, rfl, hzx⟩ := iO_yes 0 (rl - 1) (Nat.zero_le _) (by omega) (by
      show iO 0 (nI (rl - 1)) p = true
      have hrl0 : rl ≠ 0 := fun e => by
        rw [e] at hpr
        exact absurd (Int32.lt_iff_toInt_lt.mp hpr.2) (by have := Int32.le_iff_toInt_le.mp hpr.1; rw [show (nI 0).toInt = 0 from rfl]; rw [show (0 : Int32).toInt = 0 from rfl] at this; omega)
      have := bI_n.mp czq16
      rw [show nI rl - 1 = nI (rl - 1) from by
        obtain ⟨y, rfl⟩ : ∃ y, rl = y + 1 := ⟨rl - 1, by omega⟩
        exact nI_pred _] at this
      exact this)
    have hz : z < rl := by
      have := Int32.lt_iff_toInt_lt.mp hpr.2
      rw [nI_toInt (by omega), nI_toInt (by omega)] at this
      omega
    refine z_aload_n (j := 0) dX8_reportByte_19 rfl ?_
    refine z_get (v := .ref (b + 12)) (by omega) mW_obj fX8_47 rfl dX8_reportByte_20 ?_
    refine z_iload_n (j := 1) dX8_reportByte_23 rfl ?_
    refine m_cald hb (vp_in_nI (by omega) (by decide)) dX8_reportByte_24 ?_
    refine z_goto (tgt := 29) dX8_reportByte_25 (by decide) ?_
    exact z_iret rfl dX8_reportByte_29 (by
        rw [nI_clamp (show z < 2 ^ 31 by omega), ha11 z hz]
        exact hq 0 _ _ _ _ (by unfold f_reportByte; simp only [if_pos hpr, hzx]) hM.th (by rw [up_eq]))

def mrep (t : List Nat) (s : Nat → Int32) (a : Nat → Nat → Int32) : Prop := s 19 = nI t.length ∧ ∀ i, i < t.length → a 11 i = nI (lG t i)
def mfr (s : Nat → Int32) (a : Nat → Nat → Int32) (s' : Nat → Int32) (a' : Nat → Nat → Int32) : Prop := (∀ q, q ≠ 19 → s' q = s q) ∧ ∀ q, q ≠ 11 → a' q = a q
theorem mfr.tr {s s1 s2 : Nat → Int32} {a a1 a2 : Nat → Nat → Int32} (h1 : mfr s a s1 a1) (h2 : mfr s1 a1 s2 a2) : mfr s a s2 a2 := ⟨fun q h => (h2.1 q h).trans (h1.1 q h), fun q h => (h2.2 q h).trans (h1.2 q h)⟩
theorem chv : ∀ v, v < 256 → vp_nar .char (zi2c (nI v)) = nI v := by decide +kernel
theorem dgs_rec {v : Nat} (h : 10 ≤ v) (h2 : v ≤ 9999) : dgs v = dgs (v / 10) ++ [48 + v % 10] := by
  unfold dgs
  rw [if_neg (show ¬ v < 10 by omega)]
  by_cases h3 : v < 100
  · rw [if_pos h3, if_pos (show v / 10 < 10 by omega)]; rfl
  · rw [if_neg h3]
    by_cases h4 : v < 1000
    · rw [if_pos h4, if_neg (show ¬ v / 10 < 10 by omega), if_pos (show v / 10 < 100 by omega), show v / 10 / 10 = v / 100 by omega]; rfl
    · rw [if_neg h4, if_neg (show ¬ v / 10 < 10 by omega), if_neg (show ¬ v / 10 < 100 by omega), if_pos (show v / 10 < 1000 by omega), show v / 10 / 100 = v / 1000 by omega, show v / 10 / 10 = v / 100 by omega]; rfl
theorem dg_m {v : Nat} (h : v ≤ 9999) : (48 : Int32) + (nI v - nI v / 10 * 10) = nI (48 + v % 10) := by
  rw [show (10 : Int32) = nI 10 from rfl, pk_rem (by omega) (by decide) (by decide), show (48 : Int32) = nI 48 from rfl, nI_add]

set_option maxHeartbeats 4000000 in
set_option maxRecDepth 100000 in
theorem w_wr {l : zL} {d kc ks n b : Nat} {h : Nat → va_E} {s : Nat → Int32} {a : Nat → Nat → Int32} {t : List Nat} {v : Nat} {Q : zQ} (hb : b + 14 ≤ n) (hr : mrep t s a) (hlen : t.length < 520) (hv : v < 256) (hq : ∀ s' a', mrep (t ++ [v]) s' a' → mfr s a s' a' → Q (.inl none) n (mW h b s' a')) : Zj l mX8_write d kc ks 0 [(0, .ref b), (1, .int ((nI v)))] [] n (mW h b s a) Q := by
  refine z_aload_n (j := 0) dX8_write_0 rfl ?_
  refine z_get (v := .ref (b + 12)) (by omega) mW_obj fX8_47 rfl dX8_write_1 ?_
  refine z_aload_n (j := 0) dX8_write_4 rfl ?_
  refine z_get (v := .int (s 19)) (by omega) mW_obj fX8_370 rfl dX8_write_5 ?_
  refine z_iload_n (j := 1) dX8_write_8 rfl ?_
  refine z_i2c dX8_write_9 ?_
  rw [show (s 19) = nI t.length from hr.1]
  refine m_cast hb (vp_in_nI hlen (by decide)) dX8_write_10 ?_
  refine z_aload_n (j := 0) dX8_write_11 rfl ?_
  refine z_dup rfl dX8_write_12 ?_
  refine z_get (v := .int (s 19)) (by omega) mW_obj fX8_370 rfl dX8_write_13 ?_
  refine z_iconst (v := 1) dX8_write_16 (by decide) ?_
  refine z_iadd dX8_write_17 ?_
  rw [show ((s 19) + 1) = nI (t.length + 1) from by rw [hr.1, nI_1]]
  refine m_put (k := 19) (by omega) fX8_370 (by unfold mS; omega) (by decide) dX8_write_18 ?_
  exact z_vret rfl dX8_write_21 (hq _ _ ⟨by rw [up_eq, List.length_append]; rfl, fun i hi => by
        rw [List.length_append] at hi
        rw [up_eq, nI_clamp (by omega)]
        by_cases hil : i < t.length
        · rw [up_ne (by omega), lG_app hil]; exact hr.2 i hil
        · have : i = t.length := by
            simp only [List.length_cons, List.length_nil] at hi
            omega
          subst this
          rw [up_eq, chv v hv, lG_last]⟩ ⟨fun q hq9 => up_ne hq9, fun q hq9 => up_ne hq9⟩)

set_option maxHeartbeats 4000000 in
set_option maxRecDepth 100000 in
theorem w_num1 {l : zL} {d kc ks n b : Nat} {h : Nat → va_E} {s : Nat → Int32} {a : Nat → Nat → Int32} {t : List Nat} {v : Nat} {Q : zQ} (hb : b + 14 ≤ n) (hr : mrep t s a) (hlen : t.length + 5 ≤ 520) (hv : v < 10) (hq : ∀ s' a', mrep (t ++ dgs v) s' a' → mfr s a s' a' → Q (.inl none) n (mW h b s' a')) : Zj l mX8_writeNumber (d + 1) kc ks 0 [(0, .ref b), (1, .int ((nI v)))] [] n (mW h b s a) Q := by
  refine z_iload_n (j := 1) dX8_writeNumber_0 rfl ?_
  refine z_bipush (v := 9) dX8_writeNumber_1 (by decide) ?_
  refine z_icmp_le (tgt := 14) dX8_writeNumber_3 (by decide) (fun czq3 => ?_) (fun czq3 => absurd (nI_le (b := 9) (by omega) (by decide)) czq3)
  refine z_aload_n (j := 0) dX8_writeNumber_14 rfl ?_
  refine z_bipush (v := 48) dX8_writeNumber_15 (by decide) ?_
  refine z_iload_n (j := 1) dX8_writeNumber_17 rfl ?_
  refine z_bipush (v := 10) dX8_writeNumber_18 (by decide) ?_
  refine z_irem (by decide) dX8_writeNumber_20 ?_
  refine z_iadd dX8_writeNumber_21 ?_
  rw [show (48 + ((nI v) - (nI v) / 10 * 10)) = nI (48 + v % 10) from dg_m (by omega)]
  refine z_kV [.int ((nI (48 + v % 10)))] 0 0 kc ks yoX8_write yvX8_write rfl (by decide) lX8_376 (by omega) mW_obj rfl rfl (Nat.le_of_ble_eq_true rfl) (Nat.le_of_ble_eq_true rfl) dX8_writeNumber_22 (by omega) (by omega) (z_room (by omega) (Nat.le_refl _) (Nat.le_refl _) (w_wr (d := 0) (t := t) hb hr (by omega) (by omega) (fun s2 a2 hr2 hf2 => ⟨rfl, ?_⟩)))
  exact z_vret rfl dX8_writeNumber_25 (by
      have h9 : v ≤ 9 := Decidable.byContradiction fun z => nI_nle2 (b := 9) (by omega) (by omega) czq3
      refine hq _ _ ?_ hf2
      rw [show dgs v = [48 + v % 10] from by unfold dgs; rw [if_pos (by omega), Nat.mod_eq_of_lt (by omega)]]
      exact hr2)

set_option maxHeartbeats 4000000 in
set_option maxRecDepth 100000 in
theorem w_num2 {l : zL} {d kc ks n b : Nat} {h : Nat → va_E} {s : Nat → Int32} {a : Nat → Nat → Int32} {t : List Nat} {v : Nat} {Q : zQ} (hb : b + 14 ≤ n) (hr : mrep t s a) (hlen : t.length + 5 ≤ 520) (hv : v < 100) (hq : ∀ s' a', mrep (t ++ dgs v) s' a' → mfr s a s' a' → Q (.inl none) n (mW h b s' a')) : Zj l mX8_writeNumber (d + 2) kc ks 0 [(0, .ref b), (1, .int ((nI v)))] [] n (mW h b s a) Q := by
  refine z_iload_n (j := 1) dX8_writeNumber_0 rfl ?_
  refine z_bipush (v := 9) dX8_writeNumber_1 (by decide) ?_
  refine z_icmp_le (tgt := 14) dX8_writeNumber_3 (by decide) (fun czq3 => ?_) (fun czq3 => ?_)
  · refine z_aload_n (j := 0) dX8_writeNumber_14 rfl ?_
    refine z_bipush (v := 48) dX8_writeNumber_15 (by decide) ?_
    refine z_iload_n (j := 1) dX8_writeNumber_17 rfl ?_
    refine z_bipush (v := 10) dX8_writeNumber_18 (by decide) ?_
    refine z_irem (by decide) dX8_writeNumber_20 ?_
    refine z_iadd dX8_writeNumber_21 ?_
    rw [show (48 + ((nI v) - (nI v) / 10 * 10)) = nI (48 + v % 10) from dg_m (by omega)]
    refine z_kV [.int ((nI (48 + v % 10)))] 0 0 kc ks yoX8_write yvX8_write rfl (by decide) lX8_376 (by omega) mW_obj rfl rfl (Nat.le_of_ble_eq_true rfl) (Nat.le_of_ble_eq_true rfl) dX8_writeNumber_22 (by omega) (by omega) (z_room (by omega) (Nat.le_refl _) (Nat.le_refl _) (w_wr (d := 0) (t := t) hb hr (by omega) (by omega) (fun s2 a2 hr2 hf2 => ⟨rfl, ?_⟩)))
    exact z_vret rfl dX8_writeNumber_25 (by
        have h9 : v ≤ 9 := Decidable.byContradiction fun z => nI_nle2 (b := 9) (by omega) (by omega) czq3
        refine hq _ _ ?_ hf2
        rw [show dgs v = [48 + v % 10] from by unfold dgs; rw [if_pos (by omega), Nat.mod_eq_of_lt (by omega)]]
        exact hr2)
  · refine z_aload_n (j := 0) dX8_writeNumber_6 rfl ?_
    refine z_iload_n (j := 1) dX8_writeNumber_7 rfl ?_
    refine z_bipush (v := 10) dX8_writeNumber_8 (by decide) ?_
    refine z_idiv (by decide) dX8_writeNumber_10 ?_
    have h10 : 10 ≤ v := Decidable.byContradiction fun z => czq3 (nI_le (b := 9) (by omega) (by decide))
    rw [show ((nI v) / 10) = nI (v / 10) from by rw [show (10 : Int32) = nI 10 from rfl, pk_div (by omega) (by decide) (by decide)]]
    refine z_kV [.int ((nI (v / 10)))] 0 0 kc ks yoX8_writeNumber yvX8_writeNumber rfl (by decide) lX8_373 (by omega) mW_obj rfl rfl (Nat.le_of_ble_eq_true rfl) (Nat.le_of_ble_eq_true rfl) dX8_writeNumber_11 (by omega) (by omega) (z_room (by omega) (Nat.le_refl _) (Nat.le_refl _) (w_num1 (d := 0) (t := t) hb hr (by omega) (by omega) (fun s1 a1 hr1 hf1 => ⟨rfl, ?_⟩)))
    refine z_aload_n (j := 0) dX8_writeNumber_14 rfl ?_
    refine z_bipush (v := 48) dX8_writeNumber_15 (by decide) ?_
    refine z_iload_n (j := 1) dX8_writeNumber_17 rfl ?_
    refine z_bipush (v := 10) dX8_writeNumber_18 (by decide) ?_
    refine z_irem (by decide) dX8_writeNumber_20 ?_
    refine z_iadd dX8_writeNumber_21 ?_
    rw [show (48 + ((nI v) - (nI v) / 10 * 10)) = nI (48 + v % 10) from dg_m (by omega)]
    refine z_kV [.int ((nI (48 + v % 10)))] 0 0 kc ks yoX8_write yvX8_write rfl (by decide) lX8_376 (by omega) mW_obj rfl rfl (Nat.le_of_ble_eq_true rfl) (Nat.le_of_ble_eq_true rfl) dX8_writeNumber_22 (by omega) (by omega) (z_room (by omega) (Nat.le_refl _) (Nat.le_refl _) (w_wr (d := 0) (t := t ++ dgs (v / 10)) hb hr1 (by rw [List.length_append]; have := dgs_len (v := v / 10); omega) (by omega) (fun s2 a2 hr2 hf2 => ⟨rfl, ?_⟩)))
    exact z_vret rfl dX8_writeNumber_25 (by
        refine hq _ _ ?_ (hf1.tr hf2)
        rw [dgs_rec h10 (by omega), ← List.append_assoc]
        exact hr2)

set_option maxHeartbeats 4000000 in
set_option maxRecDepth 100000 in
theorem w_num3 {l : zL} {d kc ks n b : Nat} {h : Nat → va_E} {s : Nat → Int32} {a : Nat → Nat → Int32} {t : List Nat} {v : Nat} {Q : zQ} (hb : b + 14 ≤ n) (hr : mrep t s a) (hlen : t.length + 5 ≤ 520) (hv : v < 1000) (hq : ∀ s' a', mrep (t ++ dgs v) s' a' → mfr s a s' a' → Q (.inl none) n (mW h b s' a')) : Zj l mX8_writeNumber (d + 3) kc ks 0 [(0, .ref b), (1, .int ((nI v)))] [] n (mW h b s a) Q := by
  refine z_iload_n (j := 1) dX8_writeNumber_0 rfl ?_
  refine z_bipush (v := 9) dX8_writeNumber_1 (by decide) ?_
  refine z_icmp_le (tgt := 14) dX8_writeNumber_3 (by decide) (fun czq3 => ?_) (fun czq3 => ?_)
  · refine z_aload_n (j := 0) dX8_writeNumber_14 rfl ?_
    refine z_bipush (v := 48) dX8_writeNumber_15 (by decide) ?_
    refine z_iload_n (j := 1) dX8_writeNumber_17 rfl ?_
    refine z_bipush (v := 10) dX8_writeNumber_18 (by decide) ?_
    refine z_irem (by decide) dX8_writeNumber_20 ?_
    refine z_iadd dX8_writeNumber_21 ?_
    rw [show (48 + ((nI v) - (nI v) / 10 * 10)) = nI (48 + v % 10) from dg_m (by omega)]
    refine z_kV [.int ((nI (48 + v % 10)))] 0 0 kc ks yoX8_write yvX8_write rfl (by decide) lX8_376 (by omega) mW_obj rfl rfl (Nat.le_of_ble_eq_true rfl) (Nat.le_of_ble_eq_true rfl) dX8_writeNumber_22 (by omega) (by omega) (z_room (by omega) (Nat.le_refl _) (Nat.le_refl _) (w_wr (d := 0) (t := t) hb hr (by omega) (by omega) (fun s2 a2 hr2 hf2 => ⟨rfl, ?_⟩)))
    exact z_vret rfl dX8_writeNumber_25 (by
        have h9 : v ≤ 9 := Decidable.byContradiction fun z => nI_nle2 (b := 9) (by omega) (by omega) czq3
        refine hq _ _ ?_ hf2
        rw [show dgs v = [48 + v % 10] from by unfold dgs; rw [if_pos (by omega), Nat.mod_eq_of_lt (by omega)]]
        exact hr2)
  · refine z_aload_n (j := 0) dX8_writeNumber_6 rfl ?_
    refine z_iload_n (j := 1) dX8_writeNumber_7 rfl ?_
    refine z_bipush (v := 10) dX8_writeNumber_8 (by decide) ?_
    refine z_idiv (by decide) dX8_writeNumber_10 ?_
    have h10 : 10 ≤ v := Decidable.byContradiction fun z => czq3 (nI_le (b := 9) (by omega) (by decide))
    rw [show ((nI v) / 10) = nI (v / 10) from by rw [show (10 : Int32) = nI 10 from rfl, pk_div (by omega) (by decide) (by decide)]]
    refine z_kV [.int ((nI (v / 10)))] 0 0 kc ks yoX8_writeNumber yvX8_writeNumber rfl (by decide) lX8_373 (by omega) mW_obj rfl rfl (Nat.le_of_ble_eq_true rfl) (Nat.le_of_ble_eq_true rfl) dX8_writeNumber_11 (by omega) (by omega) (z_room (by omega) (Nat.le_refl _) (Nat.le_refl _) (w_num2 (d := 0) (t := t) hb hr (by omega) (by omega) (fun s1 a1 hr1 hf1 => ⟨rfl, ?_⟩)))
    refine z_aload_n (j := 0) dX8_writeNumber_14 rfl ?_
    refine z_bipush (v := 48) dX8_writeNumber_15 (by decide) ?_
    refine z_iload_n (j := 1) dX8_writeNumber_17 rfl ?_
    refine z_bipush (v := 10) dX8_writeNumber_18 (by decide) ?_
    refine z_irem (by decide) dX8_writeNumber_20 ?_
    refine z_iadd dX8_writeNumber_21 ?_
    rw [show (48 + ((nI v) - (nI v) / 10 * 10)) = nI (48 + v % 10) from dg_m (by omega)]
    refine z_kV [.int ((nI (48 + v % 10)))] 0 0 kc ks yoX8_write yvX8_write rfl (by decide) lX8_376 (by omega) mW_obj rfl rfl (Nat.le_of_ble_eq_true rfl) (Nat.le_of_ble_eq_true rfl) dX8_writeNumber_22 (by omega) (by omega) (z_room (by omega) (Nat.le_refl _) (Nat.le_refl _) (w_wr (d := 0) (t := t ++ dgs (v / 10)) hb hr1 (by rw [List.length_append]; have := dgs_len (v := v / 10); omega) (by omega) (fun s2 a2 hr2 hf2 => ⟨rfl, ?_⟩)))
    exact z_vret rfl dX8_writeNumber_25 (by
        refine hq _ _ ?_ (hf1.tr hf2)
        rw [dgs_rec h10 (by omega), ← List.append_assoc]
        exact hr2)

set_option maxHeartbeats 4000000 in
set_option maxRecDepth 100000 in
theorem w_num4 {l : zL} {d kc ks n b : Nat} {h : Nat → va_E} {s : Nat → Int32} {a : Nat → Nat → Int32} {t : List Nat} {v : Nat} {Q : zQ} (hb : b + 14 ≤ n) (hr : mrep t s a) (hlen : t.length + 5 ≤ 520) (hv : v < 10000) (hq : ∀ s' a', mrep (t ++ dgs v) s' a' → mfr s a s' a' → Q (.inl none) n (mW h b s' a')) : Zj l mX8_writeNumber (d + 4) kc ks 0 [(0, .ref b), (1, .int ((nI v)))] [] n (mW h b s a) Q := by
  refine z_iload_n (j := 1) dX8_writeNumber_0 rfl ?_
  refine z_bipush (v := 9) dX8_writeNumber_1 (by decide) ?_
  refine z_icmp_le (tgt := 14) dX8_writeNumber_3 (by decide) (fun czq3 => ?_) (fun czq3 => ?_)
  · refine z_aload_n (j := 0) dX8_writeNumber_14 rfl ?_
    refine z_bipush (v := 48) dX8_writeNumber_15 (by decide) ?_
    refine z_iload_n (j := 1) dX8_writeNumber_17 rfl ?_
    refine z_bipush (v := 10) dX8_writeNumber_18 (by decide) ?_
    refine z_irem (by decide) dX8_writeNumber_20 ?_
    refine z_iadd dX8_writeNumber_21 ?_
    rw [show (48 + ((nI v) - (nI v) / 10 * 10)) = nI (48 + v % 10) from dg_m (by omega)]
    refine z_kV [.int ((nI (48 + v % 10)))] 0 0 kc ks yoX8_write yvX8_write rfl (by decide) lX8_376 (by omega) mW_obj rfl rfl (Nat.le_of_ble_eq_true rfl) (Nat.le_of_ble_eq_true rfl) dX8_writeNumber_22 (by omega) (by omega) (z_room (by omega) (Nat.le_refl _) (Nat.le_refl _) (w_wr (d := 0) (t := t) hb hr (by omega) (by omega) (fun s2 a2 hr2 hf2 => ⟨rfl, ?_⟩)))
    exact z_vret rfl dX8_writeNumber_25 (by
        have h9 : v ≤ 9 := Decidable.byContradiction fun z => nI_nle2 (b := 9) (by omega) (by omega) czq3
        refine hq _ _ ?_ hf2
        rw [show dgs v = [48 + v % 10] from by unfold dgs; rw [if_pos (by omega), Nat.mod_eq_of_lt (by omega)]]
        exact hr2)
  · refine z_aload_n (j := 0) dX8_writeNumber_6 rfl ?_
    refine z_iload_n (j := 1) dX8_writeNumber_7 rfl ?_
    refine z_bipush (v := 10) dX8_writeNumber_8 (by decide) ?_
    refine z_idiv (by decide) dX8_writeNumber_10 ?_
    have h10 : 10 ≤ v := Decidable.byContradiction fun z => czq3 (nI_le (b := 9) (by omega) (by decide))
    rw [show ((nI v) / 10) = nI (v / 10) from by rw [show (10 : Int32) = nI 10 from rfl, pk_div (by omega) (by decide) (by decide)]]
    refine z_kV [.int ((nI (v / 10)))] 0 0 kc ks yoX8_writeNumber yvX8_writeNumber rfl (by decide) lX8_373 (by omega) mW_obj rfl rfl (Nat.le_of_ble_eq_true rfl) (Nat.le_of_ble_eq_true rfl) dX8_writeNumber_11 (by omega) (by omega) (z_room (by omega) (Nat.le_refl _) (Nat.le_refl _) (w_num3 (d := 0) (t := t) hb hr (by omega) (by omega) (fun s1 a1 hr1 hf1 => ⟨rfl, ?_⟩)))
    refine z_aload_n (j := 0) dX8_writeNumber_14 rfl ?_
    refine z_bipush (v := 48) dX8_writeNumber_15 (by decide) ?_
    refine z_iload_n (j := 1) dX8_writeNumber_17 rfl ?_
    refine z_bipush (v := 10) dX8_writeNumber_18 (by decide) ?_
    refine z_irem (by decide) dX8_writeNumber_20 ?_
    refine z_iadd dX8_writeNumber_21 ?_
    rw [show (48 + ((nI v) - (nI v) / 10 * 10)) = nI (48 + v % 10) from dg_m (by omega)]
    refine z_kV [.int ((nI (48 + v % 10)))] 0 0 kc ks yoX8_write yvX8_write rfl (by decide) lX8_376 (by omega) mW_obj rfl rfl (Nat.le_of_ble_eq_true rfl) (Nat.le_of_ble_eq_true rfl) dX8_writeNumber_22 (by omega) (by omega) (z_room (by omega) (Nat.le_refl _) (Nat.le_refl _) (w_wr (d := 0) (t := t ++ dgs (v / 10)) hb hr1 (by rw [List.length_append]; have := dgs_len (v := v / 10); omega) (by omega) (fun s2 a2 hr2 hf2 => ⟨rfl, ?_⟩)))
    exact z_vret rfl dX8_writeNumber_25 (by
        refine hq _ _ ?_ (hf1.tr hf2)
        rw [dgs_rec h10 (by omega), ← List.append_assoc]
        exact hr2)

set_option maxHeartbeats 4000000 in
set_option maxRecDepth 100000 in
theorem r_wbkt {l : zL} {d kc ks n b B H T : Nat} {h : Nat → va_E} {K V : Nat → Nat} {c : Nat → Int32} {s : Nat → Int32} {a : Nat → Nat → Int32} {t : List Nat} {i : Nat} {Q : zQ} (hb : b + 14 ≤ n) (hV : mV B H T K V (a 0)) (hd5 : ∀ i, i < B → dst B T K i ≤ 5 ∨ K i = 0) (hi : i < B) (hr : mrep t s a) (hlen : t.length ≤ 500) (hq : ∀ s' a', mrep (t ++ rpB (B, H, T, K, V, c) i) s' a' → mfr s a s' a' → Q (.inl none) n (mW h b s' a')) : Zj l mX8_writeBucket (d + 5) kc ks 0 [(0, .ref b), (1, .int ((nI i)))] [] n (mW h b s a) Q := by
  obtain ⟨okb, h2H, hH6, h1T, hT99, e0, e1, e2, ek_, ev_, ekv, ez⟩ := id hV
  have hle := okb.le
  refine z_aload_n (j := 0) dX8_writeBucket_0 rfl ?_
  refine z_iload_n (j := 1) dX8_writeBucket_1 rfl ?_
  refine z_kV [.int ((nI i))] 0 0 kc ks yoX8_isFree yvX8_isFree rfl (by decide) lX8_82 (by omega) mW_obj rfl rfl (Nat.le_of_ble_eq_true rfl) (Nat.le_of_ble_eq_true rfl) dX8_writeBucket_2 (by omega) (by omega) (z_room (by omega) (Nat.le_refl _) (Nat.le_refl _) (r_isFree (d := 0) hb hV hi ⟨rfl, ?_⟩))
  refine z_if_eq (tgt := 15) dX8_writeBucket_5 (by decide) (fun czq5 => ?_) (fun czq5 => ?_)
  · refine z_aload_n (j := 0) dX8_writeBucket_15 rfl ?_
    refine z_aload_n (j := 0) dX8_writeBucket_16 rfl ?_
    refine z_iload_n (j := 1) dX8_writeBucket_17 rfl ?_
    refine z_kV [.int ((nI i))] 0 0 kc ks yoX8_key yvX8_key rfl (by decide) lX8_71 (by omega) mW_obj rfl rfl (Nat.le_of_ble_eq_true rfl) (Nat.le_of_ble_eq_true rfl) dX8_writeBucket_18 (by omega) (by omega) (z_room (by omega) (Nat.le_refl _) (Nat.le_refl _) (r_key (d := 0) hb hV hi ⟨rfl, ?_⟩))
    have hK : ¬ K i = 0 := bI_0.mp czq5
    have hkv := ekv i
    rw [show (tkey (K i)) = nI (K i - 1) from tkey_ne hK]
    refine z_kV [.int ((nI (K i - 1)))] 0 0 kc ks yoX8_writeNumber yvX8_writeNumber rfl (by decide) lX8_373 (by omega) mW_obj rfl rfl (Nat.le_of_ble_eq_true rfl) (Nat.le_of_ble_eq_true rfl) dX8_writeBucket_21 (by omega) (by omega) (z_room (by omega) (Nat.le_refl _) (Nat.le_refl _) (w_num4 (d := 0) (t := t) hb hr (by omega) (by omega) (fun s1 a1 hr1 hf1 => ⟨rfl, ?_⟩)))
    have hV1 : mV B H T K V (a1 0) := by rw [hf1.2 0 (by decide)]; exact hV
    have hl1 := dgs_len (v := K i - 1)
    refine z_aload_n (j := 0) dX8_writeBucket_24 rfl ?_
    refine z_iload_n (j := 1) dX8_writeBucket_25 rfl ?_
    have hd9 : dst B T K i ≤ 5 := (hd5 i hi).resolve_right hK
    refine z_kV [.int ((nI i))] 0 0 kc ks yoX8_off yvX8_off rfl (by decide) lX8_93 (by omega) mW_obj rfl rfl (Nat.le_of_ble_eq_true rfl) (Nat.le_of_ble_eq_true rfl) dX8_writeBucket_26 (by omega) (by omega) (z_room (by omega) (Nat.le_refl _) (Nat.le_refl _) (r_off (d := 0) hb hV1 hi hK ⟨rfl, ?_⟩))
    refine z_if_le (tgt := 47) dX8_writeBucket_29 (by decide) (fun czq29 => ?_) (fun czq29 => ?_)
    · exact z_vret rfl dX8_writeBucket_47 (by
          have hd0 : dst B T K i = 0 := Decidable.byContradiction fun z => nI_nle2 (b := 0) (by omega) (by omega) czq29
          exact hq _ _ (by unfold rpB; simp only [if_neg hK, if_pos hd0, List.append_nil]; exact hr1) hf1)
    · refine z_aload_n (j := 0) dX8_writeBucket_32 rfl ?_
      refine z_bipush (v := 43) dX8_writeBucket_33 (by decide) ?_
      refine z_kV [.int 43] 0 0 kc ks yoX8_write yvX8_write rfl (by decide) lX8_376 (by omega) mW_obj rfl rfl (Nat.le_of_ble_eq_true rfl) (Nat.le_of_ble_eq_true rfl) dX8_writeBucket_35 (by omega) (by omega) (z_room (by omega) (Nat.le_refl _) (Nat.le_refl _) (w_wr (d := 0) (t := t ++ dgs (K i - 1)) hb hr1 (by rw [List.length_append]; omega) (by decide) (fun s2 a2 hr2 hf2 => ⟨rfl, ?_⟩)))
      have hV2 : mV B H T K V (a2 0) := by rw [hf2.2 0 (by decide)]; exact hV1
      refine z_aload_n (j := 0) dX8_writeBucket_38 rfl ?_
      refine z_aload_n (j := 0) dX8_writeBucket_39 rfl ?_
      refine z_iload_n (j := 1) dX8_writeBucket_40 rfl ?_
      refine z_kV [.int ((nI i))] 0 0 kc ks yoX8_off yvX8_off rfl (by decide) lX8_93 (by omega) mW_obj rfl rfl (Nat.le_of_ble_eq_true rfl) (Nat.le_of_ble_eq_true rfl) dX8_writeBucket_41 (by omega) (by omega) (z_room (by omega) (Nat.le_refl _) (Nat.le_refl _) (r_off (d := 0) hb hV2 hi hK ⟨rfl, ?_⟩))
      refine z_kV [.int ((nI (dst B T K i)))] 0 0 kc ks yoX8_writeNumber yvX8_writeNumber rfl (by decide) lX8_373 (by omega) mW_obj rfl rfl (Nat.le_of_ble_eq_true rfl) (Nat.le_of_ble_eq_true rfl) dX8_writeBucket_44 (by omega) (by omega) (z_room (by omega) (Nat.le_refl _) (Nat.le_refl _) (w_num1 (d := 0) (t := t ++ dgs (K i - 1) ++ [43]) hb hr2 (by rw [List.length_append, List.length_append]; simp only [List.length_cons, List.length_nil]; omega) (by omega) (fun s3 a3 hr3 hf3 => ⟨rfl, ?_⟩)))
      exact z_vret rfl dX8_writeBucket_47 (by
          have hd0 : ¬ dst B T K i = 0 := fun z => czq29 (by rw [z]; decide)
          exact hq _ _ (by unfold rpB; simp only [if_neg hK, if_neg hd0]; rw [← List.append_assoc, List.append_cons]; exact hr3) ((hf1.tr hf2).tr hf3))
  · refine z_aload_n (j := 0) dX8_writeBucket_8 rfl ?_
    refine z_bipush (v := 46) dX8_writeBucket_9 (by decide) ?_
    refine z_kV [.int 46] 0 0 kc ks yoX8_write yvX8_write rfl (by decide) lX8_376 (by omega) mW_obj rfl rfl (Nat.le_of_ble_eq_true rfl) (Nat.le_of_ble_eq_true rfl) dX8_writeBucket_11 (by omega) (by omega) (z_room (by omega) (Nat.le_refl _) (Nat.le_refl _) (w_wr (d := 0) (t := t) hb hr (by omega) (by decide) (fun s1 a1 hr1 hf1 => ⟨rfl, ?_⟩)))
    exact z_vret rfl dX8_writeBucket_14 (hq _ _ (by unfold rpB; simp only [if_pos (bI_n.mp czq5)]; exact hr1) hf1)

set_option maxHeartbeats 4000000 in
set_option maxRecDepth 100000 in
theorem r_wt_l {l : zL} {d kc ks n b B H T : Nat} {h : Nat → va_E} {K V : Nat → Nat} {c : Nat → Int32} {s0 : Nat → Int32} {a0 : Nat → Nat → Int32} {Q : zQ} (hb : b + 14 ≤ n) (hV0 : mV B H T K V (a0 0)) (hd5 : ∀ i, i < B → dst B T K i ≤ 5 ∨ K i = 0) : ∀ m i, i + m = B → ∀ (s : Nat → Int32) (a : Nat → Nat → Int32), mrep (rpL (B, H, T, K, V, c) i) s a → mfr s0 a0 s a → (∀ s' a', mrep (rpL (B, H, T, K, V, c) B) s' a' → mfr s0 a0 s' a' → Q (.inl (some (.int (nI (rpL (B, H, T, K, V, c) B).length)))) n (mW h b s' a')) → Zj l mX8_writeTable (d + 6) kc ks 12 [(0, .ref b), (1, .int ((nI i)))] [] n (mW h b s a) Q := by
  intro m
  induction m with
  | zero =>
    intro i hi s a hr hf hq
    have hV : mV B H T K V (a 0) := by rw [hf.2 0 (by decide)]; exact hV0
    obtain ⟨okb, h2H, hH6, h1T, hT99, e0, e1, e2, ek_, ev_, ekv, ez⟩ := id hV
    have hle := okb.le
    refine z_iload_n (j := 1) dX8_writeTable_12 rfl ?_
    refine z_aload_n (j := 0) dX8_writeTable_13 rfl ?_
    refine z_get (v := .ref (b + 1)) (by omega) mW_obj fX8_7 rfl dX8_writeTable_14 ?_
    refine z_iconst (v := 0) dX8_writeTable_17 (by decide) ?_
    refine m_aldN 0 137 0 (by decide) rfl rfl hb rfl (by omega) (by decide) dX8_writeTable_18 ?_
    refine z_icmp_ge (tgt := 43) dX8_writeTable_19 (by decide) (fun czq19 => ?_) (fun czq19 => absurd (by rw [e0]; exact nI_le (by omega) (by omega)) czq19)
    refine z_aload_n (j := 0) dX8_writeTable_43 rfl ?_
    refine z_get (v := .int (s 19)) (by omega) mW_obj fX8_370 rfl dX8_writeTable_44 ?_
    exact z_iret rfl dX8_writeTable_47 (by
        obtain rfl : i = B := by omega
        rw [hr.1]
        exact hq s a hr hf)
  | succ m ih =>
    intro i hi s a hr hf hq
    have hV : mV B H T K V (a 0) := by rw [hf.2 0 (by decide)]; exact hV0
    obtain ⟨okb, h2H, hH6, h1T, hT99, e0, e1, e2, ek_, ev_, ekv, ez⟩ := id hV
    have hle := okb.le
    have hl9 : (rpL (B, H, T, K, V, c) i).length ≤ 7 * i := Nat.le_trans (Nat.le_add_right _ _) (rp_len (H := H) (V := V) (c := c) hd5 i (by omega))
    refine z_iload_n (j := 1) dX8_writeTable_12 rfl ?_
    refine z_aload_n (j := 0) dX8_writeTable_13 rfl ?_
    refine z_get (v := .ref (b + 1)) (by omega) mW_obj fX8_7 rfl dX8_writeTable_14 ?_
    refine z_iconst (v := 0) dX8_writeTable_17 (by decide) ?_
    refine m_aldN 0 137 0 (by decide) rfl rfl hb rfl (by omega) (by decide) dX8_writeTable_18 ?_
    refine z_icmp_ge (tgt := 43) dX8_writeTable_19 (by decide) (fun czq19 => absurd czq19 (by rw [e0]; exact nI_ge (by omega) (by omega))) (fun czq19 => ?_)
    refine z_iload_n (j := 1) dX8_writeTable_22 rfl ?_
    refine z_if_le (tgt := 32) dX8_writeTable_23 (by decide) (fun czq23 => ?_) (fun czq23 => ?_)
    · refine z_aload_n (j := 0) dX8_writeTable_32 rfl ?_
      refine z_iload_n (j := 1) dX8_writeTable_33 rfl ?_
      refine z_kV [.int ((nI i))] 0 0 kc ks yoX8_writeBucket yvX8_writeBucket rfl (by decide) lX8_379 (by omega) mW_obj rfl rfl (Nat.le_of_ble_eq_true rfl) (Nat.le_of_ble_eq_true rfl) dX8_writeTable_34 (by omega) (by omega) (z_room (by omega) (Nat.le_refl _) (Nat.le_refl _) (r_wbkt (d := 0) (t := rpL (B, H, T, K, V, c) i) (c := c) hb hV hd5 (by omega) hr (by omega) (fun s2 a2 hr2 hf2 => ⟨rfl, ?_⟩)))
      skip
      refine z_iinc ((nI (i + 1))) [1, 0] [(0, .ref b), (1, .int ((nI (i + 1))))] dX8_writeTable_37 (j := 1) rfl (nI_1 i) (by decide) rfl ?_
      refine z_goto (tgt := 12) dX8_writeTable_40 (by decide) ?_
      have hi0 : i = 0 := Decidable.byContradiction fun z => nI_nle2 (b := 0) (by omega) (by omega) czq23
      refine ih (i + 1) (by omega) _ _ (by rw [rpL, if_pos hi0, List.append_nil]; exact hr2) (hf.tr hf2) hq
    · refine z_aload_n (j := 0) dX8_writeTable_26 rfl ?_
      refine z_bipush (v := 32) dX8_writeTable_27 (by decide) ?_
      refine z_kV [.int 32] 0 0 kc ks yoX8_write yvX8_write rfl (by decide) lX8_376 (by omega) mW_obj rfl rfl (Nat.le_of_ble_eq_true rfl) (Nat.le_of_ble_eq_true rfl) dX8_writeTable_29 (by omega) (by omega) (z_room (by omega) (Nat.le_refl _) (Nat.le_refl _) (w_wr (d := 0) (t := rpL (B, H, T, K, V, c) i) hb hr (by omega) (by decide) (fun s1 a1 hr1 hf1 => ⟨rfl, ?_⟩)))
      have hV1 : mV B H T K V (a1 0) := by rw [hf1.2 0 (by decide)]; exact hV
      refine z_aload_n (j := 0) dX8_writeTable_32 rfl ?_
      refine z_iload_n (j := 1) dX8_writeTable_33 rfl ?_
      refine z_kV [.int ((nI i))] 0 0 kc ks yoX8_writeBucket yvX8_writeBucket rfl (by decide) lX8_379 (by omega) mW_obj rfl rfl (Nat.le_of_ble_eq_true rfl) (Nat.le_of_ble_eq_true rfl) dX8_writeTable_34 (by omega) (by omega) (z_room (by omega) (Nat.le_refl _) (Nat.le_refl _) (r_wbkt (d := 0) (t := rpL (B, H, T, K, V, c) i ++ [32]) (c := c) hb hV1 hd5 (by omega) hr1 (by rw [List.length_append]; simp only [List.length_cons, List.length_nil]; omega) (fun s2 a2 hr2 hf2 => ⟨rfl, ?_⟩)))
      skip
      refine z_iinc ((nI (i + 1))) [1, 0] [(0, .ref b), (1, .int ((nI (i + 1))))] dX8_writeTable_37 (j := 1) rfl (nI_1 i) (by decide) rfl ?_
      refine z_goto (tgt := 12) dX8_writeTable_40 (by decide) ?_
      have hi0 : ¬ i = 0 := fun z => czq23 (by rw [z]; decide)
      refine ih (i + 1) (by omega) _ _ (by rw [rpL, if_neg hi0]; exact hr2) (hf.tr (hf1.tr hf2)) hq

set_option maxHeartbeats 4000000 in
set_option maxRecDepth 100000 in
theorem R_writeTable {l : zL} {d kc ks n b : Nat} {h : Nat → va_E} {s : Nat → Int32} {a : Nat → Nat → Int32} {g : zGs} {Q : zQ} (hb : b + 14 ≤ n) (hM : mI g s a) (hq : ∀ t v g' s' a', f_writeTable g = (t, v, g') → mI g' s' a' → s' 20 = t → Q (.inl (some (.int v))) n (mW h b s' a')) : Zj l mX8_writeTable (d + 12) kc ks 0 [(0, .ref b)] [] n (mW h b s a) Q := by
  obtain ⟨⟨B, H, T, K, V, c⟩, sv, Sn, k, hi, L, x, ek, eo, rl, rb⟩ := g
  obtain ⟨hT, h11, hsv, hsn, hk8, h9, hhi, hL, h14, ha9, hx256, h16, h17, hrl, h19, ha11, hrb⟩ := id hM
  obtain ⟨hV, ⟨hI, hd3, h3⟩, e3⟩ := id hT
  obtain ⟨okb, h2H, hH6, h1T, hT99, e0, e1, e2, ek_, ev_, ekv, ez⟩ := id hV
  have hle := okb.le
  refine z_aload_n (j := 0) dX8_writeTable_0 rfl ?_
  refine z_iconst (v := 0) dX8_writeTable_1 (by decide) ?_
  refine m_put (k := 20) (by omega) fX8_64 (by unfold mS; omega) (by decide) dX8_writeTable_2 ?_
  refine z_aload_n (j := 0) dX8_writeTable_5 rfl ?_
  refine z_iconst (v := 0) dX8_writeTable_6 (by decide) ?_
  refine m_put (k := 19) (by omega) fX8_370 (by unfold mS; omega) (by decide) dX8_writeTable_7 ?_
  refine z_iconst (v := 0) dX8_writeTable_10 (by decide) ?_
  refine z_istore_n [1, 0] [(0, .ref b), (1, .int 0)] dX8_writeTable_11 (by decide) rfl ?_
  have hd5 := dst_5 okb hH6 hI
  refine z_room (d' := d + 6) (by omega) (Nat.le_refl _) (Nat.le_refl _) (r_wt_l (c := c) hb hV hd5 B 0 (by omega) (va_up (va_up s 20 0) 19 0) a ⟨up_eq, fun i hi => absurd hi (Nat.not_lt_zero i)⟩ ⟨fun _ _ => rfl, fun _ _ => rfl⟩ (fun s' a' hr' hf' => ?_))
  have hlB := rp_len (H := H) (V := V) (c := c) hd5 B (Nat.le_refl _)
  rw [if_neg (show ¬ B = 0 by omega)] at hlB
  have sc : ∀ q, q ≠ 19 → q ≠ 20 → s' q = s q := fun q q1 q2 => (hf'.1 q q1).trans ((up_ne q1).trans (up_ne q2))
  exact hq 0 _ (gRep ((B, H, T, K, V, c), sv, Sn, k, hi, L, x, ek, eo, rl, rb) (rpL (B, H, T, K, V, c) B).length (lG (rpL (B, H, T, K, V, c) B))) _ _ rfl ⟨by rw [hf'.2 0 (by decide)]; exact hT, (sc 11 (by decide) (by decide)).trans h11, hsv, fun e => by rw [hf'.2 6 (by decide)]; exact hsn e, hk8, (sc 9 (by decide) (by decide)).trans h9, by rw [hf'.2 5 (by decide)]; exact hhi, hL, (sc 14 (by decide) (by decide)).trans h14, by rw [hf'.2 9 (by decide)]; exact ha9, hx256, (sc 16 (by decide) (by decide)).trans h16, (sc 17 (by decide) (by decide)).trans h17, by omega, hr'.1, hr'.2, rp_256 (fun i => (ekv i).1) hd5 B (Nat.le_refl _)⟩ ((hf'.1 20 (by decide)).trans ((up_ne (by decide)).trans up_eq))
