/-! THE REFERENCE'S FIXED TEXT -/
def txL : List Nat := [116, 97, 98, 108, 101, 32, 56, 32, 51, 32, 49, 59, 32, 97, 100, 100, 32, 49, 32, 49, 48, 59, 32, 97, 100, 100, 32, 57, 32, 49, 49, 59, 32, 97, 100, 100, 32, 51, 32, 49, 50, 59, 32, 97, 100, 100, 32, 49, 55, 32, 49, 51, 59, 32, 97, 100, 100, 32, 52, 32, 49, 52, 59, 32, 112, 117, 108, 108, 59, 32, 114, 101, 109, 111, 118, 101, 32, 57, 59, 32, 97, 100, 100, 32, 49, 50, 32, 49, 53, 59]
def tc (i : Nat) : Nat := txL.getD i 0
theorem txO : ("java/lang/String", zB + 26) ∈ kO := by decide +kernel
theorem txF1 : ("java/lang/String", "coder", "B", Value.int 0, zB + 26) ∈ kF := by decide +kernel
theorem txF2 : ("java/lang/String", "value", "[B", Value.ref (zB + 126), zB + 26) ∈ kF := by decide +kernel
theorem txT : (FieldType.byte, zB + 126, 90, kTi (txL.map nI)) ∈ kT := List.mem_of_getElem? (i := 12) rfl
theorem tx_ch : ∀ i, i < 90 → zi2c ((txL.map nI).getD i 0 &&& 255) = nI (tc i) := by decide +kernel
theorem tx_nr : ∀ i, i < 90 → narrow .char (.int (nI (tc i))) = .int (nI (tc i)) := by decide +kernel
theorem tc_l : ∀ i, i < 90 → tc i < 256 := by decide +kernel
theorem tc_256 (i : Nat) : tc i < 256 := by
  by_cases hi : i < 90
  · exact tc_l i hi
  · unfold tc
    rw [List.getD_eq_getElem?_getD, List.getElem?_eq_none (by show 90 ≤ i; omega)]
    decide

theorem w_coderT {l : zL} {d kc ks n : Nat} {h : Nat → va_E} {Q : zQ} (hq : Q (.inl (some (.int 0))) n h) : Zj l mJ0_coder_7d493 d kc ks 0 [(0, .ref (zB + 26))] [] n h Q := by
  refine z_gets (v := .int 1) kS_Z fJ0_38 dJ0_coder_7d493_0 ?_
  refine z_if_eq (tgt := 13) dJ0_coder_7d493_3 (by decide) (fun z => absurd z (by decide)) (fun _ => ?_)
  refine z_aload_n (j := 0) dJ0_coder_7d493_6 rfl ?_
  refine z_getC (v := .int 0) txF1 fJ0_15 dJ0_coder_7d493_7 ?_
  refine z_goto (tgt := 14) dJ0_coder_7d493_10 (by decide) ?_
  exact z_zret rfl rfl dJ0_coder_7d493_14 hq
theorem w_latinT {l : zL} {d kc ks n : Nat} {h : Nat → va_E} {Q : zQ} (hq : Q (.inl (some (.int 1))) n h) : Zj l mJ0_isLatin1_aae02 d kc ks 0 [(0, .ref (zB + 26))] [] n h Q := by
  refine z_gets (v := .int 1) kS_Z fJ0_38 dJ0_isLatin1_aae02_0 ?_
  refine z_if_eq (tgt := 17) dJ0_isLatin1_aae02_3 (by decide) (fun z => absurd z (by decide)) (fun _ => ?_)
  refine z_aload_n (j := 0) dJ0_isLatin1_aae02_6 rfl ?_
  refine z_getC (v := .int 0) txF1 fJ0_15 dJ0_isLatin1_aae02_7 ?_
  refine z_if_ne (tgt := 17) dJ0_isLatin1_aae02_10 (by decide) (fun z => absurd rfl z) (fun _ => ?_)
  refine z_iconst (v := 1) dJ0_isLatin1_aae02_13 (by decide) ?_
  refine z_goto (tgt := 18) dJ0_isLatin1_aae02_14 (by decide) ?_
  exact z_zret rfl rfl dJ0_isLatin1_aae02_18 hq
theorem w_strlenT {l : zL} {d kc ks n : Nat} {h : Nat → va_E} {Q : zQ} (hq : Q (.inl (some (.int (nI 90)))) n h) : Zj l mJ0_length_8abf5 (d + 1) kc ks 0 [(0, .ref (zB + 26))] [] n h Q := by
  refine z_aload_n (j := 0) dJ0_length_8abf5_0 rfl ?_
  refine z_getC (v := .ref (zB + 126)) txF2 fJ0_9 dJ0_length_8abf5_1 ?_
  refine z_alenC (v := nI 90) txT rfl dJ0_length_8abf5_4 ?_
  refine z_aload_n (j := 0) dJ0_length_8abf5_5 rfl ?_
  refine z_kVC [] 0 0 kc ks yoJ0_coder_7d493 yvJ0_coder_7d493 rfl (by decide) lJ0_335 txO rfl (Nat.le_of_ble_eq_true rfl) (Nat.le_of_ble_eq_true rfl) dJ0_length_8abf5_6 (by omega) (by omega) (z_room (by omega) (Nat.le_refl _) (Nat.le_refl _) (w_coderT (d := 0) ⟨rfl, ?_⟩))
  refine z_ishr dJ0_length_8abf5_9 ?_
  rw [show nI 90 >>> ((0 : Int32) &&& 31) = nI 90 from by decide +kernel]
  exact z_iret rfl dJ0_length_8abf5_10 hq
theorem w_char1T {l : zL} {d kc ks n i : Nat} {h : Nat → va_E} {Q : zQ} (hi : i < 90) (hq : Q (.inl (some (.int (nI (tc i))))) n h) : Zj l mJ1_charAt_3b067 (d + 2) kc ks 0 [(0, .ref (zB + 126)), (1, .int (nI i))] [] n h Q := by
  refine z_iload_n (j := 1) dJ1_charAt_3b067_0 rfl ?_
  refine z_aload_n (j := 0) dJ1_charAt_3b067_1 rfl ?_
  refine z_alenC (v := nI 90) txT rfl dJ1_charAt_3b067_2 ?_
  refine z_kS [.int (nI i), .int (nI 90)] 0 0 kc ks yoJ0_checkIndex_df160 ysJ0_checkIndex_df160 rfl (by decide) lJ1_9 rfl (Nat.le_of_ble_eq_true rfl) (Nat.le_of_ble_eq_true rfl) dJ1_charAt_3b067_3 (by omega) (by omega) (z_room (by omega) (Nat.le_refl _) (Nat.le_refl _) (w_check (d := 0) hi (by omega) ⟨rfl, ?_⟩))
  refine z_aload_n (j := 0) dJ1_charAt_3b067_6 rfl ?_
  refine z_iload_n (j := 1) dJ1_charAt_3b067_7 rfl ?_
  refine z_baldC txT (vp_in_nI hi (by omega)) dJ1_charAt_3b067_8 ?_
  rw [nI_clamp (by omega)]
  refine z_sipush (v := 255) dJ1_charAt_3b067_9 (by decide) ?_
  refine z_iand dJ1_charAt_3b067_12 ?_
  refine z_i2c dJ1_charAt_3b067_13 ?_
  rw [tx_ch i hi]
  exact z_zret rfl (tx_nr i hi) dJ1_charAt_3b067_14 hq
theorem w_charAtT {l : zL} {d kc ks n i : Nat} {h : Nat → va_E} {Q : zQ} (hi : i < 90) (hq : Q (.inl (some (.int (nI (tc i))))) n h) : Zj l mJ0_charAt_5068e (d + 3) kc ks 0 [(0, .ref (zB + 26)), (1, .int (nI i))] [] n h Q := by
  refine z_aload_n (j := 0) dJ0_charAt_5068e_0 rfl ?_
  refine z_kVC [] 0 0 kc ks yoJ0_isLatin1_aae02 yvJ0_isLatin1_aae02 rfl (by decide) lJ0_492 txO rfl (Nat.le_of_ble_eq_true rfl) (Nat.le_of_ble_eq_true rfl) dJ0_charAt_5068e_1 (by omega) (by omega) (z_room (by omega) (Nat.le_refl _) (Nat.le_refl _) (w_latinT (d := 0) ⟨rfl, ?_⟩))
  refine z_if_eq (tgt := 16) dJ0_charAt_5068e_4 (by decide) (fun z => absurd z (by decide)) (fun _ => ?_)
  refine z_aload_n (j := 0) dJ0_charAt_5068e_7 rfl ?_
  refine z_getC (v := .ref (zB + 126)) txF2 fJ0_9 dJ0_charAt_5068e_8 ?_
  refine z_iload_n (j := 1) dJ0_charAt_5068e_11 rfl ?_
  refine z_kS [.ref (zB + 126), .int (nI i)] 0 0 kc ks yoJ1_charAt_3b067 ysJ1_charAt_3b067 rfl (by decide) lJ0_495 rfl (Nat.le_of_ble_eq_true rfl) (Nat.le_of_ble_eq_true rfl) dJ0_charAt_5068e_12 (by omega) (by omega) (z_room (by omega) (Nat.le_refl _) (Nat.le_refl _) (w_char1T (d := 0) hi ⟨rfl, ?_⟩))
  exact z_zret rfl (tx_nr i hi) dJ0_charAt_5068e_15 hq

set_option maxHeartbeats 4000000 in
set_option maxRecDepth 100000 in
theorem m_tell_l {l : zL} {d kc ks n b : Nat} {h : Nat → va_E} {s0 : Nat → Int32} {a0 : Nat → Nat → Int32} {Q : zQ} (hb : b + 14 ≤ n) : ∀ m i, i + m = 90 → ∀ (s : Nat → Int32) (a : Nat → Nat → Int32), s 15 = nI i → (∀ j, j < i → a 10 j = nI (tc j)) → (∀ q, q ≠ 15 → s q = s0 q) → (∀ q, q ≠ 10 → a q = a0 q) → (∀ s' a', s' 15 = nI 90 → (∀ i, i < 90 → a' 10 i = nI (tc i)) → (∀ q, q ≠ 15 → s' q = s0 q) → (∀ q, q ≠ 10 → a' q = a0 q) → Q (.inl none) n (mW h b s' a')) → Zj l mX8_tell (d + 4) kc ks 2 [(0, .ref b), (1, .ref ((zB + 26))), (2, .int ((nI i)))] [] n (mW h b s a) Q := by
  intro m
  induction m with
  | zero =>
    intro i hi s a h15 hd hs hr hq
    have hi0 : i = 90 := by omega
    refine z_iload_n (j := 2) dX8_tell_2 rfl ?_
    refine z_aload_n (j := 1) dX8_tell_3 rfl ?_
    refine z_kVC [] 0 0 kc ks yoJ0_length_8abf5 yvJ0_length_8abf5 rfl (by decide) lX8_152 txO rfl (Nat.le_of_ble_eq_true rfl) (Nat.le_of_ble_eq_true rfl) dX8_tell_4 (by omega) (by omega) (z_room (by omega) (Nat.le_refl _) (Nat.le_refl _) (w_strlenT (d := 0)  ⟨rfl, ?_⟩))
    refine z_icmp_ge (tgt := 40) dX8_tell_7 (by decide) (fun czq7 => ?_) (fun czq7 => absurd (nI_le (by omega) (by omega)) czq7)
    exact z_vret rfl dX8_tell_40 (hq s a (by rw [h15, hi0]) (fun j hj => hd j (by omega)) hs hr)
  | succ m ih =>
    intro i hi s a h15 hd hs hr hq
    refine z_iload_n (j := 2) dX8_tell_2 rfl ?_
    refine z_aload_n (j := 1) dX8_tell_3 rfl ?_
    refine z_kVC [] 0 0 kc ks yoJ0_length_8abf5 yvJ0_length_8abf5 rfl (by decide) lX8_152 txO rfl (Nat.le_of_ble_eq_true rfl) (Nat.le_of_ble_eq_true rfl) dX8_tell_4 (by omega) (by omega) (z_room (by omega) (Nat.le_refl _) (Nat.le_refl _) (w_strlenT (d := 0)  ⟨rfl, ?_⟩))
    refine z_icmp_ge (tgt := 40) dX8_tell_7 (by decide) (fun czq7 => absurd czq7 (nI_ge (by omega) (by omega))) (fun czq7 => ?_)
    refine z_aload_n (j := 0) dX8_tell_10 rfl ?_
    refine z_get (v := .ref (b + 11)) (by omega) mW_obj fX8_40 rfl dX8_tell_11 ?_
    refine z_aload_n (j := 0) dX8_tell_14 rfl ?_
    refine z_get (v := .int (s 15)) (by omega) mW_obj fX8_157 rfl dX8_tell_15 ?_
    rw [show (s 15) = (nI i) from h15]
    refine z_aload_n (j := 1) dX8_tell_18 rfl ?_
    refine z_iload_n (j := 2) dX8_tell_19 rfl ?_
    refine z_kVC [.int ((nI i))] 0 0 kc ks yoJ0_charAt_5068e yvJ0_charAt_5068e rfl (by decide) lX8_160 txO rfl (Nat.le_of_ble_eq_true rfl) (Nat.le_of_ble_eq_true rfl) dX8_tell_20 (by omega) (by omega) (z_room (by omega) (Nat.le_refl _) (Nat.le_refl _) (w_charAtT (d := 0) (by omega) ⟨rfl, ?_⟩))
    refine m_astN 10 600 i (by decide) rfl rfl hb rfl (by omega) (by decide) dX8_tell_23 ?_
    refine z_aload_n (j := 0) dX8_tell_24 rfl ?_
    refine z_dup rfl dX8_tell_25 ?_
    refine z_get (v := .int (s 15)) (by omega) mW_obj fX8_157 rfl dX8_tell_26 ?_
    refine z_iconst (v := 1) dX8_tell_29 (by decide) ?_
    refine z_iadd dX8_tell_30 ?_
    rw [show ((s 15) + 1) = (nI (i + 1)) from by rw [h15, nI_1]]
    refine m_put (k := 15) (by omega) fX8_157 (by unfold mS; omega) (by decide) dX8_tell_31 ?_
    skip
    refine z_iinc ((nI (i + 1))) [1, 2, 0] [(0, .ref b), (1, .ref ((zB + 26))), (2, .int ((nI (i + 1))))] dX8_tell_34 (j := 2) rfl (nI_1 i) (by decide) rfl ?_
    refine z_goto (tgt := 2) dX8_tell_37 (by decide) ?_
    refine ih (i + 1) (by omega) _ _ up_eq (fun j hj => ?_) (fun q q0 => by rw [up_ne q0]; exact hs q q0) (fun q q0 => by rw [up_ne q0]; exact hr q q0) hq
    by_cases hji : j = i
    · subst hji; rw [up_eq, up_eq]
    · rw [up_eq, up_ne hji]; exact hd j (by omega)

set_option maxHeartbeats 4000000 in
set_option maxRecDepth 100000 in
theorem m_tell {l : zL} {d kc ks n b : Nat} {h : Nat → va_E} {s : Nat → Int32} {a : Nat → Nat → Int32} {Q : zQ} (hb : b + 14 ≤ n) (h15 : s 15 = nI 0) (hq : ∀ s' a', s' 15 = nI 90 → (∀ i, i < 90 → a' 10 i = nI (tc i)) → (∀ q, q ≠ 15 → s' q = s q) → (∀ q, q ≠ 10 → a' q = a q) → Q (.inl none) n (mW h b s' a')) : Zj l mX8_tell (d + 4) kc ks 0 [(0, .ref b), (1, .ref ((zB + 26)))] [] n (mW h b s a) Q := by
  refine z_iconst (v := 0) dX8_tell_0 (by decide) ?_
  refine z_istore_n [1, 2, 0] [(0, .ref b), (1, .ref ((zB + 26))), (2, .int 0)] dX8_tell_1 (by decide) rfl ?_
  exact m_tell_l (s0 := s) (a0 := a) hb 90 0 (by omega) s a h15 (fun j hj => absurd hj (Nat.not_lt_zero j)) (fun _ _ => rfl) (fun _ _ => rfl) hq
