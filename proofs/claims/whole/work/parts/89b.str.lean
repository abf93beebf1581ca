/-! THE WORDS AS STRINGS: their length and signs -/
def wc (w i : Nat) : Nat := (wd w).getD i 0
theorem kS_O : ∀ w, w < 12 → ("java/lang/String", zB + 14 + w) ∈ kO := by decide +kernel
theorem kS_F1 : ∀ w, w < 12 → ("java/lang/String", "coder", "B", Value.int 0, zB + 14 + w) ∈ kF := by decide +kernel
theorem kS_F2 : ∀ w, w < 12 → ("java/lang/String", "value", "[B", Value.ref (zB + 114 + w), zB + 14 + w) ∈ kF := by decide +kernel
theorem kS_T : ∀ w, w < 12 → (FieldType.byte, zB + 114 + w, (wd w).length, kTi ((wd w).map nI)) ∈ kT := by
  intro w hw
  rcases (show w = 0 ∨ w = 1 ∨ w = 2 ∨ w = 3 ∨ w = 4 ∨ w = 5 ∨ w = 6 ∨ w = 7 ∨ w = 8 ∨ w = 9 ∨ w = 10 ∨ w = 11 by omega) with rfl | rfl | rfl | rfl | rfl | rfl | rfl | rfl | rfl | rfl | rfl | rfl
  · exact List.mem_of_getElem? (i := 0) rfl
  · exact List.mem_of_getElem? (i := 1) rfl
  · exact List.mem_of_getElem? (i := 2) rfl
  · exact List.mem_of_getElem? (i := 3) rfl
  · exact List.mem_of_getElem? (i := 4) rfl
  · exact List.mem_of_getElem? (i := 5) rfl
  · exact List.mem_of_getElem? (i := 6) rfl
  · exact List.mem_of_getElem? (i := 7) rfl
  · exact List.mem_of_getElem? (i := 8) rfl
  · exact List.mem_of_getElem? (i := 9) rfl
  · exact List.mem_of_getElem? (i := 10) rfl
  · exact List.mem_of_getElem? (i := 11) rfl
theorem kS_Z : ("java/lang/String", "COMPACT_STRINGS", "Z", Value.int 1) ∈ kZ := by decide +kernel
theorem wd_len : ∀ w, w < 12 → 3 ≤ (wd w).length ∧ (wd w).length ≤ 6 := by decide +kernel
theorem wd_sh : ∀ w, w < 12 → nI (wd w).length >>> ((0 : Int32) &&& 31) = nI (wd w).length := by decide +kernel
theorem wd_ch : ∀ w, w < 12 → ∀ i, i < 6 → i < (wd w).length → zi2c (((wd w).map nI).getD i 0 &&& 255) = nI (wc w i) := by decide +kernel
theorem wd_nr : ∀ w, w < 12 → ∀ i, i < 6 → narrow .char (.int (nI (wc w i))) = .int (nI (wc w i)) := by decide +kernel
theorem wc_256 : ∀ w, w < 12 → ∀ i, i < 6 → wc w i < 256 := by decide +kernel
theorem w_coder {l : zL} {d kc ks n w : Nat} {h : Nat → va_E} {Q : zQ} (hw : w < 12) (hq : Q (.inl (some (.int 0))) n h) : Zj l mJ0_coder_7d493 d kc ks 0 [(0, .ref (zB + 14 + w))] [] n h Q := by
  refine z_gets (v := .int 1) kS_Z fJ0_38 dJ0_coder_7d493_0 ?_
  refine z_if_eq (tgt := 13) dJ0_coder_7d493_3 (by decide) (fun z => absurd z (by decide)) (fun _ => ?_)
  refine z_aload_n (j := 0) dJ0_coder_7d493_6 rfl ?_
  refine z_getC (v := .int 0) (kS_F1 w hw) fJ0_15 dJ0_coder_7d493_7 ?_
  refine z_goto (tgt := 14) dJ0_coder_7d493_10 (by decide) ?_
  exact z_zret rfl rfl dJ0_coder_7d493_14 hq
theorem w_latin {l : zL} {d kc ks n w : Nat} {h : Nat → va_E} {Q : zQ} (hw : w < 12) (hq : Q (.inl (some (.int 1))) n h) : Zj l mJ0_isLatin1_aae02 d kc ks 0 [(0, .ref (zB + 14 + w))] [] n h Q := by
  refine z_gets (v := .int 1) kS_Z fJ0_38 dJ0_isLatin1_aae02_0 ?_
  refine z_if_eq (tgt := 17) dJ0_isLatin1_aae02_3 (by decide) (fun z => absurd z (by decide)) (fun _ => ?_)
  refine z_aload_n (j := 0) dJ0_isLatin1_aae02_6 rfl ?_
  refine z_getC (v := .int 0) (kS_F1 w hw) fJ0_15 dJ0_isLatin1_aae02_7 ?_
  refine z_if_ne (tgt := 17) dJ0_isLatin1_aae02_10 (by decide) (fun z => absurd rfl z) (fun _ => ?_)
  refine z_iconst (v := 1) dJ0_isLatin1_aae02_13 (by decide) ?_
  refine z_goto (tgt := 18) dJ0_isLatin1_aae02_14 (by decide) ?_
  exact z_zret rfl rfl dJ0_isLatin1_aae02_18 hq
theorem w_strlen {l : zL} {d kc ks n w : Nat} {h : Nat → va_E} {Q : zQ} (hw : w < 12) (hq : Q (.inl (some (.int (nI (wd w).length)))) n h) : Zj l mJ0_length_8abf5 (d + 1) kc ks 0 [(0, .ref (zB + 14 + w))] [] n h Q := by
  refine z_aload_n (j := 0) dJ0_length_8abf5_0 rfl ?_
  refine z_getC (v := .ref (zB + 114 + w)) (kS_F2 w hw) fJ0_9 dJ0_length_8abf5_1 ?_
  refine z_alenC (v := nI (wd w).length) (kS_T w hw) rfl dJ0_length_8abf5_4 ?_
  refine z_aload_n (j := 0) dJ0_length_8abf5_5 rfl ?_
  refine z_kVC [] 0 0 kc ks yoJ0_coder_7d493 yvJ0_coder_7d493 rfl (by decide) lJ0_335 (kS_O w hw) rfl (Nat.le_of_ble_eq_true rfl) (Nat.le_of_ble_eq_true rfl) dJ0_length_8abf5_6 (by omega) (by omega) (z_room (by omega) (Nat.le_refl _) (Nat.le_refl _) (w_coder (d := 0) hw ⟨rfl, ?_⟩))
  refine z_ishr dJ0_length_8abf5_9 ?_
  rw [wd_sh w hw]
  exact z_iret rfl dJ0_length_8abf5_10 hq
theorem w_check3 {l : zL} {d kc ks n i N : Nat} {h : Nat → va_E} {Q : zQ} {v : Value} (hi : i < N) (hN : N < 2 ^ 31) (hq : Q (.inl (some (.int (nI i)))) n h) : Zj l mJ3_checkIndex_8e157 d kc ks 0 [(0, .int (nI i)), (1, .int (nI N)), (2, v)] [] n h Q := by
  refine z_iload_n (j := 0) dJ3_checkIndex_8e157_0 rfl ?_
  refine z_if_lt (tgt := 9) dJ3_checkIndex_8e157_1 (by decide) (fun z => absurd z (nI_pos (by omega))) (fun _ => ?_)
  refine z_iload_n (j := 0) dJ3_checkIndex_8e157_4 rfl ?_
  refine z_iload_n (j := 1) dJ3_checkIndex_8e157_5 rfl ?_
  refine z_icmp_lt (tgt := 16) dJ3_checkIndex_8e157_6 (by decide) (fun _ => ?_) (fun z => absurd (nI_lt hi hN) z)
  refine z_iload_n (j := 0) dJ3_checkIndex_8e157_16 rfl ?_
  exact z_iret rfl dJ3_checkIndex_8e157_17 hq
theorem w_check {l : zL} {d kc ks n i N : Nat} {h : Nat → va_E} {Q : zQ} (hi : i < N) (hN : N < 2 ^ 31) (hq : Q (.inl none) n h) : Zj l mJ0_checkIndex_df160 (d + 1) kc ks 0 [(0, .int (nI i)), (1, .int (nI N))] [] n h Q := by
  refine z_iload_n (j := 0) dJ0_checkIndex_df160_0 rfl ?_
  refine z_iload_n (j := 1) dJ0_checkIndex_df160_1 rfl ?_
  refine z_getsQ fJ0_1053 dJ0_checkIndex_df160_2 ?_ ?_
  · refine z_kS [.int (nI i), .int (nI N), .null] 0 0 kc ks yoJ3_checkIndex_8e157 ysJ3_checkIndex_8e157 rfl (by decide) lJ0_1059 rfl (Nat.le_of_ble_eq_true rfl) (Nat.le_of_ble_eq_true rfl) dJ0_checkIndex_df160_5 (by omega) (by omega) (z_room (by omega) (Nat.le_refl _) (Nat.le_refl _) (w_check3 (d := 0) hi hN ⟨rfl, ?_⟩))
    refine z_pop rfl dJ0_checkIndex_df160_8 ?_
    exact z_vret rfl dJ0_checkIndex_df160_9 hq
  · refine z_kS [.int (nI i), .int (nI N), .ref (zB + 600)] 0 0 kc ks yoJ3_checkIndex_8e157 ysJ3_checkIndex_8e157 rfl (by decide) lJ0_1059 rfl (Nat.le_of_ble_eq_true rfl) (Nat.le_of_ble_eq_true rfl) dJ0_checkIndex_df160_5 (by omega) (by omega) (z_room (by omega) (Nat.le_refl _) (Nat.le_refl _) (w_check3 (d := 0) hi hN ⟨rfl, ?_⟩))
    refine z_pop rfl dJ0_checkIndex_df160_8 ?_
    exact z_vret rfl dJ0_checkIndex_df160_9 hq
theorem w_char1 {l : zL} {d kc ks n w i : Nat} {h : Nat → va_E} {Q : zQ} (hw : w < 12) (hi : i < (wd w).length) (hq : Q (.inl (some (.int (nI (wc w i))))) n h) : Zj l mJ1_charAt_3b067 (d + 2) kc ks 0 [(0, .ref (zB + 114 + w)), (1, .int (nI i))] [] n h Q := by
  have hl := (wd_len w hw).2
  refine z_iload_n (j := 1) dJ1_charAt_3b067_0 rfl ?_
  refine z_aload_n (j := 0) dJ1_charAt_3b067_1 rfl ?_
  refine z_alenC (v := nI (wd w).length) (kS_T w hw) rfl dJ1_charAt_3b067_2 ?_
  refine z_kS [.int (nI i), .int (nI (wd w).length)] 0 0 kc ks yoJ0_checkIndex_df160 ysJ0_checkIndex_df160 rfl (by decide) lJ1_9 rfl (Nat.le_of_ble_eq_true rfl) (Nat.le_of_ble_eq_true rfl) dJ1_charAt_3b067_3 (by omega) (by omega) (z_room (by omega) (Nat.le_refl _) (Nat.le_refl _) (w_check (d := 0) hi (by omega) ⟨rfl, ?_⟩))
  refine z_aload_n (j := 0) dJ1_charAt_3b067_6 rfl ?_
  refine z_iload_n (j := 1) dJ1_charAt_3b067_7 rfl ?_
  refine z_baldC (kS_T w hw) (vp_in_nI hi (by omega)) dJ1_charAt_3b067_8 ?_
  rw [nI_clamp (by omega)]
  refine z_sipush (v := 255) dJ1_charAt_3b067_9 (by decide) ?_
  refine z_iand dJ1_charAt_3b067_12 ?_
  refine z_i2c dJ1_charAt_3b067_13 ?_
  rw [wd_ch w hw i (by omega) hi]
  exact z_zret rfl (wd_nr w hw i (by omega)) dJ1_charAt_3b067_14 hq
theorem w_charAt {l : zL} {d kc ks n w i : Nat} {h : Nat → va_E} {Q : zQ} (hw : w < 12) (hi : i < (wd w).length) (hq : Q (.inl (some (.int (nI (wc w i))))) n h) : Zj l mJ0_charAt_5068e (d + 3) kc ks 0 [(0, .ref (zB + 14 + w)), (1, .int (nI i))] [] n h Q := by
  have hl := (wd_len w hw).2
  refine z_aload_n (j := 0) dJ0_charAt_5068e_0 rfl ?_
  refine z_kVC [] 0 0 kc ks yoJ0_isLatin1_aae02 yvJ0_isLatin1_aae02 rfl (by decide) lJ0_492 (kS_O w hw) rfl (Nat.le_of_ble_eq_true rfl) (Nat.le_of_ble_eq_true rfl) dJ0_charAt_5068e_1 (by omega) (by omega) (z_room (by omega) (Nat.le_refl _) (Nat.le_refl _) (w_latin (d := 0) hw ⟨rfl, ?_⟩))
  refine z_if_eq (tgt := 16) dJ0_charAt_5068e_4 (by decide) (fun z => absurd z (by decide)) (fun _ => ?_)
  refine z_aload_n (j := 0) dJ0_charAt_5068e_7 rfl ?_
  refine z_getC (v := .ref (zB + 114 + w)) (kS_F2 w hw) fJ0_9 dJ0_charAt_5068e_8 ?_
  refine z_iload_n (j := 1) dJ0_charAt_5068e_11 rfl ?_
  refine z_kS [.ref (zB + 114 + w), .int (nI i)] 0 0 kc ks yoJ1_charAt_3b067 ysJ1_charAt_3b067 rfl (by decide) lJ0_495 rfl (Nat.le_of_ble_eq_true rfl) (Nat.le_of_ble_eq_true rfl) dJ0_charAt_5068e_12 (by omega) (by omega) (z_room (by omega) (Nat.le_refl _) (Nat.le_refl _) (w_char1 (d := 0) hw hi ⟨rfl, ?_⟩))
  exact z_zret rfl (wd_nr w hw i (by omega)) dJ0_charAt_5068e_15 hq
/-- a token is the word -/
theorem sg_is {x : Nat → Nat} {st w : Nat} : sg x st (wd w).length = wd w ↔ ∀ j, j < (wd w).length → x (st + j) = wc w j := by
  have hc : ∀ j (hj : j < (wd w).length), wc w j = (wd w)[j] := fun j hj => by
    unfold wc
    rw [List.getD_eq_getElem?_getD, List.getElem?_eq_getElem hj]
    rfl
  constructor
  · intro e j hj
    rw [hc j hj]
    have : (sg x st (wd w).length)[j]? = (wd w)[j]? := by rw [e]
    unfold sg at this
    rw [List.getElem?_map, List.getElem?_range hj, List.getElem?_eq_getElem hj] at this
    exact Option.some.inj this
  · intro h
    refine List.ext_getElem (by simp [sg]) (fun j h1 h2 => ?_)
    have := h j h2
    rw [hc j h2] at this
    simp only [sg, List.getElem_map, List.getElem_range]
    exact this
