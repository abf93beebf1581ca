/-! THE REFERENCE'S WORDS AS STRINGS: their length and signs -/
theorem kS_Om : ∀ w, w < 12 → ("java/lang/String", zB + 27 + w) ∈ kO := by decide +kernel
theorem kS_F1m : ∀ w, w < 12 → ("java/lang/String", "coder", "B", Value.int 0, zB + 27 + w) ∈ kF := by decide +kernel
theorem kS_F2m : ∀ w, w < 12 → ("java/lang/String", "value", "[B", Value.ref (zB + 127 + w), zB + 27 + w) ∈ kF := by decide +kernel
theorem kS_Tm : ∀ w, w < 12 → (FieldType.byte, zB + 127 + w, (wd w).length, kTi ((wd w).map nI)) ∈ kT := by
  intro w hw
  rcases (show w = 0 ∨ w = 1 ∨ w = 2 ∨ w = 3 ∨ w = 4 ∨ w = 5 ∨ w = 6 ∨ w = 7 ∨ w = 8 ∨ w = 9 ∨ w = 10 ∨ w = 11 by omega) with rfl | rfl | rfl | rfl | rfl | rfl | rfl | rfl | rfl | rfl | rfl | rfl
  · exact List.mem_of_getElem? (i := 13) rfl
  · exact List.mem_of_getElem? (i := 14) rfl
  · exact List.mem_of_getElem? (i := 15) rfl
  · exact List.mem_of_getElem? (i := 16) rfl
  · exact List.mem_of_getElem? (i := 17) rfl
  · exact List.mem_of_getElem? (i := 18) rfl
  · exact List.mem_of_getElem? (i := 19) rfl
  · exact List.mem_of_getElem? (i := 20) rfl
  · exact List.mem_of_getElem? (i := 21) rfl
  · exact List.mem_of_getElem? (i := 22) rfl
  · exact List.mem_of_getElem? (i := 23) rfl
  · exact List.mem_of_getElem? (i := 24) rfl
theorem w_coderm {l : zL} {d kc ks n w : Nat} {h : Nat → va_E} {Q : zQ} (hw : w < 12) (hq : Q (.inl (some (.int 0))) n h) : Zj l mJ0_coder_7d493 d kc ks 0 [(0, .ref (zB + 27 + w))] [] n h Q := by
  refine z_gets (v := .int 1) kS_Z fJ0_38 dJ0_coder_7d493_0 ?_
  refine z_if_eq (tgt := 13) dJ0_coder_7d493_3 (by decide) (fun z => absurd z (by decide)) (fun _ => ?_)
  refine z_aload_n (j := 0) dJ0_coder_7d493_6 rfl ?_
  refine z_getC (v := .int 0) (kS_F1m w hw) fJ0_15 dJ0_coder_7d493_7 ?_
  refine z_goto (tgt := 14) dJ0_coder_7d493_10 (by decide) ?_
  exact z_zret rfl rfl dJ0_coder_7d493_14 hq
theorem w_latinm {l : zL} {d kc ks n w : Nat} {h : Nat → va_E} {Q : zQ} (hw : w < 12) (hq : Q (.inl (some (.int 1))) n h) : Zj l mJ0_isLatin1_aae02 d kc ks 0 [(0, .ref (zB + 27 + w))] [] n h Q := by
  refine z_gets (v := .int 1) kS_Z fJ0_38 dJ0_isLatin1_aae02_0 ?_
  refine z_if_eq (tgt := 17) dJ0_isLatin1_aae02_3 (by decide) (fun z => absurd z (by decide)) (fun _ => ?_)
  refine z_aload_n (j := 0) dJ0_isLatin1_aae02_6 rfl ?_
  refine z_getC (v := .int 0) (kS_F1m w hw) fJ0_15 dJ0_isLatin1_aae02_7 ?_
  refine z_if_ne (tgt := 17) dJ0_isLatin1_aae02_10 (by decide) (fun z => absurd rfl z) (fun _ => ?_)
  refine z_iconst (v := 1) dJ0_isLatin1_aae02_13 (by decide) ?_
  refine z_goto (tgt := 18) dJ0_isLatin1_aae02_14 (by decide) ?_
  exact z_zret rfl rfl dJ0_isLatin1_aae02_18 hq
theorem w_strlenm {l : zL} {d kc ks n w : Nat} {h : Nat → va_E} {Q : zQ} (hw : w < 12) (hq : Q (.inl (some (.int (nI (wd w).length)))) n h) : Zj l mJ0_length_8abf5 (d + 1) kc ks 0 [(0, .ref (zB + 27 + w))] [] n h Q := by
  refine z_aload_n (j := 0) dJ0_length_8abf5_0 rfl ?_
  refine z_getC (v := .ref (zB + 127 + w)) (kS_F2m w hw) fJ0_9 dJ0_length_8abf5_1 ?_
  refine z_alenC (v := nI (wd w).length) (kS_Tm w hw) rfl dJ0_length_8abf5_4 ?_
  refine z_aload_n (j := 0) dJ0_length_8abf5_5 rfl ?_
  refine z_kVC [] 0 0 kc ks yoJ0_coder_7d493 yvJ0_coder_7d493 rfl (by decide) lJ0_335 (kS_Om w hw) rfl (Nat.le_of_ble_eq_true rfl) (Nat.le_of_ble_eq_true rfl) dJ0_length_8abf5_6 (by omega) (by omega) (z_room (by omega) (Nat.le_refl _) (Nat.le_refl _) (w_coderm (d := 0) hw ⟨rfl, ?_⟩))
  refine z_ishr dJ0_length_8abf5_9 ?_
  rw [wd_sh w hw]
  exact z_iret rfl dJ0_length_8abf5_10 hq
theorem w_char1m {l : zL} {d kc ks n w i : Nat} {h : Nat → va_E} {Q : zQ} (hw : w < 12) (hi : i < (wd w).length) (hq : Q (.inl (some (.int (nI (wc w i))))) n h) : Zj l mJ1_charAt_3b067 (d + 2) kc ks 0 [(0, .ref (zB + 127 + w)), (1, .int (nI i))] [] n h Q := by
  have hl := (wd_len w hw).2
  refine z_iload_n (j := 1) dJ1_charAt_3b067_0 rfl ?_
  refine z_aload_n (j := 0) dJ1_charAt_3b067_1 rfl ?_
  refine z_alenC (v := nI (wd w).length) (kS_Tm w hw) rfl dJ1_charAt_3b067_2 ?_
  refine z_kS [.int (nI i), .int (nI (wd w).length)] 0 0 kc ks yoJ0_checkIndex_df160 ysJ0_checkIndex_df160 rfl (by decide) lJ1_9 rfl (Nat.le_of_ble_eq_true rfl) (Nat.le_of_ble_eq_true rfl) dJ1_charAt_3b067_3 (by omega) (by omega) (z_room (by omega) (Nat.le_refl _) (Nat.le_refl _) (w_check (d := 0) hi (by omega) ⟨rfl, ?_⟩))
  refine z_aload_n (j := 0) dJ1_charAt_3b067_6 rfl ?_
  refine z_iload_n (j := 1) dJ1_charAt_3b067_7 rfl ?_
  refine z_baldC (kS_Tm w hw) (vp_in_nI hi (by omega)) dJ1_charAt_3b067_8 ?_
  rw [nI_clamp (by omega)]
  refine z_sipush (v := 255) dJ1_charAt_3b067_9 (by decide) ?_
  refine z_iand dJ1_charAt_3b067_12 ?_
  refine z_i2c dJ1_charAt_3b067_13 ?_
  rw [wd_ch w hw i (by omega) hi]
  exact z_zret rfl (wd_nr w hw i (by omega)) dJ1_charAt_3b067_14 hq
theorem w_charAtm {l : zL} {d kc ks n w i : Nat} {h : Nat → va_E} {Q : zQ} (hw : w < 12) (hi : i < (wd w).length) (hq : Q (.inl (some (.int (nI (wc w i))))) n h) : Zj l mJ0_charAt_5068e (d + 3) kc ks 0 [(0, .ref (zB + 27 + w)), (1, .int (nI i))] [] n h Q := by
  have hl := (wd_len w hw).2
  refine z_aload_n (j := 0) dJ0_charAt_5068e_0 rfl ?_
  refine z_kVC [] 0 0 kc ks yoJ0_isLatin1_aae02 yvJ0_isLatin1_aae02 rfl (by decide) lJ0_492 (kS_Om w hw) rfl (Nat.le_of_ble_eq_true rfl) (Nat.le_of_ble_eq_true rfl) dJ0_charAt_5068e_1 (by omega) (by omega) (z_room (by omega) (Nat.le_refl _) (Nat.le_refl _) (w_latinm (d := 0) hw ⟨rfl, ?_⟩))
  refine z_if_eq (tgt := 16) dJ0_charAt_5068e_4 (by decide) (fun z => absurd z (by decide)) (fun _ => ?_)
  refine z_aload_n (j := 0) dJ0_charAt_5068e_7 rfl ?_
  refine z_getC (v := .ref (zB + 127 + w)) (kS_F2m w hw) fJ0_9 dJ0_charAt_5068e_8 ?_
  refine z_iload_n (j := 1) dJ0_charAt_5068e_11 rfl ?_
  refine z_kS [.ref (zB + 127 + w), .int (nI i)] 0 0 kc ks yoJ1_charAt_3b067 ysJ1_charAt_3b067 rfl (by decide) lJ0_495 rfl (Nat.le_of_ble_eq_true rfl) (Nat.le_of_ble_eq_true rfl) dJ0_charAt_5068e_12 (by omega) (by omega) (z_room (by omega) (Nat.le_refl _) (Nat.le_refl _) (w_char1m (d := 0) hw hi ⟨rfl, ?_⟩))
  exact z_zret rfl (wd_nr w hw i (by omega)) dJ0_charAt_5068e_15 hq
