/-! THE CLASS'S SCRIPT: commands read -/
def swm : List Int32 := [1, 2, 3, 4, 5, 6, 0, 0, 7, 8]
theorem kT_sw : (FieldType.int, zB + 301, 10, kTi swm) ∈ kT := List.mem_of_getElem? (i := 26) rfl
theorem kT_cm : (FieldType.object "NeighbourHash$Command", zB + 300, 10, kTr (zB + 200)) ∈ kT := List.mem_of_getElem? (i := 25) rfl
theorem kZ_cm : ("NeighbourHash", "COMMANDS", "[LNeighbourHash$Command;", Value.ref (zB + 300)) ∈ kZ := by decide +kernel
theorem kZ_sw : ("NeighbourHash$1", "$SwitchMap$NeighbourHash$Command", "[I", Value.ref (zB + 301)) ∈ kZ := by decide +kernel
theorem kZ_pl : ("NeighbourHash$Command", "PULL", "LNeighbourHash$Command;", Value.ref (zB + 206)) ∈ kZ := by decide +kernel
theorem kC_O : ∀ w, w < 10 → ("NeighbourHash$Command", zB + 200 + w) ∈ kO := by decide +kernel
theorem kC_F : ∀ w, w < 10 → ("java/lang/Enum", "ordinal", "I", Value.int (nI w), zB + 200 + w) ∈ kF := by decide +kernel
theorem od_1 : Cond.sameMethod "NeighbourHash$Command" "java/lang/Enum" "ordinal" "()I" ∈ zTs := by decide +kernel
theorem od_2 : Cond.selects "NeighbourHash$Command" ⟨"NeighbourHash$Command", "ordinal", "()I"⟩ ⟨"java/lang/Enum", "ordinal", "()I"⟩ ∈ zTs := by decide +kernel
/-- an enum constant's ordinal -/
theorem z_ord {l : zL} {Y : zM} {d kc ks pc n idx w : Nat} {lv : List (Nat × Value)} {rest : List Value} {h : Nat → va_E} {Q : zQ} (hw : w < 10) (hcat : (rest.map fun v => v.category).sum ≤ 8) (hl1 : Cond.methodLink Y.1.cls idx ⟨"NeighbourHash$Command", "ordinal", "()I"⟩ ∈ zTs) (hd : decode Y.2.1 pc = .ok (.invokevirtual idx, 3)) (_h9 : True) (kk : Zj l Y (d + 1) kc ks (pc + 3) lv (.int (nI w) :: rest) n h Q) : Zj l Y (d + 1) kc ks pc lv (.ref (zB + 200 + w) :: rest) n h Q := by
  refine z_callVU (As := []) (C := "NeighbourHash$Command") (owner := "java/lang/Enum") (x := ⟨"NeighbourHash$Command", "ordinal", "()I"⟩) (v := .int (nI w)) yoJx29ce0_ordinal_8abf5 rfl (by decide) rfl (by decide) hl1 od_1 od_2 yiJx29ce0_ordinal_8abf5 (kC_O w hw) rfl (Nat.le_of_ble_eq_true rfl) hcat hd ?_ kk
  refine z_aload_n (j := 0) dJx29ce0_ordinal_8abf5_0 rfl ?_
  refine z_getC (v := .int (nI w)) (kC_F w hw) fJx29ce0_7 dJx29ce0_ordinal_8abf5_1 ?_
  exact z_iret rfl dJx29ce0_ordinal_8abf5_4 ⟨rfl, rfl, rfl⟩
theorem oKey_iO {v : Nat} (hv : v < 2 ^ 31) : iO 0 9999 (nI v) = oKey v := by
  rw [show iO 0 9999 (nI v) = iO (nI 0) (nI 9999) (nI v) from rfl, iO_oIn (by decide) (by decide) hv]
  simp [oIn, oKey]
theorem oVal_iO {v : Nat} (hv : v < 2 ^ 31) : iO 0 999 (nI v) = oVal v := by
  rw [show iO 0 999 (nI v) = iO (nI 0) (nI 999) (nI v) from rfl, iO_oIn (by decide) (by decide) hv]
  simp [oIn, oVal]
theorem oIn_iO {a b v : Nat} (ha : a < 2 ^ 31) (hb : b < 2 ^ 31) (hv : v < 2 ^ 31) : iO (nI a) (nI b) (nI v) = oIn a b v := iO_oIn ha hb hv
theorem oCnt_iO {k st v : Nat} (hv : v < 2 ^ 31) : (iO 1 20 (nI v) = true ∧ k + st * (xN (nI v) - 1) ≤ 9999) ↔ oCnt k st v = true := by
  rw [show iO 1 20 (nI v) = iO (nI 1) (nI 20) (nI v) from rfl, iO_oIn (by decide) (by decide) hv, xN_nI hv]
  simp only [oCnt, Bool.and_eq_true, decide_eq_true_eq]
theorem bI_iff {p q : Prop} [Decidable p] [Decidable q] (h : p ↔ q) : bI p = bI q := by
  unfold bI
  by_cases hp : p
  · rw [if_pos hp, if_pos (h.mp hp)]
  · rw [if_neg hp, if_neg (fun z => hp (h.mpr z))]

set_option maxHeartbeats 4000000 in
set_option maxRecDepth 100000 in
theorem w_fits0_0 {l : zL} {d kc ks n : Nat} {h : Nat → va_E} {cm : Value} {o u : Nat → Nat → Int32} {s : Nat → Nat → Int32} {a : Nat → Nat → Nat → Int32} {S : zS} {v0 : Nat} {Q : zQ} (hn : 89 ≤ n) (hv0 : u 1 0 = nI v0) (h90 : v0 ≤ 9999) (hq : Q (.inl (some (.int (bI (oKey v0 = true))))) n (gW h cm o u s a)) : Zj l mX5_fits (d + 2) kc ks 0 [(0, .ref 3), (1, .ref ((zB + 200 + 0))), (2, .int 0)] [] n (gW h cm o u s a) Q := by
  refine z_aload_n (j := 0) dX5_fits_0 rfl ?_
  refine z_get (v := .ref 10) (by omega) gW_3 fX5_18 rfl dX5_fits_1 ?_
  refine z_iconst (v := 0) dX5_fits_4 (by decide) ?_
  refine g_ald 1 (by decide) rfl (by omega) (show vp_in (nI 0) 3 from vp_in_nI (by decide) (by decide)) dX5_fits_5 ?_
  rw [show (u 1 (0 : Int32).toNatClampNeg) = nI v0 from hv0]
  refine z_istore_n [1, 2, 3, 0] [(0, .ref 3), (1, .ref ((zB + 200 + 0))), (2, .int 0), (3, .int ((nI v0)))] dX5_fits_6 (by decide) rfl ?_
  refine z_gets (v := .ref (zB + 301)) kZ_sw fX5_85 dX5_fits_7 ?_
  refine z_aload_n (j := 1) dX5_fits_10 rfl ?_
  refine z_ord (w := 0) (by decide) (by decide) lX5_90 dX5_fits_11 (by decide) ?_
  refine z_ialdC kT_sw (vp_in_nI (by decide) (by decide)) dX5_fits_14 ?_
  rw [show (swm.getD (nI 0).toNatClampNeg 0) = 1 from rfl]
  refine z_tableIn 37 52 dX5_fits_15 (by decide) (by decide) rfl (by decide) ?_
  refine z_iload_n (j := 2) dX5_fits_52 rfl ?_
  refine z_if_ne (tgt := 63) dX5_fits_53 (by decide) (fun czq53 => absurd czq53 (fun z => z rfl)) (fun czq53 => ?_)
  refine z_iload_n (j := 3) dX5_fits_56 rfl ?_
  refine z_kSN (As := [.int ((nI v0))]) (host := "NeighbourHash") (.int (bI (iO 0 9999 (nI v0) = true))) yoX7_isKey ysX7_isKey rfl (by decide) (List.mem_of_getElem? (i := 6) rfl) rfl (Nat.le_of_ble_eq_true rfl) (Nat.le_of_ble_eq_true rfl) dX5_fits_57 (z_room (by omega) (Nat.le_refl _) (Nat.le_refl _) (w_isKey (d := 0)  ⟨rfl, rfl, rfl⟩)) ?_
  refine z_goto (tgt := 72) dX5_fits_60 (by decide) ?_
  exact z_zret rfl (by unfold bI; split <;> rfl) dX5_fits_72 ((by
      rw [← oKey_iO (by omega)] at hq
      exact hq))

set_option maxHeartbeats 4000000 in
set_option maxRecDepth 100000 in
theorem w_fits0_1 {l : zL} {d kc ks n : Nat} {h : Nat → va_E} {cm : Value} {o u : Nat → Nat → Int32} {s : Nat → Nat → Int32} {a : Nat → Nat → Nat → Int32} {S : zS} {v0 v1 : Nat} {Q : zQ} (hn : 89 ≤ n) (hv0 : u 1 0 = nI v0) (h90 : v0 ≤ 9999) (hv1 : u 1 1 = nI v1) (h91 : v1 ≤ 9999) (hq : Q (.inl (some (.int (bI (oVal v1 = true))))) n (gW h cm o u s a)) : Zj l mX5_fits (d + 2) kc ks 0 [(0, .ref 3), (1, .ref ((zB + 200 + 0))), (2, .int 1)] [] n (gW h cm o u s a) Q := by
  refine z_aload_n (j := 0) dX5_fits_0 rfl ?_
  refine z_get (v := .ref 10) (by omega) gW_3 fX5_18 rfl dX5_fits_1 ?_
  refine z_iconst (v := 0) dX5_fits_4 (by decide) ?_
  refine g_ald 1 (by decide) rfl (by omega) (show vp_in (nI 0) 3 from vp_in_nI (by decide) (by decide)) dX5_fits_5 ?_
  rw [show (u 1 (0 : Int32).toNatClampNeg) = nI v0 from hv0]
  refine z_istore_n [1, 2, 3, 0] [(0, .ref 3), (1, .ref ((zB + 200 + 0))), (2, .int 1), (3, .int ((nI v0)))] dX5_fits_6 (by decide) rfl ?_
  refine z_gets (v := .ref (zB + 301)) kZ_sw fX5_85 dX5_fits_7 ?_
  refine z_aload_n (j := 1) dX5_fits_10 rfl ?_
  refine z_ord (w := 0) (by decide) (by decide) lX5_90 dX5_fits_11 (by decide) ?_
  refine z_ialdC kT_sw (vp_in_nI (by decide) (by decide)) dX5_fits_14 ?_
  rw [show (swm.getD (nI 0).toNatClampNeg 0) = 1 from rfl]
  refine z_tableIn 37 52 dX5_fits_15 (by decide) (by decide) rfl (by decide) ?_
  refine z_iload_n (j := 2) dX5_fits_52 rfl ?_
  refine z_if_ne (tgt := 63) dX5_fits_53 (by decide) (fun czq53 => ?_) (fun czq53 => absurd czq53 (by decide))
  refine z_aload_n (j := 0) dX5_fits_63 rfl ?_
  refine z_get (v := .ref 10) (by omega) gW_3 fX5_18 rfl dX5_fits_64 ?_
  refine z_iconst (v := 1) dX5_fits_67 (by decide) ?_
  refine g_ald 1 (by decide) rfl (by omega) (show vp_in (nI 1) 3 from vp_in_nI (by decide) (by decide)) dX5_fits_68 ?_
  rw [show (u 1 (1 : Int32).toNatClampNeg) = nI v1 from hv1]
  refine z_kSN (As := [.int ((nI v1))]) (host := "NeighbourHash") (.int (bI (iO 0 999 (nI v1) = true))) yoX7_isValue ysX7_isValue rfl (by decide) (List.mem_of_getElem? (i := 7) rfl) rfl (Nat.le_of_ble_eq_true rfl) (Nat.le_of_ble_eq_true rfl) dX5_fits_69 (z_room (by omega) (Nat.le_refl _) (Nat.le_refl _) (w_isValue (d := 0)  ⟨rfl, rfl, rfl⟩)) ?_
  exact z_zret rfl (by unfold bI; split <;> rfl) dX5_fits_72 ((by
      rw [← oVal_iO (by omega)] at hq
      exact hq))

set_option maxHeartbeats 4000000 in
set_option maxRecDepth 100000 in
theorem w_fits1_0 {l : zL} {d kc ks n : Nat} {h : Nat → va_E} {cm : Value} {o u : Nat → Nat → Int32} {s : Nat → Nat → Int32} {a : Nat → Nat → Nat → Int32} {S : zS} {v0 : Nat} {Q : zQ} (hn : 89 ≤ n) (hv0 : u 1 0 = nI v0) (h90 : v0 ≤ 9999) (hq : Q (.inl (some (.int (bI (oKey v0 = true))))) n (gW h cm o u s a)) : Zj l mX5_fits (d + 2) kc ks 0 [(0, .ref 3), (1, .ref ((zB + 200 + 1))), (2, .int 0)] [] n (gW h cm o u s a) Q := by
  refine z_aload_n (j := 0) dX5_fits_0 rfl ?_
  refine z_get (v := .ref 10) (by omega) gW_3 fX5_18 rfl dX5_fits_1 ?_
  refine z_iconst (v := 0) dX5_fits_4 (by decide) ?_
  refine g_ald 1 (by decide) rfl (by omega) (show vp_in (nI 0) 3 from vp_in_nI (by decide) (by decide)) dX5_fits_5 ?_
  rw [show (u 1 (0 : Int32).toNatClampNeg) = nI v0 from hv0]
  refine z_istore_n [1, 2, 3, 0] [(0, .ref 3), (1, .ref ((zB + 200 + 1))), (2, .int 0), (3, .int ((nI v0)))] dX5_fits_6 (by decide) rfl ?_
  refine z_gets (v := .ref (zB + 301)) kZ_sw fX5_85 dX5_fits_7 ?_
  refine z_aload_n (j := 1) dX5_fits_10 rfl ?_
  refine z_ord (w := 1) (by decide) (by decide) lX5_90 dX5_fits_11 (by decide) ?_
  refine z_ialdC kT_sw (vp_in_nI (by decide) (by decide)) dX5_fits_14 ?_
  rw [show (swm.getD (nI 1).toNatClampNeg 0) = 2 from rfl]
  refine z_tableIn 37 52 dX5_fits_15 (by decide) (by decide) rfl (by decide) ?_
  refine z_iload_n (j := 2) dX5_fits_52 rfl ?_
  refine z_if_ne (tgt := 63) dX5_fits_53 (by decide) (fun czq53 => absurd czq53 (fun z => z rfl)) (fun czq53 => ?_)
  refine z_iload_n (j := 3) dX5_fits_56 rfl ?_
  refine z_kSN (As := [.int ((nI v0))]) (host := "NeighbourHash") (.int (bI (iO 0 9999 (nI v0) = true))) yoX7_isKey ysX7_isKey rfl (by decide) (List.mem_of_getElem? (i := 6) rfl) rfl (Nat.le_of_ble_eq_true rfl) (Nat.le_of_ble_eq_true rfl) dX5_fits_57 (z_room (by omega) (Nat.le_refl _) (Nat.le_refl _) (w_isKey (d := 0)  ⟨rfl, rfl, rfl⟩)) ?_
  refine z_goto (tgt := 72) dX5_fits_60 (by decide) ?_
  exact z_zret rfl (by unfold bI; split <;> rfl) dX5_fits_72 ((by
      rw [← oKey_iO (by omega)] at hq
      exact hq))

set_option maxHeartbeats 4000000 in
set_option maxRecDepth 100000 in
theorem w_fits1_1 {l : zL} {d kc ks n : Nat} {h : Nat → va_E} {cm : Value} {o u : Nat → Nat → Int32} {s : Nat → Nat → Int32} {a : Nat → Nat → Nat → Int32} {S : zS} {v0 v1 : Nat} {Q : zQ} (hn : 89 ≤ n) (hv0 : u 1 0 = nI v0) (h90 : v0 ≤ 9999) (hv1 : u 1 1 = nI v1) (h91 : v1 ≤ 9999) (hq : Q (.inl (some (.int (bI (oVal v1 = true))))) n (gW h cm o u s a)) : Zj l mX5_fits (d + 2) kc ks 0 [(0, .ref 3), (1, .ref ((zB + 200 + 1))), (2, .int 1)] [] n (gW h cm o u s a) Q := by
  refine z_aload_n (j := 0) dX5_fits_0 rfl ?_
  refine z_get (v := .ref 10) (by omega) gW_3 fX5_18 rfl dX5_fits_1 ?_
  refine z_iconst (v := 0) dX5_fits_4 (by decide) ?_
  refine g_ald 1 (by decide) rfl (by omega) (show vp_in (nI 0) 3 from vp_in_nI (by decide) (by decide)) dX5_fits_5 ?_
  rw [show (u 1 (0 : Int32).toNatClampNeg) = nI v0 from hv0]
  refine z_istore_n [1, 2, 3, 0] [(0, .ref 3), (1, .ref ((zB + 200 + 1))), (2, .int 1), (3, .int ((nI v0)))] dX5_fits_6 (by decide) rfl ?_
  refine z_gets (v := .ref (zB + 301)) kZ_sw fX5_85 dX5_fits_7 ?_
  refine z_aload_n (j := 1) dX5_fits_10 rfl ?_
  refine z_ord (w := 1) (by decide) (by decide) lX5_90 dX5_fits_11 (by decide) ?_
  refine z_ialdC kT_sw (vp_in_nI (by decide) (by decide)) dX5_fits_14 ?_
  rw [show (swm.getD (nI 1).toNatClampNeg 0) = 2 from rfl]
  refine z_tableIn 37 52 dX5_fits_15 (by decide) (by decide) rfl (by decide) ?_
  refine z_iload_n (j := 2) dX5_fits_52 rfl ?_
  refine z_if_ne (tgt := 63) dX5_fits_53 (by decide) (fun czq53 => ?_) (fun czq53 => absurd czq53 (by decide))
  refine z_aload_n (j := 0) dX5_fits_63 rfl ?_
  refine z_get (v := .ref 10) (by omega) gW_3 fX5_18 rfl dX5_fits_64 ?_
  refine z_iconst (v := 1) dX5_fits_67 (by decide) ?_
  refine g_ald 1 (by decide) rfl (by omega) (show vp_in (nI 1) 3 from vp_in_nI (by decide) (by decide)) dX5_fits_68 ?_
  rw [show (u 1 (1 : Int32).toNatClampNeg) = nI v1 from hv1]
  refine z_kSN (As := [.int ((nI v1))]) (host := "NeighbourHash") (.int (bI (iO 0 999 (nI v1) = true))) yoX7_isValue ysX7_isValue rfl (by decide) (List.mem_of_getElem? (i := 7) rfl) rfl (Nat.le_of_ble_eq_true rfl) (Nat.le_of_ble_eq_true rfl) dX5_fits_69 (z_room (by omega) (Nat.le_refl _) (Nat.le_refl _) (w_isValue (d := 0)  ⟨rfl, rfl, rfl⟩)) ?_
  exact z_zret rfl (by unfold bI; split <;> rfl) dX5_fits_72 ((by
      rw [← oVal_iO (by omega)] at hq
      exact hq))

set_option maxHeartbeats 4000000 in
set_option maxRecDepth 100000 in
theorem w_fits2_0 {l : zL} {d kc ks n : Nat} {h : Nat → va_E} {cm : Value} {o u : Nat → Nat → Int32} {s : Nat → Nat → Int32} {a : Nat → Nat → Nat → Int32} {S : zS} {v0 : Nat} {Q : zQ} (hn : 89 ≤ n) (hv0 : u 1 0 = nI v0) (h90 : v0 ≤ 9999) (hq : Q (.inl (some (.int (bI (oKey v0 = true))))) n (gW h cm o u s a)) : Zj l mX5_fits (d + 2) kc ks 0 [(0, .ref 3), (1, .ref ((zB + 200 + 2))), (2, .int 0)] [] n (gW h cm o u s a) Q := by
  refine z_aload_n (j := 0) dX5_fits_0 rfl ?_
  refine z_get (v := .ref 10) (by omega) gW_3 fX5_18 rfl dX5_fits_1 ?_
  refine z_iconst (v := 0) dX5_fits_4 (by decide) ?_
  refine g_ald 1 (by decide) rfl (by omega) (show vp_in (nI 0) 3 from vp_in_nI (by decide) (by decide)) dX5_fits_5 ?_
  rw [show (u 1 (0 : Int32).toNatClampNeg) = nI v0 from hv0]
  refine z_istore_n [1, 2, 3, 0] [(0, .ref 3), (1, .ref ((zB + 200 + 2))), (2, .int 0), (3, .int ((nI v0)))] dX5_fits_6 (by decide) rfl ?_
  refine z_gets (v := .ref (zB + 301)) kZ_sw fX5_85 dX5_fits_7 ?_
  refine z_aload_n (j := 1) dX5_fits_10 rfl ?_
  refine z_ord (w := 2) (by decide) (by decide) lX5_90 dX5_fits_11 (by decide) ?_
  refine z_ialdC kT_sw (vp_in_nI (by decide) (by decide)) dX5_fits_14 ?_
  rw [show (swm.getD (nI 2).toNatClampNeg 0) = 3 from rfl]
  refine z_tableIn 58 73 dX5_fits_15 (by decide) (by decide) rfl (by decide) ?_
  refine z_iload_n (j := 2) dX5_fits_73 rfl ?_
  refine z_if_ne (tgt := 84) dX5_fits_74 (by decide) (fun czq74 => absurd czq74 (fun z => z rfl)) (fun czq74 => ?_)
  refine z_iload_n (j := 3) dX5_fits_77 rfl ?_
  refine z_kSN (As := [.int ((nI v0))]) (host := "NeighbourHash") (.int (bI (iO 0 9999 (nI v0) = true))) yoX7_isKey ysX7_isKey rfl (by decide) (List.mem_of_getElem? (i := 6) rfl) rfl (Nat.le_of_ble_eq_true rfl) (Nat.le_of_ble_eq_true rfl) dX5_fits_78 (z_room (by omega) (Nat.le_refl _) (Nat.le_refl _) (w_isKey (d := 0)  ⟨rfl, rfl, rfl⟩)) ?_
  refine z_goto (tgt := 117) dX5_fits_81 (by decide) ?_
  exact z_zret rfl (by unfold bI; split <;> rfl) dX5_fits_117 ((by
      rw [← oKey_iO (by omega)] at hq
      exact hq))

set_option maxHeartbeats 4000000 in
set_option maxRecDepth 100000 in
theorem w_fits2_1 {l : zL} {d kc ks n : Nat} {h : Nat → va_E} {cm : Value} {o u : Nat → Nat → Int32} {s : Nat → Nat → Int32} {a : Nat → Nat → Nat → Int32} {S : zS} {v0 v1 : Nat} {Q : zQ} (hn : 89 ≤ n) (hv0 : u 1 0 = nI v0) (h90 : v0 ≤ 9999) (hv1 : u 1 1 = nI v1) (h91 : v1 ≤ 9999) (hq : Q (.inl (some (.int (bI ((oIn 1 999) v1 = true))))) n (gW h cm o u s a)) : Zj l mX5_fits (d + 2) kc ks 0 [(0, .ref 3), (1, .ref ((zB + 200 + 2))), (2, .int 1)] [] n (gW h cm o u s a) Q := by
  refine z_aload_n (j := 0) dX5_fits_0 rfl ?_
  refine z_get (v := .ref 10) (by omega) gW_3 fX5_18 rfl dX5_fits_1 ?_
  refine z_iconst (v := 0) dX5_fits_4 (by decide) ?_
  refine g_ald 1 (by decide) rfl (by omega) (show vp_in (nI 0) 3 from vp_in_nI (by decide) (by decide)) dX5_fits_5 ?_
  rw [show (u 1 (0 : Int32).toNatClampNeg) = nI v0 from hv0]
  refine z_istore_n [1, 2, 3, 0] [(0, .ref 3), (1, .ref ((zB + 200 + 2))), (2, .int 1), (3, .int ((nI v0)))] dX5_fits_6 (by decide) rfl ?_
  refine z_gets (v := .ref (zB + 301)) kZ_sw fX5_85 dX5_fits_7 ?_
  refine z_aload_n (j := 1) dX5_fits_10 rfl ?_
  refine z_ord (w := 2) (by decide) (by decide) lX5_90 dX5_fits_11 (by decide) ?_
  refine z_ialdC kT_sw (vp_in_nI (by decide) (by decide)) dX5_fits_14 ?_
  rw [show (swm.getD (nI 2).toNatClampNeg 0) = 3 from rfl]
  refine z_tableIn 58 73 dX5_fits_15 (by decide) (by decide) rfl (by decide) ?_
  refine z_iload_n (j := 2) dX5_fits_73 rfl ?_
  refine z_if_ne (tgt := 84) dX5_fits_74 (by decide) (fun czq74 => ?_) (fun czq74 => absurd czq74 (by decide))
  refine z_iload_n (j := 2) dX5_fits_84 rfl ?_
  refine z_iconst (v := 1) dX5_fits_85 (by decide) ?_
  refine z_icmp_ne (tgt := 101) dX5_fits_86 (by decide) (fun czq86 => absurd czq86 (fun z => z rfl)) (fun czq86 => ?_)
  refine z_aload_n (j := 0) dX5_fits_89 rfl ?_
  refine z_get (v := .ref 10) (by omega) gW_3 fX5_18 rfl dX5_fits_90 ?_
  refine z_iconst (v := 1) dX5_fits_93 (by decide) ?_
  refine g_ald 1 (by decide) rfl (by omega) (show vp_in (nI 1) 3 from vp_in_nI (by decide) (by decide)) dX5_fits_94 ?_
  rw [show (u 1 (1 : Int32).toNatClampNeg) = nI v1 from hv1]
  refine z_kSN (As := [.int ((nI v1))]) (host := "NeighbourHash") (.int (bI (iO 1 999 (nI v1) = true))) yoX7_isStep ysX7_isStep rfl (by decide) (List.mem_of_getElem? (i := 8) rfl) rfl (Nat.le_of_ble_eq_true rfl) (Nat.le_of_ble_eq_true rfl) dX5_fits_95 (z_room (by omega) (Nat.le_refl _) (Nat.le_refl _) (w_isStep (d := 0)  ⟨rfl, rfl, rfl⟩)) ?_
  refine z_goto (tgt := 117) dX5_fits_98 (by decide) ?_
  exact z_zret rfl (by unfold bI; split <;> rfl) dX5_fits_117 ((by
      rw [← show iO 1 999 (nI v1) = oIn 1 999 v1 from oIn_iO (a := 1) (b := 999) (by decide) (by decide) (by omega)] at hq
      exact hq))

set_option maxHeartbeats 4000000 in
set_option maxRecDepth 100000 in
theorem w_fits2_2 {l : zL} {d kc ks n : Nat} {h : Nat → va_E} {cm : Value} {o u : Nat → Nat → Int32} {s : Nat → Nat → Int32} {a : Nat → Nat → Nat → Int32} {S : zS} {v0 v1 v2 : Nat} {Q : zQ} (hn : 89 ≤ n) (hv0 : u 1 0 = nI v0) (h90 : v0 ≤ 9999) (hv1 : u 1 1 = nI v1) (h91 : v1 ≤ 9999) (hv2 : u 1 2 = nI v2) (h92 : v2 ≤ 9999) (hst : v1 ≤ 999) (hq : Q (.inl (some (.int (bI ((oCnt v0 v1) v2 = true))))) n (gW h cm o u s a)) : Zj l mX5_fits (d + 2) kc ks 0 [(0, .ref 3), (1, .ref ((zB + 200 + 2))), (2, .int 2)] [] n (gW h cm o u s a) Q := by
  refine z_aload_n (j := 0) dX5_fits_0 rfl ?_
  refine z_get (v := .ref 10) (by omega) gW_3 fX5_18 rfl dX5_fits_1 ?_
  refine z_iconst (v := 0) dX5_fits_4 (by decide) ?_
  refine g_ald 1 (by decide) rfl (by omega) (show vp_in (nI 0) 3 from vp_in_nI (by decide) (by decide)) dX5_fits_5 ?_
  rw [show (u 1 (0 : Int32).toNatClampNeg) = nI v0 from hv0]
  refine z_istore_n [1, 2, 3, 0] [(0, .ref 3), (1, .ref ((zB + 200 + 2))), (2, .int 2), (3, .int ((nI v0)))] dX5_fits_6 (by decide) rfl ?_
  refine z_gets (v := .ref (zB + 301)) kZ_sw fX5_85 dX5_fits_7 ?_
  refine z_aload_n (j := 1) dX5_fits_10 rfl ?_
  refine z_ord (w := 2) (by decide) (by decide) lX5_90 dX5_fits_11 (by decide) ?_
  refine z_ialdC kT_sw (vp_in_nI (by decide) (by decide)) dX5_fits_14 ?_
  rw [show (swm.getD (nI 2).toNatClampNeg 0) = 3 from rfl]
  refine z_tableIn 58 73 dX5_fits_15 (by decide) (by decide) rfl (by decide) ?_
  refine z_iload_n (j := 2) dX5_fits_73 rfl ?_
  refine z_if_ne (tgt := 84) dX5_fits_74 (by decide) (fun czq74 => ?_) (fun czq74 => absurd czq74 (by decide))
  refine z_iload_n (j := 2) dX5_fits_84 rfl ?_
  refine z_iconst (v := 1) dX5_fits_85 (by decide) ?_
  refine z_icmp_ne (tgt := 101) dX5_fits_86 (by decide) (fun czq86 => ?_) (fun czq86 => absurd czq86 (by decide))
  refine z_iload_n (j := 3) dX5_fits_101 rfl ?_
  refine z_aload_n (j := 0) dX5_fits_102 rfl ?_
  refine z_get (v := .ref 10) (by omega) gW_3 fX5_18 rfl dX5_fits_103 ?_
  refine z_iconst (v := 1) dX5_fits_106 (by decide) ?_
  refine g_ald 1 (by decide) rfl (by omega) (show vp_in (nI 1) 3 from vp_in_nI (by decide) (by decide)) dX5_fits_107 ?_
  refine z_aload_n (j := 0) dX5_fits_108 rfl ?_
  refine z_get (v := .ref 10) (by omega) gW_3 fX5_18 rfl dX5_fits_109 ?_
  refine z_iconst (v := 2) dX5_fits_112 (by decide) ?_
  refine g_ald 1 (by decide) rfl (by omega) (show vp_in (nI 2) 3 from vp_in_nI (by decide) (by decide)) dX5_fits_113 ?_
  rw [show (u 1 (2 : Int32).toNatClampNeg) = nI v2 from hv2, show (u 1 (1 : Int32).toNatClampNeg) = nI v1 from hv1]
  refine z_kSN (As := [.int ((nI v0)), .int ((nI v1)), .int ((nI v2))]) (host := "NeighbourHash") (.int (bI (iO 1 20 (nI v2) = true ∧ v0 + v1 * (xN (nI v2) - 1) ≤ 9999))) yoX7_isRow ysX7_isRow rfl (by decide) (List.mem_of_getElem? (i := 9) rfl) rfl (Nat.le_of_ble_eq_true rfl) (Nat.le_of_ble_eq_true rfl) dX5_fits_114 (z_room (by omega) (Nat.le_refl _) (Nat.le_refl _) (w_isRow (d := 0) h90 hst ⟨rfl, rfl, rfl⟩)) ?_
  exact z_zret rfl (by unfold bI; split <;> rfl) dX5_fits_117 ((by
      rw [bI_iff (oCnt_iO (k := v0) (st := v1) (v := v2) (by omega))]
      exact hq))

set_option maxHeartbeats 4000000 in
set_option maxRecDepth 100000 in
theorem w_fits3_0 {l : zL} {d kc ks n : Nat} {h : Nat → va_E} {cm : Value} {o u : Nat → Nat → Int32} {s : Nat → Nat → Int32} {a : Nat → Nat → Nat → Int32} {S : zS} {v0 : Nat} {Q : zQ} (hn : 89 ≤ n) (hv0 : u 1 0 = nI v0) (h90 : v0 ≤ 9999) (hT : cT S (s 0) (a 0)) (hq : Q (.inl (some (.int (bI ((sFind S v0).isSome = true))))) n (gW h cm o u s a)) : Zj l mX5_fits (d + 2) kc ks 0 [(0, .ref 3), (1, .ref ((zB + 200 + 3))), (2, .int 0)] [] n (gW h cm o u s a) Q := by
  refine z_aload_n (j := 0) dX5_fits_0 rfl ?_
  refine z_get (v := .ref 10) (by omega) gW_3 fX5_18 rfl dX5_fits_1 ?_
  refine z_iconst (v := 0) dX5_fits_4 (by decide) ?_
  refine g_ald 1 (by decide) rfl (by omega) (show vp_in (nI 0) 3 from vp_in_nI (by decide) (by decide)) dX5_fits_5 ?_
  rw [show (u 1 (0 : Int32).toNatClampNeg) = nI v0 from hv0]
  refine z_istore_n [1, 2, 3, 0] [(0, .ref 3), (1, .ref ((zB + 200 + 3))), (2, .int 0), (3, .int ((nI v0)))] dX5_fits_6 (by decide) rfl ?_
  refine z_gets (v := .ref (zB + 301)) kZ_sw fX5_85 dX5_fits_7 ?_
  refine z_aload_n (j := 1) dX5_fits_10 rfl ?_
  refine z_ord (w := 3) (by decide) (by decide) lX5_90 dX5_fits_11 (by decide) ?_
  refine z_ialdC kT_sw (vp_in_nI (by decide) (by decide)) dX5_fits_14 ?_
  rw [show (swm.getD (nI 3).toNatClampNeg 0) = 4 from rfl]
  refine z_tableIn 103 118 dX5_fits_15 (by decide) (by decide) rfl (by decide) ?_
  refine z_aload_n (j := 0) dX5_fits_118 rfl ?_
  refine z_get (v := .ref 4) (by omega) gW_3 fX5_12 rfl dX5_fits_119 ?_
  refine z_iload_n (j := 3) dX5_fits_122 rfl ?_
  refine z_kV [.int ((nI v0))] 0 0 kc ks yoX6_bucketWith yvX6_bucketWith rfl (by decide) lX5_96 (by omega) gW_4T rfl rfl (Nat.le_of_ble_eq_true rfl) (Nat.le_of_ble_eq_true rfl) dX5_fits_123 (by omega) (by omega) (z_room (by omega) (Nat.le_refl _) (Nat.le_refl _) (g_find (d := 0) (t := 0) (S := S) (by decide) rfl (by omega) hT h90 (fun hf => ⟨rfl, ?_⟩) (fun bk hf hbk hKb => ⟨rfl, ?_⟩)))
  · refine z_iconst (v := (-1)) dX5_fits_126 (by decide) ?_
    refine z_icmp_eq (tgt := 134) dX5_fits_127 (by decide) (fun czq127 => ?_) (fun czq127 => absurd rfl czq127)
    refine z_iconst (v := 0) dX5_fits_134 (by decide) ?_
    exact z_zret rfl rfl dX5_fits_135 ((by
        rw [bI_f (by rw [hf]; decide)] at hq
        exact hq))
  · have okb := hT.okb
    have hle := okb.le
    refine z_iconst (v := (-1)) dX5_fits_126 (by decide) ?_
    refine z_icmp_eq (tgt := 134) dX5_fits_127 (by decide) (fun czq127 => absurd czq127 (nI_neg1 (by omega))) (fun czq127 => ?_)
    refine z_iconst (v := 1) dX5_fits_130 (by decide) ?_
    refine z_goto (tgt := 135) dX5_fits_131 (by decide) ?_
    exact z_zret rfl rfl dX5_fits_135 ((by
        rw [bI_t (by rw [hf]; rfl)] at hq
        exact hq))

set_option maxHeartbeats 4000000 in
set_option maxRecDepth 100000 in
theorem w_fits4_0 {l : zL} {d kc ks n : Nat} {h : Nat → va_E} {cm : Value} {o u : Nat → Nat → Int32} {s : Nat → Nat → Int32} {a : Nat → Nat → Nat → Int32} {S : zS} {v0 : Nat} {Q : zQ} (hn : 89 ≤ n) (hv0 : u 1 0 = nI v0) (h90 : v0 ≤ 9999) (hq : Q (.inl (some (.int (bI ((oIn 2 6) v0 = true))))) n (gW h cm o u s a)) : Zj l mX5_fits (d + 2) kc ks 0 [(0, .ref 3), (1, .ref ((zB + 200 + 4))), (2, .int 0)] [] n (gW h cm o u s a) Q := by
  refine z_aload_n (j := 0) dX5_fits_0 rfl ?_
  refine z_get (v := .ref 10) (by omega) gW_3 fX5_18 rfl dX5_fits_1 ?_
  refine z_iconst (v := 0) dX5_fits_4 (by decide) ?_
  refine g_ald 1 (by decide) rfl (by omega) (show vp_in (nI 0) 3 from vp_in_nI (by decide) (by decide)) dX5_fits_5 ?_
  rw [show (u 1 (0 : Int32).toNatClampNeg) = nI v0 from hv0]
  refine z_istore_n [1, 2, 3, 0] [(0, .ref 3), (1, .ref ((zB + 200 + 4))), (2, .int 0), (3, .int ((nI v0)))] dX5_fits_6 (by decide) rfl ?_
  refine z_gets (v := .ref (zB + 301)) kZ_sw fX5_85 dX5_fits_7 ?_
  refine z_aload_n (j := 1) dX5_fits_10 rfl ?_
  refine z_ord (w := 4) (by decide) (by decide) lX5_90 dX5_fits_11 (by decide) ?_
  refine z_ialdC kT_sw (vp_in_nI (by decide) (by decide)) dX5_fits_14 ?_
  rw [show (swm.getD (nI 4).toNatClampNeg 0) = 5 from rfl]
  refine z_tableIn 121 136 dX5_fits_15 (by decide) (by decide) rfl (by decide) ?_
  refine z_iload_n (j := 3) dX5_fits_136 rfl ?_
  refine z_kSN (As := [.int ((nI v0))]) (host := "NeighbourHash") (.int (bI (iO 2 6 (nI v0) = true))) yoX7_isNear ysX7_isNear rfl (by decide) (List.mem_of_getElem? (i := 3) rfl) rfl (Nat.le_of_ble_eq_true rfl) (Nat.le_of_ble_eq_true rfl) dX5_fits_137 (z_room (by omega) (Nat.le_refl _) (Nat.le_refl _) (w_isNear (d := 0)  ⟨rfl, rfl, rfl⟩)) ?_
  exact z_zret rfl (by unfold bI; split <;> rfl) dX5_fits_140 ((by
      rw [← show iO 2 6 (nI v0) = oIn 2 6 v0 from oIn_iO (a := 2) (b := 6) (by decide) (by decide) (by omega)] at hq
      exact hq))

set_option maxHeartbeats 4000000 in
set_option maxRecDepth 100000 in
theorem w_fits5_0 {l : zL} {d kc ks n : Nat} {h : Nat → va_E} {cm : Value} {o u : Nat → Nat → Int32} {s : Nat → Nat → Int32} {a : Nat → Nat → Nat → Int32} {S : zS} {v0 : Nat} {Q : zQ} (hn : 89 ≤ n) (hv0 : u 1 0 = nI v0) (h90 : v0 ≤ 9999) (hq : Q (.inl (some (.int (bI ((oIn 1 99) v0 = true))))) n (gW h cm o u s a)) : Zj l mX5_fits (d + 2) kc ks 0 [(0, .ref 3), (1, .ref ((zB + 200 + 5))), (2, .int 0)] [] n (gW h cm o u s a) Q := by
  refine z_aload_n (j := 0) dX5_fits_0 rfl ?_
  refine z_get (v := .ref 10) (by omega) gW_3 fX5_18 rfl dX5_fits_1 ?_
  refine z_iconst (v := 0) dX5_fits_4 (by decide) ?_
  refine g_ald 1 (by decide) rfl (by omega) (show vp_in (nI 0) 3 from vp_in_nI (by decide) (by decide)) dX5_fits_5 ?_
  rw [show (u 1 (0 : Int32).toNatClampNeg) = nI v0 from hv0]
  refine z_istore_n [1, 2, 3, 0] [(0, .ref 3), (1, .ref ((zB + 200 + 5))), (2, .int 0), (3, .int ((nI v0)))] dX5_fits_6 (by decide) rfl ?_
  refine z_gets (v := .ref (zB + 301)) kZ_sw fX5_85 dX5_fits_7 ?_
  refine z_aload_n (j := 1) dX5_fits_10 rfl ?_
  refine z_ord (w := 5) (by decide) (by decide) lX5_90 dX5_fits_11 (by decide) ?_
  refine z_ialdC kT_sw (vp_in_nI (by decide) (by decide)) dX5_fits_14 ?_
  rw [show (swm.getD (nI 5).toNatClampNeg 0) = 6 from rfl]
  refine z_tableIn 126 141 dX5_fits_15 (by decide) (by decide) rfl (by decide) ?_
  refine z_iload_n (j := 3) dX5_fits_141 rfl ?_
  refine z_kSN (As := [.int ((nI v0))]) (host := "NeighbourHash") (.int (bI (iO 1 99 (nI v0) = true))) yoX7_isTimes ysX7_isTimes rfl (by decide) (List.mem_of_getElem? (i := 4) rfl) rfl (Nat.le_of_ble_eq_true rfl) (Nat.le_of_ble_eq_true rfl) dX5_fits_142 (z_room (by omega) (Nat.le_refl _) (Nat.le_refl _) (w_isTimes (d := 0)  ⟨rfl, rfl, rfl⟩)) ?_
  exact z_zret rfl (by unfold bI; split <;> rfl) dX5_fits_145 ((by
      rw [← show iO 1 99 (nI v0) = oIn 1 99 v0 from oIn_iO (a := 1) (b := 99) (by decide) (by decide) (by omega)] at hq
      exact hq))
