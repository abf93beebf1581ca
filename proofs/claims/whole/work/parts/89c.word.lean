/-! THE CLASS'S READER: is the token this word -/

set_option maxHeartbeats 4000000 in
set_option maxRecDepth 100000 in
theorem w_isWord_l {l : zL} {d kc ks n : Nat} {h : Nat → va_E} {cm : Value} {o u : Nat → Nat → Int32} {s : Nat → Nat → Int32} {a : Nat → Nat → Nat → Int32} {L : Nat} {x : Nat → Nat} {Q : zQ} {st w : Nat} (hn : 89 ≤ n) (hL : L ≤ 600) (h11 : o 1 1 = nI L) (hu : ∀ i, i < L → u 0 i = nI (x i)) (hx : ∀ i, x i < 256) (hw : w < 12) (h13 : o 1 3 = nI st) (hst : st + (wd w).length ≤ L) (hyes : (∀ j, j < (wd w).length → x (st + j) = wc w j) → Q (.inl (some (.int 1))) n (gW h cm o u s a)) (hno : ¬ (∀ j, j < (wd w).length → x (st + j) = wc w j) → Q (.inl (some (.int 0))) n (gW h cm o u s a)) : ∀ m i, i + m = (wd w).length → (∀ j, j < i → x (st + j) = wc w j) → Zj l mX3_isWord (d + 4) kc ks 28 [(0, .ref 1), (1, .ref ((zB + 14 + w))), (2, .int ((nI i)))] [] n (gW h cm o u s a) Q := by
  have hwl := wd_len w hw
  intro m
  induction m with
  | zero =>
    intro i hi hd
    refine z_iload_n (j := 2) dX3_isWord_28 rfl ?_
    refine z_aload_n (j := 1) dX3_isWord_29 rfl ?_
    refine z_kVC [] 0 0 kc ks yoJ0_length_8abf5 yvJ0_length_8abf5 rfl (by decide) lX3_48 (kS_O w hw) rfl (Nat.le_of_ble_eq_true rfl) (Nat.le_of_ble_eq_true rfl) dX3_isWord_30 (by omega) (by omega) (z_room (by omega) (Nat.le_refl _) (Nat.le_refl _) (w_strlen (d := 0) hw ⟨rfl, ?_⟩))
    refine z_icmp_ge (tgt := 62) dX3_isWord_33 (by decide) (fun czq33 => ?_) (fun czq33 => absurd (nI_le (by omega) (by omega)) czq33)
    refine z_iconst (v := 1) dX3_isWord_62 (by decide) ?_
    exact z_zret rfl rfl dX3_isWord_63 (hyes (fun j hj => hd j (by omega)))
  | succ m ih =>
    intro i hi hd
    refine z_iload_n (j := 2) dX3_isWord_28 rfl ?_
    refine z_aload_n (j := 1) dX3_isWord_29 rfl ?_
    refine z_kVC [] 0 0 kc ks yoJ0_length_8abf5 yvJ0_length_8abf5 rfl (by decide) lX3_48 (kS_O w hw) rfl (Nat.le_of_ble_eq_true rfl) (Nat.le_of_ble_eq_true rfl) dX3_isWord_30 (by omega) (by omega) (z_room (by omega) (Nat.le_refl _) (Nat.le_refl _) (w_strlen (d := 0) hw ⟨rfl, ?_⟩))
    refine z_icmp_ge (tgt := 62) dX3_isWord_33 (by decide) (fun czq33 => absurd czq33 (nI_ge (by omega) (by omega))) (fun czq33 => ?_)
    refine z_aload_n (j := 0) dX3_isWord_36 rfl ?_
    refine z_aload_n (j := 0) dX3_isWord_37 rfl ?_
    refine z_get (v := .int (o 1 3)) (by omega) gW_1 fX3_30 rfl dX3_isWord_38 ?_
    refine z_iload_n (j := 2) dX3_isWord_41 rfl ?_
    refine z_iadd dX3_isWord_42 ?_
    rw [show ((o 1 3) + (nI i)) = nI (st + i) from by rw [h13, nI_add]]
    refine z_kV [.int ((nI (st + i)))] 0 0 kc ks yoX3_byteAt yvX3_byteAt rfl (by decide) lX3_22 (by omega) gW_1 rfl rfl (Nat.le_of_ble_eq_true rfl) (Nat.le_of_ble_eq_true rfl) dX3_isWord_43 (by omega) (by omega) (z_room (by omega) (Nat.le_refl _) (Nat.le_refl _) (w_byteAt (d := 0) hn hL h11 hu (by omega) ⟨rfl, ?_⟩))
    refine z_aload_n (j := 1) dX3_isWord_46 rfl ?_
    refine z_iload_n (j := 2) dX3_isWord_47 rfl ?_
    refine z_kVC [.int ((nI i))] 0 0 kc ks yoJ0_charAt_5068e yvJ0_charAt_5068e rfl (by decide) lX3_53 (kS_O w hw) rfl (Nat.le_of_ble_eq_true rfl) (Nat.le_of_ble_eq_true rfl) dX3_isWord_48 (by omega) (by omega) (z_room (by omega) (Nat.le_refl _) (Nat.le_refl _) (w_charAt (d := 0) hw (by omega) ⟨rfl, ?_⟩))
    refine z_icmp_eq (tgt := 56) dX3_isWord_51 (by decide) (fun czq51 => ?_) (fun czq51 => ?_)
    · skip
      refine z_iinc ((nI (i + 1))) [1, 2, 0] [(0, .ref 1), (1, .ref ((zB + 14 + w))), (2, .int ((nI (i + 1))))] dX3_isWord_56 (j := 2) rfl (nI_1 i) (by decide) rfl ?_
      refine z_goto (tgt := 28) dX3_isWord_59 (by decide) ?_
      have hxi : bt L x (st + i) = nI (x (st + i)) := bt_in (by omega)
      have h256 := hx (st + i)
      have hc256 := wc_256 w hw i (by omega)
      refine ih (i + 1) (by omega) (fun j hj => ?_)
      by_cases hji : j = i
      · rw [hji]; exact (nI_eq (by omega) (by omega)).mp (hxi.symm.trans czq51)
      · exact hd j (by omega)
    · refine z_iconst (v := 0) dX3_isWord_54 (by decide) ?_
      exact z_zret rfl rfl dX3_isWord_55 (by
          have hxi : bt L x (st + i) = nI (x (st + i)) := bt_in (by omega)
          have h256 := hx (st + i)
          have hc256 := wc_256 w hw i (by omega)
          refine hno (fun z => czq51 ?_)
          rw [hxi, z i (by omega)])

theorem tKd_le {L : Nat} {x : Nat → Nat} {st : Nat} : tKd L x st ≤ 6 := by
  unfold tKd
  repeat (split <;> try decide)

set_option maxHeartbeats 4000000 in
set_option maxRecDepth 100000 in
theorem w_isWord {l : zL} {d kc ks n : Nat} {h : Nat → va_E} {cm : Value} {o u : Nat → Nat → Int32} {s : Nat → Nat → Int32} {a : Nat → Nat → Nat → Int32} {L : Nat} {x : Nat → Nat} {st w : Nat} {Q : zQ} (hn : 89 ≤ n) (hL : L ≤ 600) (h11 : o 1 1 = nI L) (hu : ∀ i, i < L → u 0 i = nI (x i)) (hx : ∀ i, x i < 256) (hw : w < 12) (h12 : o 1 2 = nI (tE L x st)) (h13 : o 1 3 = nI st) (h14 : o 1 4 = nI (tKd L x st)) (hst : st ≤ L) (hq : Q (.inl (some (.int (bI (wIs L x st w = true))))) n (gW h cm o u s a)) : Zj l mX3_isWord (d + 4) kc ks 0 [(0, .ref 1), (1, .ref ((zB + 14 + w)))] [] n (gW h cm o u s a) Q := by
  have hwl := wd_len w hw
  have hte := tE_le' (L := L) (x := x) hst
  refine z_aload_n (j := 0) dX3_isWord_0 rfl ?_
  refine z_get (v := .int (o 1 4)) (by omega) gW_1 fX3_33 rfl dX3_isWord_1 ?_
  refine z_iconst (v := 1) dX3_isWord_4 (by decide) ?_
  rw [show (o 1 4) = nI (tKd L x st) from h14]
  refine z_icmp_ne (tgt := 24) dX3_isWord_5 (by decide) (fun czq5 => ?_) (fun czq5 => ?_)
  · refine z_iconst (v := 0) dX3_isWord_24 (by decide) ?_
    exact z_zret rfl rfl dX3_isWord_25 (by
        rw [bI_f (fun z => by
          simp only [wIs, Bool.and_eq_true, decide_eq_true_eq] at z
          exact czq5 (by rw [z.1]; rfl))] at hq
        exact hq)
  · refine z_aload_n (j := 0) dX3_isWord_8 rfl ?_
    refine z_get (v := .int (o 1 2)) (by omega) gW_1 fX3_19 rfl dX3_isWord_9 ?_
    refine z_aload_n (j := 0) dX3_isWord_12 rfl ?_
    refine z_get (v := .int (o 1 3)) (by omega) gW_1 fX3_30 rfl dX3_isWord_13 ?_
    refine z_isub dX3_isWord_16 ?_
    refine z_aload_n (j := 1) dX3_isWord_17 rfl ?_
    refine z_kVC [] 0 0 kc ks yoJ0_length_8abf5 yvJ0_length_8abf5 rfl (by decide) lX3_48 (kS_O w hw) rfl (Nat.le_of_ble_eq_true rfl) (Nat.le_of_ble_eq_true rfl) dX3_isWord_18 (by omega) (by omega) (z_room (by omega) (Nat.le_refl _) (Nat.le_refl _) (w_strlen (d := 0) hw ⟨rfl, ?_⟩))
    rw [show ((o 1 2) - (o 1 3)) = nI (tE L x st - st) from by rw [h12, h13, pk_sub hte.1]]
    refine z_icmp_eq (tgt := 26) dX3_isWord_21 (by decide) (fun czq21 => ?_) (fun czq21 => ?_)
    · refine z_iconst (v := 0) dX3_isWord_26 (by decide) ?_
      refine z_istore_n [1, 2, 0] [(0, .ref 1), (1, .ref ((zB + 14 + w))), (2, .int 0)] dX3_isWord_27 (by decide) rfl ?_
      have hk : tKd L x st = 1 := (nI_eq (b := 1) (by have := tKd_le (L := L) (x := x) (st := st); omega) (by decide)).mp czq5
      have hln : tE L x st - st = (wd w).length := (nI_eq (by omega) (by omega)).mp czq21
      have hstL := tKd_lt (L := L) (x := x) (st := st) (by rw [hk]; decide)
      have hwis : wIs L x st w = true ↔ ∀ j, j < (wd w).length → x (st + j) = wc w j := by
        simp only [wIs, Bool.and_eq_true, decide_eq_true_eq]
        rw [hln]
        exact ⟨fun z => sg_is.mp z.2, fun z => ⟨hk, sg_is.mpr z⟩⟩
      refine w_isWord_l hn hL h11 hu hx hw h13 (by omega) (fun z => ?_) (fun z => ?_) (wd w).length 0 (by omega) (fun j hj => absurd hj (Nat.not_lt_zero j))
      · rw [bI_t (hwis.mpr z)] at hq
        exact hq
      · rw [bI_f (fun q => z (hwis.mp q))] at hq
        exact hq
    · refine z_iconst (v := 0) dX3_isWord_24 (by decide) ?_
      exact z_zret rfl rfl dX3_isWord_25 (by
          rw [bI_f (fun z => by
            simp only [wIs, Bool.and_eq_true, decide_eq_true_eq] at z
            refine czq21 ?_
            have h9 := congrArg List.length z.2
            rw [show (sg x st (tE L x st - st)).length = tE L x st - st from by simp [sg]] at h9
            rw [h9])] at hq
          exact hq)
