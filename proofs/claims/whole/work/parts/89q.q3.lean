/-! THE REFERENCE'S READER: what is asked of a token -/
theorem mkd_inj : ∀ a, a ≤ 6 → ∀ b, b ≤ 6 → mkd a = mkd b → a = b := by decide
theorem mkd_le : ∀ a, a ≤ 6 → mkd a ≤ 6 := by decide
/-- an error was found: k at off; all but the reader's own and the numbers is kept -/
def mer (s s' : Nat → Int32) (k off : Nat) : Prop := s' 16 = nI k ∧ s' 17 = nI off ∧ (∀ q, q ≠ 16 → q ≠ 17 → q ≠ 21 → q ≠ 22 → q ≠ 23 → q ≠ 24 → q ≠ 25 → q ≠ 10 → s' q = s q) ∧ s' 16 ≠ 0

set_option maxHeartbeats 4000000 in
set_option maxRecDepth 100000 in
theorem m_fail {l : zL} {d kc ks n b : Nat} {h : Nat → va_E} {s : Nat → Int32} {a : Nat → Nat → Int32} {k st : Nat} {Q : zQ} (hb : b + 14 ≤ n) (h16 : s 16 = 0) (h22 : s 22 = nI st) (hk0 : nI k ≠ 0) (hq : ∀ s', mer s s' k st → Q (.inl (some (.int 0))) n (mW h b s' a)) : Zj l mX8_fail d kc ks 0 [(0, .ref b), (1, .int ((nI k)))] [] n (mW h b s a) Q := by
  refine z_aload_n (j := 0) dX8_fail_0 rfl ?_
  refine z_get (v := .int (s 16)) (by omega) mW_obj fX8_179 rfl dX8_fail_1 ?_
  refine z_if_ne (tgt := 20) dX8_fail_4 (by decide) (fun czq4 => absurd czq4 (fun z => z h16)) (fun czq4 => ?_)
  refine z_aload_n (j := 0) dX8_fail_7 rfl ?_
  refine z_iload_n (j := 1) dX8_fail_8 rfl ?_
  refine m_put (k := 16) (by omega) fX8_179 (by unfold mS; omega) (by decide) dX8_fail_9 ?_
  refine z_aload_n (j := 0) dX8_fail_12 rfl ?_
  refine z_aload_n (j := 0) dX8_fail_13 rfl ?_
  refine z_get (v := .int (s 22)) (by omega) mW_obj fX8_167 rfl dX8_fail_14 ?_
  refine m_put (k := 17) (by omega) fX8_43 (by unfold mS; omega) (by decide) dX8_fail_17 ?_
  refine z_iconst (v := 0) dX8_fail_20 (by decide) ?_
  exact z_zret rfl rfl dX8_fail_21 (hq _ ⟨by rw [up_ne (by decide), up_eq], by rw [up_eq]; first | exact h22 | (rw [up_ne (by decide)]; exact h22), fun q q1 q2 q3 q4 q5 q6 q7 q8 => by rw [up_ne q2, up_ne q1], by rw [up_ne (by decide), up_eq]; exact hk0⟩)

set_option maxHeartbeats 4000000 in
set_option maxRecDepth 100000 in
theorem m_is {l : zL} {d kc ks n b : Nat} {h : Nat → va_E} {s : Nat → Int32} {a : Nat → Nat → Int32} {k kd st : Nat} {Q : zQ} (hb : b + 14 ≤ n) (h16 : s 16 = 0) (h22 : s 22 = nI st) (h21 : s 21 = nI (mkd kd)) (hkd : kd ≤ 6) (hk : k ≤ 6) (hqY : kd = k → Q (.inl (some (.int 1))) n (mW h b s a)) (hqN : ¬ kd = k → ∀ s', mer s s' 1 st → Q (.inl (some (.int 0))) n (mW h b s' a)) : Zj l mX8_is (d + 1) kc ks 0 [(0, .ref b), (1, .int ((nI (mkd k))))] [] n (mW h b s a) Q := by
  refine z_aload_n (j := 0) dX8_is_0 rfl ?_
  refine z_get (v := .int (s 21)) (by omega) mW_obj fX8_170 rfl dX8_is_1 ?_
  refine z_iload_n (j := 1) dX8_is_4 rfl ?_
  rw [show (s 21) = (nI (mkd kd)) from h21]
  refine z_icmp_eq (tgt := 16) dX8_is_5 (by decide) (fun czq5 => ?_) (fun czq5 => ?_)
  · refine z_iconst (v := 1) dX8_is_16 (by decide) ?_
    refine z_goto (tgt := 21) dX8_is_17 (by decide) ?_
    exact z_zret rfl rfl dX8_is_21 (hqY (mkd_inj kd hkd k hk ((nI_eq (by have := mkd_le kd hkd; omega) (by have := mkd_le k hk; omega)).mp czq5)))
  · refine z_aload_n (j := 0) dX8_is_8 rfl ?_
    refine z_iconst (v := 1) dX8_is_9 (by decide) ?_
    skip
    refine z_kV [.int ((nI 1))] 0 0 kc ks yoX8_fail yvX8_fail rfl (by decide) lX8_182 (by omega) mW_obj rfl rfl (Nat.le_of_ble_eq_true rfl) (Nat.le_of_ble_eq_true rfl) dX8_is_10 (by omega) (by omega) (z_room (by omega) (Nat.le_refl _) (Nat.le_refl _) (m_fail (d := 0) (k := 1) hb h16 h22 (by decide) (fun s1 he => ⟨rfl, ?_⟩)))
    refine z_if_eq (tgt := 20) dX8_is_13 (by decide) (fun czq13 => ?_) (fun czq13 => absurd rfl czq13)
    refine z_iconst (v := 0) dX8_is_20 (by decide) ?_
    exact z_zret rfl rfl dX8_is_21 (hqN (fun e => czq5 (by rw [e])) s1 he)

set_option maxHeartbeats 4000000 in
set_option maxRecDepth 100000 in
theorem m_says_l {l : zL} {d kc ks n b : Nat} {h : Nat → va_E} {a : Nat → Nat → Int32} {L : Nat} {x : Nat → Nat} {st w : Nat} {Q : zQ} {s : Nat → Int32} (hb : b + 14 ≤ n) (hL : L ≤ 600) (hu : ∀ i, i < L → a 10 i = nI (x i)) (hx : ∀ i, x i < 256) (hw : w < 12) (h22 : s 22 = nI st) (hst : st + (wd w).length ≤ L) (hyes : (∀ j, j < (wd w).length → x (st + j) = wc w j) → Q (.inl (some (.int 1))) n (mW h b s a)) (hno : ¬ (∀ j, j < (wd w).length → x (st + j) = wc w j) → Q (.inl (some (.int 0))) n (mW h b s a)) : ∀ m i, i + m = (wd w).length → (∀ j, j < i → x (st + j) = wc w j) → Zj l mX8_says (d + 4) kc ks 28 [(0, .ref b), (1, .ref ((zB + 27 + w))), (2, .int ((nI i)))] [] n (mW h b s a) Q := by
  have hwl := wd_len w hw
  intro m
  induction m with
  | zero =>
    intro i hi hd
    refine z_iload_n (j := 2) dX8_says_28 rfl ?_
    refine z_aload_n (j := 1) dX8_says_29 rfl ?_
    refine z_kVC [] 0 0 kc ks yoJ0_length_8abf5 yvJ0_length_8abf5 rfl (by decide) lX8_152 (kS_Om w hw) rfl (Nat.le_of_ble_eq_true rfl) (Nat.le_of_ble_eq_true rfl) dX8_says_30 (by omega) (by omega) (z_room (by omega) (Nat.le_refl _) (Nat.le_refl _) (w_strlenm (d := 0) hw ⟨rfl, ?_⟩))
    refine z_icmp_ge (tgt := 63) dX8_says_33 (by decide) (fun czq33 => ?_) (fun czq33 => absurd (nI_le (by omega) (by omega)) czq33)
    refine z_iconst (v := 1) dX8_says_63 (by decide) ?_
    exact z_zret rfl rfl dX8_says_64 (hyes (fun j hj => hd j (by omega)))
  | succ m ih =>
    intro i hi hd
    refine z_iload_n (j := 2) dX8_says_28 rfl ?_
    refine z_aload_n (j := 1) dX8_says_29 rfl ?_
    refine z_kVC [] 0 0 kc ks yoJ0_length_8abf5 yvJ0_length_8abf5 rfl (by decide) lX8_152 (kS_Om w hw) rfl (Nat.le_of_ble_eq_true rfl) (Nat.le_of_ble_eq_true rfl) dX8_says_30 (by omega) (by omega) (z_room (by omega) (Nat.le_refl _) (Nat.le_refl _) (w_strlenm (d := 0) hw ⟨rfl, ?_⟩))
    refine z_icmp_ge (tgt := 63) dX8_says_33 (by decide) (fun czq33 => absurd czq33 (nI_ge (by omega) (by omega))) (fun czq33 => ?_)
    refine z_aload_n (j := 0) dX8_says_36 rfl ?_
    refine z_get (v := .ref (b + 11)) (by omega) mW_obj fX8_40 rfl dX8_says_37 ?_
    refine z_aload_n (j := 0) dX8_says_40 rfl ?_
    refine z_get (v := .int (s 22)) (by omega) mW_obj fX8_167 rfl dX8_says_41 ?_
    refine z_iload_n (j := 2) dX8_says_44 rfl ?_
    refine z_iadd dX8_says_45 ?_
    rw [show ((s 22) + (nI i)) = (nI (st + i)) from by rw [h22, nI_add]]
    refine m_aldN 10 600 (st + i) (by decide) rfl rfl hb rfl (by omega) (by decide) dX8_says_46 ?_
    rw [show (a 10 (st + i)) = (nI (x (st + i))) from hu (st + i) (by omega)]
    refine z_aload_n (j := 1) dX8_says_47 rfl ?_
    refine z_iload_n (j := 2) dX8_says_48 rfl ?_
    refine z_kVC [.int ((nI i))] 0 0 kc ks yoJ0_charAt_5068e yvJ0_charAt_5068e rfl (by decide) lX8_160 (kS_Om w hw) rfl (Nat.le_of_ble_eq_true rfl) (Nat.le_of_ble_eq_true rfl) dX8_says_49 (by omega) (by omega) (z_room (by omega) (Nat.le_refl _) (Nat.le_refl _) (w_charAtm (d := 0) hw (by omega) ⟨rfl, ?_⟩))
    refine z_icmp_eq (tgt := 57) dX8_says_52 (by decide) (fun czq52 => ?_) (fun czq52 => ?_)
    · skip
      refine z_iinc ((nI (i + 1))) [1, 2, 0] [(0, .ref b), (1, .ref ((zB + 27 + w))), (2, .int ((nI (i + 1))))] dX8_says_57 (j := 2) rfl (nI_1 i) (by decide) rfl ?_
      refine z_goto (tgt := 28) dX8_says_60 (by decide) ?_
      have h256 := hx (st + i)
      have hc256 := wc_256 w hw i (by omega)
      refine ih (i + 1) (by omega) (fun j hj => ?_)
      by_cases hji : j = i
      · rw [hji]; exact (nI_eq (by omega) (by omega)).mp czq52
      · exact hd j (by omega)
    · refine z_iconst (v := 0) dX8_says_55 (by decide) ?_
      exact z_zret rfl rfl dX8_says_56 (by
          have h256 := hx (st + i)
          have hc256 := wc_256 w hw i (by omega)
          refine hno (fun z => czq52 ?_)
          rw [z i (by omega)])

set_option maxHeartbeats 4000000 in
set_option maxRecDepth 100000 in
theorem m_says {l : zL} {d kc ks n b : Nat} {h : Nat → va_E} {a : Nat → Nat → Int32} {L : Nat} {x : Nat → Nat} {st w : Nat} {Q : zQ} {s : Nat → Int32} (hb : b + 14 ≤ n) (hL : L ≤ 600) (hu : ∀ i, i < L → a 10 i = nI (x i)) (hx : ∀ i, x i < 256) (hw : w < 12) (h23 : s 23 = nI (tE L x st)) (h22 : s 22 = nI st) (h21 : s 21 = nI (mkd (tKd L x st))) (hst : st ≤ L) (hq : Q (.inl (some (.int (bI (wIs L x st w = true))))) n (mW h b s a)) : Zj l mX8_says (d + 4) kc ks 0 [(0, .ref b), (1, .ref ((zB + 27 + w)))] [] n (mW h b s a) Q := by
  have hwl := wd_len w hw
  have hte := tE_le' (L := L) (x := x) hst
  refine z_aload_n (j := 0) dX8_says_0 rfl ?_
  refine z_get (v := .int (s 21)) (by omega) mW_obj fX8_170 rfl dX8_says_1 ?_
  refine z_iconst (v := 2) dX8_says_4 (by decide) ?_
  rw [show (s 21) = (nI (mkd (tKd L x st))) from h21]
  refine z_icmp_ne (tgt := 24) dX8_says_5 (by decide) (fun czq5 => ?_) (fun czq5 => ?_)
  · refine z_iconst (v := 0) dX8_says_24 (by decide) ?_
    exact z_zret rfl rfl dX8_says_25 (by
        rw [bI_f (fun z => by
          simp only [wIs, Bool.and_eq_true, decide_eq_true_eq] at z
          exact czq5 (by rw [z.1]; rfl))] at hq
        exact hq)
  · refine z_aload_n (j := 0) dX8_says_8 rfl ?_
    refine z_get (v := .int (s 23)) (by omega) mW_obj fX8_164 rfl dX8_says_9 ?_
    refine z_aload_n (j := 0) dX8_says_12 rfl ?_
    refine z_get (v := .int (s 22)) (by omega) mW_obj fX8_167 rfl dX8_says_13 ?_
    refine z_isub dX8_says_16 ?_
    refine z_aload_n (j := 1) dX8_says_17 rfl ?_
    refine z_kVC [] 0 0 kc ks yoJ0_length_8abf5 yvJ0_length_8abf5 rfl (by decide) lX8_152 (kS_Om w hw) rfl (Nat.le_of_ble_eq_true rfl) (Nat.le_of_ble_eq_true rfl) dX8_says_18 (by omega) (by omega) (z_room (by omega) (Nat.le_refl _) (Nat.le_refl _) (w_strlenm (d := 0) hw ⟨rfl, ?_⟩))
    rw [show ((s 23) - (s 22)) = nI (tE L x st - st) from by rw [h23, h22, pk_sub hte.1]]
    refine z_icmp_eq (tgt := 26) dX8_says_21 (by decide) (fun czq21 => ?_) (fun czq21 => ?_)
    · refine z_iconst (v := 0) dX8_says_26 (by decide) ?_
      refine z_istore_n [1, 2, 0] [(0, .ref b), (1, .ref ((zB + 27 + w))), (2, .int 0)] dX8_says_27 (by decide) rfl ?_
      have hk : tKd L x st = 1 := mkd_inj _ (tKd_le (L := L) (x := x) (st := st)) 1 (by decide) ((nI_eq (b := 2) (by have := mkd_le _ (tKd_le (L := L) (x := x) (st := st)); omega) (by decide)).mp czq5)
      have hln : tE L x st - st = (wd w).length := (nI_eq (by omega) (by omega)).mp czq21
      have hstL := tKd_lt (L := L) (x := x) (st := st) (by rw [hk]; decide)
      have hwis : wIs L x st w = true ↔ ∀ j, j < (wd w).length → x (st + j) = wc w j := by
        simp only [wIs, Bool.and_eq_true, decide_eq_true_eq]
        rw [hln]
        exact ⟨fun z => sg_is.mp z.2, fun z => ⟨hk, sg_is.mpr z⟩⟩
      refine m_says_l hb hL hu hx hw h22 (by omega) (fun z => ?_) (fun z => ?_) (wd w).length 0 (by omega) (fun j hj => absurd hj (Nat.not_lt_zero j))
      · rw [bI_t (hwis.mpr z)] at hq
        exact hq
      · rw [bI_f (fun q => z (hwis.mp q))] at hq
        exact hq
    · refine z_iconst (v := 0) dX8_says_24 (by decide) ?_
      exact z_zret rfl rfl dX8_says_25 (by
          rw [bI_f (fun z => by
            simp only [wIs, Bool.and_eq_true, decide_eq_true_eq] at z
            refine czq21 ?_
            have h9 := congrArg List.length z.2
            rw [show (sg x st (tE L x st - st)).length = tE L x st - st from by simp [sg]] at h9
            rw [h9])] at hq
          exact hq)
