/-! THE CLASS'S SCRIPT: the opening -/
theorem iO_oIn {a b v : Nat} (ha : a < 2 ^ 31) (hb : b < 2 ^ 31) (hv : v < 2 ^ 31) : iO (nI a) (nI b) (nI v) = oIn a b v := by
  unfold iO oIn
  rw [decide_eq_decide.mpr (nI_leI ha hv), decide_eq_decide.mpr (nI_leI hv hb)]
theorem rdN_1 {L : Nat} {x : Nat → Nat} {ok : Nat → Bool} {p : Nat} (h : ¬ tKd L x (tS L x p) = 2) : rdN L x ok p = .inl (1, tS L x p) := by unfold rdN; rw [if_neg h]
theorem rdN_2 {L : Nat} {x : Nat → Nat} {ok : Nat → Bool} {p : Nat} (h : tKd L x (tS L x p) = 2) (h2 : ¬ ok (tV L x (tS L x p)) = true) : rdN L x ok p = .inl (2, tS L x p) := by unfold rdN; rw [if_pos h, if_neg h2]
theorem rdN_3 {L : Nat} {x : Nat → Nat} {ok : Nat → Bool} {p : Nat} (h : tKd L x (tS L x p) = 2) (h2 : ok (tV L x (tS L x p)) = true) : rdN L x ok p = .inr (tV L x (tS L x p), nx L x p) := by unfold rdN; rw [if_pos h, if_pos h2]; rfl
theorem rdT_1 {L : Nat} {x : Nat → Nat} {k p : Nat} (h : ¬ tKd L x (tS L x p) = k) : rdT L x k p = .inl (1, tS L x p) := by unfold rdT; rw [if_neg h]
theorem rdT_2 {L : Nat} {x : Nat → Nat} {k p : Nat} (h : tKd L x (tS L x p) = k) : rdT L x k p = .inr (nx L x p) := by unfold rdT; rw [if_pos h]; rfl
/-- the opening of a script -/
def opn (L : Nat) (x : Nat → Nat) (st : Nat) : zE2 ⊕ (Nat × Nat × Nat × Nat) := if wIs L x st 11 = true then (match rdN L x oB (tE L x st) with
  | .inl e => .inl e
  | .inr (B, p1) => match rdN L x (oIn 2 6) p1 with
    | .inl e => .inl e
    | .inr (H, p2) => match rdN L x (oIn 1 99) p2 with
      | .inl e => .inl e
      | .inr (T, p3) => match rdT L x 5 p3 with
        | .inl e => .inl e
        | .inr p4 => .inr (p4, B, H, T)) else .inl (1, st)
theorem oB_ok {v : Nat} (h : oB v = true) : okB v := by
  simp only [oB, Bool.or_eq_true, decide_eq_true_eq] at h
  rcases h with ((h | h) | h) | h
  · exact Or.inl h
  · exact Or.inr (Or.inl h)
  · exact Or.inr (Or.inr (Or.inl h))
  · exact Or.inr (Or.inr (Or.inr h))

set_option maxHeartbeats 4000000 in
set_option maxRecDepth 100000 in
theorem w_isBN {l : zL} {d kc ks n v : Nat} {h : Nat → va_E} {Q : zQ} (hv : v ≤ 9999) (hq : Q (.inl (some (.int (bI (oB v = true))))) n h) : Zj l mX7_isBucketNumber d kc ks 0 [(0, .int ((nI v)))] [] n h Q := by
  refine z_iload_n (j := 0) dX7_isBucketNumber_0 rfl ?_
  refine z_bipush (v := 8) dX7_isBucketNumber_1 (by decide) ?_
  refine z_icmp_eq (tgt := 24) dX7_isBucketNumber_3 (by decide) (fun czq3 => ?_) (fun czq3 => ?_)
  · refine z_iconst (v := 1) dX7_isBucketNumber_24 (by decide) ?_
    refine z_goto (tgt := 29) dX7_isBucketNumber_25 (by decide) ?_
    exact z_zret rfl rfl dX7_isBucketNumber_29 (by
        rw [bI_t (by simp only [oB, Bool.or_eq_true, decide_eq_true_eq]; exact (Or.inl (Or.inl (Or.inl ((nI_eq (b := 8) (by omega) (by decide)).mp czq3)))))] at hq
        exact hq)
  · refine z_iload_n (j := 0) dX7_isBucketNumber_6 rfl ?_
    refine z_bipush (v := 16) dX7_isBucketNumber_7 (by decide) ?_
    refine z_icmp_eq (tgt := 24) dX7_isBucketNumber_9 (by decide) (fun czq9 => ?_) (fun czq9 => ?_)
    · refine z_iconst (v := 1) dX7_isBucketNumber_24 (by decide) ?_
      refine z_goto (tgt := 29) dX7_isBucketNumber_25 (by decide) ?_
      exact z_zret rfl rfl dX7_isBucketNumber_29 (by
          rw [bI_t (by simp only [oB, Bool.or_eq_true, decide_eq_true_eq]; exact (Or.inl (Or.inl (Or.inr ((nI_eq (b := 16) (by omega) (by decide)).mp czq9)))))] at hq
          exact hq)
    · refine z_iload_n (j := 0) dX7_isBucketNumber_12 rfl ?_
      refine z_bipush (v := 32) dX7_isBucketNumber_13 (by decide) ?_
      refine z_icmp_eq (tgt := 24) dX7_isBucketNumber_15 (by decide) (fun czq15 => ?_) (fun czq15 => ?_)
      · refine z_iconst (v := 1) dX7_isBucketNumber_24 (by decide) ?_
        refine z_goto (tgt := 29) dX7_isBucketNumber_25 (by decide) ?_
        exact z_zret rfl rfl dX7_isBucketNumber_29 (by
            rw [bI_t (by simp only [oB, Bool.or_eq_true, decide_eq_true_eq]; exact (Or.inl (Or.inr ((nI_eq (b := 32) (by omega) (by decide)).mp czq15))))] at hq
            exact hq)
      · refine z_iload_n (j := 0) dX7_isBucketNumber_18 rfl ?_
        refine z_bipush (v := 64) dX7_isBucketNumber_19 (by decide) ?_
        refine z_icmp_ne (tgt := 28) dX7_isBucketNumber_21 (by decide) (fun czq21 => ?_) (fun czq21 => ?_)
        · refine z_iconst (v := 0) dX7_isBucketNumber_28 (by decide) ?_
          exact z_zret rfl rfl dX7_isBucketNumber_29 (by
              rw [bI_f (fun z => by
                simp only [oB, Bool.or_eq_true, decide_eq_true_eq] at z
                exact z.elim (fun z => z.elim (fun z => z.elim (fun z => czq3 (by rw [z]; rfl)) (fun z => czq9 (by rw [z]; rfl))) (fun z => czq15 (by rw [z]; rfl))) (fun z => czq21 (by rw [z]; rfl)))] at hq
              exact hq)
        · refine z_iconst (v := 1) dX7_isBucketNumber_24 (by decide) ?_
          refine z_goto (tgt := 29) dX7_isBucketNumber_25 (by decide) ?_
          exact z_zret rfl rfl dX7_isBucketNumber_29 (by
              rw [bI_t (by simp only [oB, Bool.or_eq_true, decide_eq_true_eq]; exact (Or.inr ((nI_eq (b := 64) (by omega) (by decide)).mp czq21)))] at hq
              exact hq)

theorem w_fitsO0 {l : zL} {d kc ks n v : Nat} {h : Nat → va_E} {Q : zQ} (hv : v ≤ 9999) (hq : Q (.inl (some (.int (bI (oB v = true))))) n h) : Zj l mX5_fitsOpening (d + 1) kc ks 0 [(0, .int 0), (1, .int (nI v))] [] n h Q := by
  refine z_iload_n (j := 0) dX5_fitsOpening_0 rfl ?_
  refine z_lookup 27 28 dX5_fitsOpening_1 (by decide) (by decide) (by decide) ?_
  refine z_iload_n (j := 1) dX5_fitsOpening_28 rfl ?_
  refine z_kSN (As := [.int (nI v)]) (host := "NeighbourHash") (.int (bI (oB v = true))) yoX7_isBucketNumber ysX7_isBucketNumber rfl (by decide) (List.mem_of_getElem? (i := 2) rfl) rfl (Nat.le_of_ble_eq_true rfl) (Nat.le_of_ble_eq_true rfl) dX5_fitsOpening_29 (z_room (by omega) (Nat.le_refl _) (Nat.le_refl _) (w_isBN (d := 0) hv ⟨rfl, rfl, rfl⟩)) ?_
  exact z_zret rfl (by unfold bI; split <;> rfl) dX5_fitsOpening_32 hq

theorem w_fitsO1 {l : zL} {d kc ks n v : Nat} {h : Nat → va_E} {Q : zQ} (hv : v ≤ 9999) (hq : Q (.inl (some (.int (bI ((oIn 2 6) v = true))))) n h) : Zj l mX5_fitsOpening (d + 1) kc ks 0 [(0, .int 1), (1, .int (nI v))] [] n h Q := by
  refine z_iload_n (j := 0) dX5_fitsOpening_0 rfl ?_
  refine z_lookup 32 33 dX5_fitsOpening_1 (by decide) (by decide) (by decide) ?_
  refine z_iload_n (j := 1) dX5_fitsOpening_33 rfl ?_
  refine z_kSN (As := [.int (nI v)]) (host := "NeighbourHash") (.int (bI (iO 2 6 (nI v) = true))) yoX7_isNear ysX7_isNear rfl (by decide) (List.mem_of_getElem? (i := 3) rfl) rfl (Nat.le_of_ble_eq_true rfl) (Nat.le_of_ble_eq_true rfl) dX5_fitsOpening_34 (z_room (by omega) (Nat.le_refl _) (Nat.le_refl _) (w_isNear (d := 0) ⟨rfl, rfl, rfl⟩)) ?_
  exact z_zret rfl (by unfold bI; split <;> rfl) dX5_fitsOpening_37 (by
    rw [show iO 2 6 (nI v) = oIn 2 6 v from iO_oIn (by decide) (by decide) (by omega)]
    exact hq)

theorem w_fitsO2 {l : zL} {d kc ks n v : Nat} {h : Nat → va_E} {Q : zQ} (hv : v ≤ 9999) (hq : Q (.inl (some (.int (bI ((oIn 1 99) v = true))))) n h) : Zj l mX5_fitsOpening (d + 1) kc ks 0 [(0, .int 2), (1, .int (nI v))] [] n h Q := by
  refine z_iload_n (j := 0) dX5_fitsOpening_0 rfl ?_
  refine z_lookup 37 38 dX5_fitsOpening_1 (by decide) (by decide) (by decide) ?_
  refine z_iload_n (j := 1) dX5_fitsOpening_38 rfl ?_
  refine z_kSN (As := [.int (nI v)]) (host := "NeighbourHash") (.int (bI (iO 1 99 (nI v) = true))) yoX7_isTimes ysX7_isTimes rfl (by decide) (List.mem_of_getElem? (i := 4) rfl) rfl (Nat.le_of_ble_eq_true rfl) (Nat.le_of_ble_eq_true rfl) dX5_fitsOpening_39 (z_room (by omega) (Nat.le_refl _) (Nat.le_refl _) (w_isTimes (d := 0) ⟨rfl, rfl, rfl⟩)) ?_
  exact z_zret rfl (by unfold bI; split <;> rfl) dX5_fitsOpening_42 (by
    rw [show iO 1 99 (nI v) = oIn 1 99 v from iO_oIn (by decide) (by decide) (by omega)]
    exact hq)

set_option maxHeartbeats 4000000 in
set_option maxRecDepth 100000 in
theorem w_readOpening {l : zL} {d kc ks n : Nat} {h : Nat → va_E} {cm : Value} {o u : Nat → Nat → Int32} {s : Nat → Nat → Int32} {a : Nat → Nat → Nat → Int32} {L : Nat} {x : Nat → Nat} {st : Nat} {Q : zQ} (hn : 89 ≤ n) (hL : L ≤ 600) (h11 : o 1 1 = nI L) (hu : ∀ i, i < L → u 0 i = nI (x i)) (hx : ∀ i, x i < 256) (hst : st ≤ L) (h12 : o 1 2 = nI (tE L x st)) (h13 : o 1 3 = nI st) (h14 : o 1 4 = nI (tKd L x st)) (h10 : o 2 10 = 0) (hqY : ∀ p B H T, opn L x st = .inr (p, B, H, T) → ∀ o' u' s' a', o' 1 2 = nI p → o' 2 8 = 1 → (∀ c, c ≠ 1 → c ≠ 2 → o' c = o c) → o' 1 1 = nI L → (∀ j, j ≠ 8 → o' 2 j = o 2 j) → (∀ j, j ≠ 1 → u' j = u j) → cT (sNew B H T) (s' 0) (a' 0) → (∀ t, t ≠ 0 → s' t = s t) → (∀ t, t ≠ 0 → a' t = a t) → Q (.inl none) n (gW h cm o' u' s' a')) (hqN : ∀ k off, opn L x st = .inl (k, off) → (k ≠ 0 ∧ k < 10) → ∀ o' u', u' 4 = u 4 → er o o' k off → Q (.inl none) n (gW h cm o' u' s a)) : Zj l mX5_readOpening (d + 5) kc ks 0 [(0, .ref 3)] [] n (gW h cm o u s a) Q := by
  refine z_aload_n (j := 0) dX5_readOpening_0 rfl ?_
  refine z_get (v := .ref 1) (by omega) gW_3 fX5_32 rfl dX5_readOpening_1 ?_
  refine z_ldcS (tx := "table") (a := zB + 14 + 11) (by decide +kernel) dX5_readOpening_4 ?_
  refine z_kV [.ref ((zB + 14 + 11))] 0 0 kc ks yoX3_isWord yvX3_isWord rfl (by decide) lX5_75 (by omega) gW_1 rfl rfl (Nat.le_of_ble_eq_true rfl) (Nat.le_of_ble_eq_true rfl) dX5_readOpening_6 (by omega) (by omega) (z_room (by omega) (Nat.le_refl _) (Nat.le_refl _) (w_isWord (d := 0) (w := 11) hn hL h11 hu hx (by decide) h12 h13 h14 hst ⟨rfl, ?_⟩))
  refine z_if_ne (tgt := 18) dX5_readOpening_9 (by decide) (fun czq9 => ?_) (fun czq9 => ?_)
  · refine z_iconst (v := 0) dX5_readOpening_18 (by decide) ?_
    refine z_istore_n [1, 0] [(0, .ref 3), (1, .int 0)] dX5_readOpening_19 (by decide) rfl ?_
    refine z_iload_n (j := 1) dX5_readOpening_20 rfl ?_
    refine z_iconst (v := 3) dX5_readOpening_21 (by decide) ?_
    refine z_icmp_ge (tgt := 73) dX5_readOpening_22 (by decide) (fun czq22 => absurd czq22 (by decide)) (fun czq22 => ?_)
    refine z_aload_n (j := 0) dX5_readOpening_25 rfl ?_
    refine z_get (v := .int (o 2 10)) (by omega) gW_3 fX5_54 rfl dX5_readOpening_26 ?_
    refine z_if_ne (tgt := 73) dX5_readOpening_29 (by decide) (fun czq29 => absurd czq29 (fun z => z h10)) (fun czq29 => ?_)
    refine z_aload_n (j := 0) dX5_readOpening_32 rfl ?_
    refine z_get (v := .ref 10) (by omega) gW_3 fX5_18 rfl dX5_readOpening_33 ?_
    refine z_iload_n (j := 1) dX5_readOpening_36 rfl ?_
    refine z_aload_n (j := 0) dX5_readOpening_37 rfl ?_
    refine z_kV [] 0 0 kc ks yoX5_readNumber yvX5_readNumber rfl (by decide) lX5_142 (by omega) gW_3 rfl rfl (Nat.le_of_ble_eq_true rfl) (Nat.le_of_ble_eq_true rfl) dX5_readOpening_38 (by omega) (by omega) (z_room (by omega) (Nat.le_refl _) (Nat.le_refl _) (w_readNumber (d := 0) hn hL h11 hu hx ((tE_le' hst).2) h12 h10 (fun hk0 o0 q2_0 q3_0 hf0 => ⟨rfl, ?_⟩) (fun hk0 o0 he0 => ⟨rfl, ?_⟩)))
    · have h11_0 : o0 1 1 = nI L := (hf0.2 1 (by decide)).trans h11
      have h10_0 : o0 2 10 = 0 := by rw [hf0.1 2 (by decide)]; exact h10
      have hfc_0 : fp (fun j => 2 ≤ j) o o0 := fp.rf.tr hf0
      have hV0 := tV_lt hk0
      refine g_ast 1 (by decide) rfl (by omega) (show vp_in (nI 0) 3 from vp_in_nI (by decide) (by decide)) dX5_readOpening_41 ?_
      obtain ⟨u0, eu0⟩ : ∃ u0, u0 = (va_up u 1 (va_up (u 1) (0 : Int32).toNatClampNeg (nI (tV L x (tS L x (tE L x st)))))) := ⟨_, rfl⟩
      rw [← eu0]
      have hu0 : ∀ i, i < L → u0 0 i = nI (x i) := fun i hi => by rw [eu0, up_ne (by decide)]; exact hu i hi
      have hv0_0 : u0 1 0 = (nI (tV L x (tS L x (tE L x st)))) := by rw [eu0, up_eq]; first | done | exact up_eq
      have hw0 : ∀ j, j ≠ 1 → u0 j = u j := fun j hj => by rw [eu0, up_ne hj]; first | done | exact (show ∀ j, j ≠ 1 → u j = u j from fun _ _ => rfl) j hj
      refine z_aload_n (j := 0) dX5_readOpening_42 rfl ?_
      refine z_get (v := .int (o0 2 10)) (by omega) gW_3 fX5_54 rfl dX5_readOpening_43 ?_
      refine z_if_ne (tgt := 67) dX5_readOpening_46 (by decide) (fun czq46 => absurd czq46 (fun z => z h10_0)) (fun czq46 => ?_)
      refine z_iload_n (j := 1) dX5_readOpening_49 rfl ?_
      refine z_aload_n (j := 0) dX5_readOpening_50 rfl ?_
      refine z_get (v := .ref 10) (by omega) gW_3 fX5_18 rfl dX5_readOpening_51 ?_
      refine z_iload_n (j := 1) dX5_readOpening_54 rfl ?_
      refine g_ald 1 (by decide) rfl (by omega) (show vp_in (nI 0) 3 from vp_in_nI (by decide) (by decide)) dX5_readOpening_55 ?_
      rw [show (u0 1 (0 : Int32).toNatClampNeg) = (nI (tV L x (tS L x (tE L x st)))) from hv0_0]
      refine z_kS [.int 0, .int ((nI (tV L x (tS L x (tE L x st)))))] 0 0 kc ks yoX5_fitsOpening ysX5_fitsOpening rfl (by decide) lX5_145 rfl (Nat.le_of_ble_eq_true rfl) (Nat.le_of_ble_eq_true rfl) dX5_readOpening_56 (by omega) (by omega) (z_room (by omega) (Nat.le_refl _) (Nat.le_refl _) (w_fitsO0 (d := 0) hV0 ⟨rfl, ?_⟩))
      refine z_if_ne (tgt := 67) dX5_readOpening_59 (by decide) (fun czq59 => ?_) (fun czq59 => ?_)
      · have hok0 := bI_n.mp czq59
        skip
        refine z_iinc (1) [1, 0] [(0, .ref 3), (1, .int 1)] dX5_readOpening_67 (j := 1) rfl (by decide) (by decide) rfl ?_
        refine z_goto (tgt := 20) dX5_readOpening_70 (by decide) ?_
        refine z_iload_n (j := 1) dX5_readOpening_20 rfl ?_
        refine z_iconst (v := 3) dX5_readOpening_21 (by decide) ?_
        refine z_icmp_ge (tgt := 73) dX5_readOpening_22 (by decide) (fun czq22 => absurd czq22 (by decide)) (fun czq22 => ?_)
        refine z_aload_n (j := 0) dX5_readOpening_25 rfl ?_
        refine z_get (v := .int (o0 2 10)) (by omega) gW_3 fX5_54 rfl dX5_readOpening_26 ?_
        refine z_if_ne (tgt := 73) dX5_readOpening_29 (by decide) (fun czq29 => absurd czq29 (fun z => z h10_0)) (fun czq29 => ?_)
        refine z_aload_n (j := 0) dX5_readOpening_32 rfl ?_
        refine z_get (v := .ref 10) (by omega) gW_3 fX5_18 rfl dX5_readOpening_33 ?_
        refine z_iload_n (j := 1) dX5_readOpening_36 rfl ?_
        refine z_aload_n (j := 0) dX5_readOpening_37 rfl ?_
        refine z_kV [] 0 0 kc ks yoX5_readNumber yvX5_readNumber rfl (by decide) lX5_142 (by omega) gW_3 rfl rfl (Nat.le_of_ble_eq_true rfl) (Nat.le_of_ble_eq_true rfl) dX5_readOpening_38 (by omega) (by omega) (z_room (by omega) (Nat.le_refl _) (Nat.le_refl _) (w_readNumber (d := 0) hn hL h11_0 hu0 hx ((nx_le ((tE_le' hst).2)).2) q2_0 h10_0 (fun hk1 o1 q2_1 q3_1 hf1 => ⟨rfl, ?_⟩) (fun hk1 o1 he1 => ⟨rfl, ?_⟩)))
        · have h11_1 : o1 1 1 = nI L := (hf1.2 1 (by decide)).trans h11_0
          have h10_1 : o1 2 10 = 0 := by rw [hf1.1 2 (by decide)]; exact h10_0
          have hfc_1 : fp (fun j => 2 ≤ j) o o1 := hfc_0.tr hf1
          have hV1 := tV_lt hk1
          refine g_ast 1 (by decide) rfl (by omega) (show vp_in (nI 1) 3 from vp_in_nI (by decide) (by decide)) dX5_readOpening_41 ?_
          obtain ⟨u1, eu1⟩ : ∃ u1, u1 = (va_up u0 1 (va_up (u0 1) (1 : Int32).toNatClampNeg (nI (tV L x (tS L x (nx L x (tE L x st))))))) := ⟨_, rfl⟩
          rw [← eu1]
          have hu1 : ∀ i, i < L → u1 0 i = nI (x i) := fun i hi => by rw [eu1, up_ne (by decide)]; exact hu0 i hi
          have hv1_1 : u1 1 1 = (nI (tV L x (tS L x (nx L x (tE L x st))))) := by rw [eu1, up_eq]; first | done | exact up_eq
          have hv1_0 : u1 1 0 = (nI (tV L x (tS L x (tE L x st)))) := by rw [eu1, up_eq, up_ne (show (0 : Nat) ≠ (1 : Int32).toNatClampNeg by decide)]; exact hv0_0
          have hw1 : ∀ j, j ≠ 1 → u1 j = u j := fun j hj => by rw [eu1, up_ne hj]; first | done | exact hw0 j hj
          refine z_aload_n (j := 0) dX5_readOpening_42 rfl ?_
          refine z_get (v := .int (o1 2 10)) (by omega) gW_3 fX5_54 rfl dX5_readOpening_43 ?_
          refine z_if_ne (tgt := 67) dX5_readOpening_46 (by decide) (fun czq46 => absurd czq46 (fun z => z h10_1)) (fun czq46 => ?_)
          refine z_iload_n (j := 1) dX5_readOpening_49 rfl ?_
          refine z_aload_n (j := 0) dX5_readOpening_50 rfl ?_
          refine z_get (v := .ref 10) (by omega) gW_3 fX5_18 rfl dX5_readOpening_51 ?_
          refine z_iload_n (j := 1) dX5_readOpening_54 rfl ?_
          refine g_ald 1 (by decide) rfl (by omega) (show vp_in (nI 1) 3 from vp_in_nI (by decide) (by decide)) dX5_readOpening_55 ?_
          rw [show (u1 1 (1 : Int32).toNatClampNeg) = (nI (tV L x (tS L x (nx L x (tE L x st))))) from hv1_1]
          refine z_kS [.int 1, .int ((nI (tV L x (tS L x (nx L x (tE L x st))))))] 0 0 kc ks yoX5_fitsOpening ysX5_fitsOpening rfl (by decide) lX5_145 rfl (Nat.le_of_ble_eq_true rfl) (Nat.le_of_ble_eq_true rfl) dX5_readOpening_56 (by omega) (by omega) (z_room (by omega) (Nat.le_refl _) (Nat.le_refl _) (w_fitsO1 (d := 0) hV1 ⟨rfl, ?_⟩))
          refine z_if_ne (tgt := 67) dX5_readOpening_59 (by decide) (fun czq59 => ?_) (fun czq59 => ?_)
          · have hok1 := bI_n.mp czq59
            skip
            refine z_iinc (2) [1, 0] [(0, .ref 3), (1, .int 2)] dX5_readOpening_67 (j := 1) rfl (by decide) (by decide) rfl ?_
            refine z_goto (tgt := 20) dX5_readOpening_70 (by decide) ?_
            refine z_iload_n (j := 1) dX5_readOpening_20 rfl ?_
            refine z_iconst (v := 3) dX5_readOpening_21 (by decide) ?_
            refine z_icmp_ge (tgt := 73) dX5_readOpening_22 (by decide) (fun czq22 => absurd czq22 (by decide)) (fun czq22 => ?_)
            refine z_aload_n (j := 0) dX5_readOpening_25 rfl ?_
            refine z_get (v := .int (o1 2 10)) (by omega) gW_3 fX5_54 rfl dX5_readOpening_26 ?_
            refine z_if_ne (tgt := 73) dX5_readOpening_29 (by decide) (fun czq29 => absurd czq29 (fun z => z h10_1)) (fun czq29 => ?_)
            refine z_aload_n (j := 0) dX5_readOpening_32 rfl ?_
            refine z_get (v := .ref 10) (by omega) gW_3 fX5_18 rfl dX5_readOpening_33 ?_
            refine z_iload_n (j := 1) dX5_readOpening_36 rfl ?_
            refine z_aload_n (j := 0) dX5_readOpening_37 rfl ?_
            refine z_kV [] 0 0 kc ks yoX5_readNumber yvX5_readNumber rfl (by decide) lX5_142 (by omega) gW_3 rfl rfl (Nat.le_of_ble_eq_true rfl) (Nat.le_of_ble_eq_true rfl) dX5_readOpening_38 (by omega) (by omega) (z_room (by omega) (Nat.le_refl _) (Nat.le_refl _) (w_readNumber (d := 0) hn hL h11_1 hu1 hx ((nx_le ((nx_le ((tE_le' hst).2)).2)).2) q2_1 h10_1 (fun hk2 o2 q2_2 q3_2 hf2 => ⟨rfl, ?_⟩) (fun hk2 o2 he2 => ⟨rfl, ?_⟩)))
            · have h11_2 : o2 1 1 = nI L := (hf2.2 1 (by decide)).trans h11_1
              have h10_2 : o2 2 10 = 0 := by rw [hf2.1 2 (by decide)]; exact h10_1
              have hfc_2 : fp (fun j => 2 ≤ j) o o2 := hfc_1.tr hf2
              have hV2 := tV_lt hk2
              refine g_ast 1 (by decide) rfl (by omega) (show vp_in (nI 2) 3 from vp_in_nI (by decide) (by decide)) dX5_readOpening_41 ?_
              obtain ⟨u2, eu2⟩ : ∃ u2, u2 = (va_up u1 1 (va_up (u1 1) (2 : Int32).toNatClampNeg (nI (tV L x (tS L x (nx L x (nx L x (tE L x st)))))))) := ⟨_, rfl⟩
              rw [← eu2]
              have hu2 : ∀ i, i < L → u2 0 i = nI (x i) := fun i hi => by rw [eu2, up_ne (by decide)]; exact hu1 i hi
              have hv2_2 : u2 1 2 = (nI (tV L x (tS L x (nx L x (nx L x (tE L x st)))))) := by rw [eu2, up_eq]; first | done | exact up_eq
              have hv2_0 : u2 1 0 = (nI (tV L x (tS L x (tE L x st)))) := by rw [eu2, up_eq, up_ne (show (0 : Nat) ≠ (2 : Int32).toNatClampNeg by decide)]; exact hv1_0
              have hv2_1 : u2 1 1 = (nI (tV L x (tS L x (nx L x (tE L x st))))) := by rw [eu2, up_eq, up_ne (show (1 : Nat) ≠ (2 : Int32).toNatClampNeg by decide)]; exact hv1_1
              have hw2 : ∀ j, j ≠ 1 → u2 j = u j := fun j hj => by rw [eu2, up_ne hj]; first | done | exact hw1 j hj
              refine z_aload_n (j := 0) dX5_readOpening_42 rfl ?_
              refine z_get (v := .int (o2 2 10)) (by omega) gW_3 fX5_54 rfl dX5_readOpening_43 ?_
              refine z_if_ne (tgt := 67) dX5_readOpening_46 (by decide) (fun czq46 => absurd czq46 (fun z => z h10_2)) (fun czq46 => ?_)
              refine z_iload_n (j := 1) dX5_readOpening_49 rfl ?_
              refine z_aload_n (j := 0) dX5_readOpening_50 rfl ?_
              refine z_get (v := .ref 10) (by omega) gW_3 fX5_18 rfl dX5_readOpening_51 ?_
              refine z_iload_n (j := 1) dX5_readOpening_54 rfl ?_
              refine g_ald 1 (by decide) rfl (by omega) (show vp_in (nI 2) 3 from vp_in_nI (by decide) (by decide)) dX5_readOpening_55 ?_
              rw [show (u2 1 (2 : Int32).toNatClampNeg) = (nI (tV L x (tS L x (nx L x (nx L x (tE L x st)))))) from hv2_2]
              refine z_kS [.int 2, .int ((nI (tV L x (tS L x (nx L x (nx L x (tE L x st)))))))] 0 0 kc ks yoX5_fitsOpening ysX5_fitsOpening rfl (by decide) lX5_145 rfl (Nat.le_of_ble_eq_true rfl) (Nat.le_of_ble_eq_true rfl) dX5_readOpening_56 (by omega) (by omega) (z_room (by omega) (Nat.le_refl _) (Nat.le_refl _) (w_fitsO2 (d := 0) hV2 ⟨rfl, ?_⟩))
              refine z_if_ne (tgt := 67) dX5_readOpening_59 (by decide) (fun czq59 => ?_) (fun czq59 => ?_)
              · have hok2 := bI_n.mp czq59
                skip
                refine z_iinc (3) [1, 0] [(0, .ref 3), (1, .int 3)] dX5_readOpening_67 (j := 1) rfl (by decide) (by decide) rfl ?_
                refine z_goto (tgt := 20) dX5_readOpening_70 (by decide) ?_
                refine z_iload_n (j := 1) dX5_readOpening_20 rfl ?_
                refine z_iconst (v := 3) dX5_readOpening_21 (by decide) ?_
                refine z_icmp_ge (tgt := 73) dX5_readOpening_22 (by decide) (fun czq22 => ?_) (fun czq22 => absurd (by decide) czq22)
                refine z_aload_n (j := 0) dX5_readOpening_73 rfl ?_
                refine z_iconst (v := 5) dX5_readOpening_74 (by decide) ?_
                refine z_kV [.int 5] 0 0 kc ks yoX5_expect yvX5_expect rfl (by decide) lX5_148 (by omega) gW_3 rfl rfl (Nat.le_of_ble_eq_true rfl) (Nat.le_of_ble_eq_true rfl) dX5_readOpening_75 (by omega) (by omega) (z_room (by omega) (Nat.le_refl _) (Nat.le_refl _) (w_expect (d := 0) (k := 5) hn hL h11_2 hu2 hx ((nx_le ((nx_le ((nx_le ((tE_le' hst).2)).2)).2)).2) q2_2 h10_2 (by decide) (fun hk3 o3 q2_3 q3_3 q5_3 hf3 => ⟨rfl, ?_⟩) (fun hk3 o3 he3 => ⟨rfl, ?_⟩)))
                · have h11_3 : o3 1 1 = nI L := (hf3.2 1 (by decide)).trans h11_2
                  have h10_3 : o3 2 10 = 0 := by rw [hf3.1 2 (by decide)]; exact h10_2
                  have hfc_3 : fp (fun j => 2 ≤ j) o o3 := hfc_2.tr hf3
                  refine z_aload_n (j := 0) dX5_readOpening_78 rfl ?_
                  refine z_get (v := .int (o3 2 10)) (by omega) gW_3 fX5_54 rfl dX5_readOpening_79 ?_
                  refine z_if_ne (tgt := 115) dX5_readOpening_82 (by decide) (fun czq82 => absurd czq82 (fun z => z h10_3)) (fun czq82 => ?_)
                  refine z_aload_n (j := 0) dX5_readOpening_85 rfl ?_
                  refine z_iconst (v := 1) dX5_readOpening_86 (by decide) ?_
                  refine g_putz (Or.inr rfl) 2 (by decide) (by omega) (by decide) rfl rfl fX5_47 gg5 rfl fin5_8 (by show 8 < 12; decide) dX5_readOpening_87 ?_
                  refine z_aload_n (j := 0) dX5_readOpening_90 rfl ?_
                  refine z_get (v := .ref 4) (by omega) gW_3 fX5_12 rfl dX5_readOpening_91 ?_
                  refine z_aload_n (j := 0) dX5_readOpening_94 rfl ?_
                  refine z_get (v := .ref 10) (by omega) gW_3 fX5_18 rfl dX5_readOpening_95 ?_
                  refine z_iconst (v := 0) dX5_readOpening_98 (by decide) ?_
                  refine g_ald 1 (by decide) rfl (by omega) (show vp_in (nI 0) 3 from vp_in_nI (by decide) (by decide)) dX5_readOpening_99 ?_
                  refine z_aload_n (j := 0) dX5_readOpening_100 rfl ?_
                  refine z_get (v := .ref 10) (by omega) gW_3 fX5_18 rfl dX5_readOpening_101 ?_
                  refine z_iconst (v := 1) dX5_readOpening_104 (by decide) ?_
                  refine g_ald 1 (by decide) rfl (by omega) (show vp_in (nI 1) 3 from vp_in_nI (by decide) (by decide)) dX5_readOpening_105 ?_
                  refine z_aload_n (j := 0) dX5_readOpening_106 rfl ?_
                  refine z_get (v := .ref 10) (by omega) gW_3 fX5_18 rfl dX5_readOpening_107 ?_
                  refine z_iconst (v := 2) dX5_readOpening_110 (by decide) ?_
                  refine g_ald 1 (by decide) rfl (by omega) (show vp_in (nI 2) 3 from vp_in_nI (by decide) (by decide)) dX5_readOpening_111 ?_
                  rw [show (u2 1 (0 : Int32).toNatClampNeg) = (nI (tV L x (tS L x (tE L x st)))) from hv2_0]
                  rw [show (u2 1 (1 : Int32).toNatClampNeg) = (nI (tV L x (tS L x (nx L x (tE L x st))))) from hv2_1]
                  rw [show (u2 1 (2 : Int32).toNatClampNeg) = (nI (tV L x (tS L x (nx L x (nx L x (tE L x st)))))) from hv2_2]
                  have hR := oB_ok hok0
                  have hH := hok1
                  have hT9 := hok2
                  simp only [oIn, Bool.and_eq_true, decide_eq_true_eq] at hH hT9
                  refine z_kV [.int ((nI (tV L x (tS L x (tE L x st))))), .int ((nI (tV L x (tS L x (nx L x (tE L x st)))))), .int ((nI (tV L x (tS L x (nx L x (nx L x (tE L x st)))))))] 0 0 kc ks yoX6_begin yvX6_begin rfl (by decide) lX5_151 (by omega) gW_4T rfl rfl (Nat.le_of_ble_eq_true rfl) (Nat.le_of_ble_eq_true rfl) dX5_readOpening_112 (by omega) (by omega) (z_room (by omega) (Nat.le_refl _) (Nat.le_refl _) (g_begin (d := 0) (t := 0) (by decide) rfl (by omega) hR hH.1 hH.2 hT9.1 hT9.2 (fun s' a' hT => ⟨rfl, ?_⟩)))
                  exact z_vret rfl dX5_readOpening_115 (by
                      exact hqY _ _ _ _ (by
                        unfold opn
                        rw [if_pos (bI_n.mp czq9)]
                        simp only [rdN_3 hk0 hok0, rdN_3 hk1 hok1, rdN_3 hk2 hok2, rdT_2 hk3] <;> rfl) _ _ _ _ (by rw [up_ne (by decide)]; exact q2_3) (by rw [up_eq, up_eq]) (fun c g1 g2 => by rw [up_ne g2]; exact hfc_3.1 c g1) (by rw [up_ne (by decide)]; exact h11_3) (fun j hj => by rw [up_eq, up_ne hj, hfc_3.1 2 (by decide)]) (hw2) (by rw [up_eq, up_eq]; exact hT) (fun t ht => up_ne ht) (fun t ht => up_ne ht))
                · refine z_aload_n (j := 0) dX5_readOpening_78 rfl ?_
                  refine z_get (v := .int (o3 2 10)) (by omega) gW_3 fX5_54 rfl dX5_readOpening_79 ?_
                  refine z_if_ne (tgt := 115) dX5_readOpening_82 (by decide) (fun czq82 => ?_) (fun czq82 => absurd czq82 (er.ne (he3.fp hfc_2) (by decide) (by decide)))
                  exact z_vret rfl dX5_readOpening_115 (by
                      exact hqN 1 (tS L x (nx L x (nx L x (nx L x (tE L x st))))) (by
                        unfold opn
                        rw [if_pos (bI_n.mp czq9)]
                        simp only [rdN_3 hk0 hok0, rdN_3 hk1 hok1, rdN_3 hk2 hok2, rdT_1 hk3] <;> rfl) (by decide) o3 u2 (hw2 4 (by decide)) (he3.fp hfc_2))
              · have hno2 := bI_0.mp czq59
                refine z_aload_n (j := 0) dX5_readOpening_62 rfl ?_
                refine z_iconst (v := 2) dX5_readOpening_63 (by decide) ?_
                refine z_kV [.int 2] 0 0 kc ks yoX5_fail yvX5_fail rfl (by decide) lX5_137 (by omega) gW_3 rfl rfl (Nat.le_of_ble_eq_true rfl) (Nat.le_of_ble_eq_true rfl) dX5_readOpening_64 (by omega) (by omega) (z_room (by omega) (Nat.le_refl _) (Nat.le_refl _) (w_fail (d := 0) (k := 2) hn q3_2 (fun of hef => ⟨rfl, ?_⟩)))
                skip
                skip
                refine z_iinc (3) [1, 0] [(0, .ref 3), (1, .int 3)] dX5_readOpening_67 (j := 1) rfl (by decide) (by decide) rfl ?_
                refine z_goto (tgt := 20) dX5_readOpening_70 (by decide) ?_
                refine z_iload_n (j := 1) dX5_readOpening_20 rfl ?_
                refine z_iconst (v := 3) dX5_readOpening_21 (by decide) ?_
                refine z_icmp_ge (tgt := 73) dX5_readOpening_22 (by decide) (fun czq22 => ?_) (fun czq22 => absurd (by decide) czq22)
                refine z_aload_n (j := 0) dX5_readOpening_73 rfl ?_
                refine z_iconst (v := 5) dX5_readOpening_74 (by decide) ?_
                refine z_kV [.int 5] 0 0 kc ks yoX5_expect yvX5_expect rfl (by decide) lX5_148 (by omega) gW_3 rfl rfl (Nat.le_of_ble_eq_true rfl) (Nat.le_of_ble_eq_true rfl) dX5_readOpening_75 (by omega) (by omega) (z_room (by omega) (Nat.le_refl _) (Nat.le_refl _) (w_expectE (d := 0) hn (er.ne (hef.fp hfc_2) (by decide) (by decide)) ⟨rfl, ?_⟩))
                refine z_aload_n (j := 0) dX5_readOpening_78 rfl ?_
                refine z_get (v := .int (of 2 10)) (by omega) gW_3 fX5_54 rfl dX5_readOpening_79 ?_
                refine z_if_ne (tgt := 115) dX5_readOpening_82 (by decide) (fun czq82 => ?_) (fun czq82 => absurd czq82 (er.ne (hef.fp hfc_2) (by decide) (by decide)))
                exact z_vret rfl dX5_readOpening_115 (by
                    exact hqN 2 (tS L x (nx L x (nx L x (tE L x st)))) (by
                      unfold opn
                      rw [if_pos (bI_n.mp czq9)]
                      simp only [rdN_3 hk0 hok0, rdN_3 hk1 hok1, rdN_2 hk2 hno2] <;> rfl) (by decide) of u2 (hw2 4 (by decide)) (hef.fp hfc_2))
            · refine g_ast 1 (by decide) rfl (by omega) (show vp_in (nI 2) 3 from vp_in_nI (by decide) (by decide)) dX5_readOpening_41 ?_
              obtain ⟨u2, eu2⟩ : ∃ u2, u2 = (va_up u1 1 (va_up (u1 1) (2 : Int32).toNatClampNeg (o2 1 5))) := ⟨_, rfl⟩
              rw [← eu2]
              have hu2 : ∀ i, i < L → u2 0 i = nI (x i) := fun i hi => by rw [eu2, up_ne (by decide)]; exact hu1 i hi
              have hv2_2 : u2 1 2 = (o2 1 5) := by rw [eu2, up_eq]; first | done | exact up_eq
              have hv2_0 : u2 1 0 = (nI (tV L x (tS L x (tE L x st)))) := by rw [eu2, up_eq, up_ne (show (0 : Nat) ≠ (2 : Int32).toNatClampNeg by decide)]; exact hv1_0
              have hv2_1 : u2 1 1 = (nI (tV L x (tS L x (nx L x (tE L x st))))) := by rw [eu2, up_eq, up_ne (show (1 : Nat) ≠ (2 : Int32).toNatClampNeg by decide)]; exact hv1_1
              have hw2 : ∀ j, j ≠ 1 → u2 j = u j := fun j hj => by rw [eu2, up_ne hj]; first | done | exact hw1 j hj
              refine z_aload_n (j := 0) dX5_readOpening_42 rfl ?_
              refine z_get (v := .int (o2 2 10)) (by omega) gW_3 fX5_54 rfl dX5_readOpening_43 ?_
              refine z_if_ne (tgt := 67) dX5_readOpening_46 (by decide) (fun czq46 => ?_) (fun czq46 => absurd czq46 (er.ne (he2.fp hfc_1) (by decide) (by decide)))
              skip
              skip
              refine z_iinc (3) [1, 0] [(0, .ref 3), (1, .int 3)] dX5_readOpening_67 (j := 1) rfl (by decide) (by decide) rfl ?_
              refine z_goto (tgt := 20) dX5_readOpening_70 (by decide) ?_
              refine z_iload_n (j := 1) dX5_readOpening_20 rfl ?_
              refine z_iconst (v := 3) dX5_readOpening_21 (by decide) ?_
              refine z_icmp_ge (tgt := 73) dX5_readOpening_22 (by decide) (fun czq22 => ?_) (fun czq22 => absurd (by decide) czq22)
              refine z_aload_n (j := 0) dX5_readOpening_73 rfl ?_
              refine z_iconst (v := 5) dX5_readOpening_74 (by decide) ?_
              refine z_kV [.int 5] 0 0 kc ks yoX5_expect yvX5_expect rfl (by decide) lX5_148 (by omega) gW_3 rfl rfl (Nat.le_of_ble_eq_true rfl) (Nat.le_of_ble_eq_true rfl) dX5_readOpening_75 (by omega) (by omega) (z_room (by omega) (Nat.le_refl _) (Nat.le_refl _) (w_expectE (d := 0) hn (er.ne (he2.fp hfc_1) (by decide) (by decide)) ⟨rfl, ?_⟩))
              refine z_aload_n (j := 0) dX5_readOpening_78 rfl ?_
              refine z_get (v := .int (o2 2 10)) (by omega) gW_3 fX5_54 rfl dX5_readOpening_79 ?_
              refine z_if_ne (tgt := 115) dX5_readOpening_82 (by decide) (fun czq82 => ?_) (fun czq82 => absurd czq82 (er.ne (he2.fp hfc_1) (by decide) (by decide)))
              exact z_vret rfl dX5_readOpening_115 (by
                  exact hqN 1 (tS L x (nx L x (nx L x (tE L x st)))) (by
                    unfold opn
                    rw [if_pos (bI_n.mp czq9)]
                    simp only [rdN_3 hk0 hok0, rdN_3 hk1 hok1, rdN_1 hk2] <;> rfl) (by decide) o2 u2 (hw2 4 (by decide)) (he2.fp hfc_1))
          · have hno1 := bI_0.mp czq59
            refine z_aload_n (j := 0) dX5_readOpening_62 rfl ?_
            refine z_iconst (v := 2) dX5_readOpening_63 (by decide) ?_
            refine z_kV [.int 2] 0 0 kc ks yoX5_fail yvX5_fail rfl (by decide) lX5_137 (by omega) gW_3 rfl rfl (Nat.le_of_ble_eq_true rfl) (Nat.le_of_ble_eq_true rfl) dX5_readOpening_64 (by omega) (by omega) (z_room (by omega) (Nat.le_refl _) (Nat.le_refl _) (w_fail (d := 0) (k := 2) hn q3_1 (fun of hef => ⟨rfl, ?_⟩)))
            skip
            skip
            refine z_iinc (2) [1, 0] [(0, .ref 3), (1, .int 2)] dX5_readOpening_67 (j := 1) rfl (by decide) (by decide) rfl ?_
            refine z_goto (tgt := 20) dX5_readOpening_70 (by decide) ?_
            refine z_iload_n (j := 1) dX5_readOpening_20 rfl ?_
            refine z_iconst (v := 3) dX5_readOpening_21 (by decide) ?_
            refine z_icmp_ge (tgt := 73) dX5_readOpening_22 (by decide) (fun czq22 => absurd czq22 (by decide)) (fun czq22 => ?_)
            refine z_aload_n (j := 0) dX5_readOpening_25 rfl ?_
            refine z_get (v := .int (of 2 10)) (by omega) gW_3 fX5_54 rfl dX5_readOpening_26 ?_
            refine z_if_ne (tgt := 73) dX5_readOpening_29 (by decide) (fun czq29 => ?_) (fun czq29 => absurd czq29 (er.ne (hef.fp hfc_1) (by decide) (by decide)))
            refine z_aload_n (j := 0) dX5_readOpening_73 rfl ?_
            refine z_iconst (v := 5) dX5_readOpening_74 (by decide) ?_
            refine z_kV [.int 5] 0 0 kc ks yoX5_expect yvX5_expect rfl (by decide) lX5_148 (by omega) gW_3 rfl rfl (Nat.le_of_ble_eq_true rfl) (Nat.le_of_ble_eq_true rfl) dX5_readOpening_75 (by omega) (by omega) (z_room (by omega) (Nat.le_refl _) (Nat.le_refl _) (w_expectE (d := 0) hn (er.ne (hef.fp hfc_1) (by decide) (by decide)) ⟨rfl, ?_⟩))
            refine z_aload_n (j := 0) dX5_readOpening_78 rfl ?_
            refine z_get (v := .int (of 2 10)) (by omega) gW_3 fX5_54 rfl dX5_readOpening_79 ?_
            refine z_if_ne (tgt := 115) dX5_readOpening_82 (by decide) (fun czq82 => ?_) (fun czq82 => absurd czq82 (er.ne (hef.fp hfc_1) (by decide) (by decide)))
            exact z_vret rfl dX5_readOpening_115 (by
                exact hqN 2 (tS L x (nx L x (tE L x st))) (by
                  unfold opn
                  rw [if_pos (bI_n.mp czq9)]
                  simp only [rdN_3 hk0 hok0, rdN_2 hk1 hno1] <;> rfl) (by decide) of u1 (hw1 4 (by decide)) (hef.fp hfc_1))
        · refine g_ast 1 (by decide) rfl (by omega) (show vp_in (nI 1) 3 from vp_in_nI (by decide) (by decide)) dX5_readOpening_41 ?_
          obtain ⟨u1, eu1⟩ : ∃ u1, u1 = (va_up u0 1 (va_up (u0 1) (1 : Int32).toNatClampNeg (o1 1 5))) := ⟨_, rfl⟩
          rw [← eu1]
          have hu1 : ∀ i, i < L → u1 0 i = nI (x i) := fun i hi => by rw [eu1, up_ne (by decide)]; exact hu0 i hi
          have hv1_1 : u1 1 1 = (o1 1 5) := by rw [eu1, up_eq]; first | done | exact up_eq
          have hv1_0 : u1 1 0 = (nI (tV L x (tS L x (tE L x st)))) := by rw [eu1, up_eq, up_ne (show (0 : Nat) ≠ (1 : Int32).toNatClampNeg by decide)]; exact hv0_0
          have hw1 : ∀ j, j ≠ 1 → u1 j = u j := fun j hj => by rw [eu1, up_ne hj]; first | done | exact hw0 j hj
          refine z_aload_n (j := 0) dX5_readOpening_42 rfl ?_
          refine z_get (v := .int (o1 2 10)) (by omega) gW_3 fX5_54 rfl dX5_readOpening_43 ?_
          refine z_if_ne (tgt := 67) dX5_readOpening_46 (by decide) (fun czq46 => ?_) (fun czq46 => absurd czq46 (er.ne (he1.fp hfc_0) (by decide) (by decide)))
          skip
          skip
          refine z_iinc (2) [1, 0] [(0, .ref 3), (1, .int 2)] dX5_readOpening_67 (j := 1) rfl (by decide) (by decide) rfl ?_
          refine z_goto (tgt := 20) dX5_readOpening_70 (by decide) ?_
          refine z_iload_n (j := 1) dX5_readOpening_20 rfl ?_
          refine z_iconst (v := 3) dX5_readOpening_21 (by decide) ?_
          refine z_icmp_ge (tgt := 73) dX5_readOpening_22 (by decide) (fun czq22 => absurd czq22 (by decide)) (fun czq22 => ?_)
          refine z_aload_n (j := 0) dX5_readOpening_25 rfl ?_
          refine z_get (v := .int (o1 2 10)) (by omega) gW_3 fX5_54 rfl dX5_readOpening_26 ?_
          refine z_if_ne (tgt := 73) dX5_readOpening_29 (by decide) (fun czq29 => ?_) (fun czq29 => absurd czq29 (er.ne (he1.fp hfc_0) (by decide) (by decide)))
          refine z_aload_n (j := 0) dX5_readOpening_73 rfl ?_
          refine z_iconst (v := 5) dX5_readOpening_74 (by decide) ?_
          refine z_kV [.int 5] 0 0 kc ks yoX5_expect yvX5_expect rfl (by decide) lX5_148 (by omega) gW_3 rfl rfl (Nat.le_of_ble_eq_true rfl) (Nat.le_of_ble_eq_true rfl) dX5_readOpening_75 (by omega) (by omega) (z_room (by omega) (Nat.le_refl _) (Nat.le_refl _) (w_expectE (d := 0) hn (er.ne (he1.fp hfc_0) (by decide) (by decide)) ⟨rfl, ?_⟩))
          refine z_aload_n (j := 0) dX5_readOpening_78 rfl ?_
          refine z_get (v := .int (o1 2 10)) (by omega) gW_3 fX5_54 rfl dX5_readOpening_79 ?_
          refine z_if_ne (tgt := 115) dX5_readOpening_82 (by decide) (fun czq82 => ?_) (fun czq82 => absurd czq82 (er.ne (he1.fp hfc_0) (by decide) (by decide)))
          exact z_vret rfl dX5_readOpening_115 (by
              exact hqN 1 (tS L x (nx L x (tE L x st))) (by
                unfold opn
                rw [if_pos (bI_n.mp czq9)]
                simp only [rdN_3 hk0 hok0, rdN_1 hk1] <;> rfl) (by decide) o1 u1 (hw1 4 (by decide)) (he1.fp hfc_0))
      · have hno0 := bI_0.mp czq59
        refine z_aload_n (j := 0) dX5_readOpening_62 rfl ?_
        refine z_iconst (v := 2) dX5_readOpening_63 (by decide) ?_
        refine z_kV [.int 2] 0 0 kc ks yoX5_fail yvX5_fail rfl (by decide) lX5_137 (by omega) gW_3 rfl rfl (Nat.le_of_ble_eq_true rfl) (Nat.le_of_ble_eq_true rfl) dX5_readOpening_64 (by omega) (by omega) (z_room (by omega) (Nat.le_refl _) (Nat.le_refl _) (w_fail (d := 0) (k := 2) hn q3_0 (fun of hef => ⟨rfl, ?_⟩)))
        skip
        skip
        refine z_iinc (1) [1, 0] [(0, .ref 3), (1, .int 1)] dX5_readOpening_67 (j := 1) rfl (by decide) (by decide) rfl ?_
        refine z_goto (tgt := 20) dX5_readOpening_70 (by decide) ?_
        refine z_iload_n (j := 1) dX5_readOpening_20 rfl ?_
        refine z_iconst (v := 3) dX5_readOpening_21 (by decide) ?_
        refine z_icmp_ge (tgt := 73) dX5_readOpening_22 (by decide) (fun czq22 => absurd czq22 (by decide)) (fun czq22 => ?_)
        refine z_aload_n (j := 0) dX5_readOpening_25 rfl ?_
        refine z_get (v := .int (of 2 10)) (by omega) gW_3 fX5_54 rfl dX5_readOpening_26 ?_
        refine z_if_ne (tgt := 73) dX5_readOpening_29 (by decide) (fun czq29 => ?_) (fun czq29 => absurd czq29 (er.ne (hef.fp hfc_0) (by decide) (by decide)))
        refine z_aload_n (j := 0) dX5_readOpening_73 rfl ?_
        refine z_iconst (v := 5) dX5_readOpening_74 (by decide) ?_
        refine z_kV [.int 5] 0 0 kc ks yoX5_expect yvX5_expect rfl (by decide) lX5_148 (by omega) gW_3 rfl rfl (Nat.le_of_ble_eq_true rfl) (Nat.le_of_ble_eq_true rfl) dX5_readOpening_75 (by omega) (by omega) (z_room (by omega) (Nat.le_refl _) (Nat.le_refl _) (w_expectE (d := 0) hn (er.ne (hef.fp hfc_0) (by decide) (by decide)) ⟨rfl, ?_⟩))
        refine z_aload_n (j := 0) dX5_readOpening_78 rfl ?_
        refine z_get (v := .int (of 2 10)) (by omega) gW_3 fX5_54 rfl dX5_readOpening_79 ?_
        refine z_if_ne (tgt := 115) dX5_readOpening_82 (by decide) (fun czq82 => ?_) (fun czq82 => absurd czq82 (er.ne (hef.fp hfc_0) (by decide) (by decide)))
        exact z_vret rfl dX5_readOpening_115 (by
            exact hqN 2 (tS L x (tE L x st)) (by
              unfold opn
              rw [if_pos (bI_n.mp czq9)]
              simp only [rdN_2 hk0 hno0] <;> rfl) (by decide) of u0 (hw0 4 (by decide)) (hef.fp hfc_0))
    · refine g_ast 1 (by decide) rfl (by omega) (show vp_in (nI 0) 3 from vp_in_nI (by decide) (by decide)) dX5_readOpening_41 ?_
      obtain ⟨u0, eu0⟩ : ∃ u0, u0 = (va_up u 1 (va_up (u 1) (0 : Int32).toNatClampNeg (o0 1 5))) := ⟨_, rfl⟩
      rw [← eu0]
      have hu0 : ∀ i, i < L → u0 0 i = nI (x i) := fun i hi => by rw [eu0, up_ne (by decide)]; exact hu i hi
      have hv0_0 : u0 1 0 = (o0 1 5) := by rw [eu0, up_eq]; first | done | exact up_eq
      have hw0 : ∀ j, j ≠ 1 → u0 j = u j := fun j hj => by rw [eu0, up_ne hj]; first | done | exact (show ∀ j, j ≠ 1 → u j = u j from fun _ _ => rfl) j hj
      refine z_aload_n (j := 0) dX5_readOpening_42 rfl ?_
      refine z_get (v := .int (o0 2 10)) (by omega) gW_3 fX5_54 rfl dX5_readOpening_43 ?_
      refine z_if_ne (tgt := 67) dX5_readOpening_46 (by decide) (fun czq46 => ?_) (fun czq46 => absurd czq46 (er.ne (he0.fp fp.rf) (by decide) (by decide)))
      skip
      skip
      refine z_iinc (1) [1, 0] [(0, .ref 3), (1, .int 1)] dX5_readOpening_67 (j := 1) rfl (by decide) (by decide) rfl ?_
      refine z_goto (tgt := 20) dX5_readOpening_70 (by decide) ?_
      refine z_iload_n (j := 1) dX5_readOpening_20 rfl ?_
      refine z_iconst (v := 3) dX5_readOpening_21 (by decide) ?_
      refine z_icmp_ge (tgt := 73) dX5_readOpening_22 (by decide) (fun czq22 => absurd czq22 (by decide)) (fun czq22 => ?_)
      refine z_aload_n (j := 0) dX5_readOpening_25 rfl ?_
      refine z_get (v := .int (o0 2 10)) (by omega) gW_3 fX5_54 rfl dX5_readOpening_26 ?_
      refine z_if_ne (tgt := 73) dX5_readOpening_29 (by decide) (fun czq29 => ?_) (fun czq29 => absurd czq29 (er.ne (he0.fp fp.rf) (by decide) (by decide)))
      refine z_aload_n (j := 0) dX5_readOpening_73 rfl ?_
      refine z_iconst (v := 5) dX5_readOpening_74 (by decide) ?_
      refine z_kV [.int 5] 0 0 kc ks yoX5_expect yvX5_expect rfl (by decide) lX5_148 (by omega) gW_3 rfl rfl (Nat.le_of_ble_eq_true rfl) (Nat.le_of_ble_eq_true rfl) dX5_readOpening_75 (by omega) (by omega) (z_room (by omega) (Nat.le_refl _) (Nat.le_refl _) (w_expectE (d := 0) hn (er.ne (he0.fp fp.rf) (by decide) (by decide)) ⟨rfl, ?_⟩))
      refine z_aload_n (j := 0) dX5_readOpening_78 rfl ?_
      refine z_get (v := .int (o0 2 10)) (by omega) gW_3 fX5_54 rfl dX5_readOpening_79 ?_
      refine z_if_ne (tgt := 115) dX5_readOpening_82 (by decide) (fun czq82 => ?_) (fun czq82 => absurd czq82 (er.ne (he0.fp fp.rf) (by decide) (by decide)))
      exact z_vret rfl dX5_readOpening_115 (by
          exact hqN 1 (tS L x (tE L x st)) (by
            unfold opn
            rw [if_pos (bI_n.mp czq9)]
            simp only [rdN_1 hk0] <;> rfl) (by decide) o0 u0 (hw0 4 (by decide)) (he0.fp fp.rf))
  · refine z_aload_n (j := 0) dX5_readOpening_12 rfl ?_
    refine z_iconst (v := 1) dX5_readOpening_13 (by decide) ?_
    refine z_kV [.int 1] 0 0 kc ks yoX5_fail yvX5_fail rfl (by decide) lX5_137 (by omega) gW_3 rfl rfl (Nat.le_of_ble_eq_true rfl) (Nat.le_of_ble_eq_true rfl) dX5_readOpening_14 (by omega) (by omega) (z_room (by omega) (Nat.le_refl _) (Nat.le_refl _) (w_fail (d := 0) (k := 1) hn h13 (fun o1 he => ⟨rfl, ?_⟩)))
    exact z_vret rfl dX5_readOpening_17 (hqN 1 st (by unfold opn; exact if_neg (bI_0.mp czq9)) (by decide) o1 u rfl he)
