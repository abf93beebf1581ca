/-! THE CLASS'S SCRIPT: repeats -/
def rpo (L : Nat) (x : Nat → Nat) (p : Nat) : zE2 ⊕ (Nat × Nat) := match rdN L x (oIn 1 20) p with
  | .inl e => .inl e
  | .inr (t, p1) => match rdT L x 3 p1 with
    | .inl e => .inl e
    | .inr p2 => .inr (t, p2)

set_option maxHeartbeats 4000000 in
set_option maxRecDepth 100000 in
theorem w_readRepeat {l : zL} {d kc ks n : Nat} {h : Nat → va_E} {cm : Value} {o u : Nat → Nat → Int32} {s : Nat → Nat → Int32} {a : Nat → Nat → Nat → Int32} {L : Nat} {x : Nat → Nat} {st dep : Nat} {Q : zQ} (hn : 89 ≤ n) (hL : L ≤ 600) (h11 : o 1 1 = nI L) (hu : ∀ i, i < L → u 0 i = nI (x i)) (hx : ∀ i, x i < 256) (hst : st ≤ L) (h12 : o 1 2 = nI (tE L x st)) (h13 : o 1 3 = nI st) (h10 : o 2 10 = 0) (hdep : dep ≤ 2) (h5 : o 2 5 = nI dep) (hqD : dep = 2 → ∀ o', er o o' 4 st → Q (.inl none) n (gW h cm o' u s a)) (hqN : dep < 2 → ∀ k off, rpo L x (tE L x st) = .inl (k, off) → (k ≠ 0 ∧ k < 10) → ∀ o' u', er o o' k off → u' 4 = u 4 → Q (.inl none) n (gW h cm o' u' s a)) (hqY : dep < 2 → ∀ t p2, rpo L x (tE L x st) = .inr (t, p2) → 1 ≤ t → t ≤ 20 → ∀ o' u', o' 1 2 = nI p2 → o' 2 5 = nI (dep + 1) → (∀ c, c ≠ 1 → c ≠ 2 → o' c = o c) → o' 1 1 = nI L → (∀ j, j ≠ 5 → o' 2 j = o 2 j) → u' 2 dep = nI p2 → u' 3 dep = nI t → (∀ j, j ≠ 2 → j ≠ 3 → u' j = u j) → (∀ i, i ≠ dep → u' 2 i = u 2 i) → (∀ i, i ≠ dep → u' 3 i = u 3 i) → Q (.inl none) n (gW h cm o' u' s a)) : Zj l mX5_readRepeat (d + 5) kc ks 0 [(0, .ref 3)] [] n (gW h cm o u s a) Q := by
  refine z_aload_n (j := 0) dX5_readRepeat_0 rfl ?_
  refine z_get (v := .int (o 2 5)) (by omega) gW_3 fX5_41 rfl dX5_readRepeat_1 ?_
  rw [show (o 2 5) = nI dep from h5]
  refine z_if_lt (tgt := 15) dX5_readRepeat_4 (by decide) (fun czq4 => absurd czq4 (nI_pos (by omega))) (fun czq4 => ?_)
  refine z_aload_n (j := 0) dX5_readRepeat_7 rfl ?_
  refine z_get (v := .int (o 2 5)) (by omega) gW_3 fX5_41 rfl dX5_readRepeat_8 ?_
  refine z_iconst (v := 2) dX5_readRepeat_11 (by decide) ?_
  rw [show (o 2 5) = nI dep from h5]
  refine z_icmp_lt (tgt := 21) dX5_readRepeat_12 (by decide) (fun czq12 => ?_) (fun czq12 => ?_)
  · have hdep2 : dep < 2 := Decidable.byContradiction fun z => absurd czq12 (nI_nlt (b := 2) (by omega) (by omega))
    refine z_aload_n (j := 0) dX5_readRepeat_21 rfl ?_
    refine z_kV [] 0 0 kc ks yoX5_readNumber yvX5_readNumber rfl (by decide) lX5_142 (by omega) gW_3 rfl rfl (Nat.le_of_ble_eq_true rfl) (Nat.le_of_ble_eq_true rfl) dX5_readRepeat_22 (by omega) (by omega) (z_room (by omega) (Nat.le_refl _) (Nat.le_refl _) (w_readNumber (d := 0) hn hL h11 hu hx ((tE_le' hst).2) h12 h10 (fun hk0 o0 q2_0 q3_0 hf0 => ⟨rfl, ?_⟩) (fun hk0 o0 he0 => ⟨rfl, ?_⟩)))
    · have h11_0 : o0 1 1 = nI L := (hf0.2 1 (by decide)).trans h11
      have h10_0 : o0 2 10 = 0 := by rw [hf0.1 2 (by decide)]; exact h10
      have hfc_0 : fp (fun j => 2 ≤ j) o o0 := fp.rf.tr hf0
      have hV0 := tV_lt hk0
      refine z_istore_n [1, 0] [(0, .ref 3), (1, .int ((nI (tV L x (tS L x (tE L x st))))))] dX5_readRepeat_25 (by decide) rfl ?_
      refine z_aload_n (j := 0) dX5_readRepeat_26 rfl ?_
      refine z_get (v := .int (o0 2 10)) (by omega) gW_3 fX5_54 rfl dX5_readRepeat_27 ?_
      refine z_if_ne (tgt := 49) dX5_readRepeat_30 (by decide) (fun czq30 => absurd czq30 (fun z => z h10_0)) (fun czq30 => ?_)
      refine z_iload_n (j := 1) dX5_readRepeat_33 rfl ?_
      refine z_iconst (v := 1) dX5_readRepeat_34 (by decide) ?_
      refine z_icmp_lt (tgt := 44) dX5_readRepeat_35 (by decide) (fun czq35 => ?_) (fun czq35 => ?_)
      · have hno0 : ¬ oIn 1 20 (tV L x (tS L x (tE L x st))) = true := fun z => by
          simp only [oIn, Bool.and_eq_true, decide_eq_true_eq] at z
          exact absurd czq35 (nI_nlt (b := 1) z.1 (by omega))
        refine z_aload_n (j := 0) dX5_readRepeat_44 rfl ?_
        refine z_iconst (v := 2) dX5_readRepeat_45 (by decide) ?_
        refine z_kV [.int 2] 0 0 kc ks yoX5_fail yvX5_fail rfl (by decide) lX5_137 (by omega) gW_3 rfl rfl (Nat.le_of_ble_eq_true rfl) (Nat.le_of_ble_eq_true rfl) dX5_readRepeat_46 (by omega) (by omega) (z_room (by omega) (Nat.le_refl _) (Nat.le_refl _) (w_fail (d := 0) (k := 2) hn q3_0 (fun of hef => ⟨rfl, ?_⟩)))
        skip
        refine z_aload_n (j := 0) dX5_readRepeat_49 rfl ?_
        refine z_iconst (v := 3) dX5_readRepeat_50 (by decide) ?_
        refine z_kV [.int 3] 0 0 kc ks yoX5_expect yvX5_expect rfl (by decide) lX5_148 (by omega) gW_3 rfl rfl (Nat.le_of_ble_eq_true rfl) (Nat.le_of_ble_eq_true rfl) dX5_readRepeat_51 (by omega) (by omega) (z_room (by omega) (Nat.le_refl _) (Nat.le_refl _) (w_expectE (d := 0) hn (er.ne (hef.fp hfc_0) (by decide) (by decide)) ⟨rfl, ?_⟩))
        refine z_aload_n (j := 0) dX5_readRepeat_54 rfl ?_
        refine z_get (v := .int (of 2 10)) (by omega) gW_3 fX5_54 rfl dX5_readRepeat_55 ?_
        refine z_if_ne (tgt := 97) dX5_readRepeat_58 (by decide) (fun czq58 => ?_) (fun czq58 => absurd czq58 (er.ne (hef.fp hfc_0) (by decide) (by decide)))
        exact z_vret rfl dX5_readRepeat_97 (by
            exact hqN (by omega) 2 (tS L x (tE L x st)) (by
              unfold rpo
              simp only [rdN_2 hk0 hno0]) (by decide) of u (hef.fp hfc_0) (rfl))
      · refine z_iload_n (j := 1) dX5_readRepeat_38 rfl ?_
        refine z_bipush (v := 20) dX5_readRepeat_39 (by decide) ?_
        refine z_icmp_le (tgt := 49) dX5_readRepeat_41 (by decide) (fun czq41 => ?_) (fun czq41 => ?_)
        · have hok0 : oIn 1 20 (tV L x (tS L x (tE L x st))) = true := by
            simp only [oIn, Bool.and_eq_true, decide_eq_true_eq]
            exact ⟨Decidable.byContradiction fun z => czq35 (nI_lt (b := 1) (by omega) (by decide)), Decidable.byContradiction fun z => nI_nle2 (b := 20) (by omega) (by omega) czq41⟩
          refine z_aload_n (j := 0) dX5_readRepeat_49 rfl ?_
          refine z_iconst (v := 3) dX5_readRepeat_50 (by decide) ?_
          refine z_kV [.int 3] 0 0 kc ks yoX5_expect yvX5_expect rfl (by decide) lX5_148 (by omega) gW_3 rfl rfl (Nat.le_of_ble_eq_true rfl) (Nat.le_of_ble_eq_true rfl) dX5_readRepeat_51 (by omega) (by omega) (z_room (by omega) (Nat.le_refl _) (Nat.le_refl _) (w_expect (d := 0) (k := 3) hn hL h11_0 hu hx ((nx_le ((tE_le' hst).2)).2) q2_0 h10_0 (by decide) (fun hk1 o1 q2_1 q3_1 q5_1 hf1 => ⟨rfl, ?_⟩) (fun hk1 o1 he1 => ⟨rfl, ?_⟩)))
          · have h11_1 : o1 1 1 = nI L := (hf1.2 1 (by decide)).trans h11_0
            have h10_1 : o1 2 10 = 0 := by rw [hf1.1 2 (by decide)]; exact h10_0
            have hfc_1 : fp (fun j => 2 ≤ j) o o1 := hfc_0.tr hf1
            refine z_aload_n (j := 0) dX5_readRepeat_54 rfl ?_
            refine z_get (v := .int (o1 2 10)) (by omega) gW_3 fX5_54 rfl dX5_readRepeat_55 ?_
            refine z_if_ne (tgt := 97) dX5_readRepeat_58 (by decide) (fun czq58 => absurd czq58 (fun z => z h10_1)) (fun czq58 => ?_)
            refine z_aload_n (j := 0) dX5_readRepeat_61 rfl ?_
            refine z_get (v := .ref 11) (by omega) gW_3 fX5_22 rfl dX5_readRepeat_62 ?_
            refine z_aload_n (j := 0) dX5_readRepeat_65 rfl ?_
            refine z_get (v := .int (o1 2 5)) (by omega) gW_3 fX5_41 rfl dX5_readRepeat_66 ?_
            refine z_aload_n (j := 0) dX5_readRepeat_69 rfl ?_
            refine z_get (v := .ref 1) (by omega) gW_3 fX5_32 rfl dX5_readRepeat_70 ?_
            refine z_get (v := .int (o1 1 2)) (by omega) gW_1 fX5_36 rfl dX5_readRepeat_73 ?_
            rw [show o1 2 5 = nI dep from by rw [hfc_1.1 2 (by decide)]; exact h5, show (o1 1 2) = (nI (nx L x (nx L x (tE L x st)))) from q2_1]
            refine g_ast 2 (by decide) rfl (by omega) (vp_in_nI (by omega) (by decide)) dX5_readRepeat_76 ?_
            refine z_aload_n (j := 0) dX5_readRepeat_77 rfl ?_
            refine z_get (v := .ref 12) (by omega) gW_3 fX5_25 rfl dX5_readRepeat_78 ?_
            refine z_aload_n (j := 0) dX5_readRepeat_81 rfl ?_
            refine z_get (v := .int (o1 2 5)) (by omega) gW_3 fX5_41 rfl dX5_readRepeat_82 ?_
            refine z_iload_n (j := 1) dX5_readRepeat_85 rfl ?_
            rw [show o1 2 5 = nI dep from by rw [hfc_1.1 2 (by decide)]; exact h5]
            refine g_ast 3 (by decide) rfl (by omega) (vp_in_nI (by omega) (by decide)) dX5_readRepeat_86 ?_
            refine z_aload_n (j := 0) dX5_readRepeat_87 rfl ?_
            refine z_dup rfl dX5_readRepeat_88 ?_
            refine z_get (v := .int (o1 2 5)) (by omega) gW_3 fX5_41 rfl dX5_readRepeat_89 ?_
            refine z_iconst (v := 1) dX5_readRepeat_92 (by decide) ?_
            refine z_iadd dX5_readRepeat_93 ?_
            rw [show ((o1 2 5) + 1) = nI (dep + 1) from by rw [show o1 2 5 = nI dep from by rw [hfc_1.1 2 (by decide)]; exact h5, nI_1]]
            refine g_put 2 (by decide) (by omega) (by decide) rfl rfl fX5_41 gg5 rfl fin5_5 (by show 5 < 12; decide) dX5_readRepeat_94 ?_
            exact z_vret rfl dX5_readRepeat_97 (by
                have hb := hok0
                simp only [oIn, Bool.and_eq_true, decide_eq_true_eq] at hb
                exact hqY (by omega) (tV L x (tS L x (tE L x st))) (nx L x (nx L x (tE L x st))) (by unfold rpo; simp only [rdN_3 hk0 hok0, rdT_2 hk1]) hb.1 hb.2 _ _ (by rw [up_ne (by decide)]; exact q2_1) (by rw [up_eq, up_eq]) (fun c g1 g2 => by rw [up_ne g2]; exact hfc_1.1 c g1) (by rw [up_ne (by decide)]; exact h11_1) (fun j hj => by rw [up_eq, up_ne hj, hfc_1.1 2 (by decide)]) (by rw [up_ne (by decide), up_eq, nI_clamp (by omega), up_eq]) (by rw [up_eq, nI_clamp (by omega), up_eq]) (fun j h2 h3 => by rw [up_ne h3, up_ne h2]) (fun i hi => by rw [up_ne (by decide), up_eq, nI_clamp (by omega), up_ne hi]) (fun i hi => by rw [up_eq, nI_clamp (by omega), up_ne hi, up_ne (by decide)]))
          · refine z_aload_n (j := 0) dX5_readRepeat_54 rfl ?_
            refine z_get (v := .int (o1 2 10)) (by omega) gW_3 fX5_54 rfl dX5_readRepeat_55 ?_
            refine z_if_ne (tgt := 97) dX5_readRepeat_58 (by decide) (fun czq58 => ?_) (fun czq58 => absurd czq58 (er.ne (he1.fp hfc_0) (by decide) (by decide)))
            exact z_vret rfl dX5_readRepeat_97 (by
                exact hqN (by omega) 1 (tS L x (nx L x (tE L x st))) (by
                  unfold rpo
                  simp only [rdN_3 hk0 hok0, rdT_1 hk1]) (by decide) o1 u (he1.fp hfc_0) (rfl))
        · have hno0 : ¬ oIn 1 20 (tV L x (tS L x (tE L x st))) = true := fun z => by
            simp only [oIn, Bool.and_eq_true, decide_eq_true_eq] at z
            exact czq41 (nI_le (b := 20) z.2 (by decide))
          refine z_aload_n (j := 0) dX5_readRepeat_44 rfl ?_
          refine z_iconst (v := 2) dX5_readRepeat_45 (by decide) ?_
          refine z_kV [.int 2] 0 0 kc ks yoX5_fail yvX5_fail rfl (by decide) lX5_137 (by omega) gW_3 rfl rfl (Nat.le_of_ble_eq_true rfl) (Nat.le_of_ble_eq_true rfl) dX5_readRepeat_46 (by omega) (by omega) (z_room (by omega) (Nat.le_refl _) (Nat.le_refl _) (w_fail (d := 0) (k := 2) hn q3_0 (fun of hef => ⟨rfl, ?_⟩)))
          skip
          refine z_aload_n (j := 0) dX5_readRepeat_49 rfl ?_
          refine z_iconst (v := 3) dX5_readRepeat_50 (by decide) ?_
          refine z_kV [.int 3] 0 0 kc ks yoX5_expect yvX5_expect rfl (by decide) lX5_148 (by omega) gW_3 rfl rfl (Nat.le_of_ble_eq_true rfl) (Nat.le_of_ble_eq_true rfl) dX5_readRepeat_51 (by omega) (by omega) (z_room (by omega) (Nat.le_refl _) (Nat.le_refl _) (w_expectE (d := 0) hn (er.ne (hef.fp hfc_0) (by decide) (by decide)) ⟨rfl, ?_⟩))
          refine z_aload_n (j := 0) dX5_readRepeat_54 rfl ?_
          refine z_get (v := .int (of 2 10)) (by omega) gW_3 fX5_54 rfl dX5_readRepeat_55 ?_
          refine z_if_ne (tgt := 97) dX5_readRepeat_58 (by decide) (fun czq58 => ?_) (fun czq58 => absurd czq58 (er.ne (hef.fp hfc_0) (by decide) (by decide)))
          exact z_vret rfl dX5_readRepeat_97 (by
              exact hqN (by omega) 2 (tS L x (tE L x st)) (by
                unfold rpo
                simp only [rdN_2 hk0 hno0]) (by decide) of u (hef.fp hfc_0) (rfl))
    · refine z_istore_n [1, 0] [(0, .ref 3), (1, .int ((o0 1 5)))] dX5_readRepeat_25 (by decide) rfl ?_
      refine z_aload_n (j := 0) dX5_readRepeat_26 rfl ?_
      refine z_get (v := .int (o0 2 10)) (by omega) gW_3 fX5_54 rfl dX5_readRepeat_27 ?_
      refine z_if_ne (tgt := 49) dX5_readRepeat_30 (by decide) (fun czq30 => ?_) (fun czq30 => absurd czq30 (er.ne (he0.fp fp.rf) (by decide) (by decide)))
      skip
      refine z_aload_n (j := 0) dX5_readRepeat_49 rfl ?_
      refine z_iconst (v := 3) dX5_readRepeat_50 (by decide) ?_
      refine z_kV [.int 3] 0 0 kc ks yoX5_expect yvX5_expect rfl (by decide) lX5_148 (by omega) gW_3 rfl rfl (Nat.le_of_ble_eq_true rfl) (Nat.le_of_ble_eq_true rfl) dX5_readRepeat_51 (by omega) (by omega) (z_room (by omega) (Nat.le_refl _) (Nat.le_refl _) (w_expectE (d := 0) hn (er.ne (he0.fp fp.rf) (by decide) (by decide)) ⟨rfl, ?_⟩))
      refine z_aload_n (j := 0) dX5_readRepeat_54 rfl ?_
      refine z_get (v := .int (o0 2 10)) (by omega) gW_3 fX5_54 rfl dX5_readRepeat_55 ?_
      refine z_if_ne (tgt := 97) dX5_readRepeat_58 (by decide) (fun czq58 => ?_) (fun czq58 => absurd czq58 (er.ne (he0.fp fp.rf) (by decide) (by decide)))
      exact z_vret rfl dX5_readRepeat_97 (by
          exact hqN (by omega) 1 (tS L x (tE L x st)) (by
            unfold rpo
            simp only [rdN_1 hk0]) (by decide) o0 u (he0.fp fp.rf) (rfl))
  · refine z_aload_n (j := 0) dX5_readRepeat_15 rfl ?_
    refine z_iconst (v := 4) dX5_readRepeat_16 (by decide) ?_
    refine z_kV [.int 4] 0 0 kc ks yoX5_fail yvX5_fail rfl (by decide) lX5_137 (by omega) gW_3 rfl rfl (Nat.le_of_ble_eq_true rfl) (Nat.le_of_ble_eq_true rfl) dX5_readRepeat_17 (by omega) (by omega) (z_room (by omega) (Nat.le_refl _) (Nat.le_refl _) (w_fail (d := 0) (k := 4) hn h13 (fun o1 he => ⟨rfl, ?_⟩)))
    exact z_vret rfl dX5_readRepeat_20 (hqD (Decidable.byContradiction fun z => czq12 (nI_lt (b := 2) (by omega) (by decide))) o1 he)

set_option maxHeartbeats 4000000 in
set_option maxRecDepth 100000 in
theorem w_endBody {l : zL} {d kc ks n : Nat} {h : Nat → va_E} {cm : Value} {o u : Nat → Nat → Int32} {s : Nat → Nat → Int32} {a : Nat → Nat → Nat → Int32} {L : Nat} {x : Nat → Nat} {p m r b0 : Nat} {Q : zQ} (hn : 89 ≤ n) (hL : L ≤ 600) (h11 : o 1 1 = nI L) (hu : ∀ i, i < L → u 0 i = nI (x i)) (hx : ∀ i, x i < 256) (hp : p ≤ L) (h12 : o 1 2 = nI p) (h10 : o 2 10 = 0) (hm : m < 2) (h5 : o 2 5 = nI (m + 1)) (hr : u 3 m = nI r) (hr1 : 1 ≤ r) (hr20 : r ≤ 20) (hb0 : u 2 m = nI b0) (hqB : 1 < r → ∀ o' u', o' 1 2 = nI b0 → fp (fun j => j = 2) o o' → u' 3 m = nI (r - 1) → (∀ j, j ≠ 3 → u' j = u j) → (∀ i, i ≠ m → u' 3 i = u 3 i) → Q (.inl none) n (gW h cm o' u' s a)) (hqE : r = 1 → tKd L x (tS L x p) = 5 → ∀ o' u', o' 1 2 = nI (nx L x p) → o' 2 5 = nI m → (∀ c, c ≠ 1 → c ≠ 2 → o' c = o c) → o' 1 1 = nI L → (∀ j, j ≠ 5 → o' 2 j = o 2 j) → (∀ j, j ≠ 3 → u' j = u j) → (∀ i, i ≠ m → u' 3 i = u 3 i) → Q (.inl none) n (gW h cm o' u' s a)) (hqN : r = 1 → ¬ tKd L x (tS L x p) = 5 → ∀ o' u', er o o' 1 (tS L x p) → u' 4 = u 4 → Q (.inl none) n (gW h cm o' u' s a)) : Zj l mX5_endBody (d + 4) kc ks 0 [(0, .ref 3)] [] n (gW h cm o u s a) Q := by
  refine z_aload_n (j := 0) dX5_endBody_0 rfl ?_
  refine z_get (v := .int (o 2 5)) (by omega) gW_3 fX5_41 rfl dX5_endBody_1 ?_
  refine z_iconst (v := 1) dX5_endBody_4 (by decide) ?_
  refine z_isub dX5_endBody_5 ?_
  rw [show ((o 2 5) - 1) = nI m from by rw [h5]; exact nI_pred _]
  refine z_istore_n [1, 0] [(0, .ref 3), (1, .int ((nI m)))] dX5_endBody_6 (by decide) rfl ?_
  refine z_iload_n (j := 1) dX5_endBody_7 rfl ?_
  refine z_if_lt (tgt := 16) dX5_endBody_8 (by decide) (fun czq8 => absurd czq8 (nI_pos (by omega))) (fun czq8 => ?_)
  refine z_iload_n (j := 1) dX5_endBody_11 rfl ?_
  refine z_iconst (v := 2) dX5_endBody_12 (by decide) ?_
  refine z_icmp_lt (tgt := 17) dX5_endBody_13 (by decide) (fun czq13 => ?_) (fun czq13 => absurd (nI_lt (b := 2) (by omega) (by decide)) czq13)
  refine z_aload_n (j := 0) dX5_endBody_17 rfl ?_
  refine z_get (v := .ref 12) (by omega) gW_3 fX5_25 rfl dX5_endBody_18 ?_
  refine z_iload_n (j := 1) dX5_endBody_21 rfl ?_
  refine z_dup2 rfl rfl dX5_endBody_22 ?_
  refine g_ald 3 (by decide) rfl (by omega) (vp_in_nI (by omega) (by decide)) dX5_endBody_23 ?_
  refine z_iconst (v := 1) dX5_endBody_24 (by decide) ?_
  refine z_isub dX5_endBody_25 ?_
  rw [show ((u 3 ((nI m)).toNatClampNeg) - 1) = nI (r - 1) from by
    rw [nI_clamp (by omega), hr]
    obtain ⟨z, rfl⟩ : ∃ z, r = z + 1 := ⟨r - 1, by omega⟩
    exact nI_pred _]
  refine g_ast 3 (by decide) rfl (by omega) (vp_in_nI (by omega) (by decide)) dX5_endBody_26 ?_
  refine z_aload_n (j := 0) dX5_endBody_27 rfl ?_
  refine z_get (v := .ref 12) (by omega) gW_3 fX5_25 rfl dX5_endBody_28 ?_
  refine z_iload_n (j := 1) dX5_endBody_31 rfl ?_
  refine g_ald 3 (by decide) rfl (by omega) (vp_in_nI (by omega) (by decide)) dX5_endBody_32 ?_
  rw [show ((va_up u 3 (va_up (u 3) ((nI m)).toNatClampNeg (nI (r - 1)))) 3 ((nI m)).toNatClampNeg) = nI (r - 1) from by rw [up_eq, up_eq]]
  refine z_if_le (tgt := 50) dX5_endBody_33 (by decide) (fun czq33 => ?_) (fun czq33 => ?_)
  · have hr1 : r = 1 := by
      have : r - 1 ≤ 0 := Decidable.byContradiction fun z => nI_nle2 (b := 0) (by omega) (by omega) czq33
      omega
    refine z_aload_n (j := 0) dX5_endBody_50 rfl ?_
    refine z_iload_n (j := 1) dX5_endBody_51 rfl ?_
    refine g_put 2 (by decide) (by omega) (by decide) rfl rfl fX5_41 gg5 rfl fin5_5 (by show 5 < 12; decide) dX5_endBody_52 ?_
    refine z_aload_n (j := 0) dX5_endBody_55 rfl ?_
    refine z_iconst (v := 5) dX5_endBody_56 (by decide) ?_
    refine z_kV [.int 5] 0 0 kc ks yoX5_expect yvX5_expect rfl (by decide) lX5_148 (by omega) gW_3 rfl rfl (Nat.le_of_ble_eq_true rfl) (Nat.le_of_ble_eq_true rfl) dX5_endBody_57 (by omega) (by omega) (z_room (by omega) (Nat.le_refl _) (Nat.le_refl _) (w_expect (d := 0) (k := 5) hn hL (by rw [up_ne (by decide)]; exact h11) (fun i hi => by rw [up_ne (by decide)]; exact hu i hi) hx hp (by rw [up_ne (by decide)]; exact h12) (by rw [up_eq, up_ne (by decide)]; exact h10) (by decide) (fun hk o1 q2 q3 q5 hf => ⟨rfl, ?_⟩) (fun hk o1 he => ⟨rfl, ?_⟩)))
    · exact z_vret rfl dX5_endBody_60 (by
          exact hqE hr1 hk _ _ q2 (by rw [hf.1 2 (by decide), up_eq, up_eq]) (fun c g1 g2 => by rw [hf.1 c g1, up_ne g2]) (by rw [hf.2 1 (by decide), up_ne (by decide)]; exact h11) (fun j hj => by rw [hf.1 2 (by decide), up_eq, up_ne hj]) (fun j hj => by rw [up_ne hj]) (fun i hi => by rw [up_eq, nI_clamp (by omega), up_ne hi]))
    · exact z_vret rfl dX5_endBody_60 (by
          exact hqN hr1 hk _ _ (he.of (fun c g1 g2 => up_ne g2) (by rw [up_ne (by decide)])) (by rw [up_ne (by decide)]))
  · refine z_aload_n (j := 0) dX5_endBody_36 rfl ?_
    refine z_get (v := .ref 1) (by omega) gW_3 fX5_32 rfl dX5_endBody_37 ?_
    refine z_aload_n (j := 0) dX5_endBody_40 rfl ?_
    refine z_get (v := .ref 11) (by omega) gW_3 fX5_22 rfl dX5_endBody_41 ?_
    refine z_iload_n (j := 1) dX5_endBody_44 rfl ?_
    refine g_ald 2 (by decide) rfl (by omega) (vp_in_nI (by omega) (by decide)) dX5_endBody_45 ?_
    rw [show ((va_up u 3 (va_up (u 3) ((nI m)).toNatClampNeg (nI (r - 1)))) 2 ((nI m)).toNatClampNeg) = nI b0 from by rw [up_ne (by decide), nI_clamp (by omega)]; exact hb0]
    refine g_put 1 (by decide) (by omega) (by decide) rfl rfl fX5_36 gg3 rfl fin3_2 (by show 2 < 6; decide) dX5_endBody_46 ?_
    exact z_vret rfl dX5_endBody_49 (by
        exact hqB (by
          have : ¬ r - 1 ≤ 0 := fun z => czq33 (nI_le (b := 0) z (by decide))
          omega) _ _ (by rw [up_eq, up_eq]) (fp.up rfl) (by rw [up_eq, nI_clamp (by omega), up_eq]) (fun j hj => by rw [up_ne hj]) (fun i hi => by rw [up_eq, nI_clamp (by omega), up_ne hi]))

set_option maxHeartbeats 4000000 in
set_option maxRecDepth 100000 in
theorem w_scBegin {l : zL} {d kc ks n : Nat} {h : Nat → va_E} {cm : Value} {o u : Nat → Nat → Int32} {s : Nat → Nat → Int32} {a : Nat → Nat → Nat → Int32} {Q : zQ} (hn : 89 ≤ n) (hq : ∀ o', o' 1 2 = 0 → o' 1 1 = o 1 1 → o' 2 5 = 0 → o' 2 6 = 0 → o' 2 8 = 0 → o' 2 9 = 0 → o' 2 10 = 0 → o' 2 11 = -1 → (∀ c, c ≠ 1 → c ≠ 2 → o' c = o c) → Q (.inl none) n (gW h cm o' u s a)) : Zj l mX5_begin d kc ks 0 [(0, .ref 3)] [] n (gW h cm o u s a) Q := by
  refine z_aload_n (j := 0) dX5_begin_0 rfl ?_
  refine z_get (v := .ref 1) (by omega) gW_3 fX5_32 rfl dX5_begin_1 ?_
  refine z_iconst (v := 0) dX5_begin_4 (by decide) ?_
  refine g_put 1 (by decide) (by omega) (by decide) rfl rfl fX5_36 gg3 rfl fin3_2 (by show 2 < 6; decide) dX5_begin_5 ?_
  refine z_aload_n (j := 0) dX5_begin_8 rfl ?_
  refine z_iconst (v := 0) dX5_begin_9 (by decide) ?_
  refine g_put 2 (by decide) (by omega) (by decide) rfl rfl fX5_41 gg5 rfl fin5_5 (by show 5 < 12; decide) dX5_begin_10 ?_
  refine z_aload_n (j := 0) dX5_begin_13 rfl ?_
  refine z_iconst (v := 0) dX5_begin_14 (by decide) ?_
  refine g_put 2 (by decide) (by omega) (by decide) rfl rfl fX5_44 gg5 rfl fin5_6 (by show 6 < 12; decide) dX5_begin_15 ?_
  refine z_aload_n (j := 0) dX5_begin_18 rfl ?_
  refine z_iconst (v := 0) dX5_begin_19 (by decide) ?_
  refine g_putz (Or.inl rfl) 2 (by decide) (by omega) (by decide) rfl rfl fX5_47 gg5 rfl fin5_8 (by show 8 < 12; decide) dX5_begin_20 ?_
  refine z_aload_n (j := 0) dX5_begin_23 rfl ?_
  refine z_iconst (v := 0) dX5_begin_24 (by decide) ?_
  refine g_putz (Or.inl rfl) 2 (by decide) (by omega) (by decide) rfl rfl fX5_51 gg5 rfl fin5_9 (by show 9 < 12; decide) dX5_begin_25 ?_
  refine z_aload_n (j := 0) dX5_begin_28 rfl ?_
  refine z_iconst (v := 0) dX5_begin_29 (by decide) ?_
  refine g_put 2 (by decide) (by omega) (by decide) rfl rfl fX5_54 gg5 rfl fin5_10 (by show 10 < 12; decide) dX5_begin_30 ?_
  refine z_aload_n (j := 0) dX5_begin_33 rfl ?_
  refine z_iconst (v := (-1)) dX5_begin_34 (by decide) ?_
  refine g_put 2 (by decide) (by omega) (by decide) rfl rfl fX5_28 gg5 rfl fin5_11 (by show 11 < 12; decide) dX5_begin_35 ?_
  exact z_vret rfl dX5_begin_38 (hq _ (by rw [up_ne (by decide), up_ne (by decide), up_ne (by decide), up_ne (by decide), up_ne (by decide), up_ne (by decide), up_eq, up_eq]) (by simp only [up_eq, up_ne (show (1 : Nat) ≠ 2 by decide), up_ne (show (1 : Nat) ≠ 2 by decide)]) (by simp [va_up]) (by simp [va_up]) (by simp [va_up]) (by simp [va_up]) (by simp [va_up]) (by simp [va_up]) (fun c g1 g2 => by simp [va_up, g1, g2]))

set_option maxHeartbeats 4000000 in
set_option maxRecDepth 100000 in
theorem w_goesY {l : zL} {d kc ks n : Nat} {h : Nat → va_E} {cm : Value} {o u : Nat → Nat → Int32} {s : Nat → Nat → Int32} {a : Nat → Nat → Nat → Int32} {Q : zQ} (hn : 89 ≤ n) (h9 : o 2 9 = 0) (h10 : o 2 10 = 0) (hq : Q (.inl (some (.int 1))) n (gW h cm o u s a)) : Zj l mX5_goesOn d kc ks 0 [(0, .ref 3)] [] n (gW h cm o u s a) Q := by
  refine z_aload_n (j := 0) dX5_goesOn_0 rfl ?_
  refine z_get (v := .int (o 2 9)) (by omega) gW_3 fX5_51 rfl dX5_goesOn_1 ?_
  refine z_if_ne (tgt := 18) dX5_goesOn_4 (by decide) (fun czq4 => absurd czq4 (fun z => z h9)) (fun czq4 => ?_)
  refine z_aload_n (j := 0) dX5_goesOn_7 rfl ?_
  refine z_get (v := .int (o 2 10)) (by omega) gW_3 fX5_54 rfl dX5_goesOn_8 ?_
  refine z_if_ne (tgt := 18) dX5_goesOn_11 (by decide) (fun czq11 => absurd czq11 (fun z => z h10)) (fun czq11 => ?_)
  refine z_iconst (v := 1) dX5_goesOn_14 (by decide) ?_
  refine z_goto (tgt := 19) dX5_goesOn_15 (by decide) ?_
  exact z_zret rfl rfl dX5_goesOn_19 (hq)

set_option maxHeartbeats 4000000 in
set_option maxRecDepth 100000 in
theorem w_goesE {l : zL} {d kc ks n : Nat} {h : Nat → va_E} {cm : Value} {o u : Nat → Nat → Int32} {s : Nat → Nat → Int32} {a : Nat → Nat → Nat → Int32} {Q : zQ} (hn : 89 ≤ n) (h9 : o 2 9 = 1) (hq : Q (.inl (some (.int 0))) n (gW h cm o u s a)) : Zj l mX5_goesOn d kc ks 0 [(0, .ref 3)] [] n (gW h cm o u s a) Q := by
  refine z_aload_n (j := 0) dX5_goesOn_0 rfl ?_
  refine z_get (v := .int (o 2 9)) (by omega) gW_3 fX5_51 rfl dX5_goesOn_1 ?_
  refine z_if_ne (tgt := 18) dX5_goesOn_4 (by decide) (fun czq4 => ?_) (fun czq4 => absurd (czq4.symm.trans h9) (by decide))
  refine z_iconst (v := 0) dX5_goesOn_18 (by decide) ?_
  exact z_zret rfl rfl dX5_goesOn_19 (hq)

set_option maxHeartbeats 4000000 in
set_option maxRecDepth 100000 in
theorem w_goesX {l : zL} {d kc ks n : Nat} {h : Nat → va_E} {cm : Value} {o u : Nat → Nat → Int32} {s : Nat → Nat → Int32} {a : Nat → Nat → Nat → Int32} {Q : zQ} (hn : 89 ≤ n) (h10 : ¬ o 2 10 = 0) (hq : Q (.inl (some (.int 0))) n (gW h cm o u s a)) : Zj l mX5_goesOn d kc ks 0 [(0, .ref 3)] [] n (gW h cm o u s a) Q := by
  refine z_aload_n (j := 0) dX5_goesOn_0 rfl ?_
  refine z_get (v := .int (o 2 9)) (by omega) gW_3 fX5_51 rfl dX5_goesOn_1 ?_
  refine z_if_ne (tgt := 18) dX5_goesOn_4 (by decide) (fun czq4 => ?_) (fun czq4 => ?_)
  · refine z_iconst (v := 0) dX5_goesOn_18 (by decide) ?_
    exact z_zret rfl rfl dX5_goesOn_19 (hq)
  · refine z_aload_n (j := 0) dX5_goesOn_7 rfl ?_
    refine z_get (v := .int (o 2 10)) (by omega) gW_3 fX5_54 rfl dX5_goesOn_8 ?_
    refine z_if_ne (tgt := 18) dX5_goesOn_11 (by decide) (fun czq11 => ?_) (fun czq11 => absurd czq11 h10)
    refine z_iconst (v := 0) dX5_goesOn_18 (by decide) ?_
    exact z_zret rfl rfl dX5_goesOn_19 (hq)
