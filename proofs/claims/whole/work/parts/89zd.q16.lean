/-! THE REFERENCE'S READER: the opening -/
theorem oB_rg {v : Nat} (h : oB v = true) : oIn 8 64 v = true := by
  have := (oB_ok h).le
  simp only [oIn, Bool.and_eq_true, decide_eq_true_eq]
  exact this

set_option maxHeartbeats 4000000 in
set_option maxRecDepth 100000 in
theorem m_isSize {l : zL} {d kc ks n v : Nat} {h : Nat → va_E} {Q : zQ} (hv : v ≤ 9999) (hq : Q (.inl (some (.int (bI (oB v = true))))) n h) : Zj l mX8_isSize d kc ks 0 [(0, .int ((nI v)))] [] n h Q := by
  refine z_iload_n (j := 0) dX8_isSize_0 rfl ?_
  refine z_bipush (v := 8) dX8_isSize_1 (by decide) ?_
  refine z_icmp_eq (tgt := 24) dX8_isSize_3 (by decide) (fun czq3 => ?_) (fun czq3 => ?_)
  · refine z_iconst (v := 1) dX8_isSize_24 (by decide) ?_
    refine z_goto (tgt := 29) dX8_isSize_25 (by decide) ?_
    exact z_zret rfl rfl dX8_isSize_29 (by
        rw [bI_t (by simp only [oB, Bool.or_eq_true, decide_eq_true_eq]; exact (Or.inl (Or.inl (Or.inl ((nI_eq (b := 8) (by omega) (by decide)).mp czq3)))))] at hq
        exact hq)
  · refine z_iload_n (j := 0) dX8_isSize_6 rfl ?_
    refine z_bipush (v := 16) dX8_isSize_7 (by decide) ?_
    refine z_icmp_eq (tgt := 24) dX8_isSize_9 (by decide) (fun czq9 => ?_) (fun czq9 => ?_)
    · refine z_iconst (v := 1) dX8_isSize_24 (by decide) ?_
      refine z_goto (tgt := 29) dX8_isSize_25 (by decide) ?_
      exact z_zret rfl rfl dX8_isSize_29 (by
          rw [bI_t (by simp only [oB, Bool.or_eq_true, decide_eq_true_eq]; exact (Or.inl (Or.inl (Or.inr ((nI_eq (b := 16) (by omega) (by decide)).mp czq9)))))] at hq
          exact hq)
    · refine z_iload_n (j := 0) dX8_isSize_12 rfl ?_
      refine z_bipush (v := 32) dX8_isSize_13 (by decide) ?_
      refine z_icmp_eq (tgt := 24) dX8_isSize_15 (by decide) (fun czq15 => ?_) (fun czq15 => ?_)
      · refine z_iconst (v := 1) dX8_isSize_24 (by decide) ?_
        refine z_goto (tgt := 29) dX8_isSize_25 (by decide) ?_
        exact z_zret rfl rfl dX8_isSize_29 (by
            rw [bI_t (by simp only [oB, Bool.or_eq_true, decide_eq_true_eq]; exact (Or.inl (Or.inr ((nI_eq (b := 32) (by omega) (by decide)).mp czq15))))] at hq
            exact hq)
      · refine z_iload_n (j := 0) dX8_isSize_18 rfl ?_
        refine z_bipush (v := 64) dX8_isSize_19 (by decide) ?_
        refine z_icmp_ne (tgt := 28) dX8_isSize_21 (by decide) (fun czq21 => ?_) (fun czq21 => ?_)
        · refine z_iconst (v := 0) dX8_isSize_28 (by decide) ?_
          exact z_zret rfl rfl dX8_isSize_29 (by
              rw [bI_f (fun z => by
                simp only [oB, Bool.or_eq_true, decide_eq_true_eq] at z
                exact z.elim (fun z => z.elim (fun z => z.elim (fun z => czq3 (by rw [z]; rfl)) (fun z => czq9 (by rw [z]; rfl))) (fun z => czq15 (by rw [z]; rfl))) (fun z => czq21 (by rw [z]; rfl)))] at hq
              exact hq)
        · refine z_iconst (v := 1) dX8_isSize_24 (by decide) ?_
          refine z_goto (tgt := 29) dX8_isSize_25 (by decide) ?_
          exact z_zret rfl rfl dX8_isSize_29 (by
              rw [bI_t (by simp only [oB, Bool.or_eq_true, decide_eq_true_eq]; exact (Or.inr ((nI_eq (b := 64) (by omega) (by decide)).mp czq21)))] at hq
              exact hq)

set_option maxHeartbeats 4000000 in
set_option maxRecDepth 100000 in
theorem m_head {l : zL} {d kc ks n b : Nat} {h : Nat → va_E} {a : Nat → Nat → Int32} {L : Nat} {x : Nat → Nat} {st : Nat} {Q : zQ} {s : Nat → Int32} (hb : b + 14 ≤ n) (hL : L ≤ 600) (hu : ∀ i, i < L → a 10 i = nI (x i)) (hx : ∀ i, x i < 256) (hst : st ≤ L) (h15 : s 15 = nI L) (h16 : s 16 = 0) (hT : rT L x st s) (hqY : ∀ p B H T, opn L x st = .inr (p, B, H, T) → True → ∀ s' a', a' 12 0 = nI B → a' 12 1 = nI H → a' 12 2 = nI T → s' 23 = nI p → s' 16 = 0 → s' 25 = s 25 → a' 0 = a 0 → rF s a s' a' → Q (.inl (some (.int 1))) n (mW h b s' a')) (hqN : ∀ k off, opn L x st = .inl (k, off) → k ≠ 0 → k < 10 → ∀ s' a', s' 16 = nI k → s' 17 = nI off → rF s a s' a' → Q (.inl (some (.int 0))) n (mW h b s' a')) : Zj l mX8_readsHead (d + 6) kc ks 0 [(0, .ref b)] [] n (mW h b s a) Q := by
  refine z_aload_n (j := 0) dX8_readsHead_0 rfl ?_
  refine z_ldcSW (tx := "table") (a := zB + 27 + 11) (by decide +kernel) dX8_readsHead_1 ?_
  refine z_kV [.ref ((zB + 27 + 11))] 0 0 kc ks yoX8_says yvX8_says rfl (by decide) lX8_235 (by omega) mW_obj rfl rfl (Nat.le_of_ble_eq_true rfl) (Nat.le_of_ble_eq_true rfl) dX8_readsHead_4 (by omega) (by omega) (z_room (by omega) (Nat.le_refl _) (Nat.le_refl _) (m_says (d := 0) (w := 11) hb hL hu hx (by decide) hT.2.1 hT.1 hT.2.2.1 hst ⟨rfl, ?_⟩))
  refine z_if_ne (tgt := 16) dX8_readsHead_7 (by decide) (fun czq7 => ?_) (fun czq7 => ?_)
  · refine z_aload_n (j := 0) dX8_readsHead_16 rfl ?_
    refine z_kV [] 0 0 kc ks yoX8_next yvX8_next rfl (by decide) lX8_188 (by omega) mW_obj rfl rfl (Nat.le_of_ble_eq_true rfl) (Nat.le_of_ble_eq_true rfl) dX8_readsHead_17 (by omega) (by omega) (z_room (by omega) (Nat.le_refl _) (Nat.le_refl _) (m_nxt (d := 0) hb hL hu hx hst h15 hT.2.1 (fun s0 hT0 hf0 => ⟨rfl, ?_⟩)))
    have h15_0 : s0 15 = nI L := (hf0 15 (by decide) (by decide) (by decide) (by decide)).trans h15
    have h16_0 : s0 16 = 0 := (hf0 16 (by decide) (by decide) (by decide) (by decide)).trans h16
    refine z_aload_n (j := 0) dX8_readsHead_20 rfl ?_
    refine z_get (v := .int (s0 21)) (by omega) mW_obj fX8_170 rfl dX8_readsHead_21 ?_
    refine z_iconst (v := 3) dX8_readsHead_24 (by decide) ?_
    rw [show (s0 21) = (nI (mkd (tKd L x (tS L x (tE L x st))))) from hT0.2.2.1]
    refine z_icmp_ne (tgt := 44) dX8_readsHead_25 (by decide) (fun czq25 => ?_) (fun czq25 => ?_)
    · have hnk : ¬ tKd L x (tS L x (tE L x st)) = 2 := fun z => czq25 (by rw [z]; rfl)
      refine z_aload_n (j := 0) dX8_readsHead_44 rfl ?_
      refine z_iconst (v := 0) dX8_readsHead_45 (by decide) ?_
      refine z_bipush (v := 8) dX8_readsHead_46 (by decide) ?_
      refine z_bipush (v := 64) dX8_readsHead_48 (by decide) ?_
      refine z_kV [.int 0, .int 8, .int 64] 0 0 kc ks yoX8_number yvX8_number rfl (by decide) lX8_191 (by omega) mW_obj rfl rfl (Nat.le_of_ble_eq_true rfl) (Nat.le_of_ble_eq_true rfl) dX8_readsHead_50 (by omega) (by omega) (z_room (by omega) (Nat.le_refl _) (Nat.le_refl _) (m_number (d := 0) (j := 0) (lo := 8) (hi := 64) hb hL hu hx (tS_le (x := x) (tE_le' (x := x) hst).2).2 h15_0 h16_0 hT0 (by decide) (by decide) (by decide) (fun hk9 hok9 s1 hT1 hf1 => ⟨rfl, ?_⟩) (fun k hkk s1 he => ⟨rfl, ?_⟩)))
      · exact absurd hk9 hnk
      · refine z_if_eq (tgt := 90) dX8_readsHead_53 (by decide) (fun czq53 => ?_) (fun czq53 => absurd rfl czq53)
        refine z_iconst (v := 0) dX8_readsHead_90 (by decide) ?_
        exact z_zret rfl rfl dX8_readsHead_91 (by
            rcases hkk with ⟨hk, rfl⟩ | ⟨hk, hno, rfl⟩
            · exact hqN 1 _ (by
              unfold opn
              rw [if_pos (bI_n.mp czq7)]
              simp only [rdN_1 hk]) (by decide) (by decide) _ _ he.1 he.2.1 (hf0.F.tr he.F)
            · exact absurd hk hnk)
    · have hk0 : tKd L x (tS L x (tE L x st)) = 2 := mkd_inj _ (tKd_le (L := L) (x := x) (st := tS L x (tE L x st))) 2 (by decide) ((nI_eq (b := 3) (by have := mkd_le _ (tKd_le (L := L) (x := x) (st := tS L x (tE L x st))); omega) (by decide)).mp czq25)
      refine z_aload_n (j := 0) dX8_readsHead_28 rfl ?_
      refine z_get (v := .int (s0 24)) (by omega) mW_obj fX8_176 rfl dX8_readsHead_29 ?_
      rw [show (s0 24) = (nI (tV L x (tS L x (tE L x st)))) from hT0.2.2.2 hk0]
      refine z_kS [.int ((nI (tV L x (tS L x (tE L x st)))))] 0 0 kc ks yoX8_isSize ysX8_isSize rfl (by decide) lX8_300 rfl (Nat.le_of_ble_eq_true rfl) (Nat.le_of_ble_eq_true rfl) dX8_readsHead_32 (by omega) (by omega) (z_room (by omega) (Nat.le_refl _) (Nat.le_refl _) (m_isSize (d := 0) (tV_lt hk0) ⟨rfl, ?_⟩))
      refine z_if_ne (tgt := 44) dX8_readsHead_35 (by decide) (fun czq35 => ?_) (fun czq35 => ?_)
      · have hok0 : oB (tV L x (tS L x (tE L x st))) = true := bI_n.mp czq35
        refine z_aload_n (j := 0) dX8_readsHead_44 rfl ?_
        refine z_iconst (v := 0) dX8_readsHead_45 (by decide) ?_
        refine z_bipush (v := 8) dX8_readsHead_46 (by decide) ?_
        refine z_bipush (v := 64) dX8_readsHead_48 (by decide) ?_
        refine z_kV [.int 0, .int 8, .int 64] 0 0 kc ks yoX8_number yvX8_number rfl (by decide) lX8_191 (by omega) mW_obj rfl rfl (Nat.le_of_ble_eq_true rfl) (Nat.le_of_ble_eq_true rfl) dX8_readsHead_50 (by omega) (by omega) (z_room (by omega) (Nat.le_refl _) (Nat.le_refl _) (m_number (d := 0) (j := 0) (lo := 8) (hi := 64) hb hL hu hx (tS_le (x := x) (tE_le' (x := x) hst).2).2 h15_0 h16_0 hT0 (by decide) (by decide) (by decide) (fun hk9 hok9 s1 hT1 hf1 => ⟨rfl, ?_⟩) (fun k hkk s1 he => ⟨rfl, ?_⟩)))
        · have h15_1 : s1 15 = nI L := (hf1 15 (by decide) (by decide) (by decide) (by decide)).trans h15_0
          have h16_1 : s1 16 = 0 := (hf1 16 (by decide) (by decide) (by decide) (by decide)).trans h16_0
          have hu1 : ∀ i, i < L → (va_up a 12 (va_up (a 12) 0 (nI (tV L x (tS L x (tE L x st)))))) 10 i = nI (x i) := fun i hi => (congrFun (up_ne (by decide)) i).trans (hu i hi)
          refine z_if_eq (tgt := 90) dX8_readsHead_53 (by decide) (fun czq53 => absurd czq53 (by decide)) (fun czq53 => ?_)
          refine z_aload_n (j := 0) dX8_readsHead_56 rfl ?_
          refine z_iconst (v := 1) dX8_readsHead_57 (by decide) ?_
          refine z_iconst (v := 2) dX8_readsHead_58 (by decide) ?_
          refine z_bipush (v := 6) dX8_readsHead_59 (by decide) ?_
          refine z_kV [.int 1, .int 2, .int 6] 0 0 kc ks yoX8_number yvX8_number rfl (by decide) lX8_191 (by omega) mW_obj rfl rfl (Nat.le_of_ble_eq_true rfl) (Nat.le_of_ble_eq_true rfl) dX8_readsHead_61 (by omega) (by omega) (z_room (by omega) (Nat.le_refl _) (Nat.le_refl _) (m_number (d := 0) (j := 1) (lo := 2) (hi := 6) hb hL hu1 hx (tS_le (x := x) (nx_le (x := x) (tE_le' (x := x) hst).2).2).2 h15_1 h16_1 hT1 (by decide) (by decide) (by decide) (fun hk1 hok1 s2 hT2 hf2 => ⟨rfl, ?_⟩) (fun k hkk s2 he => ⟨rfl, ?_⟩)))
          · have h15_2 : s2 15 = nI L := (hf2 15 (by decide) (by decide) (by decide) (by decide)).trans h15_1
            have h16_2 : s2 16 = 0 := (hf2 16 (by decide) (by decide) (by decide) (by decide)).trans h16_1
            have hu2 : ∀ i, i < L → (va_up (va_up a 12 (va_up (a 12) 0 (nI (tV L x (tS L x (tE L x st)))))) 12 (va_up ((va_up a 12 (va_up (a 12) 0 (nI (tV L x (tS L x (tE L x st)))))) 12) 1 (nI (tV L x (tS L x (nx L x (tE L x st))))))) 10 i = nI (x i) := fun i hi => (congrFun (up_ne (by decide)) i).trans (hu1 i hi)
            refine z_if_eq (tgt := 90) dX8_readsHead_64 (by decide) (fun czq64 => absurd czq64 (by decide)) (fun czq64 => ?_)
            refine z_aload_n (j := 0) dX8_readsHead_67 rfl ?_
            refine z_iconst (v := 2) dX8_readsHead_68 (by decide) ?_
            refine z_iconst (v := 1) dX8_readsHead_69 (by decide) ?_
            refine z_bipush (v := 99) dX8_readsHead_70 (by decide) ?_
            refine z_kV [.int 2, .int 1, .int 99] 0 0 kc ks yoX8_number yvX8_number rfl (by decide) lX8_191 (by omega) mW_obj rfl rfl (Nat.le_of_ble_eq_true rfl) (Nat.le_of_ble_eq_true rfl) dX8_readsHead_72 (by omega) (by omega) (z_room (by omega) (Nat.le_refl _) (Nat.le_refl _) (m_number (d := 0) (j := 2) (lo := 1) (hi := 99) hb hL hu2 hx (tS_le (x := x) (nx_le (x := x) (nx_le (x := x) (tE_le' (x := x) hst).2).2).2).2 h15_2 h16_2 hT2 (by decide) (by decide) (by decide) (fun hk2 hok2 s3 hT3 hf3 => ⟨rfl, ?_⟩) (fun k hkk s3 he => ⟨rfl, ?_⟩)))
            · have h15_3 : s3 15 = nI L := (hf3 15 (by decide) (by decide) (by decide) (by decide)).trans h15_2
              have h16_3 : s3 16 = 0 := (hf3 16 (by decide) (by decide) (by decide) (by decide)).trans h16_2
              have hu3 : ∀ i, i < L → (va_up (va_up (va_up a 12 (va_up (a 12) 0 (nI (tV L x (tS L x (tE L x st)))))) 12 (va_up ((va_up a 12 (va_up (a 12) 0 (nI (tV L x (tS L x (tE L x st)))))) 12) 1 (nI (tV L x (tS L x (nx L x (tE L x st))))))) 12 (va_up ((va_up (va_up a 12 (va_up (a 12) 0 (nI (tV L x (tS L x (tE L x st)))))) 12 (va_up ((va_up a 12 (va_up (a 12) 0 (nI (tV L x (tS L x (tE L x st)))))) 12) 1 (nI (tV L x (tS L x (nx L x (tE L x st))))))) 12) 2 (nI (tV L x (tS L x (nx L x (nx L x (tE L x st)))))))) 10 i = nI (x i) := fun i hi => (congrFun (up_ne (by decide)) i).trans (hu2 i hi)
              refine z_if_eq (tgt := 90) dX8_readsHead_75 (by decide) (fun czq75 => absurd czq75 (by decide)) (fun czq75 => ?_)
              refine z_aload_n (j := 0) dX8_readsHead_78 rfl ?_
              refine z_iconst (v := 1) dX8_readsHead_79 (by decide) ?_
              skip
              refine z_kV [.int ((nI (mkd 5)))] 0 0 kc ks yoX8_is yvX8_is rfl (by decide) lX8_185 (by omega) mW_obj rfl rfl (Nat.le_of_ble_eq_true rfl) (Nat.le_of_ble_eq_true rfl) dX8_readsHead_80 (by omega) (by omega) (z_room (by omega) (Nat.le_refl _) (Nat.le_refl _) (m_is (d := 0) (k := 5) hb h16_3 hT3.1 hT3.2.2.1 tKd_le (by decide) (fun hk5 => ⟨rfl, ?_⟩) (fun hk5 s4 he => ⟨rfl, ?_⟩)))
              · refine z_if_eq (tgt := 90) dX8_readsHead_83 (by decide) (fun czq83 => absurd czq83 (by decide)) (fun czq83 => ?_)
                refine z_iconst (v := 1) dX8_readsHead_86 (by decide) ?_
                refine z_goto (tgt := 91) dX8_readsHead_87 (by decide) ?_
                exact z_zret rfl rfl dX8_readsHead_91 (hqY (nx L x (nx L x (nx L x (nx L x (tE L x st))))) (tV L x (tS L x (tE L x st))) (tV L x (tS L x (nx L x (tE L x st)))) (tV L x (tS L x (nx L x (nx L x (tE L x st))))) (by
                      unfold opn
                      rw [if_pos (bI_n.mp czq7)]
                      simp only [rdN_3 hk0 hok0, rdN_3 hk1 hok1, rdN_3 hk2 hok2, rdT_2 (p := (nx L x (nx L x (nx L x (tE L x st))))) hk5]) trivial _ _ (by rw [up_eq, up_ne (by decide), up_eq, up_ne (by decide), up_eq, up_eq]) (by rw [up_eq, up_ne (by decide), up_eq, up_eq]) (by rw [up_eq, up_eq]) hT3.2.1 h16_3 ((hf3 25 (by decide) (by decide) (by decide) (by decide)).trans ((hf2 25 (by decide) (by decide) (by decide) (by decide)).trans ((hf1 25 (by decide) (by decide) (by decide) (by decide)).trans (hf0 25 (by decide) (by decide) (by decide) (by decide))))) (by rw [up_ne (by decide), up_ne (by decide), up_ne (by decide)]) ((((((hf0.F.tr rF.num).tr hf1.F).tr rF.num).tr hf2.F).tr rF.num).tr hf3.F))
              · refine z_if_eq (tgt := 90) dX8_readsHead_83 (by decide) (fun czq83 => ?_) (fun czq83 => absurd rfl czq83)
                refine z_iconst (v := 0) dX8_readsHead_90 (by decide) ?_
                exact z_zret rfl rfl dX8_readsHead_91 (hqN 1 _ (by
                      unfold opn
                      rw [if_pos (bI_n.mp czq7)]
                      simp only [rdN_3 hk0 hok0, rdN_3 hk1 hok1, rdN_3 hk2 hok2, rdT_1 (p := (nx L x (nx L x (nx L x (tE L x st))))) hk5] <;> rfl) (by decide) (by decide) _ _ he.1 he.2.1 (((((((hf0.F.tr rF.num).tr hf1.F).tr rF.num).tr hf2.F).tr rF.num).tr hf3.F).tr he.F))
            · refine z_if_eq (tgt := 90) dX8_readsHead_75 (by decide) (fun czq75 => ?_) (fun czq75 => absurd rfl czq75)
              refine z_iconst (v := 0) dX8_readsHead_90 (by decide) ?_
              exact z_zret rfl rfl dX8_readsHead_91 (by
                  rcases hkk with ⟨hk, rfl⟩ | ⟨hk, hno, rfl⟩
                  · exact hqN 1 _ (by
                    unfold opn
                    rw [if_pos (bI_n.mp czq7)]
                    simp only [rdN_3 hk0 hok0, rdN_3 hk1 hok1, rdN_1 hk]) (by decide) (by decide) _ _ he.1 he.2.1 (((((hf0.F.tr rF.num).tr hf1.F).tr rF.num).tr hf2.F).tr he.F)
                  · exact hqN 2 _ (by
                    unfold opn
                    rw [if_pos (bI_n.mp czq7)]
                    simp only [rdN_3 hk0 hok0, rdN_3 hk1 hok1, rdN_2 hk hno]) (by decide) (by decide) _ _ he.1 he.2.1 (((((hf0.F.tr rF.num).tr hf1.F).tr rF.num).tr hf2.F).tr he.F))
          · refine z_if_eq (tgt := 90) dX8_readsHead_64 (by decide) (fun czq64 => ?_) (fun czq64 => absurd rfl czq64)
            refine z_iconst (v := 0) dX8_readsHead_90 (by decide) ?_
            exact z_zret rfl rfl dX8_readsHead_91 (by
                rcases hkk with ⟨hk, rfl⟩ | ⟨hk, hno, rfl⟩
                · exact hqN 1 _ (by
                  unfold opn
                  rw [if_pos (bI_n.mp czq7)]
                  simp only [rdN_3 hk0 hok0, rdN_1 hk]) (by decide) (by decide) _ _ he.1 he.2.1 (((hf0.F.tr rF.num).tr hf1.F).tr he.F)
                · exact hqN 2 _ (by
                  unfold opn
                  rw [if_pos (bI_n.mp czq7)]
                  simp only [rdN_3 hk0 hok0, rdN_2 hk hno]) (by decide) (by decide) _ _ he.1 he.2.1 (((hf0.F.tr rF.num).tr hf1.F).tr he.F))
        · refine z_if_eq (tgt := 90) dX8_readsHead_53 (by decide) (fun czq53 => ?_) (fun czq53 => absurd rfl czq53)
          refine z_iconst (v := 0) dX8_readsHead_90 (by decide) ?_
          exact z_zret rfl rfl dX8_readsHead_91 (by
              rcases hkk with ⟨hk, rfl⟩ | ⟨hk, hno, rfl⟩
              · exact absurd hk0 hk
              · exact absurd (oB_rg hok0) hno)
      · refine z_aload_n (j := 0) dX8_readsHead_38 rfl ?_
        refine z_iconst (v := 2) dX8_readsHead_39 (by decide) ?_
        skip
        refine z_kV [.int ((nI 2))] 0 0 kc ks yoX8_fail yvX8_fail rfl (by decide) lX8_182 (by omega) mW_obj rfl rfl (Nat.le_of_ble_eq_true rfl) (Nat.le_of_ble_eq_true rfl) dX8_readsHead_40 (by omega) (by omega) (z_room (by omega) (Nat.le_refl _) (Nat.le_refl _) (m_fail (d := 0) (k := 2) hb h16_0 hT0.1 (by decide) (fun s1 he => ⟨rfl, ?_⟩)))
        exact z_zret rfl rfl dX8_readsHead_43 (hqN 2 _ (by
              unfold opn
              rw [if_pos (bI_n.mp czq7)]
              simp only [rdN_2 hk0 (bI_0.mp czq35)]) (by decide) (by decide) _ _ he.1 he.2.1 (hf0.F.tr he.F))
  · refine z_aload_n (j := 0) dX8_readsHead_10 rfl ?_
    refine z_iconst (v := 1) dX8_readsHead_11 (by decide) ?_
    refine z_kV [.int 1] 0 0 kc ks yoX8_fail yvX8_fail rfl (by decide) lX8_182 (by omega) mW_obj rfl rfl (Nat.le_of_ble_eq_true rfl) (Nat.le_of_ble_eq_true rfl) dX8_readsHead_12 (by omega) (by omega) (z_room (by omega) (Nat.le_refl _) (Nat.le_refl _) (m_fail (d := 0) (k := 1) hb h16 hT.1 (by decide) (fun s1 he => ⟨rfl, ?_⟩)))
    exact z_zret rfl rfl dX8_readsHead_15 (hqN 1 st (by unfold opn; exact if_neg (bI_0.mp czq7)) (by decide) (by decide) _ _ he.1 he.2.1 he.F)
