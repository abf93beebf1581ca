/-! THE REFERENCE'S READER: the next token -/

set_option maxHeartbeats 4000000 in
set_option maxRecDepth 100000 in
theorem n_sig {l : zL} {d kc ks n b : Nat} {h : Nat → va_E} {a : Nat → Nat → Int32} {st te kk : Nat} {Q : zQ} {s : Nat → Int32} (hb : b + 14 ≤ n) (h22 : s 22 = nI st) (h23 : s 23 = nI te) (hst : st < te) (hte : te ≤ 600) (h21 : s 21 = nI kk) (hk6 : kk ≤ 6) (hk2 : ¬ kk = 2) (hk3 : ¬ kk = 3) (hq : ∀ s', (∀ q, q ≠ 24 → s' q = s q) → Q (.inl none) n (mW h b s' a)) : Zj l mX8_next (d + 1) kc ks 111 [(0, .ref b)] [] n (mW h b s a) Q := by
  refine z_aload_n (j := 0) dX8_next_111 rfl ?_
  refine z_get (v := .int (s 21)) (by omega) mW_obj fX8_170 rfl dX8_next_112 ?_
  refine z_iconst (v := 2) dX8_next_115 (by decide) ?_
  rw [show (s 21) = (nI kk) from h21]
  refine z_icmp_eq (tgt := 127) dX8_next_116 (by decide) (fun czq116 => absurd czq116 (fun z => hk2 ((nI_eq (b := 2) (by omega) (by decide)).mp z))) (fun czq116 => ?_)
  refine z_aload_n (j := 0) dX8_next_119 rfl ?_
  refine z_get (v := .int (s 21)) (by omega) mW_obj fX8_170 rfl dX8_next_120 ?_
  refine z_iconst (v := 3) dX8_next_123 (by decide) ?_
  rw [show (s 21) = (nI kk) from h21]
  refine z_icmp_ne (tgt := 170) dX8_next_124 (by decide) (fun czq124 => ?_) (fun czq124 => absurd czq124 (fun z => hk3 ((nI_eq (b := 3) (by omega) (by decide)).mp z)))
  exact n_fin hb h22 h23 hst hte h21 hk6 hk3 hq

set_option maxHeartbeats 4000000 in
set_option maxRecDepth 100000 in
theorem n_rest {l : zL} {d kc ks n b : Nat} {h : Nat → va_E} {a : Nat → Nat → Int32} {L : Nat} {x : Nat → Nat} {st : Nat} {Q : zQ} {s : Nat → Int32} (hb : b + 14 ≤ n) (hL : L ≤ 600) (hu : ∀ i, i < L → a 10 i = nI (x i)) (hx : ∀ i, x i < 256) (hst : st ≤ L) (h15 : s 15 = nI L) (h22 : s 22 = nI st) (hq : ∀ s', s' 22 = nI st → s' 23 = nI (tE L x st) → s' 21 = nI (mkd (tKd L x st)) → (tKd L x st = 2 → s' 24 = nI (tV L x st)) → (∀ q, q ≠ 21 → q ≠ 22 → q ≠ 23 → q ≠ 24 → s' q = s q) → Q (.inl none) n (mW h b s' a)) : Zj l mX8_next (d + 1) kc ks 60 [(0, .ref b)] [] n (mW h b s a) Q := by
  refine z_aload_n (j := 0) dX8_next_60 rfl ?_
  refine z_aload_n (j := 0) dX8_next_61 rfl ?_
  refine z_get (v := .int (s 22)) (by omega) mW_obj fX8_167 rfl dX8_next_62 ?_
  rw [show (s 22) = (nI st) from h22]
  refine m_put (k := 23) (by omega) fX8_164 (by unfold mS; omega) (by decide) dX8_next_65 ?_
  refine z_aload_n (j := 0) dX8_next_68 rfl ?_
  refine z_get (v := .int (s 22)) (by omega) mW_obj fX8_167 rfl dX8_next_69 ?_
  refine z_aload_n (j := 0) dX8_next_72 rfl ?_
  refine z_get (v := .int (s 15)) (by omega) mW_obj fX8_157 rfl dX8_next_73 ?_
  rw [show (s 15) = (nI L) from h15, show (s 22) = (nI st) from h22]
  refine z_icmp_ne (tgt := 85) dX8_next_76 (by decide) (fun czq76 => ?_) (fun czq76 => ?_)
  · refine z_aload_n (j := 0) dX8_next_85 rfl ?_
    refine z_aload_n (j := 0) dX8_next_86 rfl ?_
    refine z_get (v := .ref (b + 11)) (by omega) mW_obj fX8_40 rfl dX8_next_87 ?_
    refine z_aload_n (j := 0) dX8_next_90 rfl ?_
    refine z_get (v := .int (s 22)) (by omega) mW_obj fX8_167 rfl dX8_next_91 ?_
    rw [show (s 22) = (nI st) from h22]
    refine m_aldN 10 600 st (by decide) rfl rfl hb rfl (by have h9 : ¬ st = L := fun z => czq76 (by rw [z]); omega) (by decide) dX8_next_94 ?_
    rw [show (a 10 st) = (nI (x st)) from hu st (by have : ¬ st = L := fun z => czq76 (by rw [z]); omega)]
    refine z_kS [.int ((nI (x st)))] 0 0 kc ks yoX8_sortOf ysX8_sortOf rfl (by decide) lX8_173 rfl (Nat.le_of_ble_eq_true rfl) (Nat.le_of_ble_eq_true rfl) dX8_next_95 (by omega) (by omega) (z_room (by omega) (Nat.le_refl _) (Nat.le_refl _) (m_sortOf (d := 0) (c := x st) (hx st) ⟨rfl, ?_⟩))
    refine m_put (k := 21) (by omega) fX8_170 (by unfold mS; omega) (by decide) dX8_next_98 ?_
    refine z_aload_n (j := 0) dX8_next_101 rfl ?_
    refine z_dup rfl dX8_next_102 ?_
    refine z_get (v := .int ((nI st))) (by omega) mW_obj fX8_164 rfl dX8_next_103 ?_
    refine z_iconst (v := 1) dX8_next_106 (by decide) ?_
    refine z_iadd dX8_next_107 ?_
    rw [show (((nI st)) + 1) = (nI (st + 1)) from nI_1 _]
    refine m_put (k := 23) (by omega) fX8_164 (by unfold mS; omega) (by decide) dX8_next_108 ?_
    have hlt : st < L := by
      have : ¬ st = L := fun z => czq76 (by rw [z])
      omega
    have hsk := skc_all _ (hx st)
    obtain ⟨w, hw⟩ : ∃ w, w = (va_up (va_up (va_up s 23 (nI st)) 21 (nI (skc (x st)))) 23 (nI (st + 1))) := ⟨_, rfl⟩
    rw [← hw]
    have hw23 : w 23 = nI (st + 1) := by rw [hw, up_eq]
    have hw21 : w 21 = nI (skc (x st)) := by rw [hw, up_ne (by decide), up_eq]
    have hwq : ∀ q, q ≠ 21 → q ≠ 23 → w q = s q := fun q q1 q2 => by rw [hw, up_ne q2, up_ne q1, up_ne q2]
    have hw22 : w 22 = nI st := (hwq 22 (by decide) (by decide)).trans h22
    have hw15 : w 15 = nI L := (hwq 15 (by decide) (by decide)).trans h15
    by_cases hl : tLe (x st) = true
    · have hte : tE L x st = rn tLe x (L - (st + 1)) (st + 1) := by unfold tE; rw [if_neg (by omega), if_pos hl]
      have htk : tKd L x st = 1 := by unfold tKd; rw [if_neg (by omega), if_pos hl]
      have hr := rn_le (p := tLe) (x := x) (L - (st + 1)) (st + 1)
      have hw2 : w 21 = 2 := by rw [hw21, hsk.2.1.mpr hl]; rfl
      refine n_let hb hL hu hx (L - (st + 1)) (st + 1) w (by omega) hw15 hw2 hw23 (fun s1 g1 g2 => ?_)
      refine n_fin (kk := 2) (st := st) (te := tE L x st) hb ((g2 22 (by decide)).trans hw22) (by rw [hte]; exact g1) (by omega) (by omega) ((g2 21 (by decide)).trans hw2) (by decide) (by decide) (fun s2 g3 => ?_)
      exact hq s2 ((g3 22 (by decide)).trans ((g2 22 (by decide)).trans hw22)) (by rw [g3 23 (by decide), hte]; exact g1) (by rw [htk]; exact (g3 21 (by decide)).trans ((g2 21 (by decide)).trans hw2)) (fun e => absurd (htk.symm.trans e) (by decide)) (fun q q1 q2 q3 q4 => (g3 q q4).trans ((g2 q q3).trans (hwq q q1 q3)))
    · by_cases hd : tDi (x st) = true
      · have hte : tE L x st = rn tDi x (L - (st + 1)) (st + 1) := by unfold tE; rw [if_neg (by omega), if_neg hl, if_pos hd]
        have htk : tKd L x st = if tE L x st - st ≤ 4 then 2 else 6 := by unfold tKd; rw [if_neg (by omega), if_neg hl, if_pos hd]
        have hr := rn_le (p := tDi) (x := x) (L - (st + 1)) (st + 1)
        have hw3 : w 21 = 3 := by rw [hw21, hsk.2.2.mpr hd]; rfl
        refine n_dig hb hL hu hx (L - (st + 1)) (st + 1) w (by omega) hw15 hw3 hw23 (fun s1 g1 g2 => ?_)
        have hdi : ∀ i, st ≤ i → i < tE L x st → tDi (x i) = true := fun i i1 i2 => by
          by_cases hi : i = st
          · rw [hi]; exact hd
          · exact rn_all _ (st + 1) i (by omega) (by rw [← hte]; exact i2)
        by_cases hle4 : tE L x st - st ≤ 4
        · rw [if_pos hle4] at htk
          refine n_fin3 (st := st) (te := tE L x st) hb hL hu hx (by omega) (by omega) ((g2 21 (by decide)).trans hw3) ((g2 22 (by decide)).trans hw22) (by rw [hte]; exact g1) hdi hle4 (fun s2 g3 g4 => ?_)
          exact hq s2 ((g4 22 (by decide)).trans ((g2 22 (by decide)).trans hw22)) (by rw [g4 23 (by decide), hte]; exact g1) (by rw [htk]; exact (g4 21 (by decide)).trans ((g2 21 (by decide)).trans hw3)) (fun _ => g3) (fun q q1 q2 q3 q4 => (g4 q q4).trans ((g2 q q3).trans (hwq q q1 q3)))
        · rw [if_neg hle4] at htk
          refine n_fin6 (L := L) (x := x) (st := st) (te := tE L x st) hb (by omega) (by omega) ((g2 21 (by decide)).trans hw3) ((g2 22 (by decide)).trans hw22) (by rw [hte]; exact g1) hle4 (fun s2 g3 g4 => ?_)
          exact hq s2 ((g4 22 (by decide) (by decide)).trans ((g2 22 (by decide)).trans hw22)) (by rw [g4 23 (by decide) (by decide), hte]; exact g1) (by rw [htk]; exact g3) (fun e => absurd (htk.symm.trans e) (by decide)) (fun q q1 q2 q3 q4 => (g4 q q4 q1).trans ((g2 q q3).trans (hwq q q1 q3)))
      · have hte : tE L x st = st + 1 := by unfold tE; rw [if_neg (by omega), if_neg hl, if_neg hd]
        have hk9 : skc (x st) = mkd (tKd L x st) ∧ ¬ tKd L x st = 2 := by
          unfold tKd skc
          rw [if_neg (show ¬ L ≤ st by omega), if_neg hl, if_neg hd, if_neg hl, if_neg hd]
          by_cases e59 : x st = 59
          · rw [if_pos e59, if_neg (by omega), if_neg (by omega), if_pos e59]; exact ⟨rfl, by decide⟩
          · rw [if_neg e59]
            by_cases e40 : x st = 40
            · rw [if_pos e40, if_pos e40]; exact ⟨rfl, by decide⟩
            · rw [if_neg e40, if_neg e40]
              by_cases e41 : x st = 41
              · rw [if_pos e41, if_pos e41]; exact ⟨rfl, by decide⟩
              · rw [if_neg e41, if_neg e41, if_neg e59]; exact ⟨rfl, by decide⟩
        refine n_sig (kk := skc (x st)) (st := st) (te := st + 1) hb hw22 hw23 (by omega) (by omega) hw21 hsk.1 (fun z => hl (hsk.2.1.mp z)) (fun z => hd (hsk.2.2.mp z)) (fun s2 g3 => ?_)
        exact hq s2 ((g3 22 (by decide)).trans hw22) (by rw [g3 23 (by decide), hte]; exact hw23) (by rw [g3 21 (by decide), hw21, hk9.1]) (fun e => absurd e hk9.2) (fun q q1 q2 q3 q4 => (g3 q q4).trans (hwq q q1 q3))
  · refine z_aload_n (j := 0) dX8_next_79 rfl ?_
    refine z_iconst (v := 0) dX8_next_80 (by decide) ?_
    refine m_put (k := 21) (by omega) fX8_170 (by unfold mS; omega) (by decide) dX8_next_81 ?_
    exact z_vret rfl dX8_next_84 (by
        have hst9 : st = L := (nI_eq (by omega) (by omega)).mp czq76
        have hte : tE L x st = st := by unfold tE; rw [if_pos (by omega)]
        have htk : tKd L x st = 0 := by unfold tKd; rw [if_pos (by omega)]
        exact hq _ (by rw [up_ne (by decide), up_ne (by decide)]; exact h22) (by rw [up_ne (by decide), up_eq, hte]) (by rw [up_eq, htk]; rfl) (fun e => absurd (htk.symm.trans e) (by decide)) (fun q q1 q2 q3 q4 => by rw [up_ne q1, up_ne q3]))

set_option maxHeartbeats 4000000 in
set_option maxRecDepth 100000 in
theorem m_next {l : zL} {d kc ks n b : Nat} {h : Nat → va_E} {a : Nat → Nat → Int32} {L : Nat} {x : Nat → Nat} {p : Nat} {Q : zQ} {s : Nat → Int32} (hb : b + 14 ≤ n) (hL : L ≤ 600) (hu : ∀ i, i < L → a 10 i = nI (x i)) (hx : ∀ i, x i < 256) (hp : p ≤ L) (h15 : s 15 = nI L) (h23 : s 23 = nI p) (hq : ∀ s', s' 22 = nI (tS L x p) → s' 23 = nI (nx L x p) → s' 21 = nI (mkd (tKd L x (tS L x p))) → (tKd L x (tS L x p) = 2 → s' 24 = nI (tV L x (tS L x p))) → (∀ q, q ≠ 21 → q ≠ 22 → q ≠ 23 → q ≠ 24 → s' q = s q) → Q (.inl none) n (mW h b s' a)) : Zj l mX8_next (d + 1) kc ks 0 [(0, .ref b)] [] n (mW h b s a) Q := by
  refine z_aload_n (j := 0) dX8_next_0 rfl ?_
  refine z_aload_n (j := 0) dX8_next_1 rfl ?_
  refine z_get (v := .int (s 23)) (by omega) mW_obj fX8_164 rfl dX8_next_2 ?_
  rw [show (s 23) = (nI p) from h23]
  refine m_put (k := 22) (by omega) fX8_167 (by unfold mS; omega) (by decide) dX8_next_5 ?_
  refine z_room (d' := d + 1) (Nat.le_refl _) (Nat.le_refl _) (Nat.le_refl _) (n_blank hb hL hu hx (L - p) p _ (by omega) (by rw [up_ne (by decide)]; exact h15) (by rw [up_eq]) (fun s1 g1 g2 => ?_))
  exact n_rest hb hL hu hx (tS_le hp).2 ((g2 15 (by decide)).trans ((up_ne (by decide)).trans h15)) g1 (fun s' f1 f2 f3 f4 f5 => hq s' f1 f2 f3 f4 (fun q q1 q2 q3 q4 => (f5 q q1 q2 q3 q4).trans ((g2 q q2).trans (up_ne q2))))
