/-! THE REFERENCE'S READER: the body of a repeat -/
/-- a command of the reference, that may hold r repeats more -/
def cR (l : zL) (n b : Nat) (h : Nat → va_E) (L : Nat) (x : Nat → Nat) (r : Nat) : Prop := ∀ (d kc ks st ex : Nat) (S : zS) (s : Nat → Int32) (a : Nat → Nat → Int32) (Q : zQ), st ≤ L → s 15 = nI L → s 16 = 0 → rT L x st s → mT S (a 0) → s 25 = nI ex → ex ≤ 200 → (∀ i, i < L → a 10 i = nI (x i)) →
  (∀ p' ex' S', cmd L x r st ex S = .inr (p', ex', S') → ∀ s' a', mT S' (a' 0) → s' 23 = nI p' → s' 16 = 0 → s' 25 = nI ex' → ex' ≤ 200 → rF s a s' a' → Q (.inl (some (.int 1))) n (mW h b s' a')) →
  (∀ k off, cmd L x r st ex S = .inl (k, off) → k ≠ 0 → k < 10 → ∀ s' a', s' 16 = nI k → s' 17 = nI off → rF s a s' a' → Q (.inl (some (.int 0))) n (mW h b s' a')) →
  Zj l mX8_readsCommand (d + 2 * r + 11) kc ks 0 [(0, .ref b), (1, .int (nI (2 - r)))] [] n (mW h b s a) Q
theorem cR_0 {l : zL} {n b : Nat} {h : Nat → va_E} {L : Nat} {x : Nat → Nat} (hb : b + 14 ≤ n) (hL : L ≤ 600) (hx : ∀ i, x i < 256) : cR l n b h L x 0 := by
  intro d kc ks st ex S s a Q hst h15 h16 hT hM h25 hex hu hqY hqN
  cases hw : wId L x st with
  | none => exact m_cmdN hb hL hu hx hst h15 h16 hT hM h25 hex hw (fun s' a' g1 g2 g3 => hqN 1 st (cmd_n hw 0 ex S) (by decide) (by decide) s' a' g1 g2 g3)
  | some w =>
    by_cases h10 : w = 10
    · subst h10
      exact m_cmdD hb hL hu hx hst h15 h16 hT hM h25 hex hw (fun s' a' g1 g2 g3 => hqN 4 st (cmd_d hw ex S) (by decide) (by decide) s' a' g1 g2 g3)
    · have e := cmd_s hw h10 0 ex S
      rw [e] at hqY hqN
      have h11 := (wId_some hw).1
      rcases (show w = 0 ∨ w = 1 ∨ w = 2 ∨ w = 3 ∨ w = 4 ∨ w = 5 ∨ w = 6 ∨ w = 7 ∨ w = 8 ∨ w = 9 by omega) with g | g | g | g | g | g | g | g | g | g
      · subst g; exact m_cmdS0 hb hL hu hx hst h15 h16 hT hM h25 hex hw hqY hqN
      · subst g; exact m_cmdS1 hb hL hu hx hst h15 h16 hT hM h25 hex hw hqY hqN
      · subst g; exact m_cmdS2 hb hL hu hx hst h15 h16 hT hM h25 hex hw hqY hqN
      · subst g; exact m_cmdS3 hb hL hu hx hst h15 h16 hT hM h25 hex hw hqY hqN
      · subst g; exact m_cmdS4 hb hL hu hx hst h15 h16 hT hM h25 hex hw hqY hqN
      · subst g; exact m_cmdS5 hb hL hu hx hst h15 h16 hT hM h25 hex hw hqY hqN
      · subst g; exact m_cmdS6 hb hL hu hx hst h15 h16 hT hM h25 hex hw hqY hqN
      · subst g; exact m_cmdS7 hb hL hu hx hst h15 h16 hT hM h25 hex hw hqY hqN
      · subst g; exact m_cmdS8 hb hL hu hx hst h15 h16 hT hM h25 hex hw hqY hqN
      · subst g; exact m_cmdS9 hb hL hu hx hst h15 h16 hT hM h25 hex hw hqY hqN

set_option maxHeartbeats 4000000 in
set_option maxRecDepth 100000 in
theorem m_lp {l : zL} {d kc ks n b : Nat} {h : Nat → va_E} {L : Nat} {x : Nat → Nat} {Q : zQ} {r m0 : Nat} {t b0 i0 : Int32} (hb : b + 14 ≤ n) (hL : L ≤ 600) (hx : ∀ i, x i < 256) (hC : cR l n b h L x r) (hm0 : m0 + 1 = 2 - r) : ∀ f p ex S s a, L + 1 ≤ f + p → p ≤ L → rT L x (tS L x p) s → s 15 = nI L → s 16 = 0 → s 25 = nI ex → ex ≤ 200 → mT S (a 0) → (∀ i, i < L → a 10 i = nI (x i)) → (∀ k off, lp L x (cmd L x r) 4 f p ex S = .inl (k, off) → k ≠ 0 → k < 10 → ∀ s' a', s' 16 = nI k → s' 17 = nI off → rF s a s' a' → Q (.inl (some (.int 0))) n (mW h b s' a')) → (∀ q ex' S', lp L x (cmd L x r) 4 f p ex S = .inr (nx L x q, ex', S') → tKd L x (tS L x q) = 4 → q ≤ L → ∀ s' a', rT L x (tS L x q) s' → s' 15 = nI L → s' 16 = 0 → s' 25 = nI ex' → ex' ≤ 200 → mT S' (a' 0) → rF s a s' a' → Zj l mX8_readsRepeat (d + 2 * r + 12) kc ks 78 [(0, .ref b), (1, .int (nI m0)), (2, .int t), (3, .int b0), (4, .int i0)] [] n (mW h b s' a') Q) → Zj l mX8_readsRepeat (d + 2 * r + 12) kc ks 51 [(0, .ref b), (1, .int ((nI m0))), (2, .int t), (3, .int b0), (4, .int i0)] [] n (mW h b s a) Q := by
  intro f
  induction f with
  | zero => intro p ex S s a h1 h2; omega
  | succ f ih =>
    intro p ex S s a hfp hp hT h15 h16 h25 hex hM hu hqN hdone
    by_cases hk : tKd L x (tS L x p) = 4
    · skip
      refine z_aload_n (j := 0) dX8_readsRepeat_51 rfl ?_
      refine z_get (v := .int (s 21)) (by omega) mW_obj fX8_170 rfl dX8_readsRepeat_52 ?_
      refine z_iconst (v := 5) dX8_readsRepeat_55 (by decide) ?_
      rw [show (s 21) = (nI (mkd (tKd L x (tS L x p)))) from hT.2.2.1]
      refine z_icmp_eq (tgt := 78) dX8_readsRepeat_56 (by decide) (fun czq56 => ?_) (fun czq56 => absurd (by rw [hk]; rfl) czq56)
      exact hdone p ex S (by rw [lp, if_pos hk]; rfl) hk hp s a hT h15 h16 h25 hex hM rF.rf
    · skip
      refine z_aload_n (j := 0) dX8_readsRepeat_51 rfl ?_
      refine z_get (v := .int (s 21)) (by omega) mW_obj fX8_170 rfl dX8_readsRepeat_52 ?_
      refine z_iconst (v := 5) dX8_readsRepeat_55 (by decide) ?_
      rw [show (s 21) = (nI (mkd (tKd L x (tS L x p)))) from hT.2.2.1]
      refine z_icmp_eq (tgt := 78) dX8_readsRepeat_56 (by decide) (fun czq56 => absurd czq56 (fun z => hk (mkd_inj _ (tKd_le (L := L) (x := x) (st := tS L x p)) 4 (by decide) ((nI_eq (b := 5) (by have := mkd_le _ (tKd_le (L := L) (x := x) (st := tS L x p)); omega) (by decide)).mp z)))) (fun czq56 => ?_)
      refine z_aload_n (j := 0) dX8_readsRepeat_59 rfl ?_
      refine z_iload_n (j := 1) dX8_readsRepeat_60 rfl ?_
      refine z_iconst (v := 1) dX8_readsRepeat_61 (by decide) ?_
      refine z_iadd dX8_readsRepeat_62 ?_
      rw [show nI m0 + 1 = nI (2 - r) from by rw [nI_1, hm0]]
      refine z_kV [.int (nI (2 - r))] 0 0 kc ks yoX8_readsCommand yvX8_readsCommand rfl (by decide) lX8_230 (by omega) mW_obj rfl rfl (Nat.le_of_ble_eq_true rfl) (Nat.le_of_ble_eq_true rfl) dX8_readsRepeat_63 (by omega) (by omega) (z_room (d' := d + 2 * r + 11) (by omega) (Nat.le_refl _) (Nat.le_refl _) ?_)
      refine hC d 0 0 (tS L x p) ex S s a _ (tS_le (x := x) hp).2 h15 h16 hT hM h25 hex hu (fun p' ex' S' hc s' a' g1 g2 g3 g4 g5 g6 => ?_) (fun k off hc g0 g1 s' a' g2 g3 g4 => ?_)
      · refine ⟨rfl, ?_⟩
        refine z_if_ne (tgt := 71) dX8_readsRepeat_66 (by decide) (fun czq66 => ?_) (fun czq66 => absurd czq66 (by decide))
        refine z_aload_n (j := 0) dX8_readsRepeat_71 rfl ?_
        have hu9 : ∀ i, i < L → a' 10 i = nI (x i) := fun i hi => by rw [g6.2.1 10 (by decide)]; exact hu i hi
        have hpL9 := (cmd_fr r _ _ _ _ _ _ hc).2
        refine z_kV [] 0 0 kc ks yoX8_next yvX8_next rfl (by decide) lX8_188 (by omega) mW_obj rfl rfl (Nat.le_of_ble_eq_true rfl) (Nat.le_of_ble_eq_true rfl) dX8_readsRepeat_72 (by omega) (by omega) (z_room (by omega) (Nat.le_refl _) (Nat.le_refl _) (m_next (d := 0) (p := p') hb hL hu9 hx hpL9 ((g6.1 15 (by decide) (by decide) (by decide) (by decide) (by decide) (by decide) (by decide) (by decide)).trans h15) g2 (fun s2 f1 f2 f3 f4 hf2 => ⟨rfl, ?_⟩)))
        have hT2 : rT L x (tS L x p') s2 := ⟨f1, f2, f3, f4⟩
        refine z_goto (tgt := 51) dX8_readsRepeat_75 (by decide) ?_
        obtain ⟨hpp, hpL⟩ := cmd_fr r _ _ _ _ _ _ hc
        have hp9 := tS_le (x := x) hp
        refine ih p' ex' S' s2 a' (by omega) hpL (hT2) ((hf2 15 (by decide) (by decide) (by decide) (by decide)).trans ((g6.1 15 (by decide) (by decide) (by decide) (by decide) (by decide) (by decide) (by decide) (by decide)).trans h15)) ((hf2 16 (by decide) (by decide) (by decide) (by decide)).trans g3) ((hf2 25 (by decide) (by decide) (by decide) (by decide)).trans g4) g5 g1 hu9 (fun k off hl k0 k1 s3 a3 e1 e2 e3 => hqN k off (by rw [lp, if_neg hk, hc]; exact hl) k0 k1 s3 a3 e1 e2 ((g6.tr (show mfk s' s2 from hf2).F).tr e3)) (fun q ex2 S2 hl hk2 hqL s3 a3 e1 e2 e3 e4 e5 e6 e7 => hdone q ex2 S2 (by rw [lp, if_neg hk, hc]; exact hl) hk2 hqL s3 a3 e1 e2 e3 e4 e5 e6 ((g6.tr (show mfk s' s2 from hf2).F).tr e7))
      · refine ⟨rfl, ?_⟩
        refine z_if_ne (tgt := 71) dX8_readsRepeat_66 (by decide) (fun czq66 => absurd czq66 (fun z => z rfl)) (fun czq66 => ?_)
        refine z_iconst (v := 0) dX8_readsRepeat_69 (by decide) ?_
        exact z_zret rfl rfl dX8_readsRepeat_70 (hqN k off (by rw [lp, if_neg hk, hc]) g0 g1 _ _ g2 g3 g4)
