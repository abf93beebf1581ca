/-! THE REFERENCE'S READER: all commands of a script -/

set_option maxHeartbeats 4000000 in
set_option maxRecDepth 100000 in
theorem m_all {l : zL} {d kc ks n b : Nat} {h : Nat → va_E} {L : Nat} {x : Nat → Nat} {Q : zQ} (hb : b + 14 ≤ n) (hL : L ≤ 600) (hx : ∀ i, x i < 256) : ∀ f p ex S s a, L + 1 ≤ f + p → p ≤ L → rT L x (tS L x p) s → s 15 = nI L → s 16 = 0 → s 25 = nI ex → ex ≤ 200 → mT S (a 0) → (∀ i, i < L → a 10 i = nI (x i)) → (∀ k off, lp L x (cmd L x 2) 0 f p ex S = .inl (k, off) → k ≠ 0 → k < 10 → ∀ s' a', s' 16 = nI k → s' 17 = nI off → rF s a s' a' → Q (.inl (some (.int 0))) n (mW h b s' a')) → (∀ q ex' S', lp L x (cmd L x 2) 0 f p ex S = .inr (q, ex', S') → ∀ s' a', mT S' (a' 0) → s' 16 = 0 → rF s a s' a' → Q (.inl (some (.int 1))) n (mW h b s' a')) → Zj l mX8_readsAll (d + 16) kc ks 49 [(0, .ref b)] [] n (mW h b s a) Q := by
  intro f
  induction f with
  | zero => intro p ex S s a h1 h2; omega
  | succ f ih =>
    intro p ex S s a hfp hp hT h15 h16 h25 hex hM hu hqN hdone
    by_cases hk : tKd L x (tS L x p) = 0
    · skip
      refine z_aload_n (j := 0) dX8_readsAll_49 rfl ?_
      refine z_get (v := .int (s 21)) (by omega) mW_obj fX8_170 rfl dX8_readsAll_50 ?_
      rw [show (s 21) = (nI (mkd (tKd L x (tS L x p)))) from hT.2.2.1]
      refine z_if_eq (tgt := 73) dX8_readsAll_53 (by decide) (fun czq53 => ?_) (fun czq53 => absurd (by rw [hk]; rfl) czq53)
      refine z_iconst (v := 1) dX8_readsAll_73 (by decide) ?_
      exact z_zret rfl rfl dX8_readsAll_74 (hdone _ ex S (by rw [lp, if_pos hk]) s a hM h16 rF.rf)
    · skip
      refine z_aload_n (j := 0) dX8_readsAll_49 rfl ?_
      refine z_get (v := .int (s 21)) (by omega) mW_obj fX8_170 rfl dX8_readsAll_50 ?_
      rw [show (s 21) = (nI (mkd (tKd L x (tS L x p)))) from hT.2.2.1]
      refine z_if_eq (tgt := 73) dX8_readsAll_53 (by decide) (fun czq53 => absurd czq53 (fun z => hk (mkd_inj _ (tKd_le (L := L) (x := x) (st := tS L x p)) 0 (by decide) ((nI_eq (b := 0) (by have := mkd_le _ (tKd_le (L := L) (x := x) (st := tS L x p)); omega) (by decide)).mp z)))) (fun czq53 => ?_)
      refine z_aload_n (j := 0) dX8_readsAll_56 rfl ?_
      refine z_iconst (v := 0) dX8_readsAll_57 (by decide) ?_
      refine z_kV [.int 0] 0 0 kc ks yoX8_readsCommand yvX8_readsCommand rfl (by decide) lX8_230 (by omega) mW_obj rfl rfl (Nat.le_of_ble_eq_true rfl) (Nat.le_of_ble_eq_true rfl) dX8_readsAll_58 (by omega) (by omega) (z_room (d' := d + 15) (by omega) (Nat.le_refl _) (Nat.le_refl _) ?_)
      refine cR_2 hb hL hx d 0 0 (tS L x p) ex S s a _ (tS_le (x := x) hp).2 h15 h16 hT hM h25 hex hu (fun p' ex' S' hc s' a' g1 g2 g3 g4 g5 g6 => ?_) (fun k off hc g0 g1 s' a' g2 g3 g4 => ?_)
      · refine ⟨rfl, ?_⟩
        refine z_if_ne (tgt := 66) dX8_readsAll_61 (by decide) (fun czq61 => ?_) (fun czq61 => absurd czq61 (by decide))
        refine z_aload_n (j := 0) dX8_readsAll_66 rfl ?_
        have hu9 : ∀ i, i < L → a' 10 i = nI (x i) := fun i hi => by rw [g6.2.1 10 (by decide)]; exact hu i hi
        have hpL9 := (cmd_fr 2 _ _ _ _ _ _ hc).2
        refine z_kV [] 0 0 kc ks yoX8_next yvX8_next rfl (by decide) lX8_188 (by omega) mW_obj rfl rfl (Nat.le_of_ble_eq_true rfl) (Nat.le_of_ble_eq_true rfl) dX8_readsAll_67 (by omega) (by omega) (z_room (by omega) (Nat.le_refl _) (Nat.le_refl _) (m_next (d := 0) (p := p') hb hL hu9 hx hpL9 ((g6.1 15 (by decide) (by decide) (by decide) (by decide) (by decide) (by decide) (by decide) (by decide)).trans h15) g2 (fun s2 f1 f2 f3 f4 hf2 => ⟨rfl, ?_⟩)))
        have hT2 : rT L x (tS L x p') s2 := ⟨f1, f2, f3, f4⟩
        refine z_goto (tgt := 49) dX8_readsAll_70 (by decide) ?_
        obtain ⟨hpp, hpL⟩ := cmd_fr 2 _ _ _ _ _ _ hc
        have hp9 := tS_le (x := x) hp
        refine ih p' ex' S' s2 a' (by omega) hpL (hT2) ((hf2 15 (by decide) (by decide) (by decide) (by decide)).trans ((g6.1 15 (by decide) (by decide) (by decide) (by decide) (by decide) (by decide) (by decide) (by decide)).trans h15)) ((hf2 16 (by decide) (by decide) (by decide) (by decide)).trans g3) ((hf2 25 (by decide) (by decide) (by decide) (by decide)).trans g4) g5 g1 hu9 (fun k off hl k0 k1 s3 a3 e1 e2 e3 => hqN k off (by rw [lp, if_neg hk, hc]; exact hl) k0 k1 s3 a3 e1 e2 ((g6.tr (show mfk s' s2 from hf2).F).tr e3)) (fun q ex2 S2 hl s3 a3 e1 e2 e3 => hdone q ex2 S2 (by rw [lp, if_neg hk, hc]; exact hl) s3 a3 e1 e2 ((g6.tr (show mfk s' s2 from hf2).F).tr e3))
      · refine ⟨rfl, ?_⟩
        refine z_if_ne (tgt := 66) dX8_readsAll_61 (by decide) (fun czq61 => absurd czq61 (fun z => z rfl)) (fun czq61 => ?_)
        refine z_iconst (v := 0) dX8_readsAll_64 (by decide) ?_
        exact z_zret rfl rfl dX8_readsAll_65 (hqN k off (by rw [lp, if_neg hk, hc]) g0 g1 _ _ g2 g3 g4)
