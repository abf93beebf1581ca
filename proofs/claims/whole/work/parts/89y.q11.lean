/-! THE REFERENCE'S READER: a command that is no repeat -/
theorem rF.ex {s : Nat → Int32} {a : Nat → Nat → Int32} {v : Int32} : rF s a (va_up s 25 v) a := ⟨fun q q1 q2 q3 q4 q5 q6 q7 q8 => up_ne q8, fun _ _ => rfl, fun z => ⟨up_ne (by decide), (show va_up s 25 v 16 = s 16 from up_ne (by decide)).symm.trans z⟩⟩

set_option maxHeartbeats 4000000 in
set_option maxRecDepth 100000 in
theorem m_cmdS0 {l : zL} {d kc ks n b : Nat} {h : Nat → va_E} {a : Nat → Nat → Int32} {L : Nat} {x : Nat → Nat} {st ex : Nat} {S : zS} {Q : zQ} {s : Nat → Int32} {dv : Int32} (hb : b + 14 ≤ n) (hL : L ≤ 600) (hu : ∀ i, i < L → a 10 i = nI (x i)) (hx : ∀ i, x i < 256) (hst : st ≤ L) (h15 : s 15 = nI L) (h16 : s 16 = 0) (hT : rT L x st s) (hM : mT S (a 0)) (h25 : s 25 = nI ex) (hex : ex ≤ 200) (hw : wId L x st = some 0) (hqY : ∀ p' ex' S', cS L x 0 st ex S = .inr (p', ex', S') → ∀ s' a', mT S' (a' 0) → s' 23 = nI p' → s' 16 = 0 → s' 25 = nI ex' → ex' ≤ 200 → rF s a s' a' → Q (.inl (some (.int 1))) n (mW h b s' a')) (hqN : ∀ k off, cS L x 0 st ex S = .inl (k, off) → k ≠ 0 → k < 10 → ∀ s' a', s' 16 = nI k → s' 17 = nI off → rF s a s' a' → Q (.inl (some (.int 0))) n (mW h b s' a')) : Zj l mX8_readsCommand (d + 11) kc ks 0 [(0, .ref b), (1, .int dv)] [] n (mW h b s a) Q := by
  refine z_aload_n (j := 0) dX8_readsCommand_0 rfl ?_
  refine z_kV [] 0 0 kc ks yoX8_wordAhead yvX8_wordAhead rfl (by decide) lX8_262 (by omega) mW_obj rfl rfl (Nat.le_of_ble_eq_true rfl) (Nat.le_of_ble_eq_true rfl) dX8_readsCommand_1 (by omega) (by omega) (z_room (by omega) (Nat.le_refl _) (Nat.le_refl _) (m_wordAhead (d := 0) hb hL hu hx hst hT ⟨rfl, ?_⟩))
  rw [show (optI (wId L x st)) = 0 from by rw [hw]; rfl]
  refine z_istore_n [1, 2, 0] [(0, .ref b), (1, .int dv), (2, .int 0)] dX8_readsCommand_4 (by decide) rfl ?_
  refine z_iload_n (j := 2) dX8_readsCommand_5 rfl ?_
  refine z_iconst (v := (-1)) dX8_readsCommand_6 (by decide) ?_
  refine z_icmp_ne (tgt := 16) dX8_readsCommand_7 (by decide) (fun czq7 => ?_) (fun czq7 => absurd czq7 (by decide))
  refine z_iload_n (j := 2) dX8_readsCommand_16 rfl ?_
  refine z_bipush (v := 10) dX8_readsCommand_17 (by decide) ?_
  refine z_icmp_ne (tgt := 43) dX8_readsCommand_19 (by decide) (fun czq19 => ?_) (fun czq19 => absurd czq19 (by decide))
  refine z_aload_n (j := 0) dX8_readsCommand_43 rfl ?_
  refine z_get (v := .int (s 25)) (by omega) mW_obj fX8_268 rfl dX8_readsCommand_44 ?_
  refine z_sipush (v := 200) dX8_readsCommand_47 (by decide) ?_
  rw [show (s 25) = (nI ex) from h25]
  refine z_icmp_ne (tgt := 59) dX8_readsCommand_50 (by decide) (fun czq50 => ?_) (fun czq50 => ?_)
  · have hexn : ¬ ex = 200 := fun z => czq50 (by rw [z]; rfl)
    refine z_aload_n (j := 0) dX8_readsCommand_59 rfl ?_
    refine z_dup rfl dX8_readsCommand_60 ?_
    refine z_get (v := .int (s 25)) (by omega) mW_obj fX8_268 rfl dX8_readsCommand_61 ?_
    refine z_iconst (v := 1) dX8_readsCommand_64 (by decide) ?_
    refine z_iadd dX8_readsCommand_65 ?_
    rw [show ((s 25) + 1) = (nI (ex + 1)) from by rw [h25, nI_1]]
    refine m_put (k := 25) (by omega) fX8_268 (by unfold mS; omega) (by decide) dX8_readsCommand_66 ?_
    refine z_aload_n (j := 0) dX8_readsCommand_69 rfl ?_
    refine z_kV [] 0 0 kc ks yoX8_next yvX8_next rfl (by decide) lX8_188 (by omega) mW_obj rfl rfl (Nat.le_of_ble_eq_true rfl) (Nat.le_of_ble_eq_true rfl) dX8_readsCommand_70 (by omega) (by omega) (z_room (by omega) (Nat.le_refl _) (Nat.le_refl _) (m_nxt (d := 0) hb hL hu hx hst (by rw [up_ne (by decide)]; exact h15) (by rw [up_ne (by decide)]; exact hT.2.1) (fun s1 hT1 hf1 => ⟨rfl, ?_⟩)))
    refine z_aload_n (j := 0) dX8_readsCommand_73 rfl ?_
    refine z_iload_n (j := 2) dX8_readsCommand_74 rfl ?_
    refine z_kV [.int 0] 0 0 kc ks yoX8_readsWord yvX8_readsWord rfl (by decide) lX8_271 (by omega) mW_obj rfl rfl (Nat.le_of_ble_eq_true rfl) (Nat.le_of_ble_eq_true rfl) dX8_readsCommand_75 (by omega) (by omega) (z_room (by omega) (Nat.le_refl _) (Nat.le_refl _) (m_word0 (d := 0) (S := S) (p := tE L x st) hb hL hu hx (tE_le' (x := x) hst).2 ((hf1 15 (by decide) (by decide) (by decide) (by decide)).trans ((up_ne (by decide)).trans h15)) ((hf1 16 (by decide) (by decide) (by decide) (by decide)).trans ((up_ne (by decide)).trans h16)) hT1 hM (fun p2 S2 he s2 a2 g1 g2 g3 g4 g5 => ⟨rfl, ?_⟩) (fun k off he g0 g1 s2 a2 e1 e2 hF => ⟨rfl, ?_⟩)))
    · exact z_zret rfl rfl dX8_readsCommand_78 (hqY p2 (ex + 1) S2 (by unfold cS; rw [if_neg hexn, he]) _ _ g1 g2 g3 (g4.trans ((hf1 25 (by decide) (by decide) (by decide) (by decide)).trans up_eq)) (by omega) ((rF.ex.tr hf1.F).tr g5))
    · exact z_zret rfl rfl dX8_readsCommand_78 (hqN k off (by unfold cS; rw [if_neg hexn, he]) g0 g1 _ _ e1 e2 ((rF.ex.tr hf1.F).tr hF))
  · refine z_aload_n (j := 0) dX8_readsCommand_53 rfl ?_
    skip
    refine z_iconst (v := 5) dX8_readsCommand_54 (by decide) ?_
    refine z_kV [.int 5] 0 0 kc ks yoX8_fail yvX8_fail rfl (by decide) lX8_182 (by omega) mW_obj rfl rfl (Nat.le_of_ble_eq_true rfl) (Nat.le_of_ble_eq_true rfl) dX8_readsCommand_55 (by omega) (by omega) (z_room (by omega) (Nat.le_refl _) (Nat.le_refl _) (m_fail (d := 0) (k := 5) hb h16 hT.1 (by decide) (fun s1 he => ⟨rfl, ?_⟩)))
    exact z_zret rfl rfl dX8_readsCommand_58 (hqN 5 st (by unfold cS; exact if_pos ((nI_eq (b := 200) (by omega) (by decide)).mp czq50)) (by decide) (by decide) _ _ he.1 he.2.1 he.F)

set_option maxHeartbeats 4000000 in
set_option maxRecDepth 100000 in
theorem m_cmdS1 {l : zL} {d kc ks n b : Nat} {h : Nat → va_E} {a : Nat → Nat → Int32} {L : Nat} {x : Nat → Nat} {st ex : Nat} {S : zS} {Q : zQ} {s : Nat → Int32} {dv : Int32} (hb : b + 14 ≤ n) (hL : L ≤ 600) (hu : ∀ i, i < L → a 10 i = nI (x i)) (hx : ∀ i, x i < 256) (hst : st ≤ L) (h15 : s 15 = nI L) (h16 : s 16 = 0) (hT : rT L x st s) (hM : mT S (a 0)) (h25 : s 25 = nI ex) (hex : ex ≤ 200) (hw : wId L x st = some 1) (hqY : ∀ p' ex' S', cS L x 1 st ex S = .inr (p', ex', S') → ∀ s' a', mT S' (a' 0) → s' 23 = nI p' → s' 16 = 0 → s' 25 = nI ex' → ex' ≤ 200 → rF s a s' a' → Q (.inl (some (.int 1))) n (mW h b s' a')) (hqN : ∀ k off, cS L x 1 st ex S = .inl (k, off) → k ≠ 0 → k < 10 → ∀ s' a', s' 16 = nI k → s' 17 = nI off → rF s a s' a' → Q (.inl (some (.int 0))) n (mW h b s' a')) : Zj l mX8_readsCommand (d + 11) kc ks 0 [(0, .ref b), (1, .int dv)] [] n (mW h b s a) Q := by
  refine z_aload_n (j := 0) dX8_readsCommand_0 rfl ?_
  refine z_kV [] 0 0 kc ks yoX8_wordAhead yvX8_wordAhead rfl (by decide) lX8_262 (by omega) mW_obj rfl rfl (Nat.le_of_ble_eq_true rfl) (Nat.le_of_ble_eq_true rfl) dX8_readsCommand_1 (by omega) (by omega) (z_room (by omega) (Nat.le_refl _) (Nat.le_refl _) (m_wordAhead (d := 0) hb hL hu hx hst hT ⟨rfl, ?_⟩))
  rw [show (optI (wId L x st)) = 1 from by rw [hw]; rfl]
  refine z_istore_n [1, 2, 0] [(0, .ref b), (1, .int dv), (2, .int 1)] dX8_readsCommand_4 (by decide) rfl ?_
  refine z_iload_n (j := 2) dX8_readsCommand_5 rfl ?_
  refine z_iconst (v := (-1)) dX8_readsCommand_6 (by decide) ?_
  refine z_icmp_ne (tgt := 16) dX8_readsCommand_7 (by decide) (fun czq7 => ?_) (fun czq7 => absurd czq7 (by decide))
  refine z_iload_n (j := 2) dX8_readsCommand_16 rfl ?_
  refine z_bipush (v := 10) dX8_readsCommand_17 (by decide) ?_
  refine z_icmp_ne (tgt := 43) dX8_readsCommand_19 (by decide) (fun czq19 => ?_) (fun czq19 => absurd czq19 (by decide))
  refine z_aload_n (j := 0) dX8_readsCommand_43 rfl ?_
  refine z_get (v := .int (s 25)) (by omega) mW_obj fX8_268 rfl dX8_readsCommand_44 ?_
  refine z_sipush (v := 200) dX8_readsCommand_47 (by decide) ?_
  rw [show (s 25) = (nI ex) from h25]
  refine z_icmp_ne (tgt := 59) dX8_readsCommand_50 (by decide) (fun czq50 => ?_) (fun czq50 => ?_)
  · have hexn : ¬ ex = 200 := fun z => czq50 (by rw [z]; rfl)
    refine z_aload_n (j := 0) dX8_readsCommand_59 rfl ?_
    refine z_dup rfl dX8_readsCommand_60 ?_
    refine z_get (v := .int (s 25)) (by omega) mW_obj fX8_268 rfl dX8_readsCommand_61 ?_
    refine z_iconst (v := 1) dX8_readsCommand_64 (by decide) ?_
    refine z_iadd dX8_readsCommand_65 ?_
    rw [show ((s 25) + 1) = (nI (ex + 1)) from by rw [h25, nI_1]]
    refine m_put (k := 25) (by omega) fX8_268 (by unfold mS; omega) (by decide) dX8_readsCommand_66 ?_
    refine z_aload_n (j := 0) dX8_readsCommand_69 rfl ?_
    refine z_kV [] 0 0 kc ks yoX8_next yvX8_next rfl (by decide) lX8_188 (by omega) mW_obj rfl rfl (Nat.le_of_ble_eq_true rfl) (Nat.le_of_ble_eq_true rfl) dX8_readsCommand_70 (by omega) (by omega) (z_room (by omega) (Nat.le_refl _) (Nat.le_refl _) (m_nxt (d := 0) hb hL hu hx hst (by rw [up_ne (by decide)]; exact h15) (by rw [up_ne (by decide)]; exact hT.2.1) (fun s1 hT1 hf1 => ⟨rfl, ?_⟩)))
    refine z_aload_n (j := 0) dX8_readsCommand_73 rfl ?_
    refine z_iload_n (j := 2) dX8_readsCommand_74 rfl ?_
    refine z_kV [.int 1] 0 0 kc ks yoX8_readsWord yvX8_readsWord rfl (by decide) lX8_271 (by omega) mW_obj rfl rfl (Nat.le_of_ble_eq_true rfl) (Nat.le_of_ble_eq_true rfl) dX8_readsCommand_75 (by omega) (by omega) (z_room (by omega) (Nat.le_refl _) (Nat.le_refl _) (m_word1 (d := 0) (S := S) (p := tE L x st) hb hL hu hx (tE_le' (x := x) hst).2 ((hf1 15 (by decide) (by decide) (by decide) (by decide)).trans ((up_ne (by decide)).trans h15)) ((hf1 16 (by decide) (by decide) (by decide) (by decide)).trans ((up_ne (by decide)).trans h16)) hT1 hM (fun p2 S2 he s2 a2 g1 g2 g3 g4 g5 => ⟨rfl, ?_⟩) (fun k off he g0 g1 s2 a2 e1 e2 hF => ⟨rfl, ?_⟩)))
    · exact z_zret rfl rfl dX8_readsCommand_78 (hqY p2 (ex + 1) S2 (by unfold cS; rw [if_neg hexn, he]) _ _ g1 g2 g3 (g4.trans ((hf1 25 (by decide) (by decide) (by decide) (by decide)).trans up_eq)) (by omega) ((rF.ex.tr hf1.F).tr g5))
    · exact z_zret rfl rfl dX8_readsCommand_78 (hqN k off (by unfold cS; rw [if_neg hexn, he]) g0 g1 _ _ e1 e2 ((rF.ex.tr hf1.F).tr hF))
  · refine z_aload_n (j := 0) dX8_readsCommand_53 rfl ?_
    skip
    refine z_iconst (v := 5) dX8_readsCommand_54 (by decide) ?_
    refine z_kV [.int 5] 0 0 kc ks yoX8_fail yvX8_fail rfl (by decide) lX8_182 (by omega) mW_obj rfl rfl (Nat.le_of_ble_eq_true rfl) (Nat.le_of_ble_eq_true rfl) dX8_readsCommand_55 (by omega) (by omega) (z_room (by omega) (Nat.le_refl _) (Nat.le_refl _) (m_fail (d := 0) (k := 5) hb h16 hT.1 (by decide) (fun s1 he => ⟨rfl, ?_⟩)))
    exact z_zret rfl rfl dX8_readsCommand_58 (hqN 5 st (by unfold cS; exact if_pos ((nI_eq (b := 200) (by omega) (by decide)).mp czq50)) (by decide) (by decide) _ _ he.1 he.2.1 he.F)

set_option maxHeartbeats 4000000 in
set_option maxRecDepth 100000 in
theorem m_cmdS2 {l : zL} {d kc ks n b : Nat} {h : Nat → va_E} {a : Nat → Nat → Int32} {L : Nat} {x : Nat → Nat} {st ex : Nat} {S : zS} {Q : zQ} {s : Nat → Int32} {dv : Int32} (hb : b + 14 ≤ n) (hL : L ≤ 600) (hu : ∀ i, i < L → a 10 i = nI (x i)) (hx : ∀ i, x i < 256) (hst : st ≤ L) (h15 : s 15 = nI L) (h16 : s 16 = 0) (hT : rT L x st s) (hM : mT S (a 0)) (h25 : s 25 = nI ex) (hex : ex ≤ 200) (hw : wId L x st = some 2) (hqY : ∀ p' ex' S', cS L x 2 st ex S = .inr (p', ex', S') → ∀ s' a', mT S' (a' 0) → s' 23 = nI p' → s' 16 = 0 → s' 25 = nI ex' → ex' ≤ 200 → rF s a s' a' → Q (.inl (some (.int 1))) n (mW h b s' a')) (hqN : ∀ k off, cS L x 2 st ex S = .inl (k, off) → k ≠ 0 → k < 10 → ∀ s' a', s' 16 = nI k → s' 17 = nI off → rF s a s' a' → Q (.inl (some (.int 0))) n (mW h b s' a')) : Zj l mX8_readsCommand (d + 11) kc ks 0 [(0, .ref b), (1, .int dv)] [] n (mW h b s a) Q := by
  refine z_aload_n (j := 0) dX8_readsCommand_0 rfl ?_
  refine z_kV [] 0 0 kc ks yoX8_wordAhead yvX8_wordAhead rfl (by decide) lX8_262 (by omega) mW_obj rfl rfl (Nat.le_of_ble_eq_true rfl) (Nat.le_of_ble_eq_true rfl) dX8_readsCommand_1 (by omega) (by omega) (z_room (by omega) (Nat.le_refl _) (Nat.le_refl _) (m_wordAhead (d := 0) hb hL hu hx hst hT ⟨rfl, ?_⟩))
  rw [show (optI (wId L x st)) = 2 from by rw [hw]; rfl]
  refine z_istore_n [1, 2, 0] [(0, .ref b), (1, .int dv), (2, .int 2)] dX8_readsCommand_4 (by decide) rfl ?_
  refine z_iload_n (j := 2) dX8_readsCommand_5 rfl ?_
  refine z_iconst (v := (-1)) dX8_readsCommand_6 (by decide) ?_
  refine z_icmp_ne (tgt := 16) dX8_readsCommand_7 (by decide) (fun czq7 => ?_) (fun czq7 => absurd czq7 (by decide))
  refine z_iload_n (j := 2) dX8_readsCommand_16 rfl ?_
  refine z_bipush (v := 10) dX8_readsCommand_17 (by decide) ?_
  refine z_icmp_ne (tgt := 43) dX8_readsCommand_19 (by decide) (fun czq19 => ?_) (fun czq19 => absurd czq19 (by decide))
  refine z_aload_n (j := 0) dX8_readsCommand_43 rfl ?_
  refine z_get (v := .int (s 25)) (by omega) mW_obj fX8_268 rfl dX8_readsCommand_44 ?_
  refine z_sipush (v := 200) dX8_readsCommand_47 (by decide) ?_
  rw [show (s 25) = (nI ex) from h25]
  refine z_icmp_ne (tgt := 59) dX8_readsCommand_50 (by decide) (fun czq50 => ?_) (fun czq50 => ?_)
  · have hexn : ¬ ex = 200 := fun z => czq50 (by rw [z]; rfl)
    refine z_aload_n (j := 0) dX8_readsCommand_59 rfl ?_
    refine z_dup rfl dX8_readsCommand_60 ?_
    refine z_get (v := .int (s 25)) (by omega) mW_obj fX8_268 rfl dX8_readsCommand_61 ?_
    refine z_iconst (v := 1) dX8_readsCommand_64 (by decide) ?_
    refine z_iadd dX8_readsCommand_65 ?_
    rw [show ((s 25) + 1) = (nI (ex + 1)) from by rw [h25, nI_1]]
    refine m_put (k := 25) (by omega) fX8_268 (by unfold mS; omega) (by decide) dX8_readsCommand_66 ?_
    refine z_aload_n (j := 0) dX8_readsCommand_69 rfl ?_
    refine z_kV [] 0 0 kc ks yoX8_next yvX8_next rfl (by decide) lX8_188 (by omega) mW_obj rfl rfl (Nat.le_of_ble_eq_true rfl) (Nat.le_of_ble_eq_true rfl) dX8_readsCommand_70 (by omega) (by omega) (z_room (by omega) (Nat.le_refl _) (Nat.le_refl _) (m_nxt (d := 0) hb hL hu hx hst (by rw [up_ne (by decide)]; exact h15) (by rw [up_ne (by decide)]; exact hT.2.1) (fun s1 hT1 hf1 => ⟨rfl, ?_⟩)))
    refine z_aload_n (j := 0) dX8_readsCommand_73 rfl ?_
    refine z_iload_n (j := 2) dX8_readsCommand_74 rfl ?_
    refine z_kV [.int 2] 0 0 kc ks yoX8_readsWord yvX8_readsWord rfl (by decide) lX8_271 (by omega) mW_obj rfl rfl (Nat.le_of_ble_eq_true rfl) (Nat.le_of_ble_eq_true rfl) dX8_readsCommand_75 (by omega) (by omega) (z_room (by omega) (Nat.le_refl _) (Nat.le_refl _) (m_word2 (d := 0) (S := S) (p := tE L x st) hb hL hu hx (tE_le' (x := x) hst).2 ((hf1 15 (by decide) (by decide) (by decide) (by decide)).trans ((up_ne (by decide)).trans h15)) ((hf1 16 (by decide) (by decide) (by decide) (by decide)).trans ((up_ne (by decide)).trans h16)) hT1 hM (fun p2 S2 he s2 a2 g1 g2 g3 g4 g5 => ⟨rfl, ?_⟩) (fun k off he g0 g1 s2 a2 e1 e2 hF => ⟨rfl, ?_⟩)))
    · exact z_zret rfl rfl dX8_readsCommand_78 (hqY p2 (ex + 1) S2 (by unfold cS; rw [if_neg hexn, he]) _ _ g1 g2 g3 (g4.trans ((hf1 25 (by decide) (by decide) (by decide) (by decide)).trans up_eq)) (by omega) ((rF.ex.tr hf1.F).tr g5))
    · exact z_zret rfl rfl dX8_readsCommand_78 (hqN k off (by unfold cS; rw [if_neg hexn, he]) g0 g1 _ _ e1 e2 ((rF.ex.tr hf1.F).tr hF))
  · refine z_aload_n (j := 0) dX8_readsCommand_53 rfl ?_
    skip
    refine z_iconst (v := 5) dX8_readsCommand_54 (by decide) ?_
    refine z_kV [.int 5] 0 0 kc ks yoX8_fail yvX8_fail rfl (by decide) lX8_182 (by omega) mW_obj rfl rfl (Nat.le_of_ble_eq_true rfl) (Nat.le_of_ble_eq_true rfl) dX8_readsCommand_55 (by omega) (by omega) (z_room (by omega) (Nat.le_refl _) (Nat.le_refl _) (m_fail (d := 0) (k := 5) hb h16 hT.1 (by decide) (fun s1 he => ⟨rfl, ?_⟩)))
    exact z_zret rfl rfl dX8_readsCommand_58 (hqN 5 st (by unfold cS; exact if_pos ((nI_eq (b := 200) (by omega) (by decide)).mp czq50)) (by decide) (by decide) _ _ he.1 he.2.1 he.F)

set_option maxHeartbeats 4000000 in
set_option maxRecDepth 100000 in
theorem m_cmdS3 {l : zL} {d kc ks n b : Nat} {h : Nat → va_E} {a : Nat → Nat → Int32} {L : Nat} {x : Nat → Nat} {st ex : Nat} {S : zS} {Q : zQ} {s : Nat → Int32} {dv : Int32} (hb : b + 14 ≤ n) (hL : L ≤ 600) (hu : ∀ i, i < L → a 10 i = nI (x i)) (hx : ∀ i, x i < 256) (hst : st ≤ L) (h15 : s 15 = nI L) (h16 : s 16 = 0) (hT : rT L x st s) (hM : mT S (a 0)) (h25 : s 25 = nI ex) (hex : ex ≤ 200) (hw : wId L x st = some 3) (hqY : ∀ p' ex' S', cS L x 3 st ex S = .inr (p', ex', S') → ∀ s' a', mT S' (a' 0) → s' 23 = nI p' → s' 16 = 0 → s' 25 = nI ex' → ex' ≤ 200 → rF s a s' a' → Q (.inl (some (.int 1))) n (mW h b s' a')) (hqN : ∀ k off, cS L x 3 st ex S = .inl (k, off) → k ≠ 0 → k < 10 → ∀ s' a', s' 16 = nI k → s' 17 = nI off → rF s a s' a' → Q (.inl (some (.int 0))) n (mW h b s' a')) : Zj l mX8_readsCommand (d + 11) kc ks 0 [(0, .ref b), (1, .int dv)] [] n (mW h b s a) Q := by
  refine z_aload_n (j := 0) dX8_readsCommand_0 rfl ?_
  refine z_kV [] 0 0 kc ks yoX8_wordAhead yvX8_wordAhead rfl (by decide) lX8_262 (by omega) mW_obj rfl rfl (Nat.le_of_ble_eq_true rfl) (Nat.le_of_ble_eq_true rfl) dX8_readsCommand_1 (by omega) (by omega) (z_room (by omega) (Nat.le_refl _) (Nat.le_refl _) (m_wordAhead (d := 0) hb hL hu hx hst hT ⟨rfl, ?_⟩))
  rw [show (optI (wId L x st)) = 3 from by rw [hw]; rfl]
  refine z_istore_n [1, 2, 0] [(0, .ref b), (1, .int dv), (2, .int 3)] dX8_readsCommand_4 (by decide) rfl ?_
  refine z_iload_n (j := 2) dX8_readsCommand_5 rfl ?_
  refine z_iconst (v := (-1)) dX8_readsCommand_6 (by decide) ?_
  refine z_icmp_ne (tgt := 16) dX8_readsCommand_7 (by decide) (fun czq7 => ?_) (fun czq7 => absurd czq7 (by decide))
  refine z_iload_n (j := 2) dX8_readsCommand_16 rfl ?_
  refine z_bipush (v := 10) dX8_readsCommand_17 (by decide) ?_
  refine z_icmp_ne (tgt := 43) dX8_readsCommand_19 (by decide) (fun czq19 => ?_) (fun czq19 => absurd czq19 (by decide))
  refine z_aload_n (j := 0) dX8_readsCommand_43 rfl ?_
  refine z_get (v := .int (s 25)) (by omega) mW_obj fX8_268 rfl dX8_readsCommand_44 ?_
  refine z_sipush (v := 200) dX8_readsCommand_47 (by decide) ?_
  rw [show (s 25) = (nI ex) from h25]
  refine z_icmp_ne (tgt := 59) dX8_readsCommand_50 (by decide) (fun czq50 => ?_) (fun czq50 => ?_)
  · have hexn : ¬ ex = 200 := fun z => czq50 (by rw [z]; rfl)
    refine z_aload_n (j := 0) dX8_readsCommand_59 rfl ?_
    refine z_dup rfl dX8_readsCommand_60 ?_
    refine z_get (v := .int (s 25)) (by omega) mW_obj fX8_268 rfl dX8_readsCommand_61 ?_
    refine z_iconst (v := 1) dX8_readsCommand_64 (by decide) ?_
    refine z_iadd dX8_readsCommand_65 ?_
    rw [show ((s 25) + 1) = (nI (ex + 1)) from by rw [h25, nI_1]]
    refine m_put (k := 25) (by omega) fX8_268 (by unfold mS; omega) (by decide) dX8_readsCommand_66 ?_
    refine z_aload_n (j := 0) dX8_readsCommand_69 rfl ?_
    refine z_kV [] 0 0 kc ks yoX8_next yvX8_next rfl (by decide) lX8_188 (by omega) mW_obj rfl rfl (Nat.le_of_ble_eq_true rfl) (Nat.le_of_ble_eq_true rfl) dX8_readsCommand_70 (by omega) (by omega) (z_room (by omega) (Nat.le_refl _) (Nat.le_refl _) (m_nxt (d := 0) hb hL hu hx hst (by rw [up_ne (by decide)]; exact h15) (by rw [up_ne (by decide)]; exact hT.2.1) (fun s1 hT1 hf1 => ⟨rfl, ?_⟩)))
    refine z_aload_n (j := 0) dX8_readsCommand_73 rfl ?_
    refine z_iload_n (j := 2) dX8_readsCommand_74 rfl ?_
    refine z_kV [.int 3] 0 0 kc ks yoX8_readsWord yvX8_readsWord rfl (by decide) lX8_271 (by omega) mW_obj rfl rfl (Nat.le_of_ble_eq_true rfl) (Nat.le_of_ble_eq_true rfl) dX8_readsCommand_75 (by omega) (by omega) (z_room (by omega) (Nat.le_refl _) (Nat.le_refl _) (m_word3 (d := 0) (S := S) (p := tE L x st) hb hL hu hx (tE_le' (x := x) hst).2 ((hf1 15 (by decide) (by decide) (by decide) (by decide)).trans ((up_ne (by decide)).trans h15)) ((hf1 16 (by decide) (by decide) (by decide) (by decide)).trans ((up_ne (by decide)).trans h16)) hT1 hM (fun p2 S2 he s2 a2 g1 g2 g3 g4 g5 => ⟨rfl, ?_⟩) (fun k off he g0 g1 s2 a2 e1 e2 hF => ⟨rfl, ?_⟩)))
    · exact z_zret rfl rfl dX8_readsCommand_78 (hqY p2 (ex + 1) S2 (by unfold cS; rw [if_neg hexn, he]) _ _ g1 g2 g3 (g4.trans ((hf1 25 (by decide) (by decide) (by decide) (by decide)).trans up_eq)) (by omega) ((rF.ex.tr hf1.F).tr g5))
    · exact z_zret rfl rfl dX8_readsCommand_78 (hqN k off (by unfold cS; rw [if_neg hexn, he]) g0 g1 _ _ e1 e2 ((rF.ex.tr hf1.F).tr hF))
  · refine z_aload_n (j := 0) dX8_readsCommand_53 rfl ?_
    skip
    refine z_iconst (v := 5) dX8_readsCommand_54 (by decide) ?_
    refine z_kV [.int 5] 0 0 kc ks yoX8_fail yvX8_fail rfl (by decide) lX8_182 (by omega) mW_obj rfl rfl (Nat.le_of_ble_eq_true rfl) (Nat.le_of_ble_eq_true rfl) dX8_readsCommand_55 (by omega) (by omega) (z_room (by omega) (Nat.le_refl _) (Nat.le_refl _) (m_fail (d := 0) (k := 5) hb h16 hT.1 (by decide) (fun s1 he => ⟨rfl, ?_⟩)))
    exact z_zret rfl rfl dX8_readsCommand_58 (hqN 5 st (by unfold cS; exact if_pos ((nI_eq (b := 200) (by omega) (by decide)).mp czq50)) (by decide) (by decide) _ _ he.1 he.2.1 he.F)

set_option maxHeartbeats 4000000 in
set_option maxRecDepth 100000 in
theorem m_cmdS4 {l : zL} {d kc ks n b : Nat} {h : Nat → va_E} {a : Nat → Nat → Int32} {L : Nat} {x : Nat → Nat} {st ex : Nat} {S : zS} {Q : zQ} {s : Nat → Int32} {dv : Int32} (hb : b + 14 ≤ n) (hL : L ≤ 600) (hu : ∀ i, i < L → a 10 i = nI (x i)) (hx : ∀ i, x i < 256) (hst : st ≤ L) (h15 : s 15 = nI L) (h16 : s 16 = 0) (hT : rT L x st s) (hM : mT S (a 0)) (h25 : s 25 = nI ex) (hex : ex ≤ 200) (hw : wId L x st = some 4) (hqY : ∀ p' ex' S', cS L x 4 st ex S = .inr (p', ex', S') → ∀ s' a', mT S' (a' 0) → s' 23 = nI p' → s' 16 = 0 → s' 25 = nI ex' → ex' ≤ 200 → rF s a s' a' → Q (.inl (some (.int 1))) n (mW h b s' a')) (hqN : ∀ k off, cS L x 4 st ex S = .inl (k, off) → k ≠ 0 → k < 10 → ∀ s' a', s' 16 = nI k → s' 17 = nI off → rF s a s' a' → Q (.inl (some (.int 0))) n (mW h b s' a')) : Zj l mX8_readsCommand (d + 11) kc ks 0 [(0, .ref b), (1, .int dv)] [] n (mW h b s a) Q := by
  refine z_aload_n (j := 0) dX8_readsCommand_0 rfl ?_
  refine z_kV [] 0 0 kc ks yoX8_wordAhead yvX8_wordAhead rfl (by decide) lX8_262 (by omega) mW_obj rfl rfl (Nat.le_of_ble_eq_true rfl) (Nat.le_of_ble_eq_true rfl) dX8_readsCommand_1 (by omega) (by omega) (z_room (by omega) (Nat.le_refl _) (Nat.le_refl _) (m_wordAhead (d := 0) hb hL hu hx hst hT ⟨rfl, ?_⟩))
  rw [show (optI (wId L x st)) = 4 from by rw [hw]; rfl]
  refine z_istore_n [1, 2, 0] [(0, .ref b), (1, .int dv), (2, .int 4)] dX8_readsCommand_4 (by decide) rfl ?_
  refine z_iload_n (j := 2) dX8_readsCommand_5 rfl ?_
  refine z_iconst (v := (-1)) dX8_readsCommand_6 (by decide) ?_
  refine z_icmp_ne (tgt := 16) dX8_readsCommand_7 (by decide) (fun czq7 => ?_) (fun czq7 => absurd czq7 (by decide))
  refine z_iload_n (j := 2) dX8_readsCommand_16 rfl ?_
  refine z_bipush (v := 10) dX8_readsCommand_17 (by decide) ?_
  refine z_icmp_ne (tgt := 43) dX8_readsCommand_19 (by decide) (fun czq19 => ?_) (fun czq19 => absurd czq19 (by decide))
  refine z_aload_n (j := 0) dX8_readsCommand_43 rfl ?_
  refine z_get (v := .int (s 25)) (by omega) mW_obj fX8_268 rfl dX8_readsCommand_44 ?_
  refine z_sipush (v := 200) dX8_readsCommand_47 (by decide) ?_
  rw [show (s 25) = (nI ex) from h25]
  refine z_icmp_ne (tgt := 59) dX8_readsCommand_50 (by decide) (fun czq50 => ?_) (fun czq50 => ?_)
  · have hexn : ¬ ex = 200 := fun z => czq50 (by rw [z]; rfl)
    refine z_aload_n (j := 0) dX8_readsCommand_59 rfl ?_
    refine z_dup rfl dX8_readsCommand_60 ?_
    refine z_get (v := .int (s 25)) (by omega) mW_obj fX8_268 rfl dX8_readsCommand_61 ?_
    refine z_iconst (v := 1) dX8_readsCommand_64 (by decide) ?_
    refine z_iadd dX8_readsCommand_65 ?_
    rw [show ((s 25) + 1) = (nI (ex + 1)) from by rw [h25, nI_1]]
    refine m_put (k := 25) (by omega) fX8_268 (by unfold mS; omega) (by decide) dX8_readsCommand_66 ?_
    refine z_aload_n (j := 0) dX8_readsCommand_69 rfl ?_
    refine z_kV [] 0 0 kc ks yoX8_next yvX8_next rfl (by decide) lX8_188 (by omega) mW_obj rfl rfl (Nat.le_of_ble_eq_true rfl) (Nat.le_of_ble_eq_true rfl) dX8_readsCommand_70 (by omega) (by omega) (z_room (by omega) (Nat.le_refl _) (Nat.le_refl _) (m_nxt (d := 0) hb hL hu hx hst (by rw [up_ne (by decide)]; exact h15) (by rw [up_ne (by decide)]; exact hT.2.1) (fun s1 hT1 hf1 => ⟨rfl, ?_⟩)))
    refine z_aload_n (j := 0) dX8_readsCommand_73 rfl ?_
    refine z_iload_n (j := 2) dX8_readsCommand_74 rfl ?_
    refine z_kV [.int 4] 0 0 kc ks yoX8_readsWord yvX8_readsWord rfl (by decide) lX8_271 (by omega) mW_obj rfl rfl (Nat.le_of_ble_eq_true rfl) (Nat.le_of_ble_eq_true rfl) dX8_readsCommand_75 (by omega) (by omega) (z_room (by omega) (Nat.le_refl _) (Nat.le_refl _) (m_word4 (d := 0) (S := S) (p := tE L x st) hb hL hu hx (tE_le' (x := x) hst).2 ((hf1 15 (by decide) (by decide) (by decide) (by decide)).trans ((up_ne (by decide)).trans h15)) ((hf1 16 (by decide) (by decide) (by decide) (by decide)).trans ((up_ne (by decide)).trans h16)) hT1 hM (fun p2 S2 he s2 a2 g1 g2 g3 g4 g5 => ⟨rfl, ?_⟩) (fun k off he g0 g1 s2 a2 e1 e2 hF => ⟨rfl, ?_⟩)))
    · exact z_zret rfl rfl dX8_readsCommand_78 (hqY p2 (ex + 1) S2 (by unfold cS; rw [if_neg hexn, he]) _ _ g1 g2 g3 (g4.trans ((hf1 25 (by decide) (by decide) (by decide) (by decide)).trans up_eq)) (by omega) ((rF.ex.tr hf1.F).tr g5))
    · exact z_zret rfl rfl dX8_readsCommand_78 (hqN k off (by unfold cS; rw [if_neg hexn, he]) g0 g1 _ _ e1 e2 ((rF.ex.tr hf1.F).tr hF))
  · refine z_aload_n (j := 0) dX8_readsCommand_53 rfl ?_
    skip
    refine z_iconst (v := 5) dX8_readsCommand_54 (by decide) ?_
    refine z_kV [.int 5] 0 0 kc ks yoX8_fail yvX8_fail rfl (by decide) lX8_182 (by omega) mW_obj rfl rfl (Nat.le_of_ble_eq_true rfl) (Nat.le_of_ble_eq_true rfl) dX8_readsCommand_55 (by omega) (by omega) (z_room (by omega) (Nat.le_refl _) (Nat.le_refl _) (m_fail (d := 0) (k := 5) hb h16 hT.1 (by decide) (fun s1 he => ⟨rfl, ?_⟩)))
    exact z_zret rfl rfl dX8_readsCommand_58 (hqN 5 st (by unfold cS; exact if_pos ((nI_eq (b := 200) (by omega) (by decide)).mp czq50)) (by decide) (by decide) _ _ he.1 he.2.1 he.F)

set_option maxHeartbeats 4000000 in
set_option maxRecDepth 100000 in
theorem m_cmdS5 {l : zL} {d kc ks n b : Nat} {h : Nat → va_E} {a : Nat → Nat → Int32} {L : Nat} {x : Nat → Nat} {st ex : Nat} {S : zS} {Q : zQ} {s : Nat → Int32} {dv : Int32} (hb : b + 14 ≤ n) (hL : L ≤ 600) (hu : ∀ i, i < L → a 10 i = nI (x i)) (hx : ∀ i, x i < 256) (hst : st ≤ L) (h15 : s 15 = nI L) (h16 : s 16 = 0) (hT : rT L x st s) (hM : mT S (a 0)) (h25 : s 25 = nI ex) (hex : ex ≤ 200) (hw : wId L x st = some 5) (hqY : ∀ p' ex' S', cS L x 5 st ex S = .inr (p', ex', S') → ∀ s' a', mT S' (a' 0) → s' 23 = nI p' → s' 16 = 0 → s' 25 = nI ex' → ex' ≤ 200 → rF s a s' a' → Q (.inl (some (.int 1))) n (mW h b s' a')) (hqN : ∀ k off, cS L x 5 st ex S = .inl (k, off) → k ≠ 0 → k < 10 → ∀ s' a', s' 16 = nI k → s' 17 = nI off → rF s a s' a' → Q (.inl (some (.int 0))) n (mW h b s' a')) : Zj l mX8_readsCommand (d + 11) kc ks 0 [(0, .ref b), (1, .int dv)] [] n (mW h b s a) Q := by
  refine z_aload_n (j := 0) dX8_readsCommand_0 rfl ?_
  refine z_kV [] 0 0 kc ks yoX8_wordAhead yvX8_wordAhead rfl (by decide) lX8_262 (by omega) mW_obj rfl rfl (Nat.le_of_ble_eq_true rfl) (Nat.le_of_ble_eq_true rfl) dX8_readsCommand_1 (by omega) (by omega) (z_room (by omega) (Nat.le_refl _) (Nat.le_refl _) (m_wordAhead (d := 0) hb hL hu hx hst hT ⟨rfl, ?_⟩))
  rw [show (optI (wId L x st)) = 5 from by rw [hw]; rfl]
  refine z_istore_n [1, 2, 0] [(0, .ref b), (1, .int dv), (2, .int 5)] dX8_readsCommand_4 (by decide) rfl ?_
  refine z_iload_n (j := 2) dX8_readsCommand_5 rfl ?_
  refine z_iconst (v := (-1)) dX8_readsCommand_6 (by decide) ?_
  refine z_icmp_ne (tgt := 16) dX8_readsCommand_7 (by decide) (fun czq7 => ?_) (fun czq7 => absurd czq7 (by decide))
  refine z_iload_n (j := 2) dX8_readsCommand_16 rfl ?_
  refine z_bipush (v := 10) dX8_readsCommand_17 (by decide) ?_
  refine z_icmp_ne (tgt := 43) dX8_readsCommand_19 (by decide) (fun czq19 => ?_) (fun czq19 => absurd czq19 (by decide))
  refine z_aload_n (j := 0) dX8_readsCommand_43 rfl ?_
  refine z_get (v := .int (s 25)) (by omega) mW_obj fX8_268 rfl dX8_readsCommand_44 ?_
  refine z_sipush (v := 200) dX8_readsCommand_47 (by decide) ?_
  rw [show (s 25) = (nI ex) from h25]
  refine z_icmp_ne (tgt := 59) dX8_readsCommand_50 (by decide) (fun czq50 => ?_) (fun czq50 => ?_)
  · have hexn : ¬ ex = 200 := fun z => czq50 (by rw [z]; rfl)
    refine z_aload_n (j := 0) dX8_readsCommand_59 rfl ?_
    refine z_dup rfl dX8_readsCommand_60 ?_
    refine z_get (v := .int (s 25)) (by omega) mW_obj fX8_268 rfl dX8_readsCommand_61 ?_
    refine z_iconst (v := 1) dX8_readsCommand_64 (by decide) ?_
    refine z_iadd dX8_readsCommand_65 ?_
    rw [show ((s 25) + 1) = (nI (ex + 1)) from by rw [h25, nI_1]]
    refine m_put (k := 25) (by omega) fX8_268 (by unfold mS; omega) (by decide) dX8_readsCommand_66 ?_
    refine z_aload_n (j := 0) dX8_readsCommand_69 rfl ?_
    refine z_kV [] 0 0 kc ks yoX8_next yvX8_next rfl (by decide) lX8_188 (by omega) mW_obj rfl rfl (Nat.le_of_ble_eq_true rfl) (Nat.le_of_ble_eq_true rfl) dX8_readsCommand_70 (by omega) (by omega) (z_room (by omega) (Nat.le_refl _) (Nat.le_refl _) (m_nxt (d := 0) hb hL hu hx hst (by rw [up_ne (by decide)]; exact h15) (by rw [up_ne (by decide)]; exact hT.2.1) (fun s1 hT1 hf1 => ⟨rfl, ?_⟩)))
    refine z_aload_n (j := 0) dX8_readsCommand_73 rfl ?_
    refine z_iload_n (j := 2) dX8_readsCommand_74 rfl ?_
    refine z_kV [.int 5] 0 0 kc ks yoX8_readsWord yvX8_readsWord rfl (by decide) lX8_271 (by omega) mW_obj rfl rfl (Nat.le_of_ble_eq_true rfl) (Nat.le_of_ble_eq_true rfl) dX8_readsCommand_75 (by omega) (by omega) (z_room (by omega) (Nat.le_refl _) (Nat.le_refl _) (m_word5 (d := 0) (S := S) (p := tE L x st) hb hL hu hx (tE_le' (x := x) hst).2 ((hf1 15 (by decide) (by decide) (by decide) (by decide)).trans ((up_ne (by decide)).trans h15)) ((hf1 16 (by decide) (by decide) (by decide) (by decide)).trans ((up_ne (by decide)).trans h16)) hT1 hM (fun p2 S2 he s2 a2 g1 g2 g3 g4 g5 => ⟨rfl, ?_⟩) (fun k off he g0 g1 s2 a2 e1 e2 hF => ⟨rfl, ?_⟩)))
    · exact z_zret rfl rfl dX8_readsCommand_78 (hqY p2 (ex + 1) S2 (by unfold cS; rw [if_neg hexn, he]) _ _ g1 g2 g3 (g4.trans ((hf1 25 (by decide) (by decide) (by decide) (by decide)).trans up_eq)) (by omega) ((rF.ex.tr hf1.F).tr g5))
    · exact z_zret rfl rfl dX8_readsCommand_78 (hqN k off (by unfold cS; rw [if_neg hexn, he]) g0 g1 _ _ e1 e2 ((rF.ex.tr hf1.F).tr hF))
  · refine z_aload_n (j := 0) dX8_readsCommand_53 rfl ?_
    skip
    refine z_iconst (v := 5) dX8_readsCommand_54 (by decide) ?_
    refine z_kV [.int 5] 0 0 kc ks yoX8_fail yvX8_fail rfl (by decide) lX8_182 (by omega) mW_obj rfl rfl (Nat.le_of_ble_eq_true rfl) (Nat.le_of_ble_eq_true rfl) dX8_readsCommand_55 (by omega) (by omega) (z_room (by omega) (Nat.le_refl _) (Nat.le_refl _) (m_fail (d := 0) (k := 5) hb h16 hT.1 (by decide) (fun s1 he => ⟨rfl, ?_⟩)))
    exact z_zret rfl rfl dX8_readsCommand_58 (hqN 5 st (by unfold cS; exact if_pos ((nI_eq (b := 200) (by omega) (by decide)).mp czq50)) (by decide) (by decide) _ _ he.1 he.2.1 he.F)

set_option maxHeartbeats 4000000 in
set_option maxRecDepth 100000 in
theorem m_cmdS6 {l : zL} {d kc ks n b : Nat} {h : Nat → va_E} {a : Nat → Nat → Int32} {L : Nat} {x : Nat → Nat} {st ex : Nat} {S : zS} {Q : zQ} {s : Nat → Int32} {dv : Int32} (hb : b + 14 ≤ n) (hL : L ≤ 600) (hu : ∀ i, i < L → a 10 i = nI (x i)) (hx : ∀ i, x i < 256) (hst : st ≤ L) (h15 : s 15 = nI L) (h16 : s 16 = 0) (hT : rT L x st s) (hM : mT S (a 0)) (h25 : s 25 = nI ex) (hex : ex ≤ 200) (hw : wId L x st = some 6) (hqY : ∀ p' ex' S', cS L x 6 st ex S = .inr (p', ex', S') → ∀ s' a', mT S' (a' 0) → s' 23 = nI p' → s' 16 = 0 → s' 25 = nI ex' → ex' ≤ 200 → rF s a s' a' → Q (.inl (some (.int 1))) n (mW h b s' a')) (hqN : ∀ k off, cS L x 6 st ex S = .inl (k, off) → k ≠ 0 → k < 10 → ∀ s' a', s' 16 = nI k → s' 17 = nI off → rF s a s' a' → Q (.inl (some (.int 0))) n (mW h b s' a')) : Zj l mX8_readsCommand (d + 11) kc ks 0 [(0, .ref b), (1, .int dv)] [] n (mW h b s a) Q := by
  refine z_aload_n (j := 0) dX8_readsCommand_0 rfl ?_
  refine z_kV [] 0 0 kc ks yoX8_wordAhead yvX8_wordAhead rfl (by decide) lX8_262 (by omega) mW_obj rfl rfl (Nat.le_of_ble_eq_true rfl) (Nat.le_of_ble_eq_true rfl) dX8_readsCommand_1 (by omega) (by omega) (z_room (by omega) (Nat.le_refl _) (Nat.le_refl _) (m_wordAhead (d := 0) hb hL hu hx hst hT ⟨rfl, ?_⟩))
  rw [show (optI (wId L x st)) = 6 from by rw [hw]; rfl]
  refine z_istore_n [1, 2, 0] [(0, .ref b), (1, .int dv), (2, .int 6)] dX8_readsCommand_4 (by decide) rfl ?_
  refine z_iload_n (j := 2) dX8_readsCommand_5 rfl ?_
  refine z_iconst (v := (-1)) dX8_readsCommand_6 (by decide) ?_
  refine z_icmp_ne (tgt := 16) dX8_readsCommand_7 (by decide) (fun czq7 => ?_) (fun czq7 => absurd czq7 (by decide))
  refine z_iload_n (j := 2) dX8_readsCommand_16 rfl ?_
  refine z_bipush (v := 10) dX8_readsCommand_17 (by decide) ?_
  refine z_icmp_ne (tgt := 43) dX8_readsCommand_19 (by decide) (fun czq19 => ?_) (fun czq19 => absurd czq19 (by decide))
  refine z_aload_n (j := 0) dX8_readsCommand_43 rfl ?_
  refine z_get (v := .int (s 25)) (by omega) mW_obj fX8_268 rfl dX8_readsCommand_44 ?_
  refine z_sipush (v := 200) dX8_readsCommand_47 (by decide) ?_
  rw [show (s 25) = (nI ex) from h25]
  refine z_icmp_ne (tgt := 59) dX8_readsCommand_50 (by decide) (fun czq50 => ?_) (fun czq50 => ?_)
  · have hexn : ¬ ex = 200 := fun z => czq50 (by rw [z]; rfl)
    refine z_aload_n (j := 0) dX8_readsCommand_59 rfl ?_
    refine z_dup rfl dX8_readsCommand_60 ?_
    refine z_get (v := .int (s 25)) (by omega) mW_obj fX8_268 rfl dX8_readsCommand_61 ?_
    refine z_iconst (v := 1) dX8_readsCommand_64 (by decide) ?_
    refine z_iadd dX8_readsCommand_65 ?_
    rw [show ((s 25) + 1) = (nI (ex + 1)) from by rw [h25, nI_1]]
    refine m_put (k := 25) (by omega) fX8_268 (by unfold mS; omega) (by decide) dX8_readsCommand_66 ?_
    refine z_aload_n (j := 0) dX8_readsCommand_69 rfl ?_
    refine z_kV [] 0 0 kc ks yoX8_next yvX8_next rfl (by decide) lX8_188 (by omega) mW_obj rfl rfl (Nat.le_of_ble_eq_true rfl) (Nat.le_of_ble_eq_true rfl) dX8_readsCommand_70 (by omega) (by omega) (z_room (by omega) (Nat.le_refl _) (Nat.le_refl _) (m_nxt (d := 0) hb hL hu hx hst (by rw [up_ne (by decide)]; exact h15) (by rw [up_ne (by decide)]; exact hT.2.1) (fun s1 hT1 hf1 => ⟨rfl, ?_⟩)))
    refine z_aload_n (j := 0) dX8_readsCommand_73 rfl ?_
    refine z_iload_n (j := 2) dX8_readsCommand_74 rfl ?_
    refine z_kV [.int 6] 0 0 kc ks yoX8_readsWord yvX8_readsWord rfl (by decide) lX8_271 (by omega) mW_obj rfl rfl (Nat.le_of_ble_eq_true rfl) (Nat.le_of_ble_eq_true rfl) dX8_readsCommand_75 (by omega) (by omega) (z_room (by omega) (Nat.le_refl _) (Nat.le_refl _) (m_word6 (d := 0) (S := S) (p := tE L x st) hb hL hu hx (tE_le' (x := x) hst).2 ((hf1 15 (by decide) (by decide) (by decide) (by decide)).trans ((up_ne (by decide)).trans h15)) ((hf1 16 (by decide) (by decide) (by decide) (by decide)).trans ((up_ne (by decide)).trans h16)) hT1 hM (fun p2 S2 he s2 a2 g1 g2 g3 g4 g5 => ⟨rfl, ?_⟩) (fun k off he g0 g1 s2 a2 e1 e2 hF => ⟨rfl, ?_⟩)))
    · exact z_zret rfl rfl dX8_readsCommand_78 (hqY p2 (ex + 1) S2 (by unfold cS; rw [if_neg hexn, he]) _ _ g1 g2 g3 (g4.trans ((hf1 25 (by decide) (by decide) (by decide) (by decide)).trans up_eq)) (by omega) ((rF.ex.tr hf1.F).tr g5))
    · exact z_zret rfl rfl dX8_readsCommand_78 (hqN k off (by unfold cS; rw [if_neg hexn, he]) g0 g1 _ _ e1 e2 ((rF.ex.tr hf1.F).tr hF))
  · refine z_aload_n (j := 0) dX8_readsCommand_53 rfl ?_
    skip
    refine z_iconst (v := 5) dX8_readsCommand_54 (by decide) ?_
    refine z_kV [.int 5] 0 0 kc ks yoX8_fail yvX8_fail rfl (by decide) lX8_182 (by omega) mW_obj rfl rfl (Nat.le_of_ble_eq_true rfl) (Nat.le_of_ble_eq_true rfl) dX8_readsCommand_55 (by omega) (by omega) (z_room (by omega) (Nat.le_refl _) (Nat.le_refl _) (m_fail (d := 0) (k := 5) hb h16 hT.1 (by decide) (fun s1 he => ⟨rfl, ?_⟩)))
    exact z_zret rfl rfl dX8_readsCommand_58 (hqN 5 st (by unfold cS; exact if_pos ((nI_eq (b := 200) (by omega) (by decide)).mp czq50)) (by decide) (by decide) _ _ he.1 he.2.1 he.F)

set_option maxHeartbeats 4000000 in
set_option maxRecDepth 100000 in
theorem m_cmdS7 {l : zL} {d kc ks n b : Nat} {h : Nat → va_E} {a : Nat → Nat → Int32} {L : Nat} {x : Nat → Nat} {st ex : Nat} {S : zS} {Q : zQ} {s : Nat → Int32} {dv : Int32} (hb : b + 14 ≤ n) (hL : L ≤ 600) (hu : ∀ i, i < L → a 10 i = nI (x i)) (hx : ∀ i, x i < 256) (hst : st ≤ L) (h15 : s 15 = nI L) (h16 : s 16 = 0) (hT : rT L x st s) (hM : mT S (a 0)) (h25 : s 25 = nI ex) (hex : ex ≤ 200) (hw : wId L x st = some 7) (hqY : ∀ p' ex' S', cS L x 7 st ex S = .inr (p', ex', S') → ∀ s' a', mT S' (a' 0) → s' 23 = nI p' → s' 16 = 0 → s' 25 = nI ex' → ex' ≤ 200 → rF s a s' a' → Q (.inl (some (.int 1))) n (mW h b s' a')) (hqN : ∀ k off, cS L x 7 st ex S = .inl (k, off) → k ≠ 0 → k < 10 → ∀ s' a', s' 16 = nI k → s' 17 = nI off → rF s a s' a' → Q (.inl (some (.int 0))) n (mW h b s' a')) : Zj l mX8_readsCommand (d + 11) kc ks 0 [(0, .ref b), (1, .int dv)] [] n (mW h b s a) Q := by
  refine z_aload_n (j := 0) dX8_readsCommand_0 rfl ?_
  refine z_kV [] 0 0 kc ks yoX8_wordAhead yvX8_wordAhead rfl (by decide) lX8_262 (by omega) mW_obj rfl rfl (Nat.le_of_ble_eq_true rfl) (Nat.le_of_ble_eq_true rfl) dX8_readsCommand_1 (by omega) (by omega) (z_room (by omega) (Nat.le_refl _) (Nat.le_refl _) (m_wordAhead (d := 0) hb hL hu hx hst hT ⟨rfl, ?_⟩))
  rw [show (optI (wId L x st)) = 7 from by rw [hw]; rfl]
  refine z_istore_n [1, 2, 0] [(0, .ref b), (1, .int dv), (2, .int 7)] dX8_readsCommand_4 (by decide) rfl ?_
  refine z_iload_n (j := 2) dX8_readsCommand_5 rfl ?_
  refine z_iconst (v := (-1)) dX8_readsCommand_6 (by decide) ?_
  refine z_icmp_ne (tgt := 16) dX8_readsCommand_7 (by decide) (fun czq7 => ?_) (fun czq7 => absurd czq7 (by decide))
  refine z_iload_n (j := 2) dX8_readsCommand_16 rfl ?_
  refine z_bipush (v := 10) dX8_readsCommand_17 (by decide) ?_
  refine z_icmp_ne (tgt := 43) dX8_readsCommand_19 (by decide) (fun czq19 => ?_) (fun czq19 => absurd czq19 (by decide))
  refine z_aload_n (j := 0) dX8_readsCommand_43 rfl ?_
  refine z_get (v := .int (s 25)) (by omega) mW_obj fX8_268 rfl dX8_readsCommand_44 ?_
  refine z_sipush (v := 200) dX8_readsCommand_47 (by decide) ?_
  rw [show (s 25) = (nI ex) from h25]
  refine z_icmp_ne (tgt := 59) dX8_readsCommand_50 (by decide) (fun czq50 => ?_) (fun czq50 => ?_)
  · have hexn : ¬ ex = 200 := fun z => czq50 (by rw [z]; rfl)
    refine z_aload_n (j := 0) dX8_readsCommand_59 rfl ?_
    refine z_dup rfl dX8_readsCommand_60 ?_
    refine z_get (v := .int (s 25)) (by omega) mW_obj fX8_268 rfl dX8_readsCommand_61 ?_
    refine z_iconst (v := 1) dX8_readsCommand_64 (by decide) ?_
    refine z_iadd dX8_readsCommand_65 ?_
    rw [show ((s 25) + 1) = (nI (ex + 1)) from by rw [h25, nI_1]]
    refine m_put (k := 25) (by omega) fX8_268 (by unfold mS; omega) (by decide) dX8_readsCommand_66 ?_
    refine z_aload_n (j := 0) dX8_readsCommand_69 rfl ?_
    refine z_kV [] 0 0 kc ks yoX8_next yvX8_next rfl (by decide) lX8_188 (by omega) mW_obj rfl rfl (Nat.le_of_ble_eq_true rfl) (Nat.le_of_ble_eq_true rfl) dX8_readsCommand_70 (by omega) (by omega) (z_room (by omega) (Nat.le_refl _) (Nat.le_refl _) (m_nxt (d := 0) hb hL hu hx hst (by rw [up_ne (by decide)]; exact h15) (by rw [up_ne (by decide)]; exact hT.2.1) (fun s1 hT1 hf1 => ⟨rfl, ?_⟩)))
    refine z_aload_n (j := 0) dX8_readsCommand_73 rfl ?_
    refine z_iload_n (j := 2) dX8_readsCommand_74 rfl ?_
    refine z_kV [.int 7] 0 0 kc ks yoX8_readsWord yvX8_readsWord rfl (by decide) lX8_271 (by omega) mW_obj rfl rfl (Nat.le_of_ble_eq_true rfl) (Nat.le_of_ble_eq_true rfl) dX8_readsCommand_75 (by omega) (by omega) (z_room (by omega) (Nat.le_refl _) (Nat.le_refl _) (m_word7 (d := 0) (S := S) (p := tE L x st) hb hL hu hx (tE_le' (x := x) hst).2 ((hf1 15 (by decide) (by decide) (by decide) (by decide)).trans ((up_ne (by decide)).trans h15)) ((hf1 16 (by decide) (by decide) (by decide) (by decide)).trans ((up_ne (by decide)).trans h16)) hT1 hM (fun p2 S2 he s2 a2 g1 g2 g3 g4 g5 => ⟨rfl, ?_⟩) (fun k off he g0 g1 s2 a2 e1 e2 hF => ⟨rfl, ?_⟩)))
    · exact z_zret rfl rfl dX8_readsCommand_78 (hqY p2 (ex + 1) S2 (by unfold cS; rw [if_neg hexn, he]) _ _ g1 g2 g3 (g4.trans ((hf1 25 (by decide) (by decide) (by decide) (by decide)).trans up_eq)) (by omega) ((rF.ex.tr hf1.F).tr g5))
    · exact z_zret rfl rfl dX8_readsCommand_78 (hqN k off (by unfold cS; rw [if_neg hexn, he]) g0 g1 _ _ e1 e2 ((rF.ex.tr hf1.F).tr hF))
  · refine z_aload_n (j := 0) dX8_readsCommand_53 rfl ?_
    skip
    refine z_iconst (v := 5) dX8_readsCommand_54 (by decide) ?_
    refine z_kV [.int 5] 0 0 kc ks yoX8_fail yvX8_fail rfl (by decide) lX8_182 (by omega) mW_obj rfl rfl (Nat.le_of_ble_eq_true rfl) (Nat.le_of_ble_eq_true rfl) dX8_readsCommand_55 (by omega) (by omega) (z_room (by omega) (Nat.le_refl _) (Nat.le_refl _) (m_fail (d := 0) (k := 5) hb h16 hT.1 (by decide) (fun s1 he => ⟨rfl, ?_⟩)))
    exact z_zret rfl rfl dX8_readsCommand_58 (hqN 5 st (by unfold cS; exact if_pos ((nI_eq (b := 200) (by omega) (by decide)).mp czq50)) (by decide) (by decide) _ _ he.1 he.2.1 he.F)

set_option maxHeartbeats 4000000 in
set_option maxRecDepth 100000 in
theorem m_cmdS8 {l : zL} {d kc ks n b : Nat} {h : Nat → va_E} {a : Nat → Nat → Int32} {L : Nat} {x : Nat → Nat} {st ex : Nat} {S : zS} {Q : zQ} {s : Nat → Int32} {dv : Int32} (hb : b + 14 ≤ n) (hL : L ≤ 600) (hu : ∀ i, i < L → a 10 i = nI (x i)) (hx : ∀ i, x i < 256) (hst : st ≤ L) (h15 : s 15 = nI L) (h16 : s 16 = 0) (hT : rT L x st s) (hM : mT S (a 0)) (h25 : s 25 = nI ex) (hex : ex ≤ 200) (hw : wId L x st = some 8) (hqY : ∀ p' ex' S', cS L x 8 st ex S = .inr (p', ex', S') → ∀ s' a', mT S' (a' 0) → s' 23 = nI p' → s' 16 = 0 → s' 25 = nI ex' → ex' ≤ 200 → rF s a s' a' → Q (.inl (some (.int 1))) n (mW h b s' a')) (hqN : ∀ k off, cS L x 8 st ex S = .inl (k, off) → k ≠ 0 → k < 10 → ∀ s' a', s' 16 = nI k → s' 17 = nI off → rF s a s' a' → Q (.inl (some (.int 0))) n (mW h b s' a')) : Zj l mX8_readsCommand (d + 11) kc ks 0 [(0, .ref b), (1, .int dv)] [] n (mW h b s a) Q := by
  refine z_aload_n (j := 0) dX8_readsCommand_0 rfl ?_
  refine z_kV [] 0 0 kc ks yoX8_wordAhead yvX8_wordAhead rfl (by decide) lX8_262 (by omega) mW_obj rfl rfl (Nat.le_of_ble_eq_true rfl) (Nat.le_of_ble_eq_true rfl) dX8_readsCommand_1 (by omega) (by omega) (z_room (by omega) (Nat.le_refl _) (Nat.le_refl _) (m_wordAhead (d := 0) hb hL hu hx hst hT ⟨rfl, ?_⟩))
  rw [show (optI (wId L x st)) = 8 from by rw [hw]; rfl]
  refine z_istore_n [1, 2, 0] [(0, .ref b), (1, .int dv), (2, .int 8)] dX8_readsCommand_4 (by decide) rfl ?_
  refine z_iload_n (j := 2) dX8_readsCommand_5 rfl ?_
  refine z_iconst (v := (-1)) dX8_readsCommand_6 (by decide) ?_
  refine z_icmp_ne (tgt := 16) dX8_readsCommand_7 (by decide) (fun czq7 => ?_) (fun czq7 => absurd czq7 (by decide))
  refine z_iload_n (j := 2) dX8_readsCommand_16 rfl ?_
  refine z_bipush (v := 10) dX8_readsCommand_17 (by decide) ?_
  refine z_icmp_ne (tgt := 43) dX8_readsCommand_19 (by decide) (fun czq19 => ?_) (fun czq19 => absurd czq19 (by decide))
  refine z_aload_n (j := 0) dX8_readsCommand_43 rfl ?_
  refine z_get (v := .int (s 25)) (by omega) mW_obj fX8_268 rfl dX8_readsCommand_44 ?_
  refine z_sipush (v := 200) dX8_readsCommand_47 (by decide) ?_
  rw [show (s 25) = (nI ex) from h25]
  refine z_icmp_ne (tgt := 59) dX8_readsCommand_50 (by decide) (fun czq50 => ?_) (fun czq50 => ?_)
  · have hexn : ¬ ex = 200 := fun z => czq50 (by rw [z]; rfl)
    refine z_aload_n (j := 0) dX8_readsCommand_59 rfl ?_
    refine z_dup rfl dX8_readsCommand_60 ?_
    refine z_get (v := .int (s 25)) (by omega) mW_obj fX8_268 rfl dX8_readsCommand_61 ?_
    refine z_iconst (v := 1) dX8_readsCommand_64 (by decide) ?_
    refine z_iadd dX8_readsCommand_65 ?_
    rw [show ((s 25) + 1) = (nI (ex + 1)) from by rw [h25, nI_1]]
    refine m_put (k := 25) (by omega) fX8_268 (by unfold mS; omega) (by decide) dX8_readsCommand_66 ?_
    refine z_aload_n (j := 0) dX8_readsCommand_69 rfl ?_
    refine z_kV [] 0 0 kc ks yoX8_next yvX8_next rfl (by decide) lX8_188 (by omega) mW_obj rfl rfl (Nat.le_of_ble_eq_true rfl) (Nat.le_of_ble_eq_true rfl) dX8_readsCommand_70 (by omega) (by omega) (z_room (by omega) (Nat.le_refl _) (Nat.le_refl _) (m_nxt (d := 0) hb hL hu hx hst (by rw [up_ne (by decide)]; exact h15) (by rw [up_ne (by decide)]; exact hT.2.1) (fun s1 hT1 hf1 => ⟨rfl, ?_⟩)))
    refine z_aload_n (j := 0) dX8_readsCommand_73 rfl ?_
    refine z_iload_n (j := 2) dX8_readsCommand_74 rfl ?_
    refine z_kV [.int 8] 0 0 kc ks yoX8_readsWord yvX8_readsWord rfl (by decide) lX8_271 (by omega) mW_obj rfl rfl (Nat.le_of_ble_eq_true rfl) (Nat.le_of_ble_eq_true rfl) dX8_readsCommand_75 (by omega) (by omega) (z_room (by omega) (Nat.le_refl _) (Nat.le_refl _) (m_word8 (d := 0) (S := S) (p := tE L x st) hb hL hu hx (tE_le' (x := x) hst).2 ((hf1 15 (by decide) (by decide) (by decide) (by decide)).trans ((up_ne (by decide)).trans h15)) ((hf1 16 (by decide) (by decide) (by decide) (by decide)).trans ((up_ne (by decide)).trans h16)) hT1 hM (fun p2 S2 he s2 a2 g1 g2 g3 g4 g5 => ⟨rfl, ?_⟩) (fun k off he g0 g1 s2 a2 e1 e2 hF => ⟨rfl, ?_⟩)))
    · exact z_zret rfl rfl dX8_readsCommand_78 (hqY p2 (ex + 1) S2 (by unfold cS; rw [if_neg hexn, he]) _ _ g1 g2 g3 (g4.trans ((hf1 25 (by decide) (by decide) (by decide) (by decide)).trans up_eq)) (by omega) ((rF.ex.tr hf1.F).tr g5))
    · exact z_zret rfl rfl dX8_readsCommand_78 (hqN k off (by unfold cS; rw [if_neg hexn, he]) g0 g1 _ _ e1 e2 ((rF.ex.tr hf1.F).tr hF))
  · refine z_aload_n (j := 0) dX8_readsCommand_53 rfl ?_
    skip
    refine z_iconst (v := 5) dX8_readsCommand_54 (by decide) ?_
    refine z_kV [.int 5] 0 0 kc ks yoX8_fail yvX8_fail rfl (by decide) lX8_182 (by omega) mW_obj rfl rfl (Nat.le_of_ble_eq_true rfl) (Nat.le_of_ble_eq_true rfl) dX8_readsCommand_55 (by omega) (by omega) (z_room (by omega) (Nat.le_refl _) (Nat.le_refl _) (m_fail (d := 0) (k := 5) hb h16 hT.1 (by decide) (fun s1 he => ⟨rfl, ?_⟩)))
    exact z_zret rfl rfl dX8_readsCommand_58 (hqN 5 st (by unfold cS; exact if_pos ((nI_eq (b := 200) (by omega) (by decide)).mp czq50)) (by decide) (by decide) _ _ he.1 he.2.1 he.F)

set_option maxHeartbeats 4000000 in
set_option maxRecDepth 100000 in
theorem m_cmdS9 {l : zL} {d kc ks n b : Nat} {h : Nat → va_E} {a : Nat → Nat → Int32} {L : Nat} {x : Nat → Nat} {st ex : Nat} {S : zS} {Q : zQ} {s : Nat → Int32} {dv : Int32} (hb : b + 14 ≤ n) (hL : L ≤ 600) (hu : ∀ i, i < L → a 10 i = nI (x i)) (hx : ∀ i, x i < 256) (hst : st ≤ L) (h15 : s 15 = nI L) (h16 : s 16 = 0) (hT : rT L x st s) (hM : mT S (a 0)) (h25 : s 25 = nI ex) (hex : ex ≤ 200) (hw : wId L x st = some 9) (hqY : ∀ p' ex' S', cS L x 9 st ex S = .inr (p', ex', S') → ∀ s' a', mT S' (a' 0) → s' 23 = nI p' → s' 16 = 0 → s' 25 = nI ex' → ex' ≤ 200 → rF s a s' a' → Q (.inl (some (.int 1))) n (mW h b s' a')) (hqN : ∀ k off, cS L x 9 st ex S = .inl (k, off) → k ≠ 0 → k < 10 → ∀ s' a', s' 16 = nI k → s' 17 = nI off → rF s a s' a' → Q (.inl (some (.int 0))) n (mW h b s' a')) : Zj l mX8_readsCommand (d + 11) kc ks 0 [(0, .ref b), (1, .int dv)] [] n (mW h b s a) Q := by
  refine z_aload_n (j := 0) dX8_readsCommand_0 rfl ?_
  refine z_kV [] 0 0 kc ks yoX8_wordAhead yvX8_wordAhead rfl (by decide) lX8_262 (by omega) mW_obj rfl rfl (Nat.le_of_ble_eq_true rfl) (Nat.le_of_ble_eq_true rfl) dX8_readsCommand_1 (by omega) (by omega) (z_room (by omega) (Nat.le_refl _) (Nat.le_refl _) (m_wordAhead (d := 0) hb hL hu hx hst hT ⟨rfl, ?_⟩))
  rw [show (optI (wId L x st)) = 9 from by rw [hw]; rfl]
  refine z_istore_n [1, 2, 0] [(0, .ref b), (1, .int dv), (2, .int 9)] dX8_readsCommand_4 (by decide) rfl ?_
  refine z_iload_n (j := 2) dX8_readsCommand_5 rfl ?_
  refine z_iconst (v := (-1)) dX8_readsCommand_6 (by decide) ?_
  refine z_icmp_ne (tgt := 16) dX8_readsCommand_7 (by decide) (fun czq7 => ?_) (fun czq7 => absurd czq7 (by decide))
  refine z_iload_n (j := 2) dX8_readsCommand_16 rfl ?_
  refine z_bipush (v := 10) dX8_readsCommand_17 (by decide) ?_
  refine z_icmp_ne (tgt := 43) dX8_readsCommand_19 (by decide) (fun czq19 => ?_) (fun czq19 => absurd czq19 (by decide))
  refine z_aload_n (j := 0) dX8_readsCommand_43 rfl ?_
  refine z_get (v := .int (s 25)) (by omega) mW_obj fX8_268 rfl dX8_readsCommand_44 ?_
  refine z_sipush (v := 200) dX8_readsCommand_47 (by decide) ?_
  rw [show (s 25) = (nI ex) from h25]
  refine z_icmp_ne (tgt := 59) dX8_readsCommand_50 (by decide) (fun czq50 => ?_) (fun czq50 => ?_)
  · have hexn : ¬ ex = 200 := fun z => czq50 (by rw [z]; rfl)
    refine z_aload_n (j := 0) dX8_readsCommand_59 rfl ?_
    refine z_dup rfl dX8_readsCommand_60 ?_
    refine z_get (v := .int (s 25)) (by omega) mW_obj fX8_268 rfl dX8_readsCommand_61 ?_
    refine z_iconst (v := 1) dX8_readsCommand_64 (by decide) ?_
    refine z_iadd dX8_readsCommand_65 ?_
    rw [show ((s 25) + 1) = (nI (ex + 1)) from by rw [h25, nI_1]]
    refine m_put (k := 25) (by omega) fX8_268 (by unfold mS; omega) (by decide) dX8_readsCommand_66 ?_
    refine z_aload_n (j := 0) dX8_readsCommand_69 rfl ?_
    refine z_kV [] 0 0 kc ks yoX8_next yvX8_next rfl (by decide) lX8_188 (by omega) mW_obj rfl rfl (Nat.le_of_ble_eq_true rfl) (Nat.le_of_ble_eq_true rfl) dX8_readsCommand_70 (by omega) (by omega) (z_room (by omega) (Nat.le_refl _) (Nat.le_refl _) (m_nxt (d := 0) hb hL hu hx hst (by rw [up_ne (by decide)]; exact h15) (by rw [up_ne (by decide)]; exact hT.2.1) (fun s1 hT1 hf1 => ⟨rfl, ?_⟩)))
    refine z_aload_n (j := 0) dX8_readsCommand_73 rfl ?_
    refine z_iload_n (j := 2) dX8_readsCommand_74 rfl ?_
    refine z_kV [.int 9] 0 0 kc ks yoX8_readsWord yvX8_readsWord rfl (by decide) lX8_271 (by omega) mW_obj rfl rfl (Nat.le_of_ble_eq_true rfl) (Nat.le_of_ble_eq_true rfl) dX8_readsCommand_75 (by omega) (by omega) (z_room (by omega) (Nat.le_refl _) (Nat.le_refl _) (m_word9 (d := 0) (S := S) (p := tE L x st) hb hL hu hx (tE_le' (x := x) hst).2 ((hf1 15 (by decide) (by decide) (by decide) (by decide)).trans ((up_ne (by decide)).trans h15)) ((hf1 16 (by decide) (by decide) (by decide) (by decide)).trans ((up_ne (by decide)).trans h16)) hT1 hM (fun p2 S2 he s2 a2 g1 g2 g3 g4 g5 => ⟨rfl, ?_⟩) (fun k off he g0 g1 s2 a2 e1 e2 hF => ⟨rfl, ?_⟩)))
    · exact z_zret rfl rfl dX8_readsCommand_78 (hqY p2 (ex + 1) S2 (by unfold cS; rw [if_neg hexn, he]) _ _ g1 g2 g3 (g4.trans ((hf1 25 (by decide) (by decide) (by decide) (by decide)).trans up_eq)) (by omega) ((rF.ex.tr hf1.F).tr g5))
    · exact z_zret rfl rfl dX8_readsCommand_78 (hqN k off (by unfold cS; rw [if_neg hexn, he]) g0 g1 _ _ e1 e2 ((rF.ex.tr hf1.F).tr hF))
  · refine z_aload_n (j := 0) dX8_readsCommand_53 rfl ?_
    skip
    refine z_iconst (v := 5) dX8_readsCommand_54 (by decide) ?_
    refine z_kV [.int 5] 0 0 kc ks yoX8_fail yvX8_fail rfl (by decide) lX8_182 (by omega) mW_obj rfl rfl (Nat.le_of_ble_eq_true rfl) (Nat.le_of_ble_eq_true rfl) dX8_readsCommand_55 (by omega) (by omega) (z_room (by omega) (Nat.le_refl _) (Nat.le_refl _) (m_fail (d := 0) (k := 5) hb h16 hT.1 (by decide) (fun s1 he => ⟨rfl, ?_⟩)))
    exact z_zret rfl rfl dX8_readsCommand_58 (hqN 5 st (by unfold cS; exact if_pos ((nI_eq (b := 200) (by omega) (by decide)).mp czq50)) (by decide) (by decide) _ _ he.1 he.2.1 he.F)

set_option maxHeartbeats 4000000 in
set_option maxRecDepth 100000 in
theorem m_cmdN {l : zL} {d kc ks n b : Nat} {h : Nat → va_E} {a : Nat → Nat → Int32} {L : Nat} {x : Nat → Nat} {st ex : Nat} {S : zS} {Q : zQ} {s : Nat → Int32} {dv : Int32} (hb : b + 14 ≤ n) (hL : L ≤ 600) (hu : ∀ i, i < L → a 10 i = nI (x i)) (hx : ∀ i, x i < 256) (hst : st ≤ L) (h15 : s 15 = nI L) (h16 : s 16 = 0) (hT : rT L x st s) (hM : mT S (a 0)) (h25 : s 25 = nI ex) (hex : ex ≤ 200) (hw : wId L x st = none) (hqN : ∀ s' a', s' 16 = nI 1 → s' 17 = nI st → rF s a s' a' → Q (.inl (some (.int 0))) n (mW h b s' a')) : Zj l mX8_readsCommand (d + 11) kc ks 0 [(0, .ref b), (1, .int dv)] [] n (mW h b s a) Q := by
  refine z_aload_n (j := 0) dX8_readsCommand_0 rfl ?_
  refine z_kV [] 0 0 kc ks yoX8_wordAhead yvX8_wordAhead rfl (by decide) lX8_262 (by omega) mW_obj rfl rfl (Nat.le_of_ble_eq_true rfl) (Nat.le_of_ble_eq_true rfl) dX8_readsCommand_1 (by omega) (by omega) (z_room (by omega) (Nat.le_refl _) (Nat.le_refl _) (m_wordAhead (d := 0) hb hL hu hx hst hT ⟨rfl, ?_⟩))
  rw [show (optI (wId L x st)) = (-1) from by rw [hw]; rfl]
  refine z_istore_n [1, 2, 0] [(0, .ref b), (1, .int dv), (2, .int ((-1)))] dX8_readsCommand_4 (by decide) rfl ?_
  refine z_iload_n (j := 2) dX8_readsCommand_5 rfl ?_
  refine z_iconst (v := (-1)) dX8_readsCommand_6 (by decide) ?_
  refine z_icmp_ne (tgt := 16) dX8_readsCommand_7 (by decide) (fun czq7 => absurd czq7 (fun z => z rfl)) (fun czq7 => ?_)
  refine z_aload_n (j := 0) dX8_readsCommand_10 rfl ?_
  refine z_iconst (v := 1) dX8_readsCommand_11 (by decide) ?_
  refine z_kV [.int 1] 0 0 kc ks yoX8_fail yvX8_fail rfl (by decide) lX8_182 (by omega) mW_obj rfl rfl (Nat.le_of_ble_eq_true rfl) (Nat.le_of_ble_eq_true rfl) dX8_readsCommand_12 (by omega) (by omega) (z_room (by omega) (Nat.le_refl _) (Nat.le_refl _) (m_fail (d := 0) (k := 1) hb h16 hT.1 (by decide) (fun s1 he => ⟨rfl, ?_⟩)))
  exact z_zret rfl rfl dX8_readsCommand_15 (hqN _ _ he.1 he.2.1 he.F)

set_option maxHeartbeats 4000000 in
set_option maxRecDepth 100000 in
theorem m_cmdD {l : zL} {d kc ks n b : Nat} {h : Nat → va_E} {a : Nat → Nat → Int32} {L : Nat} {x : Nat → Nat} {st ex : Nat} {S : zS} {Q : zQ} {s : Nat → Int32} (hb : b + 14 ≤ n) (hL : L ≤ 600) (hu : ∀ i, i < L → a 10 i = nI (x i)) (hx : ∀ i, x i < 256) (hst : st ≤ L) (h15 : s 15 = nI L) (h16 : s 16 = 0) (hT : rT L x st s) (hM : mT S (a 0)) (h25 : s 25 = nI ex) (hex : ex ≤ 200) (hw : wId L x st = some 10) (hqN : ∀ s' a', s' 16 = nI 4 → s' 17 = nI st → rF s a s' a' → Q (.inl (some (.int 0))) n (mW h b s' a')) : Zj l mX8_readsCommand (d + 11) kc ks 0 [(0, .ref b), (1, .int 2)] [] n (mW h b s a) Q := by
  refine z_aload_n (j := 0) dX8_readsCommand_0 rfl ?_
  refine z_kV [] 0 0 kc ks yoX8_wordAhead yvX8_wordAhead rfl (by decide) lX8_262 (by omega) mW_obj rfl rfl (Nat.le_of_ble_eq_true rfl) (Nat.le_of_ble_eq_true rfl) dX8_readsCommand_1 (by omega) (by omega) (z_room (by omega) (Nat.le_refl _) (Nat.le_refl _) (m_wordAhead (d := 0) hb hL hu hx hst hT ⟨rfl, ?_⟩))
  rw [show (optI (wId L x st)) = 10 from by rw [hw]; rfl]
  refine z_istore_n [1, 2, 0] [(0, .ref b), (1, .int 2), (2, .int 10)] dX8_readsCommand_4 (by decide) rfl ?_
  refine z_iload_n (j := 2) dX8_readsCommand_5 rfl ?_
  refine z_iconst (v := (-1)) dX8_readsCommand_6 (by decide) ?_
  refine z_icmp_ne (tgt := 16) dX8_readsCommand_7 (by decide) (fun czq7 => ?_) (fun czq7 => absurd czq7 (by decide))
  refine z_iload_n (j := 2) dX8_readsCommand_16 rfl ?_
  refine z_bipush (v := 10) dX8_readsCommand_17 (by decide) ?_
  refine z_icmp_ne (tgt := 43) dX8_readsCommand_19 (by decide) (fun czq19 => absurd czq19 (fun z => z rfl)) (fun czq19 => ?_)
  refine z_iload_n (j := 1) dX8_readsCommand_22 rfl ?_
  refine z_iconst (v := 2) dX8_readsCommand_23 (by decide) ?_
  refine z_icmp_ne (tgt := 33) dX8_readsCommand_24 (by decide) (fun czq24 => absurd czq24 (fun z => z rfl)) (fun czq24 => ?_)
  refine z_aload_n (j := 0) dX8_readsCommand_27 rfl ?_
  refine z_iconst (v := 4) dX8_readsCommand_28 (by decide) ?_
  refine z_kV [.int 4] 0 0 kc ks yoX8_fail yvX8_fail rfl (by decide) lX8_182 (by omega) mW_obj rfl rfl (Nat.le_of_ble_eq_true rfl) (Nat.le_of_ble_eq_true rfl) dX8_readsCommand_29 (by omega) (by omega) (z_room (by omega) (Nat.le_refl _) (Nat.le_refl _) (m_fail (d := 0) (k := 4) hb h16 hT.1 (by decide) (fun s1 he => ⟨rfl, ?_⟩)))
  exact z_zret rfl rfl dX8_readsCommand_32 (hqN _ _ he.1 he.2.1 he.F)
