/-! THE REFERENCE'S READER: a whole script -/

set_option maxHeartbeats 4000000 in
set_option maxRecDepth 100000 in
theorem m_readsAll {l : zL} {d kc ks n b : Nat} {h : Nat → va_E} {a : Nat → Nat → Int32} {L : Nat} {x : Nat → Nat} {Q : zQ} {s : Nat → Int32} (hb : b + 14 ≤ n) (hL : L ≤ 600) (hu : ∀ i, i < L → a 10 i = nI (x i)) (hx : ∀ i, x i < 256) (h15 : s 15 = nI L) (h16 : s 16 = 0) (hT : rT L x (tS L x 0) s) (h25 : s 25 = nI 0) (hz : ∀ j, j < 137 → a 0 j = 0) (hqY : ∀ q ex' S', prs L x = .inr (q, ex', S') → ∀ s' a', mT S' (a' 0) → s' 16 = 0 → rF s a s' a' → Q (.inl (some (.int 1))) n (mW h b s' a')) (hqN : ∀ k off, prs L x = .inl (k, off) → k ≠ 0 → k < 10 → ∀ s' a', s' 16 = nI k → s' 17 = nI off → rF s a s' a' → Q (.inl (some (.int 0))) n (mW h b s' a')) : Zj l mX8_readsAll (d + 16) kc ks 0 [(0, .ref b)] [] n (mW h b s a) Q := by
  refine z_aload_n (j := 0) dX8_readsAll_0 rfl ?_
  refine z_kV [] 0 0 kc ks yoX8_readsHead yvX8_readsHead rfl (by decide) lX8_303 (by omega) mW_obj rfl rfl (Nat.le_of_ble_eq_true rfl) (Nat.le_of_ble_eq_true rfl) dX8_readsAll_1 (by omega) (by omega) (z_room (by omega) (Nat.le_refl _) (Nat.le_refl _) (m_head (d := 0) hb hL hu hx (tS_le (x := x) (Nat.zero_le L)).2 h15 h16 hT (fun p B H T hop ht s1 a1 e0 e1 e2 h23 h16b h25b h0 hR => ⟨rfl, ?_⟩) (fun k off hop k0 k1 s1 a1 e1 e2 hR => ⟨rfl, ?_⟩)))
  · have hpL := opn_le (tS_le (x := x) (Nat.zero_le L)).2 hop
    have h15b : s1 15 = nI L := (hR.1 15 (by decide) (by decide) (by decide) (by decide) (by decide) (by decide) (by decide) (by decide)).trans h15
    have hu1 : ∀ i, i < L → (va_up (va_up (va_up a1 0 (va_up (a1 0) 0 (nI B))) 0 (va_up ((va_up a1 0 (va_up (a1 0) 0 (nI B))) 0) 1 (nI H))) 0 (va_up ((va_up (va_up a1 0 (va_up (a1 0) 0 (nI B))) 0 (va_up ((va_up a1 0 (va_up (a1 0) 0 (nI B))) 0) 1 (nI H))) 0) 2 (nI T))) 10 i = nI (x i) := fun i hi => by rw [up_ne (by decide), up_ne (by decide), up_ne (by decide), hR.2.1 10 (by decide)]; exact hu i hi
    refine z_if_ne (tgt := 9) dX8_readsAll_4 (by decide) (fun czq4 => ?_) (fun czq4 => absurd czq4 (by decide))
    refine z_aload_n (j := 0) dX8_readsAll_9 rfl ?_
    refine z_get (v := .ref (b + 1)) (by omega) mW_obj fX8_7 rfl dX8_readsAll_10 ?_
    refine z_iconst (v := 0) dX8_readsAll_13 (by decide) ?_
    refine z_aload_n (j := 0) dX8_readsAll_14 rfl ?_
    refine z_get (v := .ref (b + 13)) (by omega) mW_obj fX8_51 rfl dX8_readsAll_15 ?_
    refine z_iconst (v := 0) dX8_readsAll_18 (by decide) ?_
    refine m_aldN 12 3 0 (by decide) rfl rfl hb rfl (by decide) (by decide) dX8_readsAll_19 ?_
    rw [show (a1 12 0) = (nI B) from e0]
    refine m_astN 0 137 0 (by decide) rfl rfl hb rfl (by decide) (by decide) dX8_readsAll_20 ?_
    refine z_aload_n (j := 0) dX8_readsAll_21 rfl ?_
    refine z_get (v := .ref (b + 1)) (by omega) mW_obj fX8_7 rfl dX8_readsAll_22 ?_
    refine z_iconst (v := 1) dX8_readsAll_25 (by decide) ?_
    refine z_aload_n (j := 0) dX8_readsAll_26 rfl ?_
    refine z_get (v := .ref (b + 13)) (by omega) mW_obj fX8_51 rfl dX8_readsAll_27 ?_
    refine z_iconst (v := 1) dX8_readsAll_30 (by decide) ?_
    refine m_aldN 12 3 1 (by decide) rfl rfl hb rfl (by decide) (by decide) dX8_readsAll_31 ?_
    rw [show ((va_up a1 0 (va_up (a1 0) 0 (nI B))) 12 1) = (nI H) from by rw [up_ne (by decide)]; exact e1]
    refine m_astN 0 137 1 (by decide) rfl rfl hb rfl (by decide) (by decide) dX8_readsAll_32 ?_
    refine z_aload_n (j := 0) dX8_readsAll_33 rfl ?_
    refine z_get (v := .ref (b + 1)) (by omega) mW_obj fX8_7 rfl dX8_readsAll_34 ?_
    refine z_iconst (v := 2) dX8_readsAll_37 (by decide) ?_
    refine z_aload_n (j := 0) dX8_readsAll_38 rfl ?_
    refine z_get (v := .ref (b + 13)) (by omega) mW_obj fX8_51 rfl dX8_readsAll_39 ?_
    refine z_iconst (v := 2) dX8_readsAll_42 (by decide) ?_
    refine m_aldN 12 3 2 (by decide) rfl rfl hb rfl (by decide) (by decide) dX8_readsAll_43 ?_
    rw [show ((va_up (va_up a1 0 (va_up (a1 0) 0 (nI B))) 0 (va_up ((va_up a1 0 (va_up (a1 0) 0 (nI B))) 0) 1 (nI H))) 12 2) = (nI T) from by rw [up_ne (by decide), up_ne (by decide)]; exact e2]
    refine m_astN 0 137 2 (by decide) rfl rfl hb rfl (by decide) (by decide) dX8_readsAll_44 ?_
    refine z_aload_n (j := 0) dX8_readsAll_45 rfl ?_
    refine z_kV [] 0 0 kc ks yoX8_next yvX8_next rfl (by decide) lX8_188 (by omega) mW_obj rfl rfl (Nat.le_of_ble_eq_true rfl) (Nat.le_of_ble_eq_true rfl) dX8_readsAll_46 (by omega) (by omega) (z_room (by omega) (Nat.le_refl _) (Nat.le_refl _) (m_next (d := 0) (p := p) hb hL hu1 hx hpL h15b h23 (fun s2 f1 f2 f3 f4 hf2 => ⟨rfl, ?_⟩)))
    have hg := opn_rg hop
    have hM : mT (sNew B H T) ((va_up (va_up (va_up a1 0 (va_up (a1 0) 0 (nI B))) 0 (va_up ((va_up a1 0 (va_up (a1 0) 0 (nI B))) 0) 1 (nI H))) 0 (va_up ((va_up (va_up a1 0 (va_up (a1 0) 0 (nI B))) 0 (va_up ((va_up a1 0 (va_up (a1 0) 0 (nI B))) 0) 1 (nI H))) 0) 2 (nI T))) 0) := mT_new hg.1 hg.2.1 hg.2.2.1 hg.2.2.2.1 hg.2.2.2.2 (by rw [up_eq, up_ne (by decide), up_eq, up_ne (by decide), up_eq, up_eq]) (by rw [up_eq, up_ne (by decide), up_eq, up_eq]) (by rw [up_eq, up_eq]) (fun j h3 h7 => by rw [up_eq, up_ne (by omega), up_eq, up_ne (by omega), up_eq, up_ne (by omega), h0]; exact hz j h7)
    have hpo := prs_opn (L := L) (x := x)
    rw [hop] at hpo
    simp only at hpo
    have hF : rF s a s2 (va_up (va_up (va_up a1 0 (va_up (a1 0) 0 (nI B))) 0 (va_up ((va_up a1 0 (va_up (a1 0) 0 (nI B))) 0) 1 (nI H))) 0 (va_up ((va_up (va_up a1 0 (va_up (a1 0) 0 (nI B))) 0 (va_up ((va_up a1 0 (va_up (a1 0) 0 (nI B))) 0) 1 (nI H))) 0) 2 (nI T))) := hR.tr ⟨fun q q1 q2 q3 q4 q5 q6 q7 q8 => hf2 q q4 q5 q6 q7, fun q hq9 => by rw [up_ne (by omega), up_ne (by omega), up_ne (by omega)], fun z => ⟨hf2 17 (by decide) (by decide) (by decide) (by decide), (hf2 16 (by decide) (by decide) (by decide) (by decide)).symm.trans z⟩⟩
    exact m_all (d := d) hb hL hx (L + 1) p 0 (sNew B H T) s2 (va_up (va_up (va_up a1 0 (va_up (a1 0) 0 (nI B))) 0 (va_up ((va_up a1 0 (va_up (a1 0) 0 (nI B))) 0) 1 (nI H))) 0 (va_up ((va_up (va_up a1 0 (va_up (a1 0) 0 (nI B))) 0 (va_up ((va_up a1 0 (va_up (a1 0) 0 (nI B))) 0) 1 (nI H))) 0) 2 (nI T))) (by omega) hpL ⟨f1, f2, f3, f4⟩ ((hf2 15 (by decide) (by decide) (by decide) (by decide)).trans h15b) ((hf2 16 (by decide) (by decide) (by decide) (by decide)).trans h16b) ((hf2 25 (by decide) (by decide) (by decide) (by decide)).trans (h25b.trans h25)) (by omega) hM hu1 (fun k off hl k0 k1 s3 a3 g1 g2 g3 => hqN k off (hpo.trans hl) k0 k1 s3 a3 g1 g2 (hF.tr g3)) (fun q ex' S' hl s3 a3 g1 g2 g3 => hqY q ex' S' (hpo.trans hl) s3 a3 g1 g2 (hF.tr g3))
  · refine z_if_ne (tgt := 9) dX8_readsAll_4 (by decide) (fun czq4 => absurd czq4 (fun z => z rfl)) (fun czq4 => ?_)
    refine z_iconst (v := 0) dX8_readsAll_7 (by decide) ?_
    exact z_zret rfl rfl dX8_readsAll_8 (hqN k off (by rw [prs_opn, hop]) k0 k1 _ _ e1 e2 hR)
