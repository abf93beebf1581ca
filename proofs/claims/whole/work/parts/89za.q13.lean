/-! THE REFERENCE'S READER: the rounds of a repeat -/

set_option maxHeartbeats 4000000 in
set_option maxRecDepth 100000 in
theorem m_rp78 {l : zL} {d kc ks n b : Nat} {h : Nat → va_E} {L : Nat} {x : Nat → Nat} {Q : zQ} {r m0 T p2 : Nat} {i : Nat} {s : Nat → Int32} {a : Nat → Nat → Int32} (hk : True → Zj l mX8_readsRepeat (d + 2 * r + 12) kc ks 36 [(0, .ref b), (1, .int (nI m0)), (2, .int (nI T)), (3, .int (nI p2)), (4, .int (nI (i + 1)))] [] n (mW h b s a) Q) : Zj l mX8_readsRepeat (d + 2 * r + 12) kc ks 78 [(0, .ref b), (1, .int ((nI m0))), (2, .int ((nI T))), (3, .int ((nI p2))), (4, .int ((nI i)))] [] n (mW h b s a) Q := by
  skip
  refine z_iinc ((nI (i + 1))) [1, 2, 3, 4, 0] [(0, .ref b), (1, .int ((nI m0))), (2, .int ((nI T))), (3, .int ((nI p2))), (4, .int ((nI (i + 1))))] dX8_readsRepeat_78 (j := 4) rfl (nI_1 i) (by decide) rfl ?_
  refine z_goto (tgt := 36) dX8_readsRepeat_81 (by decide) ?_
  exact hk trivial

set_option maxHeartbeats 4000000 in
set_option maxRecDepth 100000 in
theorem m_rp {l : zL} {d kc ks n b : Nat} {h : Nat → va_E} {L : Nat} {x : Nat → Nat} {Q : zQ} {r m0 T p2 : Nat} (hb : b + 14 ≤ n) (hL : L ≤ 600) (hx : ∀ i, x i < 256) (hC : cR l n b h L x r) (hm0 : m0 + 1 = 2 - r) (hT20 : T ≤ 20) (hp2 : p2 ≤ L) : ∀ k i pp ex S s a, i + k = T → pp ≤ L → s 15 = nI L → s 23 = nI pp → s 16 = 0 → s 25 = nI ex → ex ≤ 200 → mT S (a 0) → (∀ i, i < L → a 10 i = nI (x i)) → (∀ k9 off, (rp L x (cmd L x r) p2 k pp ex S = .inl (k9, off) ∨ ∃ p3 ex' S', rp L x (cmd L x r) p2 k pp ex S = .inr (p3, ex', S') ∧ rdT L x 5 p3 = .inl (k9, off)) → k9 ≠ 0 → k9 < 10 → ∀ s' a', s' 16 = nI k9 → s' 17 = nI off → rF s a s' a' → Q (.inl (some (.int 0))) n (mW h b s' a')) → (∀ p3 ex' S', rp L x (cmd L x r) p2 k pp ex S = .inr (p3, ex', S') → ∀ p4, rdT L x 5 p3 = .inr p4 → p4 ≤ L → ∀ s' a', mT S' (a' 0) → s' 23 = nI p4 → s' 16 = 0 → s' 25 = nI ex' → ex' ≤ 200 → rF s a s' a' → Q (.inl (some (.int 1))) n (mW h b s' a')) → Zj l mX8_readsRepeat (d + 2 * r + 12) kc ks 36 [(0, .ref b), (1, .int ((nI m0))), (2, .int ((nI T))), (3, .int ((nI p2))), (4, .int ((nI i)))] [] n (mW h b s a) Q := by
  intro k
  induction k with
  | zero =>
    intro i pp ex S s a hi hpp h15 h23 h16 h25 hex hM hu hqN hqY
    refine z_iload (j := 4) dX8_readsRepeat_36 rfl ?_
    refine z_iload_n (j := 2) dX8_readsRepeat_38 rfl ?_
    refine z_icmp_ge (tgt := 84) dX8_readsRepeat_39 (by decide) (fun czq39 => ?_) (fun czq39 => absurd (nI_le (by omega) (by omega)) czq39)
    refine z_aload_n (j := 0) dX8_readsRepeat_84 rfl ?_
    refine z_kV [] 0 0 kc ks yoX8_next yvX8_next rfl (by decide) lX8_188 (by omega) mW_obj rfl rfl (Nat.le_of_ble_eq_true rfl) (Nat.le_of_ble_eq_true rfl) dX8_readsRepeat_85 (by omega) (by omega) (z_room (by omega) (Nat.le_refl _) (Nat.le_refl _) (m_next (d := 0) (p := pp) hb hL hu hx hpp h15 h23 (fun s1 f1 f2 f3 f4 hf1 => ⟨rfl, ?_⟩)))
    refine z_aload_n (j := 0) dX8_readsRepeat_88 rfl ?_
    refine z_iconst (v := 1) dX8_readsRepeat_89 (by decide) ?_
    skip
    refine z_kV [.int ((nI (mkd 5)))] 0 0 kc ks yoX8_is yvX8_is rfl (by decide) lX8_185 (by omega) mW_obj rfl rfl (Nat.le_of_ble_eq_true rfl) (Nat.le_of_ble_eq_true rfl) dX8_readsRepeat_90 (by omega) (by omega) (z_room (by omega) (Nat.le_refl _) (Nat.le_refl _) (m_is (d := 0) (k := 5) hb ((hf1 16 (by decide) (by decide) (by decide) (by decide)).trans h16) f1 f3 (tKd_le (L := L) (x := x) (st := tS L x pp)) (by decide) (fun hk => ⟨rfl, ?_⟩) (fun hk s2 he => ⟨rfl, ?_⟩)))
    · exact z_zret rfl rfl dX8_readsRepeat_93 (hqY pp ex S rfl (nx L x pp) (rdT_2 hk) (nx_le (x := x) hpp).2 s1 a hM f2 ((hf1 16 (by decide) (by decide) (by decide) (by decide)).trans h16) ((hf1 25 (by decide) (by decide) (by decide) (by decide)).trans h25) hex (show mfk s s1 from hf1).F)
    · exact z_zret rfl rfl dX8_readsRepeat_93 (hqN 1 (tS L x pp) (Or.inr ⟨pp, ex, S, rfl, rdT_1 hk⟩) (by decide) (by decide) s2 a he.1 he.2.1 ((show mfk s s1 from hf1).F.tr he.F))
  | succ k ih =>
    intro i pp ex S s a hi hpp h15 h23 h16 h25 hex hM hu hqN hqY
    refine z_iload (j := 4) dX8_readsRepeat_36 rfl ?_
    refine z_iload_n (j := 2) dX8_readsRepeat_38 rfl ?_
    refine z_icmp_ge (tgt := 84) dX8_readsRepeat_39 (by decide) (fun czq39 => absurd czq39 (nI_ge (by omega) (by omega))) (fun czq39 => ?_)
    refine z_aload_n (j := 0) dX8_readsRepeat_42 rfl ?_
    refine z_iload_n (j := 3) dX8_readsRepeat_43 rfl ?_
    refine m_put (k := 23) (by omega) fX8_164 (by unfold mS; omega) (by decide) dX8_readsRepeat_44 ?_
    refine z_aload_n (j := 0) dX8_readsRepeat_47 rfl ?_
    refine z_kV [] 0 0 kc ks yoX8_next yvX8_next rfl (by decide) lX8_188 (by omega) mW_obj rfl rfl (Nat.le_of_ble_eq_true rfl) (Nat.le_of_ble_eq_true rfl) dX8_readsRepeat_48 (by omega) (by omega) (z_room (by omega) (Nat.le_refl _) (Nat.le_refl _) (m_next (d := 0) (p := p2) hb hL hu hx hp2 ((up_ne (by decide)).trans h15) up_eq (fun s1 f1 f2 f3 f4 hf1 => ⟨rfl, ?_⟩)))
    have hT1 : rT L x (tS L x p2) s1 := ⟨f1, f2, f3, f4⟩
    have hR1 : rF s a s1 a := ⟨fun q q1 q2 q3 q4 q5 q6 q7 q8 => (hf1 q q4 q5 q6 q7).trans (up_ne q6), fun _ _ => rfl, fun z => ⟨(hf1 17 (by decide) (by decide) (by decide) (by decide)).trans (up_ne (by decide)), ((hf1 16 (by decide) (by decide) (by decide) (by decide)).trans (up_ne (by decide))).symm.trans z⟩⟩
    refine m_lp (d := d) (r := r) hb hL hx hC hm0 (L + 1) p2 ex S s1 a (by omega) hp2 hT1 ((hf1 15 (by decide) (by decide) (by decide) (by decide)).trans ((up_ne (by decide)).trans h15)) ((hf1 16 (by decide) (by decide) (by decide) (by decide)).trans ((up_ne (by decide)).trans h16)) ((hf1 25 (by decide) (by decide) (by decide) (by decide)).trans ((up_ne (by decide)).trans h25)) hex hM hu (fun k9 off hl k0 k1 s3 a3 e1 e2 e3 => hqN k9 off (Or.inl (by rw [rp, hl])) k0 k1 s3 a3 e1 e2 (hR1.tr e3)) (fun q ex2 S2 hl hk2 hqL s3 a3 e1 e2 e3 e4 e5 e6 e7 => ?_)
    have hu3 : ∀ i, i < L → a3 10 i = nI (x i) := fun i hi => by rw [e7.2.1 10 (by decide)]; exact hu i hi
    refine m_rp78 (L := L) (x := x) (fun z => ?_)
    exact ih (i + 1) (nx L x q) ex2 S2 s3 a3 (by omega) (nx_le (x := x) hqL).2 e2 e1.2.1 e3 e4 e5 e6 hu3 (fun k9 off hh k0 k1 s4 a4 g1 g2 g3 => hqN k9 off (hh.elim (fun hh => Or.inl (by rw [rp, hl]; exact hh)) (fun ⟨p3, ex3, S3, g9, g8⟩ => Or.inr ⟨p3, ex3, S3, by rw [rp, hl]; exact g9, g8⟩)) k0 k1 s4 a4 g1 g2 ((hR1.tr e7).tr g3)) (fun p3 ex3 S3 hh p4 hd hp4 s4 a4 g1 g2 g3 g4 g5 g6 => hqY p3 ex3 S3 (by rw [rp, hl]; exact hh) p4 hd hp4 s4 a4 g1 g2 g3 g4 g5 ((hR1.tr e7).tr g6))
