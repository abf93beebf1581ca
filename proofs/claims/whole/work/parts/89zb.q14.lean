/-! THE REFERENCE'S READER: repeats, all commands -/

set_option maxHeartbeats 4000000 in
set_option maxRecDepth 100000 in
theorem m_rep {l : zL} {d kc ks n b : Nat} {h : Nat → va_E} {L : Nat} {x : Nat → Nat} {Q : zQ} {r m0 st ex : Nat} {S : zS} {s : Nat → Int32} {a : Nat → Nat → Int32} (hb : b + 14 ≤ n) (hL : L ≤ 600) (hx : ∀ i, x i < 256) (hC : cR l n b h L x r) (hm0 : m0 + 1 = 2 - r) (hst : st ≤ L) (h15 : s 15 = nI L) (h16 : s 16 = 0) (hT : rT L x (tS L x (tE L x st)) s) (hM : mT S (a 0)) (h25 : s 25 = nI ex) (hex : ex ≤ 200) (hu : ∀ i, i < L → a 10 i = nI (x i)) (hqY : ∀ p' ex' S', cRp L x (cmd L x r) st ex S = .inr (p', ex', S') → ∀ s' a', mT S' (a' 0) → s' 23 = nI p' → s' 16 = 0 → s' 25 = nI ex' → ex' ≤ 200 → rF s a s' a' → Q (.inl (some (.int 1))) n (mW h b s' a')) (hqN : ∀ k off, cRp L x (cmd L x r) st ex S = .inl (k, off) → k ≠ 0 → k < 10 → ∀ s' a', s' 16 = nI k → s' 17 = nI off → rF s a s' a' → Q (.inl (some (.int 0))) n (mW h b s' a')) : Zj l mX8_readsRepeat (d + 2 * r + 12) kc ks 0 [(0, .ref b), (1, .int ((nI m0)))] [] n (mW h b s a) Q := by
  refine z_aload_n (j := 0) dX8_readsRepeat_0 rfl ?_
  refine z_iconst (v := 0) dX8_readsRepeat_1 (by decide) ?_
  refine z_iconst (v := 1) dX8_readsRepeat_2 (by decide) ?_
  refine z_bipush (v := 20) dX8_readsRepeat_3 (by decide) ?_
  refine z_kV [.int 0, .int 1, .int 20] 0 0 kc ks yoX8_number yvX8_number rfl (by decide) lX8_191 (by omega) mW_obj rfl rfl (Nat.le_of_ble_eq_true rfl) (Nat.le_of_ble_eq_true rfl) dX8_readsRepeat_5 (by omega) (by omega) (z_room (by omega) (Nat.le_refl _) (Nat.le_refl _) (m_number (d := 0) (j := 0) (lo := 1) (hi := 20) hb hL hu hx (tS_le (x := x) (tE_le' (x := x) hst).2).2 h15 h16 hT (by decide) (by decide) (by decide) (fun hk0 hok s1 hT1 hf1 => ⟨rfl, ?_⟩) (fun k hkk s1 he => ⟨rfl, ?_⟩)))
  · have hu1 : ∀ i, i < L → (va_up a 12 (va_up (a 12) 0 (nI (tV L x (tS L x (tE L x st)))))) 10 i = nI (x i) := fun i hi => (congrFun (up_ne (by decide)) i).trans (hu i hi)
    refine z_if_eq (tgt := 19) dX8_readsRepeat_8 (by decide) (fun czq8 => absurd czq8 (by decide)) (fun czq8 => ?_)
    refine z_aload_n (j := 0) dX8_readsRepeat_11 rfl ?_
    refine z_iconst (v := 4) dX8_readsRepeat_12 (by decide) ?_
    skip
    refine z_kV [.int ((nI (mkd 3)))] 0 0 kc ks yoX8_is yvX8_is rfl (by decide) lX8_185 (by omega) mW_obj rfl rfl (Nat.le_of_ble_eq_true rfl) (Nat.le_of_ble_eq_true rfl) dX8_readsRepeat_13 (by omega) (by omega) (z_room (by omega) (Nat.le_refl _) (Nat.le_refl _) (m_is (d := 0) (k := 3) hb ((hf1 16 (by decide) (by decide) (by decide) (by decide)).trans h16) hT1.1 hT1.2.2.1 tKd_le (by decide) (fun hk3 => ⟨rfl, ?_⟩) (fun hk3 s2 he => ⟨rfl, ?_⟩)))
    · refine z_if_ne (tgt := 21) dX8_readsRepeat_16 (by decide) (fun czq16 => ?_) (fun czq16 => absurd czq16 (by decide))
      refine z_aload_n (j := 0) dX8_readsRepeat_21 rfl ?_
      refine z_get (v := .ref (b + 13)) (by omega) mW_obj fX8_51 rfl dX8_readsRepeat_22 ?_
      refine z_iconst (v := 0) dX8_readsRepeat_25 (by decide) ?_
      refine m_aldN 12 3 0 (by decide) rfl rfl hb rfl (by decide) (by decide) dX8_readsRepeat_26 ?_
      rw [show ((va_up a 12 (va_up (a 12) 0 (nI (tV L x (tS L x (tE L x st)))))) 12 0) = (nI (tV L x (tS L x (tE L x st)))) from by rw [up_eq, up_eq]]
      refine z_istore_n [1, 2, 0] [(0, .ref b), (1, .int ((nI m0))), (2, .int ((nI (tV L x (tS L x (tE L x st))))))] dX8_readsRepeat_27 (by decide) rfl ?_
      refine z_aload_n (j := 0) dX8_readsRepeat_28 rfl ?_
      refine z_get (v := .int (s1 23)) (by omega) mW_obj fX8_164 rfl dX8_readsRepeat_29 ?_
      rw [show (s1 23) = (nI (nx L x (nx L x (tE L x st)))) from hT1.2.1]
      refine z_istore_n [1, 2, 3, 0] [(0, .ref b), (1, .int ((nI m0))), (2, .int ((nI (tV L x (tS L x (tE L x st)))))), (3, .int ((nI (nx L x (nx L x (tE L x st))))))] dX8_readsRepeat_32 (by decide) rfl ?_
      refine z_iconst (v := 0) dX8_readsRepeat_33 (by decide) ?_
      refine z_istore [1, 2, 3, 4, 0] [(0, .ref b), (1, .int ((nI m0))), (2, .int ((nI (tV L x (tS L x (tE L x st)))))), (3, .int ((nI (nx L x (nx L x (tE L x st)))))), (4, .int 0)] dX8_readsRepeat_34 (by decide) rfl ?_
      have hrp : rpo L x (tE L x st) = .inr ((tV L x (tS L x (tE L x st))), (nx L x (nx L x (tE L x st)))) := by unfold rpo; simp only [rdN_3 hk0 hok, rdT_2 (p := nx L x (tE L x st)) hk3]
      have hcr := rpo_o (C := cmd L x r) (ex := ex) (S := S) hrp
      have hlh := hok
      simp only [oIn, Bool.and_eq_true, decide_eq_true_eq] at hlh
      refine m_rp (d := d) (r := r) (T := (tV L x (tS L x (tE L x st)))) (p2 := (nx L x (nx L x (tE L x st)))) hb hL hx hC hm0 hlh.2 (nx_le (x := x) (nx_le (x := x) (tE_le' (x := x) hst).2).2).2 (tV L x (tS L x (tE L x st))) 0 (nx L x (nx L x (tE L x st))) ex S s1 (va_up a 12 (va_up (a 12) 0 (nI (tV L x (tS L x (tE L x st)))))) (by omega) (nx_le (x := x) (nx_le (x := x) (tE_le' (x := x) hst).2).2).2 ((hf1 15 (by decide) (by decide) (by decide) (by decide)).trans h15) hT1.2.1 ((hf1 16 (by decide) (by decide) (by decide) (by decide)).trans h16) ((hf1 25 (by decide) (by decide) (by decide) (by decide)).trans h25) hex (by rw [up_ne (by decide)]; exact hM) hu1 (fun k9 off hh k0 k1 s4 a4 g1 g2 g3 => hqN k9 off ?_ k0 k1 s4 a4 g1 g2 ((rF.num.tr hf1.F).tr g3)) (fun p3 ex3 S3 hh p4 hd hp4 s4 a4 g1 g2 g3 g4 g5 g6 => hqY p4 ex3 S3 ?_ s4 a4 g1 g2 g3 g4 g5 ((rF.num.tr hf1.F).tr g6))
      · rw [hcr]
        rcases hh with hh | ⟨p3, ex3, S3, hh, hd⟩
        · rw [hh]
        · rw [hh]; simp only [hd]
      · rw [hcr, hh]; simp only [hd]
    · refine z_if_ne (tgt := 21) dX8_readsRepeat_16 (by decide) (fun czq16 => absurd czq16 (fun z => z rfl)) (fun czq16 => ?_)
      refine z_iconst (v := 0) dX8_readsRepeat_19 (by decide) ?_
      exact z_zret rfl rfl dX8_readsRepeat_20 (hqN 1 _ (rpo_i (by unfold rpo; simp only [rdN_3 hk0 hok, rdT_1 (p := nx L x (tE L x st)) hk3] <;> rfl)) (by decide) (by decide) _ _ he.1 he.2.1 ((rF.num.tr hf1.F).tr he.F))
  · refine z_if_eq (tgt := 19) dX8_readsRepeat_8 (by decide) (fun czq8 => ?_) (fun czq8 => absurd rfl czq8)
    refine z_iconst (v := 0) dX8_readsRepeat_19 (by decide) ?_
    exact z_zret rfl rfl dX8_readsRepeat_20 (by
        rcases hkk with ⟨hk, rfl⟩ | ⟨hk, hno, rfl⟩
        · exact hqN 1 _ (rpo_i (by unfold rpo; simp only [rdN_1 hk] <;> rfl)) (by decide) (by decide) _ _ he.1 he.2.1 he.F
        · exact hqN 2 _ (rpo_i (by unfold rpo; simp only [rdN_2 hk hno] <;> rfl)) (by decide) (by decide) _ _ he.1 he.2.1 he.F)

set_option maxHeartbeats 4000000 in
set_option maxRecDepth 100000 in
theorem m_cmdR {l : zL} {d kc ks n b : Nat} {h : Nat → va_E} {L : Nat} {x : Nat → Nat} {Q : zQ} {r m0 st ex : Nat} {S : zS} {s : Nat → Int32} {a : Nat → Nat → Int32} (hb : b + 14 ≤ n) (hL : L ≤ 600) (hx : ∀ i, x i < 256) (hC : cR l n b h L x r) (hm0 : m0 + 1 = 2 - r) (hst : st ≤ L) (h15 : s 15 = nI L) (h16 : s 16 = 0) (hT : rT L x st s) (hM : mT S (a 0)) (h25 : s 25 = nI ex) (hex : ex ≤ 200) (hu : ∀ i, i < L → a 10 i = nI (x i)) (hw : wId L x st = some 10) (hqY : ∀ p' ex' S', cRp L x (cmd L x r) st ex S = .inr (p', ex', S') → ∀ s' a', mT S' (a' 0) → s' 23 = nI p' → s' 16 = 0 → s' 25 = nI ex' → ex' ≤ 200 → rF s a s' a' → Q (.inl (some (.int 1))) n (mW h b s' a')) (hqN : ∀ k off, cRp L x (cmd L x r) st ex S = .inl (k, off) → k ≠ 0 → k < 10 → ∀ s' a', s' 16 = nI k → s' 17 = nI off → rF s a s' a' → Q (.inl (some (.int 0))) n (mW h b s' a')) : Zj l mX8_readsCommand (d + 2 * r + 13) kc ks 0 [(0, .ref b), (1, .int ((nI m0)))] [] n (mW h b s a) Q := by
  refine z_aload_n (j := 0) dX8_readsCommand_0 rfl ?_
  refine z_kV [] 0 0 kc ks yoX8_wordAhead yvX8_wordAhead rfl (by decide) lX8_262 (by omega) mW_obj rfl rfl (Nat.le_of_ble_eq_true rfl) (Nat.le_of_ble_eq_true rfl) dX8_readsCommand_1 (by omega) (by omega) (z_room (by omega) (Nat.le_refl _) (Nat.le_refl _) (m_wordAhead (d := 0) hb hL hu hx hst hT ⟨rfl, ?_⟩))
  rw [show (optI (wId L x st)) = 10 from by rw [hw]; rfl]
  refine z_istore_n [1, 2, 0] [(0, .ref b), (1, .int ((nI m0))), (2, .int 10)] dX8_readsCommand_4 (by decide) rfl ?_
  refine z_iload_n (j := 2) dX8_readsCommand_5 rfl ?_
  refine z_iconst (v := (-1)) dX8_readsCommand_6 (by decide) ?_
  refine z_icmp_ne (tgt := 16) dX8_readsCommand_7 (by decide) (fun czq7 => ?_) (fun czq7 => absurd czq7 (by decide))
  refine z_iload_n (j := 2) dX8_readsCommand_16 rfl ?_
  refine z_bipush (v := 10) dX8_readsCommand_17 (by decide) ?_
  refine z_icmp_ne (tgt := 43) dX8_readsCommand_19 (by decide) (fun czq19 => absurd czq19 (fun z => z rfl)) (fun czq19 => ?_)
  refine z_iload_n (j := 1) dX8_readsCommand_22 rfl ?_
  refine z_iconst (v := 2) dX8_readsCommand_23 (by decide) ?_
  refine z_icmp_ne (tgt := 33) dX8_readsCommand_24 (by decide) (fun czq24 => ?_) (fun czq24 => absurd ((nI_eq (b := 2) (by omega) (by decide)).mp czq24) (by omega))
  refine z_aload_n (j := 0) dX8_readsCommand_33 rfl ?_
  refine z_kV [] 0 0 kc ks yoX8_next yvX8_next rfl (by decide) lX8_188 (by omega) mW_obj rfl rfl (Nat.le_of_ble_eq_true rfl) (Nat.le_of_ble_eq_true rfl) dX8_readsCommand_34 (by omega) (by omega) (z_room (by omega) (Nat.le_refl _) (Nat.le_refl _) (m_nxt (d := 0) hb hL hu hx hst h15 hT.2.1 (fun s1 hT1 hf1 => ⟨rfl, ?_⟩)))
  refine z_aload_n (j := 0) dX8_readsCommand_37 rfl ?_
  refine z_iload_n (j := 1) dX8_readsCommand_38 rfl ?_
  refine z_kV [.int ((nI m0))] 0 0 kc ks yoX8_readsRepeat yvX8_readsRepeat rfl (by decide) lX8_265 (by omega) mW_obj rfl rfl (Nat.le_of_ble_eq_true rfl) (Nat.le_of_ble_eq_true rfl) dX8_readsCommand_39 (by omega) (by omega) (z_room (by omega) (Nat.le_refl _) (Nat.le_refl _) (m_rep (d := 0) (r := r) (st := st) (ex := ex) (S := S) hb hL hx hC hm0 hst ((hf1 15 (by decide) (by decide) (by decide) (by decide)).trans h15) ((hf1 16 (by decide) (by decide) (by decide) (by decide)).trans h16) hT1 hM ((hf1 25 (by decide) (by decide) (by decide) (by decide)).trans h25) hex hu (fun p2 ex2 S2 he s2 a2 g1 g2 g3 g4 g5 g6 => ⟨rfl, ?_⟩) (fun k off he g0 g1 s2 a2 e1 e2 hF => ⟨rfl, ?_⟩)))
  · exact z_zret rfl rfl dX8_readsCommand_42 (hqY p2 ex2 S2 he _ _ g1 g2 g3 g4 g5 (hf1.F.tr g6))
  · exact z_zret rfl rfl dX8_readsCommand_42 (hqN k off he g0 g1 _ _ e1 e2 (hf1.F.tr hF))

theorem cR_s {l : zL} {n b : Nat} {h : Nat → va_E} {L : Nat} {x : Nat → Nat} (hb : b + 14 ≤ n) (hL : L ≤ 600) (hx : ∀ i, x i < 256) {r : Nat} (hr : r ≤ 1) (hC : cR l n b h L x r) : cR l n b h L x (r + 1) := by
  intro d kc ks st ex S s a Q hst h15 h16 hT hM h25 hex hu hqY hqN
  cases hw : wId L x st with
  | none => exact z_room (d' := d + 11) (by omega) (Nat.le_refl _) (Nat.le_refl _) (m_cmdN hb hL hu hx hst h15 h16 hT hM h25 hex hw (fun s' a' g1 g2 g3 => hqN 1 st (cmd_n hw (r + 1) ex S) (by decide) (by decide) s' a' g1 g2 g3))
  | some w =>
    by_cases h10 : w = 10
    · subst h10
      have e := cmd_r hw r ex S
      rw [e] at hqY hqN
      exact z_room (d' := d + 2 * r + 13) (by omega) (Nat.le_refl _) (Nat.le_refl _) (m_cmdR (d := d) (r := r) (m0 := 2 - (r + 1)) hb hL hx hC (by omega) hst h15 h16 hT hM h25 hex hu hw hqY hqN)
    · have e := cmd_s hw h10 (r + 1) ex S
      rw [e] at hqY hqN
      have h11 := (wId_some hw).1
      refine z_room (d' := d + 11) (by omega) (Nat.le_refl _) (Nat.le_refl _) ?_
      rcases (show w = 0 ∨ w = 1 ∨ w = 2 ∨ w = 3 ∨ w = 4 ∨ w = 5 ∨ w = 6 ∨ w = 7 ∨ w = 8 ∨ w = 9 by omega) with g | g | g | g | g | g | g | g | g | g
      · subst g; exact m_cmdS0 hb hL hu hx hst h15 h16 hT hM h25 hex hw hqY hqN
      · subst g; exact m_cmdS1 hb hL hu hx hst h15 h16 hT hM h25 hex hw hqY hqN
      · subst g; exact m_cmdS2 hb hL hu hx hst h15 h16 hT hM h25 hex hw hqY hqN
      · subst g; exact m_cmdS3 hb hL hu hx hst h15 h16 hT hM h25 hex hw hqY hqN
      · subst g; exact m_cmdS4 hb hL hu hx hst h15 h16 hT hM h25 hex hw hqY hqN
      · subst g; exact m_cmdS5 hb hL hu hx hst h15 h16 hT hM h25 hex hw hqY hqN
      · subst g; exact m_cmdS6 hb hL hu hx hst h15 h16 hT hM h25 hex hw hqY hqN
      · subst g; exact m_cmdS7 hb hL hu hx hst h15 h16 hT hM h25 hex hw hqY hqN
      · subst g; exact m_cmdS8 hb hL hu hx hst h15 h16 hT hM h25 hex hw hqY hqN
      · subst g; exact m_cmdS9 hb hL hu hx hst h15 h16 hT hM h25 hex hw hqY hqN
theorem cR_2 {l : zL} {n b : Nat} {h : Nat → va_E} {L : Nat} {x : Nat → Nat} (hb : b + 14 ≤ n) (hL : L ≤ 600) (hx : ∀ i, x i < 256) : cR l n b h L x 2 := cR_s hb hL hx (by decide) (cR_s hb hL hx (by decide) (cR_0 hb hL hx))
