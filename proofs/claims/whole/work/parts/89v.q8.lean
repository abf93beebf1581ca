/-! THE REFERENCE'S READER: commands, fourth part -/

set_option maxHeartbeats 4000000 in
set_option maxRecDepth 100000 in
theorem m_reads3 {l : zL} {d kc ks n b : Nat} {h : Nat → va_E} {a : Nat → Nat → Int32} {L : Nat} {x : Nat → Nat} {p : Nat} {S : zS} {Q : zQ} {s : Nat → Int32} (hb : b + 14 ≤ n) (hL : L ≤ 600) (hu : ∀ i, i < L → a 10 i = nI (x i)) (hx : ∀ i, x i < 256) (hp : p ≤ L) (h15 : s 15 = nI L) (h16 : s 16 = 0) (hT : rT L x (tS L x p) s) (hM : mT S (a 0)) (hqY : ∀ p' S', smp L x 3 p S = .inr (p', S') → ∀ s' a', mT S' (a' 0) → s' 23 = nI p' → s' 16 = 0 → s' 25 = s 25 → rF s a s' a' → Q (.inl (some (.int 1))) n (mW h b s' a')) (hqN : ∀ k off, smp L x 3 p S = .inl (k, off) → k ≠ 0 → k < 10 → ∀ s' a', s' 16 = nI k → s' 17 = nI off → rF s a s' a' → Q (.inl (some (.int 0))) n (mW h b s' a')) : Zj l mX8_readsRemove (d + 9) kc ks 0 [(0, .ref b)] [] n (mW h b s a) Q := by
  refine z_aload_n (j := 0) dX8_readsRemove_0 rfl ?_
  refine z_get (v := .int (s 21)) (by omega) mW_obj fX8_170 rfl dX8_readsRemove_1 ?_
  refine z_iconst (v := 3) dX8_readsRemove_4 (by decide) ?_
  rw [show (s 21) = (nI (mkd (tKd L x (tS L x p)))) from hT.2.2.1]
  refine z_icmp_ne (tgt := 26) dX8_readsRemove_5 (by decide) (fun czq5 => ?_) (fun czq5 => ?_)
  · have hk2 : ¬ tKd L x (tS L x p) = 2 := fun z => czq5 (by rw [z]; rfl)
    refine z_aload_n (j := 0) dX8_readsRemove_26 rfl ?_
    refine z_iconst (v := 0) dX8_readsRemove_27 (by decide) ?_
    refine z_iconst (v := 0) dX8_readsRemove_28 (by decide) ?_
    refine z_sipush (v := 9999) dX8_readsRemove_29 (by decide) ?_
    refine z_kV [.int 0, .int 0, .int 9999] 0 0 kc ks yoX8_number yvX8_number rfl (by decide) lX8_191 (by omega) mW_obj rfl rfl (Nat.le_of_ble_eq_true rfl) (Nat.le_of_ble_eq_true rfl) dX8_readsRemove_32 (by omega) (by omega) (z_room (by omega) (Nat.le_refl _) (Nat.le_refl _) (m_number (d := 0) (j := 0) (lo := 0) (hi := 9999) hb hL hu hx (tS_le (x := x) hp).2 h15 h16 hT (by decide) (by decide) (by decide) (fun hk hok s1 hT1 hf1 => ⟨rfl, ?_⟩) (fun k hkk s1 he => ⟨rfl, ?_⟩)))
    · exact absurd hk hk2
    · refine z_if_eq (tgt := 46) dX8_readsRemove_35 (by decide) (fun czq35 => ?_) (fun czq35 => absurd rfl czq35)
      refine z_iconst (v := 0) dX8_readsRemove_46 (by decide) ?_
      exact z_zret rfl rfl dX8_readsRemove_47 (by
          rcases hkk with ⟨hk, rfl⟩ | ⟨hk, hno, rfl⟩
          · exact hqN 1 _ (by
            unfold smp
            simp only [rdN_1 (ok := (fun k => (sFind S k).isSome)) hk]) (by decide) (by decide) _ _ he.1 he.2.1 he.F
          · exact absurd (by simp only [oIn, Bool.and_eq_true, decide_eq_true_eq]; exact ⟨Nat.zero_le _, tV_lt hk⟩) hno)
  · have hk2 : tKd L x (tS L x p) = 2 := mkd_inj _ tKd_le 2 (by decide) ((nI_eq (b := 3) (by have := mkd_le _ (tKd_le (L := L) (x := x) (st := tS L x p)); omega) (by decide)).mp czq5)
    refine z_aload_n (j := 0) dX8_readsRemove_8 rfl ?_
    refine z_aload_n (j := 0) dX8_readsRemove_9 rfl ?_
    refine z_get (v := .int (s 24)) (by omega) mW_obj fX8_176 rfl dX8_readsRemove_10 ?_
    rw [show (s 24) = (nI (tV L x (tS L x p))) from hT.2.2.2 hk2]
    refine z_kV [.int ((nI (tV L x (tS L x p))))] 0 0 kc ks yoX8_bucketWith yvX8_bucketWith rfl (by decide) lX8_129 (by omega) mW_obj rfl rfl (Nat.le_of_ble_eq_true rfl) (Nat.le_of_ble_eq_true rfl) dX8_readsRemove_13 (by omega) (by omega) (z_room (by omega) (Nat.le_refl _) (Nat.le_refl _) (m_find (d := 0) (S := S) hb hM (tV_lt hk2) (fun hf => ⟨rfl, ?_⟩) (fun bk hf hbk hKb => ⟨rfl, ?_⟩)))
    · refine z_iconst (v := (-1)) dX8_readsRemove_16 (by decide) ?_
      refine z_icmp_ne (tgt := 26) dX8_readsRemove_17 (by decide) (fun czq17 => absurd rfl czq17) (fun czq17 => ?_)
      refine z_aload_n (j := 0) dX8_readsRemove_20 rfl ?_
      refine z_iconst (v := 2) dX8_readsRemove_21 (by decide) ?_
      skip
      refine z_kV [.int ((nI 2))] 0 0 kc ks yoX8_fail yvX8_fail rfl (by decide) lX8_182 (by omega) mW_obj rfl rfl (Nat.le_of_ble_eq_true rfl) (Nat.le_of_ble_eq_true rfl) dX8_readsRemove_22 (by omega) (by omega) (z_room (by omega) (Nat.le_refl _) (Nat.le_refl _) (m_fail (d := 0) (k := 2) hb h16 hT.1 (by decide) (fun s1 he => ⟨rfl, ?_⟩)))
      exact z_zret rfl rfl dX8_readsRemove_25 (hqN 2 _ (by
            unfold smp
            simp only [rdN_2 (ok := (fun k => (sFind S k).isSome)) hk2 (by rw [hf]; decide)]) (by decide) (by decide) _ _ he.1 he.2.1 he.F)
    · have okb := hM.okb
      have hle := okb.le
      refine z_iconst (v := (-1)) dX8_readsRemove_16 (by decide) ?_
      refine z_icmp_ne (tgt := 26) dX8_readsRemove_17 (by decide) (fun czq17 => ?_) (fun czq17 => absurd czq17 (nI_neg1 (by omega)))
      skip
      refine z_aload_n (j := 0) dX8_readsRemove_26 rfl ?_
      refine z_iconst (v := 0) dX8_readsRemove_27 (by decide) ?_
      refine z_iconst (v := 0) dX8_readsRemove_28 (by decide) ?_
      refine z_sipush (v := 9999) dX8_readsRemove_29 (by decide) ?_
      refine z_kV [.int 0, .int 0, .int 9999] 0 0 kc ks yoX8_number yvX8_number rfl (by decide) lX8_191 (by omega) mW_obj rfl rfl (Nat.le_of_ble_eq_true rfl) (Nat.le_of_ble_eq_true rfl) dX8_readsRemove_32 (by omega) (by omega) (z_room (by omega) (Nat.le_refl _) (Nat.le_refl _) (m_number (d := 0) (j := 0) (lo := 0) (hi := 9999) hb hL hu hx (tS_le (x := x) hp).2 h15 h16 hT (by decide) (by decide) (by decide) (fun hk hok s1 hT1 hf1 => ⟨rfl, ?_⟩) (fun k hkk s1 he => ⟨rfl, ?_⟩)))
      · have hM1 : mT S ((va_up a 12 (va_up (a 12) 0 (nI (tV L x (tS L x p))))) 0) := by rw [up_ne (by decide)]; exact hM
        have hu1 : ∀ i, i < L → (va_up a 12 (va_up (a 12) 0 (nI (tV L x (tS L x p))))) 10 i = nI (x i) := fun i hi => by rw [up_ne (by decide)]; exact hu i hi
        have h15b : s1 15 = nI L := (hf1 15 (by decide) (by decide) (by decide) (by decide)).trans h15
        have h16b : s1 16 = 0 := (hf1 16 (by decide) (by decide) (by decide) (by decide)).trans h16
        refine z_if_eq (tgt := 46) dX8_readsRemove_35 (by decide) (fun czq35 => absurd czq35 (by decide)) (fun czq35 => ?_)
        refine z_aload_n (j := 0) dX8_readsRemove_38 rfl ?_
        refine z_iconst (v := 1) dX8_readsRemove_39 (by decide) ?_
        refine z_kV [.int 1] 0 0 kc ks yoX8_stops yvX8_stops rfl (by decide) lX8_200 (by omega) mW_obj rfl rfl (Nat.le_of_ble_eq_true rfl) (Nat.le_of_ble_eq_true rfl) dX8_readsRemove_40 (by omega) (by omega) (z_room (by omega) (Nat.le_refl _) (Nat.le_refl _) (m_stops (d := 0) (L := L) (x := x) hb hL hu1 hx (tS_le (x := x) (nx_le (x := x) hp).2).2 h15b h16b hT1 (fun hk5 hs9 => ⟨rfl, ?_⟩) (fun k hkk s3 he => ⟨rfl, ?_⟩)))
        · refine z_if_ne (tgt := 48) dX8_readsRemove_43 (by decide) (fun czq43 => ?_) (fun czq43 => absurd czq43 (by decide))
          refine z_aload_n (j := 0) dX8_readsRemove_48 rfl ?_
          refine z_aload_n (j := 0) dX8_readsRemove_49 rfl ?_
          refine z_get (v := .ref (b + 13)) (by omega) mW_obj fX8_51 rfl dX8_readsRemove_50 ?_
          refine z_iconst (v := 0) dX8_readsRemove_53 (by decide) ?_
          refine m_aldN 12 3 0 (by decide) rfl rfl hb rfl (by decide) (by decide) dX8_readsRemove_54 ?_
          rw [show ((va_up a 12 (va_up (a 12) 0 (nI (tV L x (tS L x p))))) 12 0) = (nI (tV L x (tS L x p))) from by rw [up_eq, up_eq]]
          refine z_kV [.int ((nI (tV L x (tS L x p))))] 0 0 kc ks yoX8_takesOut yvX8_takesOut rfl (by decide) lX8_215 (by omega) mW_obj rfl rfl (Nat.le_of_ble_eq_true rfl) (Nat.le_of_ble_eq_true rfl) dX8_readsRemove_55 (by omega) (by omega) (z_room (by omega) (Nat.le_refl _) (Nat.le_refl _) (m_takesOut (d := 0) (S := S) hb hM1 (tV_lt hk) hf (fun a2 hM2 hr2 => ⟨rfl, ?_⟩)))
          refine z_pop rfl dX8_readsRemove_58 ?_
          refine z_iconst (v := 1) dX8_readsRemove_59 (by decide) ?_
          exact z_zret rfl rfl dX8_readsRemove_60 (by
              exact hqY _ (sRem S bk) (by
                unfold smp
                simp only [rdN_3 (ok := (fun k => (sFind S k).isSome)) hk (by rw [hf]; rfl)]
                rw [show oRem S (tV L x (tS L x p)) = some (sRem S bk) from by unfold oRem; rw [hf]; rfl]
                exact fin_y (p := (nx L x p)) hk5) _ _ hM2 hT1.2.1 h16b (hf1 25 (by decide) (by decide) (by decide) (by decide)) ((rF.num.tr hf1.F).tr ⟨fun _ _ _ _ _ _ _ _ _ => rfl, fun q hq9 => hr2 q (by omega), fun z => ⟨rfl, z⟩⟩))
        · refine z_if_ne (tgt := 48) dX8_readsRemove_43 (by decide) (fun czq43 => absurd czq43 (fun z => z rfl)) (fun czq43 => ?_)
          refine z_iconst (v := 0) dX8_readsRemove_46 (by decide) ?_
          exact z_zret rfl rfl dX8_readsRemove_47 (by
              rcases hkk with ⟨hk5, rfl⟩ | ⟨hk5, hs9, rfl⟩
              · exact hqN 1 _ (by
                unfold smp
                simp only [rdN_3 (ok := (fun k => (sFind S k).isSome)) hk (by rw [hf]; rfl), fin_1 (p := (nx L x p)) hk5]) (by decide) (by decide) _ _ he.1 he.2.1 ((rF.num.tr hf1.F).tr he.F)
              · exact absurd hs9 (by decide))
      · refine z_if_eq (tgt := 46) dX8_readsRemove_35 (by decide) (fun czq35 => ?_) (fun czq35 => absurd rfl czq35)
        refine z_iconst (v := 0) dX8_readsRemove_46 (by decide) ?_
        exact z_zret rfl rfl dX8_readsRemove_47 (by
            rcases hkk with ⟨hk, rfl⟩ | ⟨hk, hno, rfl⟩
            · exact absurd hk2 hk
            · exact absurd (by simp only [oIn, Bool.and_eq_true, decide_eq_true_eq]; exact ⟨Nat.zero_le _, tV_lt hk⟩) hno)
