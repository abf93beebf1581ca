/-! THE REFERENCE'S READER: commands -/
/-- what a script's reading keeps -/
def rF (s : Nat → Int32) (a : Nat → Nat → Int32) (s' : Nat → Int32) (a' : Nat → Nat → Int32) : Prop := (∀ q, q ≠ 10 → q ≠ 16 → q ≠ 17 → q ≠ 21 → q ≠ 22 → q ≠ 23 → q ≠ 24 → q ≠ 25 → s' q = s q) ∧ (∀ q, q = 1 ∨ q = 5 ∨ q = 6 ∨ q = 9 ∨ q = 10 ∨ q = 11 → a' q = a q) ∧ (s' 16 = 0 → s' 17 = s 17 ∧ s 16 = 0)
theorem rF.tr {s s1 s2 : Nat → Int32} {a a1 a2 : Nat → Nat → Int32} (h : rF s a s1 a1) (h2 : rF s1 a1 s2 a2) : rF s a s2 a2 := ⟨fun q q1 q2 q3 q4 q5 q6 q7 q8 => (h2.1 q q1 q2 q3 q4 q5 q6 q7 q8).trans (h.1 q q1 q2 q3 q4 q5 q6 q7 q8), fun q hq => (h2.2.1 q hq).trans (h.2.1 q hq), fun z => ⟨(h2.2.2 z).1.trans (h.2.2 (h2.2.2 z).2).1, (h.2.2 (h2.2.2 z).2).2⟩⟩
theorem rF.rf {s : Nat → Int32} {a : Nat → Nat → Int32} : rF s a s a := ⟨fun _ _ _ _ _ _ _ _ _ => rfl, fun _ _ => rfl, fun z => ⟨rfl, z⟩⟩
theorem mfk.F {s s' : Nat → Int32} {a : Nat → Nat → Int32} (h : mfk s s') : rF s a s' a := ⟨fun q q1 q2 q3 q4 q5 q6 q7 q8 => h q q4 q5 q6 q7, fun _ _ => rfl, fun z => ⟨h 17 (by decide) (by decide) (by decide) (by decide), (h 16 (by decide) (by decide) (by decide) (by decide)).symm.trans z⟩⟩
theorem mF0.F {s s' : Nat → Int32} {a a' : Nat → Nat → Int32} (h : mF0 s a s' a') : rF s a s' a' := ⟨fun q q1 q2 q3 q4 q5 q6 q7 q8 => h.1 q q1, fun q hq => h.2 q (by omega) (by omega) (by omega) (by omega) (by omega) (by omega), fun z => ⟨h.1 17 (by decide), (h.1 16 (by decide)).symm.trans z⟩⟩
theorem mer.F {s s' : Nat → Int32} {a : Nat → Nat → Int32} {k off : Nat} (h : mer s s' k off) : rF s a s' a := ⟨fun q q1 q2 q3 q4 q5 q6 q7 q8 => h.2.2.1 q q2 q3 q4 q5 q6 q7 q8 q1, fun _ _ => rfl, fun z => absurd z h.2.2.2⟩
theorem rF.num {s : Nat → Int32} {a : Nat → Nat → Int32} {f : Nat → Int32} : rF s a s (va_up a 12 f) := ⟨fun _ _ _ _ _ _ _ _ _ => rfl, fun q hq => up_ne (by omega), fun z => ⟨rfl, z⟩⟩
theorem rT.fr {L : Nat} {x : Nat → Nat} {st : Nat} {s s' : Nat → Int32} (h : rT L x st s) (hs : ∀ q, q ≠ 10 → s' q = s q) : rT L x st s' := ⟨(hs 22 (by decide)).trans h.1, (hs 23 (by decide)).trans h.2.1, (hs 21 (by decide)).trans h.2.2.1, fun e => (hs 24 (by decide)).trans (h.2.2.2 e)⟩
theorem fin_1 {L : Nat} {x : Nat → Nat} {p : Nat} {o : Option zS} (h : ¬ tKd L x (tS L x p) = 5) : fin L x p o = .inl (1, tS L x p) := by simp only [fin, rdT_1 h]
theorem fin_3 {L : Nat} {x : Nat → Nat} {p : Nat} (h : tKd L x (tS L x p) = 5) : fin L x p none = .inl (3, tS L x p) := by simp only [fin, rdT_2 h]
theorem fin_y {L : Nat} {x : Nat → Nat} {p : Nat} {S : zS} (h : tKd L x (tS L x p) = 5) : fin L x p (some S) = .inr (nx L x p, S) := by simp only [fin, rdT_2 h]

set_option maxHeartbeats 4000000 in
set_option maxRecDepth 100000 in
theorem m_reads4 {l : zL} {d kc ks n b : Nat} {h : Nat → va_E} {a : Nat → Nat → Int32} {L : Nat} {x : Nat → Nat} {p : Nat} {S : zS} {Q : zQ} {s : Nat → Int32} (hb : b + 14 ≤ n) (hL : L ≤ 600) (hu : ∀ i, i < L → a 10 i = nI (x i)) (hx : ∀ i, x i < 256) (hp : p ≤ L) (h15 : s 15 = nI L) (h16 : s 16 = 0) (hT : rT L x (tS L x p) s) (hM : mT S (a 0)) (hqY : ∀ p' S', smp L x 4 p S = .inr (p', S') → ∀ s' a', mT S' (a' 0) → s' 23 = nI p' → s' 16 = 0 → s' 25 = s 25 → rF s a s' a' → Q (.inl (some (.int 1))) n (mW h b s' a')) (hqN : ∀ k off, smp L x 4 p S = .inl (k, off) → k ≠ 0 → k < 10 → ∀ s' a', s' 16 = nI k → s' 17 = nI off → rF s a s' a' → Q (.inl (some (.int 0))) n (mW h b s' a')) : Zj l mX8_readsSetting (d + 9) kc ks 0 [(0, .ref b), (1, .int 1), (2, .int 2), (3, .int 6)] [] n (mW h b s a) Q := by
  refine z_aload_n (j := 0) dX8_readsSetting_0 rfl ?_
  refine z_iconst (v := 0) dX8_readsSetting_1 (by decide) ?_
  refine z_iload_n (j := 2) dX8_readsSetting_2 rfl ?_
  refine z_iload_n (j := 3) dX8_readsSetting_3 rfl ?_
  refine z_kV [.int 0, .int 2, .int 6] 0 0 kc ks yoX8_number yvX8_number rfl (by decide) lX8_191 (by omega) mW_obj rfl rfl (Nat.le_of_ble_eq_true rfl) (Nat.le_of_ble_eq_true rfl) dX8_readsSetting_4 (by omega) (by omega) (z_room (by omega) (Nat.le_refl _) (Nat.le_refl _) (m_number (d := 0) (j := 0) (lo := 2) (hi := 6) hb hL hu hx (tS_le (x := x) hp).2 h15 h16 hT (by decide) (by decide) (by decide) (fun hk hok s1 hT1 hf1 => ⟨rfl, ?_⟩) (fun k hkk s1 he => ⟨rfl, ?_⟩)))
  · have hM1 : mT S ((va_up a 12 (va_up (a 12) 0 (nI (tV L x (tS L x p))))) 0) := by rw [up_ne (by decide)]; exact hM
    have hlh := hok
    simp only [oIn, Bool.and_eq_true, decide_eq_true_eq] at hlh
    refine z_if_eq (tgt := 28) dX8_readsSetting_7 (by decide) (fun czq7 => absurd czq7 (by decide)) (fun czq7 => ?_)
    refine z_aload_n (j := 0) dX8_readsSetting_10 rfl ?_
    refine z_aload_n (j := 0) dX8_readsSetting_11 rfl ?_
    refine z_iload_n (j := 1) dX8_readsSetting_12 rfl ?_
    refine z_aload_n (j := 0) dX8_readsSetting_13 rfl ?_
    refine z_get (v := .ref (b + 13)) (by omega) mW_obj fX8_51 rfl dX8_readsSetting_14 ?_
    refine z_iconst (v := 0) dX8_readsSetting_17 (by decide) ?_
    refine m_aldN 12 3 0 (by decide) rfl rfl hb rfl (by decide) (by decide) dX8_readsSetting_18 ?_
    rw [show ((va_up a 12 (va_up (a 12) 0 (nI (tV L x (tS L x p))))) 12 0) = (nI (tV L x (tS L x p))) from by rw [up_eq, up_eq]]
    refine z_kV [.int 1, .int ((nI (tV L x (tS L x p))))] 0 0 kc ks yoX8_canReset yvX8_canReset rfl (by decide) lX8_218 (by omega) mW_obj rfl rfl (Nat.le_of_ble_eq_true rfl) (Nat.le_of_ble_eq_true rfl) dX8_readsSetting_19 (by omega) (by omega) (z_room (by omega) (Nat.le_refl _) (Nat.le_refl _) (m_canNear2 (d := 0) (S := S) hb hM1 hlh.1 hlh.2 (fun s2 a2 hwe hF2 => ⟨rfl, ?_⟩)))
    have hM2 : mT S (a2 0) := hM1.cp hwe
    have hu2 : ∀ i, i < L → a2 10 i = nI (x i) := fun i hi => by rw [hF2.2 10 (by decide) (by decide) (by decide) (by decide) (by decide) (by decide), up_ne (by decide)]; exact hu i hi
    have h16b : s2 16 = 0 := (hF2.1 16 (by decide)).trans ((hf1 16 (by decide) (by decide) (by decide) (by decide)).trans h16)
    have h15b : s2 15 = nI L := (hF2.1 15 (by decide)).trans ((hf1 15 (by decide) (by decide) (by decide) (by decide)).trans h15)
    have hT2 := hT1.fr hF2.1
    refine z_kV [.int ((oI (sNear S (tV L x (tS L x p)))))] 0 0 kc ks yoX8_stops yvX8_stops rfl (by decide) lX8_200 (by omega) mW_obj rfl rfl (Nat.le_of_ble_eq_true rfl) (Nat.le_of_ble_eq_true rfl) dX8_readsSetting_22 (by omega) (by omega) (z_room (by omega) (Nat.le_refl _) (Nat.le_refl _) (m_stops (d := 0) (L := L) (x := x) hb hL hu2 hx (tS_le (x := x) (nx_le (x := x) hp).2).2 h15b h16b hT2 (fun hk5 hv => ⟨rfl, ?_⟩) (fun k hkk s3 he => ⟨rfl, ?_⟩)))
    · refine z_if_ne (tgt := 30) dX8_readsSetting_25 (by decide) (fun czq25 => ?_) (fun czq25 => absurd czq25 (by decide))
      refine z_aload_n (j := 0) dX8_readsSetting_30 rfl ?_
      refine z_iload_n (j := 1) dX8_readsSetting_31 rfl ?_
      refine z_aload_n (j := 0) dX8_readsSetting_32 rfl ?_
      refine z_get (v := .ref (b + 13)) (by omega) mW_obj fX8_51 rfl dX8_readsSetting_33 ?_
      refine z_iconst (v := 0) dX8_readsSetting_36 (by decide) ?_
      refine m_aldN 12 3 0 (by decide) rfl rfl hb rfl (by decide) (by decide) dX8_readsSetting_37 ?_
      rw [show (a2 12 0) = (nI (tV L x (tS L x p))) from by rw [hF2.2 12 (by decide) (by decide) (by decide) (by decide) (by decide) (by decide), up_eq, up_eq]]
      refine z_kV [.int 1, .int ((nI (tV L x (tS L x p))))] 0 0 kc ks yoX8_resets yvX8_resets rfl (by decide) lX8_145 (by omega) mW_obj rfl rfl (Nat.le_of_ble_eq_true rfl) (Nat.le_of_ble_eq_true rfl) dX8_readsSetting_38 (by omega) (by omega) (z_room (by omega) (Nat.le_refl _) (Nat.le_refl _) (m_near (d := 0) (S := S) hb hM2 hlh.1 hlh.2 (fun s4 a4 ea hF4 => ⟨rfl, ?_⟩) (fun S' s4 a4 ea hM4 hF4 => ⟨rfl, ?_⟩)))
      · exact absurd (oI_0.mpr ea) hv
      · refine z_pop rfl dX8_readsSetting_41 ?_
        refine z_iconst (v := 1) dX8_readsSetting_42 (by decide) ?_
        exact z_zret rfl rfl dX8_readsSetting_43 (by
            exact hqY _ S' (by
              unfold smp
              simp only [rdN_3 (ok := (oIn 2 6)) hk hok, ea, fin_y (p := (nx L x p)) hk5] <;> rfl) _ _ hM4 ((hF4.1 23 (by decide)).trans hT2.2.1) ((hF4.1 16 (by decide)).trans h16b) ((hF4.1 25 (by decide)).trans ((hF2.1 25 (by decide)).trans (hf1 25 (by decide) (by decide) (by decide) (by decide)))) (((rF.num.tr hf1.F).tr hF2.F).tr hF4.f0.F))
    · refine z_if_ne (tgt := 30) dX8_readsSetting_25 (by decide) (fun czq25 => absurd czq25 (fun z => z rfl)) (fun czq25 => ?_)
      refine z_iconst (v := 0) dX8_readsSetting_28 (by decide) ?_
      exact z_zret rfl rfl dX8_readsSetting_29 (by
          rcases hkk with ⟨hk5, rfl⟩ | ⟨hk5, hv, rfl⟩
          · exact hqN 1 _ (by
            unfold smp
            simp only [rdN_3 (ok := (oIn 2 6)) hk hok, fin_1 (p := (nx L x p)) hk5]) (by decide) (by decide) _ _ he.1 he.2.1 (((rF.num.tr hf1.F).tr hF2.F).tr he.F)
          · exact hqN 3 _ (by
            unfold smp
            simp only [rdN_3 (ok := (oIn 2 6)) hk hok, oI_0.mp hv, fin_3 (p := (nx L x p)) hk5]) (by decide) (by decide) _ _ he.1 he.2.1 (((rF.num.tr hf1.F).tr hF2.F).tr he.F))
  · refine z_if_eq (tgt := 28) dX8_readsSetting_7 (by decide) (fun czq7 => ?_) (fun czq7 => absurd rfl czq7)
    refine z_iconst (v := 0) dX8_readsSetting_28 (by decide) ?_
    exact z_zret rfl rfl dX8_readsSetting_29 (by
        rcases hkk with ⟨hk, rfl⟩ | ⟨hk, hno, rfl⟩
        · exact hqN 1 _ (by
          unfold smp
          simp only [rdN_1 (ok := (oIn 2 6)) hk]) (by decide) (by decide) _ _ he.1 he.2.1 he.F
        · exact hqN 2 _ (by
          unfold smp
          simp only [rdN_2 (ok := (oIn 2 6)) hk hno]) (by decide) (by decide) _ _ he.1 he.2.1 he.F)

set_option maxHeartbeats 4000000 in
set_option maxRecDepth 100000 in
theorem m_reads5 {l : zL} {d kc ks n b : Nat} {h : Nat → va_E} {a : Nat → Nat → Int32} {L : Nat} {x : Nat → Nat} {p : Nat} {S : zS} {Q : zQ} {s : Nat → Int32} (hb : b + 14 ≤ n) (hL : L ≤ 600) (hu : ∀ i, i < L → a 10 i = nI (x i)) (hx : ∀ i, x i < 256) (hp : p ≤ L) (h15 : s 15 = nI L) (h16 : s 16 = 0) (hT : rT L x (tS L x p) s) (hM : mT S (a 0)) (hqY : ∀ p' S', smp L x 5 p S = .inr (p', S') → ∀ s' a', mT S' (a' 0) → s' 23 = nI p' → s' 16 = 0 → s' 25 = s 25 → rF s a s' a' → Q (.inl (some (.int 1))) n (mW h b s' a')) (hqN : ∀ k off, smp L x 5 p S = .inl (k, off) → k ≠ 0 → k < 10 → ∀ s' a', s' 16 = nI k → s' 17 = nI off → rF s a s' a' → Q (.inl (some (.int 0))) n (mW h b s' a')) : Zj l mX8_readsSetting (d + 9) kc ks 0 [(0, .ref b), (1, .int 2), (2, .int 1), (3, .int 99)] [] n (mW h b s a) Q := by
  refine z_aload_n (j := 0) dX8_readsSetting_0 rfl ?_
  refine z_iconst (v := 0) dX8_readsSetting_1 (by decide) ?_
  refine z_iload_n (j := 2) dX8_readsSetting_2 rfl ?_
  refine z_iload_n (j := 3) dX8_readsSetting_3 rfl ?_
  refine z_kV [.int 0, .int 1, .int 99] 0 0 kc ks yoX8_number yvX8_number rfl (by decide) lX8_191 (by omega) mW_obj rfl rfl (Nat.le_of_ble_eq_true rfl) (Nat.le_of_ble_eq_true rfl) dX8_readsSetting_4 (by omega) (by omega) (z_room (by omega) (Nat.le_refl _) (Nat.le_refl _) (m_number (d := 0) (j := 0) (lo := 1) (hi := 99) hb hL hu hx (tS_le (x := x) hp).2 h15 h16 hT (by decide) (by decide) (by decide) (fun hk hok s1 hT1 hf1 => ⟨rfl, ?_⟩) (fun k hkk s1 he => ⟨rfl, ?_⟩)))
  · have hM1 : mT S ((va_up a 12 (va_up (a 12) 0 (nI (tV L x (tS L x p))))) 0) := by rw [up_ne (by decide)]; exact hM
    have hlh := hok
    simp only [oIn, Bool.and_eq_true, decide_eq_true_eq] at hlh
    refine z_if_eq (tgt := 28) dX8_readsSetting_7 (by decide) (fun czq7 => absurd czq7 (by decide)) (fun czq7 => ?_)
    refine z_aload_n (j := 0) dX8_readsSetting_10 rfl ?_
    refine z_aload_n (j := 0) dX8_readsSetting_11 rfl ?_
    refine z_iload_n (j := 1) dX8_readsSetting_12 rfl ?_
    refine z_aload_n (j := 0) dX8_readsSetting_13 rfl ?_
    refine z_get (v := .ref (b + 13)) (by omega) mW_obj fX8_51 rfl dX8_readsSetting_14 ?_
    refine z_iconst (v := 0) dX8_readsSetting_17 (by decide) ?_
    refine m_aldN 12 3 0 (by decide) rfl rfl hb rfl (by decide) (by decide) dX8_readsSetting_18 ?_
    rw [show ((va_up a 12 (va_up (a 12) 0 (nI (tV L x (tS L x p))))) 12 0) = (nI (tV L x (tS L x p))) from by rw [up_eq, up_eq]]
    refine z_kV [.int 2, .int ((nI (tV L x (tS L x p))))] 0 0 kc ks yoX8_canReset yvX8_canReset rfl (by decide) lX8_218 (by omega) mW_obj rfl rfl (Nat.le_of_ble_eq_true rfl) (Nat.le_of_ble_eq_true rfl) dX8_readsSetting_19 (by omega) (by omega) (z_room (by omega) (Nat.le_refl _) (Nat.le_refl _) (m_canTimes2 (d := 0) (S := S) hb hM1 hlh.1 hlh.2 (fun s2 a2 hwe hF2 => ⟨rfl, ?_⟩)))
    have hM2 : mT S (a2 0) := hM1.cp hwe
    have hu2 : ∀ i, i < L → a2 10 i = nI (x i) := fun i hi => by rw [hF2.2 10 (by decide) (by decide) (by decide) (by decide) (by decide) (by decide), up_ne (by decide)]; exact hu i hi
    have h16b : s2 16 = 0 := (hF2.1 16 (by decide)).trans ((hf1 16 (by decide) (by decide) (by decide) (by decide)).trans h16)
    have h15b : s2 15 = nI L := (hF2.1 15 (by decide)).trans ((hf1 15 (by decide) (by decide) (by decide) (by decide)).trans h15)
    have hT2 := hT1.fr hF2.1
    refine z_kV [.int ((oI (sTimes S (tV L x (tS L x p)))))] 0 0 kc ks yoX8_stops yvX8_stops rfl (by decide) lX8_200 (by omega) mW_obj rfl rfl (Nat.le_of_ble_eq_true rfl) (Nat.le_of_ble_eq_true rfl) dX8_readsSetting_22 (by omega) (by omega) (z_room (by omega) (Nat.le_refl _) (Nat.le_refl _) (m_stops (d := 0) (L := L) (x := x) hb hL hu2 hx (tS_le (x := x) (nx_le (x := x) hp).2).2 h15b h16b hT2 (fun hk5 hv => ⟨rfl, ?_⟩) (fun k hkk s3 he => ⟨rfl, ?_⟩)))
    · refine z_if_ne (tgt := 30) dX8_readsSetting_25 (by decide) (fun czq25 => ?_) (fun czq25 => absurd czq25 (by decide))
      refine z_aload_n (j := 0) dX8_readsSetting_30 rfl ?_
      refine z_iload_n (j := 1) dX8_readsSetting_31 rfl ?_
      refine z_aload_n (j := 0) dX8_readsSetting_32 rfl ?_
      refine z_get (v := .ref (b + 13)) (by omega) mW_obj fX8_51 rfl dX8_readsSetting_33 ?_
      refine z_iconst (v := 0) dX8_readsSetting_36 (by decide) ?_
      refine m_aldN 12 3 0 (by decide) rfl rfl hb rfl (by decide) (by decide) dX8_readsSetting_37 ?_
      rw [show (a2 12 0) = (nI (tV L x (tS L x p))) from by rw [hF2.2 12 (by decide) (by decide) (by decide) (by decide) (by decide) (by decide), up_eq, up_eq]]
      refine z_kV [.int 2, .int ((nI (tV L x (tS L x p))))] 0 0 kc ks yoX8_resets yvX8_resets rfl (by decide) lX8_145 (by omega) mW_obj rfl rfl (Nat.le_of_ble_eq_true rfl) (Nat.le_of_ble_eq_true rfl) dX8_readsSetting_38 (by omega) (by omega) (z_room (by omega) (Nat.le_refl _) (Nat.le_refl _) (m_times (d := 0) (S := S) hb hM2 hlh.1 hlh.2 (fun s4 a4 ea hF4 => ⟨rfl, ?_⟩) (fun S' s4 a4 ea hM4 hF4 => ⟨rfl, ?_⟩)))
      · exact absurd (oI_0.mpr ea) hv
      · refine z_pop rfl dX8_readsSetting_41 ?_
        refine z_iconst (v := 1) dX8_readsSetting_42 (by decide) ?_
        exact z_zret rfl rfl dX8_readsSetting_43 (by
            exact hqY _ S' (by
              unfold smp
              simp only [rdN_3 (ok := (oIn 1 99)) hk hok, ea, fin_y (p := (nx L x p)) hk5] <;> rfl) _ _ hM4 ((hF4.1 23 (by decide)).trans hT2.2.1) ((hF4.1 16 (by decide)).trans h16b) ((hF4.1 25 (by decide)).trans ((hF2.1 25 (by decide)).trans (hf1 25 (by decide) (by decide) (by decide) (by decide)))) (((rF.num.tr hf1.F).tr hF2.F).tr hF4.f0.F))
    · refine z_if_ne (tgt := 30) dX8_readsSetting_25 (by decide) (fun czq25 => absurd czq25 (fun z => z rfl)) (fun czq25 => ?_)
      refine z_iconst (v := 0) dX8_readsSetting_28 (by decide) ?_
      exact z_zret rfl rfl dX8_readsSetting_29 (by
          rcases hkk with ⟨hk5, rfl⟩ | ⟨hk5, hv, rfl⟩
          · exact hqN 1 _ (by
            unfold smp
            simp only [rdN_3 (ok := (oIn 1 99)) hk hok, fin_1 (p := (nx L x p)) hk5]) (by decide) (by decide) _ _ he.1 he.2.1 (((rF.num.tr hf1.F).tr hF2.F).tr he.F)
          · exact hqN 3 _ (by
            unfold smp
            simp only [rdN_3 (ok := (oIn 1 99)) hk hok, oI_0.mp hv, fin_3 (p := (nx L x p)) hk5]) (by decide) (by decide) _ _ he.1 he.2.1 (((rF.num.tr hf1.F).tr hF2.F).tr he.F))
  · refine z_if_eq (tgt := 28) dX8_readsSetting_7 (by decide) (fun czq7 => ?_) (fun czq7 => absurd rfl czq7)
    refine z_iconst (v := 0) dX8_readsSetting_28 (by decide) ?_
    exact z_zret rfl rfl dX8_readsSetting_29 (by
        rcases hkk with ⟨hk, rfl⟩ | ⟨hk, hno, rfl⟩
        · exact hqN 1 _ (by
          unfold smp
          simp only [rdN_1 (ok := (oIn 1 99)) hk]) (by decide) (by decide) _ _ he.1 he.2.1 he.F
        · exact hqN 2 _ (by
          unfold smp
          simp only [rdN_2 (ok := (oIn 1 99)) hk hno]) (by decide) (by decide) _ _ he.1 he.2.1 he.F)
