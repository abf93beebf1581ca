/-! THE REFERENCE'S runScript -/

set_option maxHeartbeats 4000000 in
set_option maxRecDepth 100000 in
theorem r_typ_l {l : zL} {d kc ks n b L : Nat} {h : Nat → va_E} {s : Nat → Int32} {a0 : Nat → Nat → Int32} {Q : zQ} (hb : b + 14 ≤ n) (hL : L ≤ 600) (h14 : s 14 = nI L) : ∀ m i, i + m = L → ∀ (a : Nat → Nat → Int32), (∀ j, j < i → a 10 j = a0 9 j) → (∀ q, q ≠ 10 → a q = a0 q) → (∀ a' v, (∀ j, j < L → a' 10 j = a0 9 j) → (∀ q, q ≠ 10 → a' q = a0 q) → Zj l mX8_runScript d kc ks 33 [(0, .ref b), (1, .int v)] [] n (mW h b s a') Q) → Zj l mX8_runScript d kc ks 7 [(0, .ref b), (1, .int ((nI i)))] [] n (mW h b s a) Q := by
  intro m
  induction m with
  | zero =>
    intro i hi a hd hr hq
    have hi0 : i = L := by omega
    refine z_iload_n (j := 1) dX8_runScript_7 rfl ?_
    refine z_aload_n (j := 0) dX8_runScript_8 rfl ?_
    refine z_get (v := .int (s 14)) (by omega) mW_obj fX8_309 rfl dX8_runScript_9 ?_
    refine z_icmp_ge (tgt := 33) dX8_runScript_12 (by decide) (fun czq12 => ?_) (fun czq12 => absurd (by rw [h14, hi0]; exact Int32.le_refl _) czq12)
    exact hq a (nI i) (fun j hj => hd j (by omega)) hr
  | succ m ih =>
    intro i hi a hd hr hq
    refine z_iload_n (j := 1) dX8_runScript_7 rfl ?_
    refine z_aload_n (j := 0) dX8_runScript_8 rfl ?_
    refine z_get (v := .int (s 14)) (by omega) mW_obj fX8_309 rfl dX8_runScript_9 ?_
    refine z_icmp_ge (tgt := 33) dX8_runScript_12 (by decide) (fun czq12 => absurd czq12 (by rw [h14]; exact nI_ge (by omega) (by omega))) (fun czq12 => ?_)
    refine z_aload_n (j := 0) dX8_runScript_15 rfl ?_
    refine z_get (v := .ref (b + 11)) (by omega) mW_obj fX8_40 rfl dX8_runScript_16 ?_
    refine z_iload_n (j := 1) dX8_runScript_19 rfl ?_
    refine z_aload_n (j := 0) dX8_runScript_20 rfl ?_
    refine z_get (v := .ref (b + 10)) (by omega) mW_obj fX8_37 rfl dX8_runScript_21 ?_
    refine z_iload_n (j := 1) dX8_runScript_24 rfl ?_
    refine m_aldN 9 600 i (by decide) rfl rfl hb rfl (by omega) (by decide) dX8_runScript_25 ?_
    refine m_astN 10 600 i (by decide) rfl rfl hb rfl (by omega) (by decide) dX8_runScript_26 ?_
    skip
    refine z_iinc ((nI (i + 1))) [1, 0] [(0, .ref b), (1, .int ((nI (i + 1))))] dX8_runScript_27 (j := 1) rfl (nI_1 i) (by decide) rfl ?_
    refine z_goto (tgt := 7) dX8_runScript_30 (by decide) ?_
    refine ih (i + 1) (by omega) _ (fun j hj => ?_) (fun q q0 => ?_) hq
    · by_cases hji : j = i
      · subst hji; rw [up_eq, up_eq, hr 9 (by decide)]
      · rw [up_eq, up_ne hji]; exact hd j (by omega)
    · rw [up_ne q0]; exact hr q q0

set_option maxHeartbeats 4000000 in
set_option maxRecDepth 100000 in
theorem r_back_l {l : zL} {d kc ks n b : Nat} {h : Nat → va_E} {s : Nat → Int32} {a0 : Nat → Nat → Int32} {Q : zQ} (hb : b + 14 ≤ n) : ∀ m i, i + m = 137 → ∀ (a : Nat → Nat → Int32), (∀ j, j < i → a 0 j = a0 1 j) → (∀ q, q ≠ 0 → a q = a0 q) → (∀ a', (∀ j, j < 137 → a' 0 j = a0 1 j) → (∀ q, q ≠ 0 → a' q = a0 q) → Q (.inl (some (.int (-1)))) n (mW h b s a')) → Zj l mX8_runScript d kc ks 59 [(0, .ref b), (1, .int ((nI i)))] [] n (mW h b s a) Q := by
  intro m
  induction m with
  | zero =>
    intro i hi a hd hr hq
    have hi0 : i = 137 := by omega
    refine z_iload_n (j := 1) dX8_runScript_59 rfl ?_
    refine z_sipush (v := 137) dX8_runScript_60 (by decide) ?_
    refine z_icmp_ge (tgt := 84) dX8_runScript_63 (by decide) (fun czq63 => ?_) (fun czq63 => absurd (by rw [hi0]; decide) czq63)
    refine z_iconst (v := (-1)) dX8_runScript_84 (by decide) ?_
    exact z_iret rfl dX8_runScript_85 (hq a (fun j hj => hd j (by omega)) hr)
  | succ m ih =>
    intro i hi a hd hr hq
    refine z_iload_n (j := 1) dX8_runScript_59 rfl ?_
    refine z_sipush (v := 137) dX8_runScript_60 (by decide) ?_
    refine z_icmp_ge (tgt := 84) dX8_runScript_63 (by decide) (fun czq63 => absurd czq63 (nI_ge (b := 137) (by omega) (by decide))) (fun czq63 => ?_)
    refine z_aload_n (j := 0) dX8_runScript_66 rfl ?_
    refine z_get (v := .ref (b + 1)) (by omega) mW_obj fX8_7 rfl dX8_runScript_67 ?_
    refine z_iload_n (j := 1) dX8_runScript_70 rfl ?_
    refine z_aload_n (j := 0) dX8_runScript_71 rfl ?_
    refine z_get (v := .ref (b + 2)) (by omega) mW_obj fX8_13 rfl dX8_runScript_72 ?_
    refine z_iload_n (j := 1) dX8_runScript_75 rfl ?_
    refine m_aldN 1 137 i (by decide) rfl rfl hb rfl (by omega) (by decide) dX8_runScript_76 ?_
    refine m_astN 0 137 i (by decide) rfl rfl hb rfl (by omega) (by decide) dX8_runScript_77 ?_
    skip
    refine z_iinc ((nI (i + 1))) [1, 0] [(0, .ref b), (1, .int ((nI (i + 1))))] dX8_runScript_78 (j := 1) rfl (nI_1 i) (by decide) rfl ?_
    refine z_goto (tgt := 59) dX8_runScript_81 (by decide) ?_
    refine ih (i + 1) (by omega) _ (fun j hj => ?_) (fun q q0 => ?_) hq
    · by_cases hji : j = i
      · subst hji; rw [up_eq, up_eq, hr 1 (by decide)]
      · rw [up_eq, up_ne hji]; exact hd j (by omega)
    · rw [up_ne q0]; exact hr q q0

set_option maxHeartbeats 4000000 in
set_option maxRecDepth 100000 in
theorem r_run3 {l : zL} {d kc ks n b : Nat} {h : Nat → va_E} {s : Nat → Int32} {a : Nat → Nat → Int32} {Q : zQ} {B H T : Nat} {K V : Nat → Nat} {c : Nat → Int32} {sv : Int32} {Sn : zS} {k : Nat} {hi : Nat → zS} {L : Nat} {x : Nat → Nat} {ek eo : Int32} {rl : Nat} {rb : Nat → Nat} {a1 : Nat → Nat → Int32} {v : Int32} (hb : b + 14 ≤ n) (hM : mI ((B, H, T, K, V, c), sv, Sn, k, hi, L, x, ek, eo, rl, rb) s a) (hq : ∀ t v g' s' a', f_runScript ((B, H, T, K, V, c), sv, Sn, k, hi, L, x, ek, eo, rl, rb) = (t, v, g') → mI g' s' a' → s' 20 = t → Q (.inl (some (.int v))) n (mW h b s' a')) (hc : ∀ j, j < L → a1 10 j = a 9 j) (hr1 : ∀ q, q ≠ 10 → a1 q = a q) : Zj l mX8_runScript (d + 18) kc ks 33 [(0, .ref b), (1, .int v)] [] n (mW h b (va_up s 20 0) a1) Q := by
  obtain ⟨hT, h11, hsv, hsn, hk8, h9, hhi, hL, h14, ha9, hx256, h16, h17, hrl, h19, ha11, hrb⟩ := id hM
  have h14b : (va_up s 20 0) 14 = nI L := (up_ne (by decide)).trans h14
  have hU : ∀ q, q ≠ 20 → q ≠ 15 → q ≠ 14 → (va_up (va_up (va_up s 20 0) 15 (nI L)) 14 0) q = s q := fun q q1 q2 q3 => by rw [up_ne q3, up_ne q2, up_ne q1]
  have hu1 : ∀ i, i < L → a1 10 i = nI (x i) := fun i hi => by rw [hc i hi]; exact ha9 i hi
  refine z_aload_n (j := 0) dX8_runScript_33 rfl ?_
  refine z_aload_n (j := 0) dX8_runScript_34 rfl ?_
  refine z_get (v := .int (s 14)) (by omega) mW_obj fX8_309 rfl dX8_runScript_35 ?_
  rw [show (s 14) = nI L from h14b]
  refine m_put (k := 15) (by omega) fX8_157 (by unfold mS; omega) (by decide) dX8_runScript_38 ?_
  refine z_aload_n (j := 0) dX8_runScript_41 rfl ?_
  refine z_iconst (v := 0) dX8_runScript_42 (by decide) ?_
  refine m_put (k := 14) (by omega) fX8_309 (by unfold mS; omega) (by decide) dX8_runScript_43 ?_
  refine z_aload_n (j := 0) dX8_runScript_46 rfl ?_
  refine z_kV [] 0 0 kc ks yoX8_begins yvX8_begins rfl (by decide) lX8_321 (by omega) mW_obj rfl rfl (Nat.le_of_ble_eq_true rfl) (Nat.le_of_ble_eq_true rfl) dX8_runScript_47 (by omega) (by omega) (z_room (by omega) (Nat.le_refl _) (Nat.le_refl _) (r_begins (d := 0) hb (fun a2 hd2 hr2 => ⟨rfl, ?_⟩)))
  refine z_aload_n (j := 0) dX8_runScript_50 rfl ?_
  refine z_kV [] 0 0 kc ks yoX8_parses yvX8_parses rfl (by decide) lX8_60 (by omega) mW_obj rfl rfl (Nat.le_of_ble_eq_true rfl) (Nat.le_of_ble_eq_true rfl) dX8_runScript_51 (by omega) (by omega) (z_room (by omega) (Nat.le_refl _) (Nat.le_refl _) (m_parses (d := 0) (L := L) (x := x) hb hL (by rw [hr2 10 (by decide)]; exact hu1) hx256 ((up_ne (by decide)).trans up_eq) (fun q9 ex9 S9 hp s3 a3 hM3 e16 e17 hH => ⟨rfl, ?_⟩) (fun k9 off hp k0 k1 s3 a3 e1 e2 hH => ⟨rfl, ?_⟩)))
  · refine z_if_ne (tgt := 86) dX8_runScript_54 (by decide) (fun czq54 => ?_) (fun czq54 => absurd czq54 (by decide))
    refine z_aload_n (j := 0) dX8_runScript_86 rfl ?_
    refine z_aload_n (j := 0) dX8_runScript_87 rfl ?_
    refine z_kV [] 0 0 kc ks yoX8_entries yvX8_entries rfl (by decide) lX8_148 (by omega) mW_obj rfl rfl (Nat.le_of_ble_eq_true rfl) (Nat.le_of_ble_eq_true rfl) dX8_runScript_88 (by omega) (by omega) (z_room (by omega) (Nat.le_refl _) (Nat.le_refl _) (r_entries (d := 0) hb hM3.1 ⟨rfl, ?_⟩))
    refine z_kV [.int ((nI (sCnt S9)))] 0 0 kc ks yoX8_remember yvX8_remember rfl (by decide) lX8_324 (by omega) mW_obj rfl rfl (Nat.le_of_ble_eq_true rfl) (Nat.le_of_ble_eq_true rfl) dX8_runScript_91 (by omega) (by omega) (z_room (by omega) (Nat.le_refl _) (Nat.le_refl _) (r_remember (d := 0) (k := k) hb hk8 ((hH.1 9 (by decide)).trans ((hU 9 (by decide) (by decide) (by decide)).trans h9)) (fun s9 a9 h99 hs9 hd9 hl9 hr9 => ⟨rfl, ?_⟩)))
    exact z_iret rfl dX8_runScript_94 (by
        obtain ⟨r1, r2⟩ := hH
        have ka : ∀ q, q = 5 ∨ q = 6 ∨ q = 9 ∨ q = 11 → a3 q = a q := fun q hq => by rw [r2 q (by omega), hr2 q (by omega), hr1 q (by omega)]
        have ks : ∀ q, q = 9 ∨ q = 11 ∨ q = 19 → s3 q = s q := fun q hq => (r1 q (by omega)).trans (hU q (by omega) (by omega) (by omega))
        have hP : mI (gErr (gInp ((B, H, T, K, V, c), sv, Sn, k, hi, L, x, ek, eo, rl, rb) 0 x) 0 (-1)) (fun q => if q = 11 ∨ q = 19 then s q else if q = 14 then 0 else if q = 16 then 0 else if q = 17 then -1 else s q) a := ⟨hT, by simpa using h11, hsv, hsn, hk8, by simpa using h9, hhi, Nat.zero_le _, by simp [nI], fun i hi9 => absurd hi9 (Nat.not_lt_zero i), hx256, by simp, by simp, hrl, by simpa using h19, ha11, hrb⟩
        refine hq 0 (nI (sCnt S9)) (gErr (gInp (gPush ((B, H, T, K, V, c), sv, Sn, k, hi, L, x, ek, eo, rl, rb) S9) 0 x) 0 (-1)) _ _ ?_ ?_ ?_
        · unfold f_runScript
          rw [show prs (gL ((B, H, T, K, V, c), sv, Sn, k, hi, L, x, ek, eo, rl, rb)) (gX ((B, H, T, K, V, c), sv, Sn, k, hi, L, x, ek, eo, rl, rb)) = .inr (q9, ex9, S9) from hp]
          rfl
        · refine hP.push (S' := S9) (by rw [hr9 0 (by decide)]; exact hM3) (past_ok (a2 := a3) hk8 hT hhi (fun j hj => by rw [r2 1 (by decide), hd2 j hj, hr1 0 (by decide)]) (ka 5 (by decide)) hd9 hl9) h99 (fun q hq => ?_) (fun q hq => (hr9 q (by omega)).trans (ka q (by omega)))
          rcases hq with g | g | g | g | g <;> subst g
          · simpa using (hs9 11 (by decide)).trans (ks 11 (by decide))
          · simpa using (hs9 14 (by decide)).trans ((r1 14 (by decide)).trans up_eq)
          · simpa using (hs9 16 (by decide)).trans e16
          · simpa using (hs9 17 (by decide)).trans e17
          · simpa using (hs9 19 (by decide)).trans (ks 19 (by decide))
        · exact (hs9 20 (by decide)).trans ((r1 20 (by decide)).trans ((up_ne (by decide)).trans ((up_ne (by decide)).trans up_eq))))
  · refine z_if_ne (tgt := 86) dX8_runScript_54 (by decide) (fun czq54 => absurd czq54 (fun z => z rfl)) (fun czq54 => ?_)
    refine z_iconst (v := 0) dX8_runScript_57 (by decide) ?_
    refine z_istore_n [1, 0] [(0, .ref b), (1, .int 0)] dX8_runScript_58 (by decide) rfl ?_
    refine z_room (d' := d) (by omega) (Nat.le_refl _) (Nat.le_refl _) (r_back_l (a0 := a3) hb 137 0 (by omega) a3 (fun j hj => absurd hj (Nat.not_lt_zero j)) (fun _ _ => rfl) (fun a4 hd4 hr4 => ?_))
    obtain ⟨r1, r2⟩ := hH
    have ka : ∀ q, q = 5 ∨ q = 6 ∨ q = 9 ∨ q = 11 → a4 q = a q := fun q hq => by rw [hr4 q (by omega), r2 q (by omega), hr2 q (by omega), hr1 q (by omega)]
    have ks : ∀ q, q = 9 ∨ q = 11 ∨ q = 19 → s3 q = s q := fun q hq => (r1 q (by omega)).trans (hU q (by omega) (by omega) (by omega))
    refine hq 0 (-1) (gErr (gInp ((B, H, T, K, V, c), sv, Sn, k, hi, L, x, ek, eo, rl, rb) 0 x) (nI k9) (nI off)) s3 a4 ?_ ?_ ?_
    · unfold f_runScript
      rw [show prs (gL ((B, H, T, K, V, c), sv, Sn, k, hi, L, x, ek, eo, rl, rb)) (gX ((B, H, T, K, V, c), sv, Sn, k, hi, L, x, ek, eo, rl, rb)) = .inl (k9, off) from hp]
      rfl
    · exact ⟨hT.cp (fun i hi9 => by rw [hd4 i hi9, r2 1 (by decide), hd2 i hi9, hr1 0 (by decide)]), (ks 11 (by decide)).trans h11, hsv, fun e => by rw [ka 6 (by decide)]; exact hsn e, hk8, (ks 9 (by decide)).trans h9, fun j hj => by rw [ka 5 (by decide)]; exact hhi j hj, Nat.zero_le _, (r1 14 (by decide)).trans up_eq, fun i hi9 => absurd hi9 (Nat.not_lt_zero i), hx256, e1, e2, hrl, (ks 19 (by decide)).trans h19, by rw [ka 11 (by decide)]; exact ha11, hrb⟩
    · exact (r1 20 (by decide)).trans ((up_ne (by decide)).trans ((up_ne (by decide)).trans up_eq))

set_option maxHeartbeats 4000000 in
set_option maxRecDepth 100000 in
theorem R_runScript {l : zL} {d kc ks n b : Nat} {h : Nat → va_E} {s : Nat → Int32} {a : Nat → Nat → Int32} {g : zGs} {Q : zQ} (hb : b + 14 ≤ n) (hM : mI g s a) (hq : ∀ t v g' s' a', f_runScript g = (t, v, g') → mI g' s' a' → s' 20 = t → Q (.inl (some (.int v))) n (mW h b s' a')) : Zj l mX8_runScript (d + 18) kc ks 0 [(0, .ref b)] [] n (mW h b s a) Q := by
  obtain ⟨⟨B, H, T, K, V, c⟩, sv, Sn, k, hi, L, x, ek, eo, rl, rb⟩ := g
  obtain ⟨hT, h11, hsv, hsn, hk8, h9, hhi, hL, h14, ha9, hx256, h16, h17, hrl, h19, ha11, hrb⟩ := id hM
  refine z_aload_n (j := 0) dX8_runScript_0 rfl ?_
  refine z_iconst (v := 0) dX8_runScript_1 (by decide) ?_
  refine m_put (k := 20) (by omega) fX8_64 (by unfold mS; omega) (by decide) dX8_runScript_2 ?_
  refine z_iconst (v := 0) dX8_runScript_5 (by decide) ?_
  refine z_istore_n [1, 0] [(0, .ref b), (1, .int 0)] dX8_runScript_6 (by decide) rfl ?_
  exact r_typ_l (a0 := a) hb hL ((up_ne (by decide)).trans h14) L 0 (by omega) a (fun j hj => absurd hj (Nat.not_lt_zero j)) (fun _ _ => rfl) (fun a' v hd hr => r_run3 hb hM hq hd hr)
