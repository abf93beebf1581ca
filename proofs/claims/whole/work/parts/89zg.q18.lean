/-! THE REFERENCE'S READER: a run -/
/-- what a run keeps -/
def rH (s : Nat → Int32) (a : Nat → Nat → Int32) (s' : Nat → Int32) (a' : Nat → Nat → Int32) : Prop := (∀ q, q = 9 ∨ q = 11 ∨ q = 14 ∨ q = 15 ∨ q = 19 ∨ q = 20 → s' q = s q) ∧ ∀ q, q = 1 ∨ q = 5 ∨ q = 6 ∨ q = 9 ∨ q = 10 ∨ q = 11 → a' q = a q

set_option maxHeartbeats 4000000 in
set_option maxRecDepth 100000 in
theorem m_parses_l {l : zL} {d kc ks n b : Nat} {h : Nat → va_E} {s : Nat → Int32} {a0 : Nat → Nat → Int32} {Q : zQ} (hb : b + 14 ≤ n) : ∀ m i, i + m = 137 → ∀ (a : Nat → Nat → Int32), (∀ j, j < i → a 0 j = 0) → (∀ q, q ≠ 0 → a q = a0 q) → (∀ a' v, (∀ j, j < 137 → a' 0 j = 0) → (∀ q, q ≠ 0 → a' q = a0 q) → Zj l mX8_parses d kc ks 22 [(0, .ref b), (1, .int v)] [] n (mW h b s a') Q) → Zj l mX8_parses d kc ks 2 [(0, .ref b), (1, .int ((nI i)))] [] n (mW h b s a) Q := by
  intro m
  induction m with
  | zero =>
    intro i hi a hd hr hq
    have hi0 : i = 137 := by omega
    refine z_iload_n (j := 1) dX8_parses_2 rfl ?_
    refine z_sipush (v := 137) dX8_parses_3 (by decide) ?_
    refine z_icmp_ge (tgt := 22) dX8_parses_6 (by decide) (fun czq6 => ?_) (fun czq6 => absurd (by rw [hi0]; decide) czq6)
    exact hq a (nI i) (fun j hj => hd j (by omega)) hr
  | succ m ih =>
    intro i hi a hd hr hq
    refine z_iload_n (j := 1) dX8_parses_2 rfl ?_
    refine z_sipush (v := 137) dX8_parses_3 (by decide) ?_
    refine z_icmp_ge (tgt := 22) dX8_parses_6 (by decide) (fun czq6 => absurd czq6 (nI_ge (b := 137) (by omega) (by decide))) (fun czq6 => ?_)
    refine z_aload_n (j := 0) dX8_parses_9 rfl ?_
    refine z_get (v := .ref (b + 1)) (by omega) mW_obj fX8_7 rfl dX8_parses_10 ?_
    refine z_iload_n (j := 1) dX8_parses_13 rfl ?_
    refine z_iconst (v := 0) dX8_parses_14 (by decide) ?_
    refine m_astN 0 137 i (by decide) rfl rfl hb rfl (by omega) (by decide) dX8_parses_15 ?_
    skip
    refine z_iinc ((nI (i + 1))) [1, 0] [(0, .ref b), (1, .int ((nI (i + 1))))] dX8_parses_16 (j := 1) rfl (nI_1 i) (by decide) rfl ?_
    refine z_goto (tgt := 2) dX8_parses_19 (by decide) ?_
    refine ih (i + 1) (by omega) _ (fun j hj => ?_) (fun q q0 => ?_) hq
    · by_cases hji : j = i
      · subst hji; rw [up_eq, up_eq]
      · rw [up_eq, up_ne hji]; exact hd j (by omega)
    · rw [up_ne q0]; exact hr q q0

set_option maxHeartbeats 4000000 in
set_option maxRecDepth 100000 in
theorem m_parses2 {l : zL} {d kc ks n b : Nat} {h : Nat → va_E} {a : Nat → Nat → Int32} {L : Nat} {x : Nat → Nat} {Q : zQ} {s : Nat → Int32} {a1 : Nat → Nat → Int32} {v : Int32} (hb : b + 14 ≤ n) (hL : L ≤ 600) (hu : ∀ i, i < L → a 10 i = nI (x i)) (hx : ∀ i, x i < 256) (h15 : s 15 = nI L) (hr1 : ∀ q, q ≠ 0 → a1 q = a q) (hz : ∀ j, j < 137 → a1 0 j = 0) (hqY : ∀ q ex' S', prs L x = .inr (q, ex', S') → ∀ s' a', mT S' (a' 0) → s' 16 = 0 → s' 17 = -1 → rH s a s' a' → Q (.inl (some (.int 1))) n (mW h b s' a')) (hqN : ∀ k off, prs L x = .inl (k, off) → k ≠ 0 → k < 10 → ∀ s' a', s' 16 = nI k → s' 17 = nI off → rH s a s' a' → Q (.inl (some (.int 0))) n (mW h b s' a')) : Zj l mX8_parses (d + 17) kc ks 22 [(0, .ref b), (1, .int v)] [] n (mW h b s a1) Q := by
  have hS4 : ∀ q, q ≠ 16 → q ≠ 17 → q ≠ 25 → q ≠ 23 → (va_up (va_up (va_up (va_up s 16 0) 17 (-1)) 25 0) 23 0) q = s q := fun q q1 q2 q3 q4 => by rw [up_ne q4, up_ne q3, up_ne q2, up_ne q1]
  have hu1 : ∀ i, i < L → a1 10 i = nI (x i) := fun i hi => by rw [hr1 10 (by decide)]; exact hu i hi
  refine z_aload_n (j := 0) dX8_parses_22 rfl ?_
  refine z_iconst (v := 0) dX8_parses_23 (by decide) ?_
  refine m_put (k := 16) (by omega) fX8_179 (by unfold mS; omega) (by decide) dX8_parses_24 ?_
  refine z_aload_n (j := 0) dX8_parses_27 rfl ?_
  refine z_iconst (v := (-1)) dX8_parses_28 (by decide) ?_
  refine m_put (k := 17) (by omega) fX8_43 (by unfold mS; omega) (by decide) dX8_parses_29 ?_
  refine z_aload_n (j := 0) dX8_parses_32 rfl ?_
  refine z_iconst (v := 0) dX8_parses_33 (by decide) ?_
  refine m_put (k := 25) (by omega) fX8_268 (by unfold mS; omega) (by decide) dX8_parses_34 ?_
  refine z_aload_n (j := 0) dX8_parses_37 rfl ?_
  refine z_iconst (v := 0) dX8_parses_38 (by decide) ?_
  refine m_put (k := 23) (by omega) fX8_164 (by unfold mS; omega) (by decide) dX8_parses_39 ?_
  refine z_aload_n (j := 0) dX8_parses_42 rfl ?_
  refine z_kV [] 0 0 kc ks yoX8_next yvX8_next rfl (by decide) lX8_188 (by omega) mW_obj rfl rfl (Nat.le_of_ble_eq_true rfl) (Nat.le_of_ble_eq_true rfl) dX8_parses_43 (by omega) (by omega) (z_room (by omega) (Nat.le_refl _) (Nat.le_refl _) (m_next (d := 0) (p := 0) hb hL hu1 hx (Nat.zero_le L) ((hS4 15 (by decide) (by decide) (by decide) (by decide)).trans h15) up_eq (fun s1 f1 f2 f3 f4 hf1 => ⟨rfl, ?_⟩)))
  refine z_aload_n (j := 0) dX8_parses_46 rfl ?_
  refine z_kV [] 0 0 kc ks yoX8_readsAll yvX8_readsAll rfl (by decide) lX8_306 (by omega) mW_obj rfl rfl (Nat.le_of_ble_eq_true rfl) (Nat.le_of_ble_eq_true rfl) dX8_parses_47 (by omega) (by omega) (z_room (by omega) (Nat.le_refl _) (Nat.le_refl _) (m_readsAll (d := 0) hb hL hu1 hx ((hf1 15 (by decide) (by decide) (by decide) (by decide)).trans ((hS4 15 (by decide) (by decide) (by decide) (by decide)).trans h15)) ((hf1 16 (by decide) (by decide) (by decide) (by decide)).trans ((up_ne (by decide)).trans ((up_ne (by decide)).trans ((up_ne (by decide)).trans up_eq)))) ⟨f1, f2, f3, f4⟩ ((hf1 25 (by decide) (by decide) (by decide) (by decide)).trans ((up_ne (by decide)).trans up_eq)) hz (fun q ex' S' hp s' a' hM9 h16' hR => ⟨rfl, ?_⟩) (fun k off hp k0 k1 s' a' e1 e2 hR => ⟨rfl, ?_⟩)))
  · exact z_zret rfl rfl dX8_parses_50 (by
        obtain ⟨r1, r2, r3⟩ := hR
        refine hqY q ex' S' hp _ _ hM9 h16' ((r3 h16').1.trans ((hf1 17 (by decide) (by decide) (by decide) (by decide)).trans ((up_ne (by decide)).trans ((up_ne (by decide)).trans up_eq)))) ⟨fun q hq => ?_, fun q hq => ?_⟩
        · exact (r1 q (by omega) (by omega) (by omega) (by omega) (by omega) (by omega) (by omega) (by omega)).trans ((hf1 q (by omega) (by omega) (by omega) (by omega)).trans (hS4 q (by omega) (by omega) (by omega) (by omega)))
        · exact (r2 q hq).trans (hr1 q (by omega)))
  · exact z_zret rfl rfl dX8_parses_50 (by
        obtain ⟨r1, r2, -⟩ := hR
        refine hqN k off hp k0 k1 _ _ e1 e2 ⟨fun q hq => ?_, fun q hq => ?_⟩
        · exact (r1 q (by omega) (by omega) (by omega) (by omega) (by omega) (by omega) (by omega) (by omega)).trans ((hf1 q (by omega) (by omega) (by omega) (by omega)).trans (hS4 q (by omega) (by omega) (by omega) (by omega)))
        · exact (r2 q hq).trans (hr1 q (by omega)))

set_option maxHeartbeats 4000000 in
set_option maxRecDepth 100000 in
theorem m_parses {l : zL} {d kc ks n b : Nat} {h : Nat → va_E} {a : Nat → Nat → Int32} {L : Nat} {x : Nat → Nat} {Q : zQ} {s : Nat → Int32} (hb : b + 14 ≤ n) (hL : L ≤ 600) (hu : ∀ i, i < L → a 10 i = nI (x i)) (hx : ∀ i, x i < 256) (h15 : s 15 = nI L) (hqY : ∀ q ex' S', prs L x = .inr (q, ex', S') → ∀ s' a', mT S' (a' 0) → s' 16 = 0 → s' 17 = -1 → rH s a s' a' → Q (.inl (some (.int 1))) n (mW h b s' a')) (hqN : ∀ k off, prs L x = .inl (k, off) → k ≠ 0 → k < 10 → ∀ s' a', s' 16 = nI k → s' 17 = nI off → rH s a s' a' → Q (.inl (some (.int 0))) n (mW h b s' a')) : Zj l mX8_parses (d + 17) kc ks 0 [(0, .ref b)] [] n (mW h b s a) Q := by
  refine z_iconst (v := 0) dX8_parses_0 (by decide) ?_
  refine z_istore_n [1, 0] [(0, .ref b), (1, .int 0)] dX8_parses_1 (by decide) rfl ?_
  exact m_parses_l (a0 := a) hb 137 0 (by omega) a (fun j hj => absurd hj (Nat.not_lt_zero j)) (fun _ _ => rfl) (fun a' v hd hr => m_parses2 hb hL hu hx h15 hr hd hqY hqN)
