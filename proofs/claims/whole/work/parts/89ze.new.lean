/-! THE REFERENCE'S READER: a new table -/
theorem mT_new {B H T : Nat} {r : Nat → Int32} (hB : okB B) (h2 : 2 ≤ H) (h6 : H ≤ 6) (h1 : 1 ≤ T) (h99 : T ≤ 99) (r0 : r 0 = nI B) (r1 : r 1 = nI H) (r2 : r 2 = nI T) (hz : ∀ j, 3 ≤ j → j < 137 → r j = 0) : mT (sNew B H T) r :=
  ⟨⟨hB, h2, h6, h1, h99, r0, r1, r2, fun i hi => hz _ (by omega) (by omega), fun i hi => hz _ (by omega) (by omega), fun i => ⟨Nat.zero_le _, Nat.zero_le _⟩, fun i _ => rfl⟩, ⟨inH_kz, dis_kz, Or.inl rfl⟩, fun k h3 h9 => hz k h3 (by omega)⟩
theorem opn_rg {L : Nat} {x : Nat → Nat} {st p B H T : Nat} (h : opn L x st = .inr (p, B, H, T)) : okB B ∧ 2 ≤ H ∧ H ≤ 6 ∧ 1 ≤ T ∧ T ≤ 99 := by
  unfold opn at h
  by_cases hw : wIs L x st 11 = true
  · rw [if_pos hw] at h
    cases h1 : rdN L x oB (tE L x st) with
    | inl e => rw [h1] at h; cases h
    | inr q1 =>
      obtain ⟨B', p1⟩ := q1
      rw [h1] at h
      simp only at h
      cases h2 : rdN L x (oIn 2 6) p1 with
      | inl e => rw [h2] at h; cases h
      | inr q2 =>
        obtain ⟨H', p2⟩ := q2
        rw [h2] at h
        simp only at h
        cases h3 : rdN L x (oIn 1 99) p2 with
        | inl e => rw [h3] at h; cases h
        | inr q3 =>
          obtain ⟨T', p3⟩ := q3
          rw [h3] at h
          simp only at h
          cases h4 : rdT L x 5 p3 with
          | inl e => rw [h4] at h; cases h
          | inr p4 =>
            rw [h4] at h
            cases h
            obtain ⟨-, -, o1, -, -, -⟩ := rdN_ok h1
            obtain ⟨-, -, o2, -, -, -⟩ := rdN_ok h2
            obtain ⟨-, -, o3, -, -, -⟩ := rdN_ok h3
            simp only [oIn, Bool.and_eq_true, decide_eq_true_eq] at o2 o3
            exact ⟨oB_ok o1, o2.1, o2.2, o3.1, o3.2⟩
  · rw [if_neg hw] at h; cases h
