/-! NO KEY TWICE -/
def hasK (B : Nat) (K : Nat → Nat) (x : Nat) : Prop := ∃ i, i < B ∧ K i = x
theorem mvK_at {K : Nat → Nat} {src tgt i : Nat} (hst : src ≠ tgt) (h : mvK K src tgt i ≠ 0) : i ≠ src ∧ mvK K src tgt i = K (if i = tgt then src else i) := by
  by_cases h1 : i = tgt
  · exact ⟨fun e => hst (e.symm.trans h1), by rw [if_pos h1]; simp [mvK, va_up, h1]⟩
  · by_cases h2 : i = src
    · exact absurd (by unfold mvK; simp only [va_up, if_neg h1, if_pos h2]) h
    · exact ⟨h2, by rw [if_neg h1]; unfold mvK; simp only [va_up, if_neg h1, if_neg h2]⟩
theorem dis_mv {B : Nat} {K : Nat → Nat} {src tgt : Nat} (hd : dis B K) (hs : src < B) (hst : src ≠ tgt) : dis B (mvK K src tgt) := by
  intro i j hi hj hK e
  obtain ⟨a1, a2⟩ := mvK_at hst hK
  obtain ⟨b1, b2⟩ := mvK_at hst (show mvK K src tgt j ≠ 0 by rw [← e]; exact hK)
  have h := hd (if i = tgt then src else i) (if j = tgt then src else j) (by split <;> omega) (by split <;> omega) (by rw [← a2]; exact hK) (by rw [← a2, ← b2]; exact e)
  by_cases c1 : i = tgt
  · by_cases c2 : j = tgt
    · rw [c1, c2]
    · rw [if_pos c1, if_neg c2] at h; exact absurd h.symm b1
  · by_cases c2 : j = tgt
    · rw [if_neg c1, if_pos c2] at h; exact absurd h a1
    · rw [if_neg c1, if_neg c2] at h; exact h
theorem has_mv {B : Nat} {K : Nat → Nat} {src tgt x : Nat} (hs : src < B) (ht : tgt < B) (hst : src ≠ tgt) (h0 : K tgt = 0) (hx : x ≠ 0) : hasK B (mvK K src tgt) x ↔ hasK B K x := by
  constructor
  · rintro ⟨i, hi, e⟩
    obtain ⟨a1, a2⟩ := mvK_at hst (show mvK K src tgt i ≠ 0 by rw [e]; exact hx)
    exact ⟨if i = tgt then src else i, by split <;> omega, a2.symm.trans e⟩
  · rintro ⟨i, hi, e⟩
    by_cases h1 : i = src
    · exact ⟨tgt, ht, by rw [← e, h1]; simp [mvK, va_up]⟩
    · have h2 : ¬ i = tgt := fun e2 => hx (by rw [← e, e2, h0])
      exact ⟨i, hi, by rw [← e]; unfold mvK; simp only [va_up, if_neg h1, if_neg h2]⟩
theorem placeF_dis {B H T : Nat} {K V : Nat → Nat} {c : Int32} {key v bk : Nat} {K' V' : Nat → Nat} {c' : Int32} (hB : okB B) (hH : H ≤ 6) (hd : dis B K) (hk : ¬ hasK B K (key + 1)) (e : placeF B H T K V c key v = (some bk, K', V', c')) : dis B K' ∧ ∀ x, x ≠ 0 → (hasK B K' x ↔ hasK B K x ∨ x = key + 1) := by
  refine placeF_ind (P := fun K1 _ => dis B K1 ∧ ∀ x, x ≠ 0 → (hasK B K1 x ↔ hasK B K x)) (Q := fun K1 _ => dis B K1 ∧ ∀ x, x ≠ 0 → (hasK B K1 x ↔ hasK B K x ∨ x = key + 1)) hB hH ?_ ?_ ⟨hd, fun _ _ => Iff.rfl⟩ e bk rfl
  · intro K1 V1 h0 f t hp h1 h2 h3 h4 h5 h6
    have hne : (h0 + f) % B ≠ (h0 + t) % B := fun e2 => (isO_K h5).1 (by rw [e2]; exact h6)
    exact ⟨dis_mv hp.1 (mod_lt' hB) hne, fun x hx => (has_mv (mod_lt' hB) (mod_lt' hB) hne h6 hx).trans (hp.2 x hx)⟩
  · intro K1 V1 t hp h1 h2
    have hpB : (hmo B T key + t) % B < B := mod_lt' hB
    have hno : ¬ hasK B K1 (key + 1) := fun e2 => hk ((hp.2 (key + 1) (by omega)).mp e2)
    refine ⟨fun i j hi hj hK e2 => ?_, fun x hx => ⟨?_, ?_⟩⟩
    · by_cases c1 : i = (hmo B T key + t) % B
      · by_cases c2 : j = (hmo B T key + t) % B
        · rw [c1, c2]
        · simp only [va_up, if_pos c1, if_neg c2] at e2
          exact absurd ⟨j, hj, e2.symm⟩ hno
      · by_cases c2 : j = (hmo B T key + t) % B
        · simp only [va_up, if_neg c1, if_pos c2] at e2
          exact absurd ⟨i, hi, e2⟩ hno
        · simp only [va_up, if_neg c1, if_neg c2] at e2 hK
          exact hp.1 i j hi hj hK e2
    · rintro ⟨i, hi, e2⟩
      by_cases c1 : i = (hmo B T key + t) % B
      · simp only [va_up, if_pos c1] at e2
        exact Or.inr e2.symm
      · simp only [va_up, if_neg c1] at e2
        exact Or.inl ((hp.2 x hx).mp ⟨i, hi, e2⟩)
    · rintro (h3 | h3)
      · obtain ⟨i, hi, e2⟩ := (hp.2 x hx).mpr h3
        have c1 : ¬ i = (hmo B T key + t) % B := fun e3 => hx (by rw [← e2, e3, h2])
        exact ⟨i, hi, by simp only [va_up, if_neg c1]; exact e2⟩
      · exact ⟨_, hpB, by rw [h3]; simp [va_up]⟩
theorem bldF_dis {B H T : Nat} {L : List (Nat × Nat)} {K' V' : Nat → Nat} {c c' : Int32} (hB : okB B) (hH : H ≤ 6) (hL : (L.map (·.1)).Nodup) (e : bldF B H T L kz kz c = (true, K', V', c')) : dis B K' ∧ ∀ x, x ≠ 0 → hasK B K' x → ∃ q, q ∈ L ∧ x = q.1 + 1 := by
  have h := bldF_ind (P := fun r K1 _ => (dis B K1 ∧ ∀ x, x ≠ 0 → hasK B K1 x → ∃ q, q ∈ L ∧ x = q.1 + 1) ∧ (∀ q, q ∈ r → q ∈ L ∧ ¬ hasK B K1 (q.1 + 1)) ∧ (r.map (·.1)).Nodup) (fun k v r K1 V1 c1 bk K2 V2 c2 hp e2 => by
    obtain ⟨⟨p1, p2⟩, p3, p4⟩ := hp
    obtain ⟨q1, q2⟩ := placeF_dis hB hH p1 (p3 (k, v) List.mem_cons_self).2 e2
    rw [List.map_cons, List.nodup_cons] at p4
    refine ⟨⟨q1, fun x hx hx2 => ?_⟩, fun q hq => ⟨(p3 q (List.mem_cons_of_mem _ hq)).1, fun h9 => ?_⟩, p4.2⟩
    · rcases (q2 x hx).mp hx2 with h9 | h9
      · exact p2 x hx h9
      · exact ⟨(k, v), (p3 (k, v) List.mem_cons_self).1, h9⟩
    · rcases (q2 _ (by omega)).mp h9 with h8 | h8
      · exact (p3 q (List.mem_cons_of_mem _ hq)).2 h8
      · exact p4.1 (List.mem_map.mpr ⟨q, hq, by show q.1 = k; omega⟩)) L kz kz c K' V' c' ⟨⟨fun i j _ _ h => absurd rfl h, fun x hx hx2 => by obtain ⟨i, -, e2⟩ := hx2; exact absurd e2.symm hx⟩, fun q hq => ⟨hq, fun h9 => by obtain ⟨i, -, e2⟩ := h9; exact absurd e2 (by simp [kz])⟩, hL⟩ e
  exact h.1
