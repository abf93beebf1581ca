/-! THE CONSTANTS AT THE LAW'S START: zC -/
theorem va_Tj {ty : FieldType} {t N : Nat} {f g : Nat → Value} {A : Nat → Prop} {U : State} {H : Heap} (h : va_T ty t N f A U H) (e : ∀ j, j < N → g j = f j) : va_T ty t N g A U H := by
  obtain ⟨cell, h1, h2, h3, h4, h5, h6, h7⟩ := h
  exact ⟨cell, h1, h2, h3, h4, h5, fun j hj => by rw [e j hj]; exact h6 j hj, h7⟩
theorem zO0 {b : Nat} {s : State} (H : nfH b s) : ∀ q ∈ kO, va_O q.1 (ad0 b s q.2) (lwA s) s s.heap := by
  intro q hq
  simp only [kO, List.mem_cons, List.not_mem_nil, or_false] at hq
  rcases hq with rfl | rfl | rfl | rfl | rfl | rfl | rfl | rfl | rfl | rfl | rfl | rfl | rfl | rfl | rfl | rfl | rfl | rfl | rfl | rfl | rfl | rfl | rfl | rfl | rfl | rfl | rfl | rfl | rfl | rfl | rfl | rfl | rfl | rfl | rfl <;> rw [ad0_k]
  · exact (nS_14 H).1
  · exact (nS_15 H).1
  · exact (nS_16 H).1
  · exact (nS_17 H).1
  · exact (nS_18 H).1
  · exact (nS_19 H).1
  · exact (nS_20 H).1
  · exact (nS_21 H).1
  · exact (nS_22 H).1
  · exact (nS_23 H).1
  · exact (nS_24 H).1
  · exact (nS_25 H).1
  · exact (nS_26 H).1
  · exact (nS_27 H).1
  · exact (nS_28 H).1
  · exact (nS_29 H).1
  · exact (nS_30 H).1
  · exact (nS_31 H).1
  · exact (nS_32 H).1
  · exact (nS_33 H).1
  · exact (nS_34 H).1
  · exact (nS_35 H).1
  · exact (nS_36 H).1
  · exact (nS_37 H).1
  · exact (nS_38 H).1
  · exact nCO_0 H
  · exact nCO_1 H
  · exact nCO_2 H
  · exact nCO_3 H
  · exact nCO_4 H
  · exact nCO_5 H
  · exact nCO_6 H
  · exact nCO_7 H
  · exact nCO_8 H
  · exact nCO_9 H
theorem zF0 {b : Nat} {s : State} (H : nfH b s) : ∀ q ∈ kF, va_OF q.1 q.2.1 q.2.2.1 (zv (ad0 b s) q.2.2.2.1) (ad0 b s q.2.2.2.2) (lwA s) s s.heap := by
  intro q hq
  simp only [kF, List.mem_cons, List.not_mem_nil, or_false] at hq
  rcases hq with rfl | rfl | rfl | rfl | rfl | rfl | rfl | rfl | rfl | rfl | rfl | rfl | rfl | rfl | rfl | rfl | rfl | rfl | rfl | rfl | rfl | rfl | rfl | rfl | rfl | rfl | rfl | rfl | rfl | rfl | rfl | rfl | rfl | rfl | rfl | rfl | rfl | rfl | rfl | rfl | rfl | rfl | rfl | rfl | rfl | rfl | rfl | rfl | rfl | rfl | rfl | rfl | rfl | rfl | rfl | rfl | rfl | rfl | rfl | rfl | rfl | rfl | rfl | rfl | rfl | rfl | rfl | rfl | rfl | rfl | rfl | rfl | rfl | rfl | rfl | rfl | rfl | rfl | rfl | rfl <;> simp only [zv] <;> simp only [ad0_k]
  · exact (nS_14 H).2.1
  · exact (nS_14 H).2.2.1
  · exact (nS_15 H).2.1
  · exact (nS_15 H).2.2.1
  · exact (nS_16 H).2.1
  · exact (nS_16 H).2.2.1
  · exact (nS_17 H).2.1
  · exact (nS_17 H).2.2.1
  · exact (nS_18 H).2.1
  · exact (nS_18 H).2.2.1
  · exact (nS_19 H).2.1
  · exact (nS_19 H).2.2.1
  · exact (nS_20 H).2.1
  · exact (nS_20 H).2.2.1
  · exact (nS_21 H).2.1
  · exact (nS_21 H).2.2.1
  · exact (nS_22 H).2.1
  · exact (nS_22 H).2.2.1
  · exact (nS_23 H).2.1
  · exact (nS_23 H).2.2.1
  · exact (nS_24 H).2.1
  · exact (nS_24 H).2.2.1
  · exact (nS_25 H).2.1
  · exact (nS_25 H).2.2.1
  · exact (nS_26 H).2.1
  · exact (nS_26 H).2.2.1
  · exact (nS_27 H).2.1
  · exact (nS_27 H).2.2.1
  · exact (nS_28 H).2.1
  · exact (nS_28 H).2.2.1
  · exact (nS_29 H).2.1
  · exact (nS_29 H).2.2.1
  · exact (nS_30 H).2.1
  · exact (nS_30 H).2.2.1
  · exact (nS_31 H).2.1
  · exact (nS_31 H).2.2.1
  · exact (nS_32 H).2.1
  · exact (nS_32 H).2.2.1
  · exact (nS_33 H).2.1
  · exact (nS_33 H).2.2.1
  · exact (nS_34 H).2.1
  · exact (nS_34 H).2.2.1
  · exact (nS_35 H).2.1
  · exact (nS_35 H).2.2.1
  · exact (nS_36 H).2.1
  · exact (nS_36 H).2.2.1
  · exact (nS_37 H).2.1
  · exact (nS_37 H).2.2.1
  · exact (nS_38 H).2.1
  · exact (nS_38 H).2.2.1
  · exact nC1_0 H
  · exact nC2_0 H
  · exact nC3_0 H
  · exact nC1_1 H
  · exact nC2_1 H
  · exact nC3_1 H
  · exact nC1_2 H
  · exact nC2_2 H
  · exact nC3_2 H
  · exact nC1_3 H
  · exact nC2_3 H
  · exact nC3_3 H
  · exact nC1_4 H
  · exact nC2_4 H
  · exact nC3_4 H
  · exact nC1_5 H
  · exact nC2_5 H
  · exact nC3_5 H
  · exact nC1_6 H
  · exact nC2_6 H
  · exact nC3_6 H
  · exact nC1_7 H
  · exact nC2_7 H
  · exact nC3_7 H
  · exact nC1_8 H
  · exact nC2_8 H
  · exact nC3_8 H
  · exact nC1_9 H
  · exact nC2_9 H
  · exact nC3_9 H
theorem zT0 {b : Nat} {s : State} (H : nfH b s) : ∀ q ∈ kT, va_T q.1 (ad0 b s q.2.1) q.2.2.1 (fun j => zv (ad0 b s) (kTf q.2.2.2 j)) (lwA s) s s.heap := by
  intro q hq
  simp only [kT, List.mem_cons, List.not_mem_nil, or_false] at hq
  rcases hq with rfl | rfl | rfl | rfl | rfl | rfl | rfl | rfl | rfl | rfl | rfl | rfl | rfl | rfl | rfl | rfl | rfl | rfl | rfl | rfl | rfl | rfl | rfl | rfl | rfl | rfl | rfl <;> rw [ad0_k]
  · exact (nS_14 H).2.2.2
  · exact (nS_15 H).2.2.2
  · exact (nS_16 H).2.2.2
  · exact (nS_17 H).2.2.2
  · exact (nS_18 H).2.2.2
  · exact (nS_19 H).2.2.2
  · exact (nS_20 H).2.2.2
  · exact (nS_21 H).2.2.2
  · exact (nS_22 H).2.2.2
  · exact (nS_23 H).2.2.2
  · exact (nS_24 H).2.2.2
  · exact (nS_25 H).2.2.2
  · exact (nS_26 H).2.2.2
  · exact (nS_27 H).2.2.2
  · exact (nS_28 H).2.2.2
  · exact (nS_29 H).2.2.2
  · exact (nS_30 H).2.2.2
  · exact (nS_31 H).2.2.2
  · exact (nS_32 H).2.2.2
  · exact (nS_33 H).2.2.2
  · exact (nS_34 H).2.2.2
  · exact (nS_35 H).2.2.2
  · exact (nS_36 H).2.2.2
  · exact (nS_37 H).2.2.2
  · exact (nS_38 H).2.2.2
  · rw [show (fun j => zv (ad0 b s) (kTf (kTr (zB + 200)) j)) = fun j => .ref (ad0 b s (zB + 200 + j)) from rfl, show (fun j => Value.ref (ad0 b s (zB + 200 + j))) = fun j => .ref (evA b s (tmf (200 + j))) from funext fun j => by rw [Nat.add_assoc, ad0_k]]
    exact va_Tj (nK H).2 (fun j hj => by
      have hj : j < 10 := hj
      rw [show tmf (200 + j) = eTm j from by unfold tmf; rw [if_neg (by omega), if_neg (by omega), if_pos (by omega), Nat.add_sub_cancel_left]])
  · exact (nM H).2
theorem zZ0 {b : Nat} {s : State} (H : nfH b s) (ht : ∀ (i : Nat) (w : Cond), lw_tbl[i]? = some w → w.before #[.ref b] s = true) : ∀ q ∈ kZ, va_Z q.1 q.2.1 q.2.2.1 (zv (ad0 b s) q.2.2.2) (lwA s) s s.heap := by
  intro q hq
  simp only [kZ, List.mem_cons, List.not_mem_nil, or_false] at hq
  rcases hq with rfl | rfl | rfl | rfl <;> simp only [zv] <;> try rw [ad0_k]
  · exact va_Zof (ht 612 _ (by decide +kernel)) (ht 114 _ (by decide +kernel)) (nC_6 H) lwA_h
  · exact va_Zof (ht 552 _ (by decide +kernel)) (ht 96 _ (by decide +kernel)) (nK H).1 lwA_h
  · exact va_Zof (ht 558 _ (by decide +kernel)) (ht 112 _ (by decide +kernel)) (nM H).1 lwA_h
  · exact va_Zof (ht 474 _ (by decide +kernel)) (ht 103 _ (by decide +kernel)) (va_eqt (H 4 _ (by decide +kernel))) lwA_h
theorem zR0 {b : Nat} {s : State} (H : nfH b s) (ht : ∀ (i : Nat) (w : Cond), lw_tbl[i]? = some w → w.before #[.ref b] s = true) : ∀ q ∈ kR, vk_R q.1 q.2.1 q.2.2.1 (ad0 b s q.2.2.2) s := by
  intro q hq
  simp only [kR, List.mem_cons, List.not_mem_nil, or_false] at hq
  rcases hq with rfl | rfl | rfl | rfl | rfl | rfl | rfl | rfl | rfl | rfl | rfl | rfl | rfl | rfl | rfl | rfl | rfl | rfl | rfl | rfl | rfl | rfl | rfl | rfl | rfl | rfl | rfl | rfl | rfl | rfl | rfl | rfl | rfl | rfl | rfl | rfl | rfl | rfl | rfl <;> rw [ad0_k]
  · exact vk_R.of (ht 860 _ (by decide +kernel)) (nX_0 H)
  · exact vk_R.of (ht 913 _ (by decide +kernel)) (nX_1 H)
  · exact vk_R.of (ht 921 _ (by decide +kernel)) (nX_2 H)
  · exact vk_R.of (ht 943 _ (by decide +kernel)) (nX_3 H)
  · exact vk_R.of (ht 945 _ (by decide +kernel)) (nX_4 H)
  · exact vk_R.of (ht 963 _ (by decide +kernel)) (nX_5 H)
  · exact vk_R.of (ht 978 _ (by decide +kernel)) (nX_6 H)
  · exact vk_R.of (ht 980 _ (by decide +kernel)) (nX_7 H)
  · exact vk_R.of (ht 989 _ (by decide +kernel)) (nX_8 H)
  · exact vk_R.of (ht 1006 _ (by decide +kernel)) (nX_9 H)
  · exact vk_R.of (ht 1171 _ (by decide +kernel)) (nX_10 H)
  · exact vk_R.of (ht 897 _ (by decide +kernel)) (nX_11 H)
  · exact vk_R.of (ht 902 _ (by decide +kernel)) (nX_12 H)
  · exact vk_R.of (ht 1029 _ (by decide +kernel)) (nX_13 H)
  · exact vk_R.of (ht 1836 _ (by decide +kernel)) (nX_14 H)
  · exact vk_R.of (ht 1837 _ (by decide +kernel)) (nX_15 H)
  · exact vk_R.of (ht 1838 _ (by decide +kernel)) (nX_16 H)
  · exact vk_R.of (ht 1839 _ (by decide +kernel)) (nX_17 H)
  · exact vk_R.of (ht 1840 _ (by decide +kernel)) (nX_18 H)
  · exact vk_R.of (ht 1841 _ (by decide +kernel)) (nX_19 H)
  · exact vk_R.of (ht 1835 _ (by decide +kernel)) (nX_20 H)
  · exact vk_R.of (ht 1842 _ (by decide +kernel)) (nX_21 H)
  · exact vk_R.of (ht 1843 _ (by decide +kernel)) (nX_22 H)
  · exact vk_R.of (ht 1844 _ (by decide +kernel)) (nX_23 H)
  · exact vk_R.of (ht 542 _ (by decide +kernel)) (nX_24 H)
  · exact vk_R.of (ht 460 _ (by decide +kernel)) (nX_25 H)
  · exact vk_R.of (ht 1178 _ (by decide +kernel)) (nX_26 H)
  · exact vk_R.of (ht 1235 _ (by decide +kernel)) (nX_27 H)
  · exact vk_R.of (ht 1236 _ (by decide +kernel)) (nX_28 H)
  · exact vk_R.of (ht 1237 _ (by decide +kernel)) (nX_29 H)
  · exact vk_R.of (ht 1238 _ (by decide +kernel)) (nX_30 H)
  · exact vk_R.of (ht 1239 _ (by decide +kernel)) (nX_31 H)
  · exact vk_R.of (ht 1240 _ (by decide +kernel)) (nX_32 H)
  · exact vk_R.of (ht 1245 _ (by decide +kernel)) (nX_33 H)
  · exact vk_R.of (ht 1246 _ (by decide +kernel)) (nX_34 H)
  · exact vk_R.of (ht 1247 _ (by decide +kernel)) (nX_35 H)
  · exact vk_R.of (ht 1248 _ (by decide +kernel)) (nX_36 H)
  · exact vk_R.of (ht 1249 _ (by decide +kernel)) (nX_37 H)
  · exact vk_R.of (ht 1204 _ (by decide +kernel)) (nX_38 H)
theorem zN0 {b : Nat} {s : State} (ht : ∀ (i : Nat) (w : Cond), lw_tbl[i]? = some w → w.before #[.ref b] s = true) : ∀ w ∈ kN, va_Nw w s := by
  intro w hw
  simp only [kN, List.mem_cons, List.not_mem_nil, or_false] at hw
  rcases hw with rfl | rfl | rfl | rfl | rfl | rfl | rfl | rfl | rfl | rfl | rfl | rfl | rfl | rfl | rfl | rfl | rfl
  · exact va_Nw.of rfl (ht 130 _ (by decide +kernel))
  · exact va_Nw.of rfl (ht 304 _ (by decide +kernel))
  · exact va_Nw.of rfl (ht 528 _ (by decide +kernel))
  · exact va_Nw.of rfl (ht 531 _ (by decide +kernel))
  · exact va_Nw.of rfl (ht 534 _ (by decide +kernel))
  · exact va_Nw.of rfl (ht 551 _ (by decide +kernel))
  · exact va_Nw.of rfl (ht 565 _ (by decide +kernel))
  · exact va_Nw.of rfl (ht 568 _ (by decide +kernel))
  · exact va_Nw.of rfl (ht 571 _ (by decide +kernel))
  · exact va_Nw.of rfl (ht 574 _ (by decide +kernel))
  · exact va_Nw.of rfl (ht 820 _ (by decide +kernel))
  · exact va_Nw.of rfl (ht 906 _ (by decide +kernel))
  · exact va_Nw.of rfl (ht 1022 _ (by decide +kernel))
  · exact va_Nw.of rfl (ht 956 _ (by decide +kernel))
  · exact va_Nw.of rfl (ht 822 _ (by decide +kernel))
  · exact va_Nw.of rfl (ht 824 _ (by decide +kernel))
  · exact va_Nw.of rfl (ht 826 _ (by decide +kernel))
theorem ev_null {b : Nat} {s : State} {t : Term} (h : (Cond.isRef t).before #[.ref b] s = true) : t.eval #[.ref b] s none [] s = some .null ∨ t.eval #[.ref b] s none [] s = some (.ref (evA b s t)) := by
  cases hv : t.eval #[.ref b] s none [] s with
  | none => simp [Cond.before, Cond.holds, Cond.value, hv] at h
  | some z =>
    simp only [Cond.before, Cond.holds, Cond.value, hv] at h
    cases z with
    | null => exact Or.inl rfl
    | ref t' => exact Or.inr (by rw [ev_ref hv])
    | _ => simp at h
theorem zC0 {l : zL} {b : Nat} {s : State} (H : nfH b s) (ht : ∀ (i : Nat) (w : Cond), lw_tbl[i]? = some w → w.before #[.ref b] s = true) (hX : va_X b l.2.1 l.2.2 s s.heap) (hL : l.2.1 < 2 ^ 31) (hb : b < s.heap.size) : zC l s.heap.size (ad0 b s) s s.heap := by
  refine ⟨zO0 H, zF0 H, zT0 H, zZ0 H ht, zR0 H ht, zN0 ht, ?_, ?_, nN H, ?_, ?_, ?_, ?_⟩
  · exact vx_Zqof (ht 845 _ (by decide +kernel)) (ht 108 _ (by decide +kernel)) (H 41 _ (by decide +kernel)) lwA_h
  · exact vx_Zqof (ht 847 _ (by decide +kernel)) (ht 108 _ (by decide +kernel)) (H 42 _ (by decide +kernel)) lwA_h
  · intro q hq
    simp only [kX, List.mem_cons, List.not_mem_nil, or_false] at hq
    subst hq
    exact va_Nc.of (H 132 _ (by decide +kernel))
  · exact va_AO.of (A := #[.ref b]) (ht 289 _ (by decide +kernel))
  · obtain ⟨cell, h1, h2, h3, h4, h5⟩ := hX
    rw [ad0_k]
    have e : evA b s (tmf 500) = b := ev_ref (t := .arg 0) rfl
    rw [e]
    exact ⟨cell, h1, h2, h3, Nat.le_of_eq h4.symm, by rw [h4], h5, Nat.not_le.mpr hb⟩
  · unfold zSq
    rw [ad0_k]
    have hi : (Cond.initialized "jdk/internal/util/Preconditions").before #[.ref b] s = true := (ht 105 _ (by decide +kernel))
    rcases ev_null (t := fTm) (H 5 _ (by decide +kernel)) with g | g
    · exact Or.inl (va_Zof (ht 490 _ (by decide +kernel)) hi g lwA_h)
    · exact Or.inr (va_Zof (ht 490 _ (by decide +kernel)) hi g lwA_h)

