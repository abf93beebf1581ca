/-! THE LAW FROM ITS ENTRY -/
theorem zokB {n k : Nat} : zokv n (.ref (zB + k)) := Or.inr (Nat.le_add_right _ _)
set_option maxHeartbeats 4000000 in
set_option maxRecDepth 100000 in
theorem L_8 {l : zL} {d kc ks n : Nat} {h : Nat → va_E} {cm : Value} {o u : Nat → Nat → Int32} {s : Nat → Nat → Int32} {a : Nat → Nat → Nat → Int32} {g : zGs} {Q : zQ} (hl : l.2.1 ≤ 260) (hn : 89 ≤ n) (hno : ∀ E n' h', ¬ Q (.inr E) n' h') (hC : cI g o u s a) (hcc : okc g.1) (hq : ∀ n g, Q (.inl (some (.int 1))) n g) : Zj l mL_law (d + 10) kc ks 8 [(0, .ref (zB + 500)), (1, .ref 0)] [] n (gW h cm o u s a) Q := by
  refine z_aload_n (j := 1) dL_law_8 rfl ?_
  refine z_kS [.ref 0] 0 0 kc ks yoL_holds ysL_holds rfl (by decide) lL_145 rfl (Nat.le_of_ble_eq_true rfl) (Nat.le_of_ble_eq_true rfl) dL_law_9 (by omega) (by omega) (z_room (by omega) (Nat.le_refl _) (Nat.le_refl _) (W_holds (d := 0) (g := g) hn (zk_no hno) hC hcc (fun cm5001 o5001 u5001 s5001 a5001 hC5001 => ⟨rfl, ?_⟩)))
  refine z_if_ne (tgt := 17) dL_law_12 (by decide) (fun czq12 => ?_) (fun czq12 => absurd czq12 (by decide))
  refine z_iconst (v := 0) dL_law_17 (by decide) ?_
  skip
  refine z_istore_n [1, 2, 0] [(0, .ref (zB + 500)), (1, .ref 0), (2, .int ((nI 0)))] dL_law_18 (by decide) rfl ?_
  exact L_l hl hn hno hq 14 0 g cm5001 o5001 u5001 s5001 a5001 (by decide) hcc hC5001

set_option maxHeartbeats 4000000 in
set_option maxRecDepth 100000 in
theorem L_all {l : zL} {d : Nat} {h : Nat → va_E} {Q : zQ} (hl : l.2.1 ≤ 260) (hno : ∀ E n' h', ¬ Q (.inr E) n' h') (hq : ∀ n g, Q (.inl (some (.int 1))) n g) : Zj l mL_law (d + 10) 89 5463 0 [(0, .ref (zB + 500))] [] 0 h Q := by
  refine z_new (k2 := 88) (s2 := 5455) nwL_8 (by decide) (by intro q hq9; simp only [List.mem_cons, List.not_mem_nil, or_false] at hq9; rcases hq9 with rfl <;> first | exact zokB | exact zokr (by omega)) (by intro q hq9; cases hq9) (by decide) (by decide) dL_law_0 ?_
  refine z_dup rfl dL_law_3 ?_
  refine z_kI [] 88 5455 0 0 yoX7_init yiX7_init rfl rfl rfl (by decide) lL_152 rfl (Nat.le_of_ble_eq_true rfl) (Nat.le_of_ble_eq_true rfl) dL_law_4 (by decide) (by decide) (by intro q hq9; simp only [List.mem_cons, List.not_mem_nil, or_false] at hq9; rcases hq9 with rfl <;> first | exact zokB | exact zokr (by omega)) (by intro q hq9; simp only [List.mem_cons, List.not_mem_nil, or_false] at hq9; rcases hq9 with rfl <;> first | exact zokB | exact zokr (by omega)) (z_room (by omega) (Nat.le_refl _) (Nat.le_refl _) (w_N0 (d := 0) rfl (fun o u s a hC => ⟨rfl, ?_⟩)))
  refine z_astore_n [1, 0] [(0, .ref (zB + 500)), (1, .ref 0)] dL_law_7 (by decide) rfl ?_
  exact L_8 hl (by decide) hno hC okc_00 hq
