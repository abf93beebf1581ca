/-! two tables in a world -/
def tIn (h : Nat → va_E) (b : Nat) (s : Nat → Int32) (a : Nat → Nat → Int32) : Prop := h b = .inr (4, tF b s) ∧ ∀ j, j < 5 → h (b + (j + 1)) = .inl (0, 64, .inl (a j))
theorem tIn_tW {h : Nat → va_E} {b : Nat} {s : Nat → Int32} {a : Nat → Nat → Int32} : tIn (tW h b s a) b s a := ⟨tW_obj, fun j hj => tW_arr j hj⟩
theorem tIn.off {h : Nat → va_E} {b b2 : Nat} {s s2 : Nat → Int32} {a a2 : Nat → Nat → Int32} (hi : tIn h b2 s2 a2) (hd : b2 + 6 ≤ b ∨ b + 6 ≤ b2) : tIn (tW h b s a) b2 s2 a2 :=
  ⟨(tW_off (by omega)).trans hi.1, fun j hj => (tW_off (by omega)).trans (hi.2 j hj)⟩
theorem tIn.eq {h : Nat → va_E} {b : Nat} {s : Nat → Int32} {a : Nat → Nat → Int32} (hi : tIn h b s a) : tW h b s a = h := by
  funext q
  by_cases h1 : q = b
  · subst h1; rw [tW_obj]; exact hi.1.symm
  · by_cases h2 : b < q ∧ q ≤ b + 5
    · obtain ⟨j, hj, rfl⟩ : ∃ j, j < 5 ∧ q = b + (j + 1) := ⟨q - b - 1, by omega, by omega⟩
      rw [tW_arr j hj]; exact (hi.2 j hj).symm
    · exact tW_off (by omega)
theorem t_copy {l : zL} {Y : zM} {d kc ks pc n b b2 idx : Nat} {lv : List (Nat × Value)} {rest : List Value} {h : Nat → va_E} {s s2 : Nat → Int32} {a a2 : Nat → Nat → Int32} {Q : zQ} (j : Nat) (hj : j < 5) (hb : b + 6 ≤ n) (hb2 : b2 + 6 ≤ n) (hd2 : b2 + 6 ≤ b ∨ b + 6 ≤ b2) (hi : tIn h b2 s2 a2) (w1 : Cond.methodLink Y.1.cls idx arraycopyName ∈ zTs) (hcat : (rest.map fun v => v.category).sum ≤ 8) (hd : decode Y.2.1 pc = .ok (.invokestatic idx, 3)) (kk : Zj l Y d kc ks (pc + 3) lv rest n (tW h b s (va_up a j (va_cpy (a2 j) (a j) 0 0 64))) Q) : Zj l Y d kc ks pc lv (.int 64 :: .int 0 :: .ref (b + (j + 1)) :: .int 0 :: .ref (b2 + (j + 1)) :: rest) n (tW h b s a) Q :=
  z_copyi w1 cp1 cp2 cp3 (by omega) ((hi.off hd2).2 j hj) (by omega) (tW_arr j hj) (by decide) (by decide) (by decide) (by decide) (by decide) hcat hd (by rw [tW_ast j _ hj]; exact kk)

set_option maxHeartbeats 4000000 in
set_option maxRecDepth 100000 in
theorem w_copyFrom {l : zL} {d kc ks n b b2 : Nat} {h : Nat → va_E} {s s2 : Nat → Int32} {a a2 : Nat → Nat → Int32} {Q : zQ} (hb : b + 6 ≤ n) (hb2 : b2 + 6 ≤ n) (hd2 : b2 + 6 ≤ b ∨ b + 6 ≤ b2) (hi : tIn h b2 s2 a2) (h9 : s2 9 = 0 ∨ s2 9 = 1) (hq : ∀ s' a', (∀ k, 6 ≤ k → k < 16 → s' k = s2 k) → (∀ j i, j < 3 → i < 64 → a' j i = a2 j i) → Q (.inl none) n (tW h b s' a')) : Zj l mX6_copyFrom d kc ks 0 [(0, .ref b), (1, .ref b2)] [] n (tW h b s a) Q := by
  refine z_aload_n (j := 1) dX6_copyFrom_0 rfl ?_
  refine z_get (v := .ref (b2 + 1)) (by omega) (hi.off hd2).1 fX6_9 rfl dX6_copyFrom_1 ?_
  refine z_iconst (v := 0) dX6_copyFrom_4 (by decide) ?_
  refine z_aload_n (j := 0) dX6_copyFrom_5 rfl ?_
  refine z_get (v := .ref (b + 1)) (by omega) tW_obj fX6_9 rfl dX6_copyFrom_6 ?_
  refine z_iconst (v := 0) dX6_copyFrom_9 (by decide) ?_
  refine z_bipush (v := 64) dX6_copyFrom_10 (by decide) ?_
  refine t_copy 0 (by decide) hb hb2 hd2 hi lX6_58 (by decide) dX6_copyFrom_12 ?_
  refine z_aload_n (j := 1) dX6_copyFrom_15 rfl ?_
  refine z_get (v := .ref (b2 + 2)) (by omega) (hi.off hd2).1 fX6_15 rfl dX6_copyFrom_16 ?_
  refine z_iconst (v := 0) dX6_copyFrom_19 (by decide) ?_
  refine z_aload_n (j := 0) dX6_copyFrom_20 rfl ?_
  refine z_get (v := .ref (b + 2)) (by omega) tW_obj fX6_15 rfl dX6_copyFrom_21 ?_
  refine z_iconst (v := 0) dX6_copyFrom_24 (by decide) ?_
  refine z_bipush (v := 64) dX6_copyFrom_25 (by decide) ?_
  refine t_copy 1 (by decide) hb hb2 hd2 hi lX6_58 (by decide) dX6_copyFrom_27 ?_
  refine z_aload_n (j := 1) dX6_copyFrom_30 rfl ?_
  refine z_get (v := .ref (b2 + 3)) (by omega) (hi.off hd2).1 fX6_18 rfl dX6_copyFrom_31 ?_
  refine z_iconst (v := 0) dX6_copyFrom_34 (by decide) ?_
  refine z_aload_n (j := 0) dX6_copyFrom_35 rfl ?_
  refine z_get (v := .ref (b + 3)) (by omega) tW_obj fX6_18 rfl dX6_copyFrom_36 ?_
  refine z_iconst (v := 0) dX6_copyFrom_39 (by decide) ?_
  refine z_bipush (v := 64) dX6_copyFrom_40 (by decide) ?_
  refine t_copy 2 (by decide) hb hb2 hd2 hi lX6_58 (by decide) dX6_copyFrom_42 ?_
  refine z_aload_n (j := 0) dX6_copyFrom_45 rfl ?_
  refine z_aload_n (j := 1) dX6_copyFrom_46 rfl ?_
  refine z_get (v := .int (s2 6)) (by omega) (hi.off hd2).1 fX6_64 rfl dX6_copyFrom_47 ?_
  refine t_put (k := 6) (by omega) fX6_64 (by decide) (by decide) (by decide) dX6_copyFrom_50 ?_
  refine z_aload_n (j := 0) dX6_copyFrom_53 rfl ?_
  refine z_aload_n (j := 1) dX6_copyFrom_54 rfl ?_
  refine z_get (v := .int (s2 7)) (by omega) (hi.off hd2).1 fX6_31 rfl dX6_copyFrom_55 ?_
  refine t_put (k := 7) (by omega) fX6_31 (by decide) (by decide) (by decide) dX6_copyFrom_58 ?_
  refine z_aload_n (j := 0) dX6_copyFrom_61 rfl ?_
  refine z_aload_n (j := 1) dX6_copyFrom_62 rfl ?_
  refine z_get (v := .int (s2 8)) (by omega) (hi.off hd2).1 fX6_35 rfl dX6_copyFrom_63 ?_
  refine t_put (k := 8) (by omega) fX6_35 (by decide) (by decide) (by decide) dX6_copyFrom_66 ?_
  refine z_aload_n (j := 0) dX6_copyFrom_69 rfl ?_
  refine z_aload_n (j := 1) dX6_copyFrom_70 rfl ?_
  refine z_get (v := .int (s2 9)) (by omega) (hi.off hd2).1 fX6_38 rfl dX6_copyFrom_71 ?_
  refine t_putz h9 (by omega) fX6_38 dX6_copyFrom_74 ?_
  refine z_aload_n (j := 0) dX6_copyFrom_77 rfl ?_
  refine z_aload_n (j := 1) dX6_copyFrom_78 rfl ?_
  refine z_get (v := .int (s2 10)) (by omega) (hi.off hd2).1 fX6_67 rfl dX6_copyFrom_79 ?_
  refine t_put (k := 10) (by omega) fX6_67 (by decide) (by decide) (by decide) dX6_copyFrom_82 ?_
  refine z_aload_n (j := 0) dX6_copyFrom_85 rfl ?_
  refine z_aload_n (j := 1) dX6_copyFrom_86 rfl ?_
  refine z_get (v := .int (s2 11)) (by omega) (hi.off hd2).1 fX6_70 rfl dX6_copyFrom_87 ?_
  refine t_put (k := 11) (by omega) fX6_70 (by decide) (by decide) (by decide) dX6_copyFrom_90 ?_
  refine z_aload_n (j := 0) dX6_copyFrom_93 rfl ?_
  refine z_aload_n (j := 1) dX6_copyFrom_94 rfl ?_
  refine z_get (v := .int (s2 12)) (by omega) (hi.off hd2).1 fX6_42 rfl dX6_copyFrom_95 ?_
  refine t_put (k := 12) (by omega) fX6_42 (by decide) (by decide) (by decide) dX6_copyFrom_98 ?_
  refine z_aload_n (j := 0) dX6_copyFrom_101 rfl ?_
  refine z_aload_n (j := 1) dX6_copyFrom_102 rfl ?_
  refine z_get (v := .int (s2 13)) (by omega) (hi.off hd2).1 fX6_45 rfl dX6_copyFrom_103 ?_
  refine t_put (k := 13) (by omega) fX6_45 (by decide) (by decide) (by decide) dX6_copyFrom_106 ?_
  refine z_aload_n (j := 0) dX6_copyFrom_109 rfl ?_
  refine z_aload_n (j := 1) dX6_copyFrom_110 rfl ?_
  refine z_get (v := .int (s2 14)) (by omega) (hi.off hd2).1 fX6_48 rfl dX6_copyFrom_111 ?_
  refine t_put (k := 14) (by omega) fX6_48 (by decide) (by decide) (by decide) dX6_copyFrom_114 ?_
  refine z_aload_n (j := 0) dX6_copyFrom_117 rfl ?_
  refine z_aload_n (j := 1) dX6_copyFrom_118 rfl ?_
  refine z_get (v := .int (s2 15)) (by omega) (hi.off hd2).1 fX6_51 rfl dX6_copyFrom_119 ?_
  refine t_put (k := 15) (by omega) fX6_51 (by decide) (by decide) (by decide) dX6_copyFrom_122 ?_
  exact z_vret rfl dX6_copyFrom_125 (by
      refine hq _ _ (fun k h6 h16 => ?_) (fun j i hj hi64 => ?_)
      · rcases (show k = 6 ∨ k = 7 ∨ k = 8 ∨ k = 9 ∨ k = 10 ∨ k = 11 ∨ k = 12 ∨ k = 13 ∨ k = 14 ∨ k = 15 by omega) with rfl | rfl | rfl | rfl | rfl | rfl | rfl | rfl | rfl | rfl <;> rfl
      · rcases (show j = 0 ∨ j = 1 ∨ j = 2 by omega) with rfl | rfl | rfl <;> simp [va_up, va_cpy, hi64])

set_option maxHeartbeats 4000000 in
set_option maxRecDepth 100000 in
theorem w_begin {l : zL} {d kc ks n b B H T : Nat} {h : Nat → va_E} {s : Nat → Int32} {a : Nat → Nat → Int32} {Q : zQ} (hb : b + 6 ≤ n) (okb : okB B) (h2H : 2 ≤ H) (hH6 : H ≤ 6) (h1T : 1 ≤ T) (hT99 : T ≤ 99) (hq : ∀ s' a', tR B H T kz kz s' a' → s' 10 = 0 → s' 11 = 0 → s' 9 = 0 → s' 12 = 0 → s' 13 = 0 → s' 14 = 0 → s' 15 = 0 → Q (.inl none) n (tW h b s' a')) : Zj l mX6_begin (d + 1) kc ks 0 [(0, .ref b), (1, .int ((nI B))), (2, .int ((nI H))), (3, .int ((nI T)))] [] n (tW h b s a) Q := by
  refine z_aload_n (j := 0) dX6_begin_0 rfl ?_
  refine z_iload_n (j := 2) dX6_begin_1 rfl ?_
  refine t_put (k := 7) (by omega) fX6_31 (by decide) (by decide) (by decide) dX6_begin_2 ?_
  refine z_aload_n (j := 0) dX6_begin_5 rfl ?_
  refine z_iload_n (j := 3) dX6_begin_6 rfl ?_
  refine t_put (k := 8) (by omega) fX6_35 (by decide) (by decide) (by decide) dX6_begin_7 ?_
  refine z_aload_n (j := 0) dX6_begin_10 rfl ?_
  refine z_iconst (v := 0) dX6_begin_11 (by decide) ?_
  refine t_putz (Or.inl rfl) (by omega) fX6_38 dX6_begin_12 ?_
  refine z_aload_n (j := 0) dX6_begin_15 rfl ?_
  refine z_iconst (v := 0) dX6_begin_16 (by decide) ?_
  refine t_put (k := 12) (by omega) fX6_42 (by decide) (by decide) (by decide) dX6_begin_17 ?_
  refine z_aload_n (j := 0) dX6_begin_20 rfl ?_
  refine z_iconst (v := 0) dX6_begin_21 (by decide) ?_
  refine t_put (k := 13) (by omega) fX6_45 (by decide) (by decide) (by decide) dX6_begin_22 ?_
  refine z_aload_n (j := 0) dX6_begin_25 rfl ?_
  refine z_iconst (v := 0) dX6_begin_26 (by decide) ?_
  refine t_put (k := 14) (by omega) fX6_48 (by decide) (by decide) (by decide) dX6_begin_27 ?_
  refine z_aload_n (j := 0) dX6_begin_30 rfl ?_
  refine z_iconst (v := 0) dX6_begin_31 (by decide) ?_
  refine t_put (k := 15) (by omega) fX6_51 (by decide) (by decide) (by decide) dX6_begin_32 ?_
  refine z_aload_n (j := 0) dX6_begin_35 rfl ?_
  refine z_iload_n (j := 1) dX6_begin_36 rfl ?_
  refine z_cVx [.int (nI B)] none (fun g => ∃ s1 a1, g = tW h b s1 a1 ∧ tR B H T kz kz s1 a1 ∧ s1 10 = 0 ∧ s1 11 = 0 ∧ (∀ k, k ≠ 6 → k ≠ 10 → k ≠ 11 → s1 k = (va_up (va_up (va_up (va_up (va_up (va_up (va_up s 7 (nI H)) 8 (nI T)) 9 0) 12 0) 13 0) 14 0) 15 0) k)) yoX6_empty yvX6_empty rfl (by decide) lX6_54 (by omega) tW_obj rfl rfl (Nat.le_of_ble_eq_true rfl) (Nat.le_of_ble_eq_true rfl) dX6_begin_37 (z_room (by omega) (Nat.le_refl _) (Nat.le_refl _) (w_empty (d := 0) hb okb h2H hH6 h1T hT99 (by simp [va_up]) (by simp [va_up]) (fun s' a' h1 h2 h3 h4 h5 h6 => ⟨rfl, rfl, s', a', rfl, h1, h2, h3, h4⟩))) (fun g hg => ?_)
  obtain ⟨s1, a1, rfl, hR1, h10, h11, hsk⟩ := hg
  exact z_vret rfl dX6_begin_40 (hq s1 a1 hR1 h10 h11 (by rw [hsk 9 (by decide) (by decide) (by decide)]; rfl) (by rw [hsk 12 (by decide) (by decide) (by decide)]; rfl) (by rw [hsk 13 (by decide) (by decide) (by decide)]; rfl) (by rw [hsk 14 (by decide) (by decide) (by decide)]; rfl) (by rw [hsk 15 (by decide) (by decide) (by decide)]; rfl))

set_option maxHeartbeats 4000000 in
set_option maxRecDepth 100000 in
theorem w_dropAll {l : zL} {d kc ks n b B H T : Nat} {h : Nat → va_E} {K V : Nat → Nat} {s : Nat → Int32} {a : Nat → Nat → Int32} {Q : zQ} (hb : b + 6 ≤ n) (hR : tR B H T K V s a) (hq : ∀ s' a', tR B H T kz kz s' a' → s' 10 = 0 → s' 11 = 0 → s' 15 = s 15 + s 10 → (∀ k, k ≠ 6 → k ≠ 10 → k ≠ 11 → k ≠ 15 → s' k = s k) → Q (.inl (some (.int (s 10)))) n (tW h b s' a')) : Zj l mX6_dropAll (d + 1) kc ks 0 [(0, .ref b)] [] n (tW h b s a) Q := by
  obtain ⟨okb, h2H, hH6, h1T, hT99, e6, e7, e8, ek, ev, eh, ekv, ez⟩ := id hR
  have hle := okb.le
  refine z_aload_n (j := 0) dX6_dropAll_0 rfl ?_
  refine z_get (v := .int (s 10)) (by omega) tW_obj fX6_67 rfl dX6_dropAll_1 ?_
  refine z_istore_n [1, 0] [(0, .ref b), (1, .int ((s 10)))] dX6_dropAll_4 (by decide) rfl ?_
  refine z_aload_n (j := 0) dX6_dropAll_5 rfl ?_
  refine z_dup rfl dX6_dropAll_6 ?_
  refine z_get (v := .int (s 15)) (by omega) tW_obj fX6_51 rfl dX6_dropAll_7 ?_
  refine z_iload_n (j := 1) dX6_dropAll_10 rfl ?_
  refine z_iadd dX6_dropAll_11 ?_
  refine t_put (k := 15) (by omega) fX6_51 (by decide) (by decide) (by decide) dX6_dropAll_12 ?_
  refine z_aload_n (j := 0) dX6_dropAll_15 rfl ?_
  refine z_aload_n (j := 0) dX6_dropAll_16 rfl ?_
  refine z_get (v := .int (s 6)) (by omega) tW_obj fX6_64 rfl dX6_dropAll_17 ?_
  rw [e6]
  refine z_cVx [.int (nI B)] none (fun g => ∃ s1 a1, g = tW h b s1 a1 ∧ tR B H T kz kz s1 a1 ∧ s1 10 = 0 ∧ s1 11 = 0 ∧ (∀ k, k ≠ 6 → k ≠ 10 → k ≠ 11 → s1 k = (va_up s 15 ((s 15) + (s 10))) k)) yoX6_empty yvX6_empty rfl (by decide) lX6_54 (by omega) tW_obj rfl rfl (Nat.le_of_ble_eq_true rfl) (Nat.le_of_ble_eq_true rfl) dX6_dropAll_20 (z_room (by omega) (Nat.le_refl _) (Nat.le_refl _) (w_empty (d := 0) hb okb h2H hH6 h1T hT99 (by simp [va_up, e7]) (by simp [va_up, e8]) (fun s' a' h1 h2 h3 h4 h5 h6 => ⟨rfl, rfl, s', a', rfl, h1, h2, h3, h4⟩))) (fun g hg => ?_)
  obtain ⟨s1, a1, rfl, hR1, h10, h11, hsk⟩ := hg
  refine z_iload_n (j := 1) dX6_dropAll_23 rfl ?_
  exact z_iret rfl dX6_dropAll_24 (hq s1 a1 hR1 h10 h11 (by rw [hsk 15 (by decide) (by decide) (by decide)]; rfl) (fun k h6 h10 h11 h15 => by rw [hsk k h6 h10 h11]; simp [va_up, h15]))

set_option maxHeartbeats 4000000 in
set_option maxRecDepth 100000 in
theorem w_changeNear {l : zL} {d kc ks n b B H T : Nat} {h : Nat → va_E} {K V : Nat → Nat} {s : Nat → Int32} {a : Nat → Nat → Int32} {Q : zQ} (hb : b + 6 ≤ n) (hR : tR B H T K V s a) {H2 : Nat} (h2N : 2 ≤ H2) (hN6 : H2 ≤ 6) (hqF : ∀ {B' K' V' c' x'} s' a', rbF H2 T (entL K V B) B 4 B K V (s 11) (s 13) = (false, B', K', V', c', x') → Q (.inl (some (.int 0))) n (tW h b s' a')) (hqT : ∀ B' K' V' c' x' s' a', rbF H2 T (entL K V B) B 4 B K V (s 11) (s 13) = (true, B', K', V', c', x') → tR B' H2 T K' V' s' a' → s' 10 = nI (entL K V B).length → s' 11 = c' → s' 13 = x' → (∀ k, k ≠ 5 → k ≠ 6 → k ≠ 10 → k ≠ 11 → k ≠ 13 → k ≠ 7 → s' k = s k) → Q (.inl (some (.int 1))) n (tW h b s' a')) : Zj l mX6_changeNear (d + 7) kc ks 0 [(0, .ref b), (1, .int ((nI H2)))] [] n (tW h b s a) Q := by
  obtain ⟨okb, h2H, hH6, h1T, hT99, e6, e7, e8, ek, ev, eh, ekv, ez⟩ := id hR
  have hle := okb.le
  refine z_aload_n (j := 0) dX6_changeNear_0 rfl ?_
  refine z_iload_n (j := 1) dX6_changeNear_1 rfl ?_
  refine t_put (k := 7) (by omega) fX6_31 (by decide) (by decide) (by decide) dX6_changeNear_2 ?_
  refine z_aload_n (j := 0) dX6_changeNear_5 rfl ?_
  refine z_aload_n (j := 0) dX6_changeNear_6 rfl ?_
  refine z_get (v := .int (s 6)) (by omega) tW_obj fX6_64 rfl dX6_changeNear_7 ?_
  rw [e6]
  rcases hrb : rbF H2 T (entL K V B) B 4 B K V (s 11) (s 13) with ⟨_ | _, B1, K1, V1, c1, x1⟩
  · have hrb' : rbF H2 T (entL K V B) B 4 B K V ((va_up s 7 (nI H2)) 11) ((va_up s 7 (nI H2)) 13) = (false, B1, K1, V1, c1, x1) := hrb
    refine z_cVx [.int (nI B)] (some (.int 0)) (fun g => ∃ s1 a1, g = tW h b s1 a1) yoX6_buildAnew yvX6_buildAnew rfl (by decide) lX6_103 (by omega) tW_obj rfl rfl (Nat.le_of_ble_eq_true rfl) (Nat.le_of_ble_eq_true rfl) dX6_changeNear_10 (z_room (by omega) (Nat.le_refl _) (Nat.le_refl _) (w_buildAnew (d := 0) hb ⟨okb, h2N, hN6, h1T, hT99, by simp [va_up, e6], by simp [va_up], by simp [va_up, e8], ek, ev, trivial, ekv, ez⟩ (by omega) (fun B' K' V' c' x' s' a' e => ⟨rfl, rfl, s', a', rfl⟩) (fun B' K' V' c' x' s' a' e h1 h2 h3 h4 h5 => by rw [hrb'] at e; cases e))) (fun g hg => ?_)
    obtain ⟨s1, a1, rfl⟩ := hg
    exact z_zret rfl rfl dX6_changeNear_13 (hqF s1 a1 hrb)
  · have hrb' : rbF H2 T (entL K V B) B 4 B K V ((va_up s 7 (nI H2)) 11) ((va_up s 7 (nI H2)) 13) = (true, B1, K1, V1, c1, x1) := hrb
    refine z_cVx [.int (nI B)] (some (.int 1)) (fun g => ∃ s1 a1, g = tW h b s1 a1 ∧ tR B1 H2 T K1 V1 s1 a1 ∧ s1 10 = nI (entL K V B).length ∧ s1 11 = c1 ∧ s1 13 = x1 ∧ (∀ k, k ≠ 5 → k ≠ 6 → k ≠ 10 → k ≠ 11 → k ≠ 13 → s1 k = (va_up s 7 (nI H2)) k)) yoX6_buildAnew yvX6_buildAnew rfl (by decide) lX6_103 (by omega) tW_obj rfl rfl (Nat.le_of_ble_eq_true rfl) (Nat.le_of_ble_eq_true rfl) dX6_changeNear_10 (z_room (by omega) (Nat.le_refl _) (Nat.le_refl _) (w_buildAnew (d := 0) hb ⟨okb, h2N, hN6, h1T, hT99, by simp [va_up, e6], by simp [va_up], by simp [va_up, e8], ek, ev, trivial, ekv, ez⟩ (by omega) (fun B' K' V' c' x' s' a' e => by rw [hrb'] at e; cases e) (fun B' K' V' c' x' s' a' e h1 h2 h3 h4 h5 => by
        rw [hrb'] at e
        cases e
        exact ⟨rfl, rfl, s', a', rfl, h1, h2, h3, h4, h5⟩))) (fun g hg => ?_)
    obtain ⟨s1, a1, rfl, hR1, h10, h11, h13, hrs⟩ := hg
    exact z_zret rfl rfl dX6_changeNear_13 (hqT B1 K1 V1 c1 x1 s1 a1 hrb hR1 h10 h11 h13 (fun k x5 x6 x10 x11 x13 x7 => by rw [hrs k x5 x6 x10 x11 x13]; simp [va_up, x7]))

set_option maxHeartbeats 4000000 in
set_option maxRecDepth 100000 in
theorem w_changeTimes {l : zL} {d kc ks n b B H T : Nat} {h : Nat → va_E} {K V : Nat → Nat} {s : Nat → Int32} {a : Nat → Nat → Int32} {Q : zQ} (hb : b + 6 ≤ n) (hR : tR B H T K V s a) {T2 : Nat} (h2N : 1 ≤ T2) (hN6 : T2 ≤ 99) (hqF : ∀ {B' K' V' c' x'} s' a', rbF H T2 (entL K V B) B 4 B K V (s 11) (s 13) = (false, B', K', V', c', x') → Q (.inl (some (.int 0))) n (tW h b s' a')) (hqT : ∀ B' K' V' c' x' s' a', rbF H T2 (entL K V B) B 4 B K V (s 11) (s 13) = (true, B', K', V', c', x') → tR B' H T2 K' V' s' a' → s' 10 = nI (entL K V B).length → s' 11 = c' → s' 13 = x' → (∀ k, k ≠ 5 → k ≠ 6 → k ≠ 10 → k ≠ 11 → k ≠ 13 → k ≠ 8 → s' k = s k) → Q (.inl (some (.int 1))) n (tW h b s' a')) : Zj l mX6_changeTimes (d + 7) kc ks 0 [(0, .ref b), (1, .int ((nI T2)))] [] n (tW h b s a) Q := by
  obtain ⟨okb, h2H, hH6, h1T, hT99, e6, e7, e8, ek, ev, eh, ekv, ez⟩ := id hR
  have hle := okb.le
  refine z_aload_n (j := 0) dX6_changeTimes_0 rfl ?_
  refine z_iload_n (j := 1) dX6_changeTimes_1 rfl ?_
  refine t_put (k := 8) (by omega) fX6_35 (by decide) (by decide) (by decide) dX6_changeTimes_2 ?_
  refine z_aload_n (j := 0) dX6_changeTimes_5 rfl ?_
  refine z_aload_n (j := 0) dX6_changeTimes_6 rfl ?_
  refine z_get (v := .int (s 6)) (by omega) tW_obj fX6_64 rfl dX6_changeTimes_7 ?_
  rw [e6]
  rcases hrb : rbF H T2 (entL K V B) B 4 B K V (s 11) (s 13) with ⟨_ | _, B1, K1, V1, c1, x1⟩
  · have hrb' : rbF H T2 (entL K V B) B 4 B K V ((va_up s 8 (nI T2)) 11) ((va_up s 8 (nI T2)) 13) = (false, B1, K1, V1, c1, x1) := hrb
    refine z_cVx [.int (nI B)] (some (.int 0)) (fun g => ∃ s1 a1, g = tW h b s1 a1) yoX6_buildAnew yvX6_buildAnew rfl (by decide) lX6_103 (by omega) tW_obj rfl rfl (Nat.le_of_ble_eq_true rfl) (Nat.le_of_ble_eq_true rfl) dX6_changeTimes_10 (z_room (by omega) (Nat.le_refl _) (Nat.le_refl _) (w_buildAnew (d := 0) hb ⟨okb, h2H, hH6, h2N, hN6, by simp [va_up, e6], by simp [va_up, e7], by simp [va_up], ek, ev, trivial, ekv, ez⟩ (by omega) (fun B' K' V' c' x' s' a' e => ⟨rfl, rfl, s', a', rfl⟩) (fun B' K' V' c' x' s' a' e h1 h2 h3 h4 h5 => by rw [hrb'] at e; cases e))) (fun g hg => ?_)
    obtain ⟨s1, a1, rfl⟩ := hg
    exact z_zret rfl rfl dX6_changeTimes_13 (hqF s1 a1 hrb)
  · have hrb' : rbF H T2 (entL K V B) B 4 B K V ((va_up s 8 (nI T2)) 11) ((va_up s 8 (nI T2)) 13) = (true, B1, K1, V1, c1, x1) := hrb
    refine z_cVx [.int (nI B)] (some (.int 1)) (fun g => ∃ s1 a1, g = tW h b s1 a1 ∧ tR B1 H T2 K1 V1 s1 a1 ∧ s1 10 = nI (entL K V B).length ∧ s1 11 = c1 ∧ s1 13 = x1 ∧ (∀ k, k ≠ 5 → k ≠ 6 → k ≠ 10 → k ≠ 11 → k ≠ 13 → s1 k = (va_up s 8 (nI T2)) k)) yoX6_buildAnew yvX6_buildAnew rfl (by decide) lX6_103 (by omega) tW_obj rfl rfl (Nat.le_of_ble_eq_true rfl) (Nat.le_of_ble_eq_true rfl) dX6_changeTimes_10 (z_room (by omega) (Nat.le_refl _) (Nat.le_refl _) (w_buildAnew (d := 0) hb ⟨okb, h2H, hH6, h2N, hN6, by simp [va_up, e6], by simp [va_up, e7], by simp [va_up], ek, ev, trivial, ekv, ez⟩ (by omega) (fun B' K' V' c' x' s' a' e => by rw [hrb'] at e; cases e) (fun B' K' V' c' x' s' a' e h1 h2 h3 h4 h5 => by
        rw [hrb'] at e
        cases e
        exact ⟨rfl, rfl, s', a', rfl, h1, h2, h3, h4, h5⟩))) (fun g hg => ?_)
    obtain ⟨s1, a1, rfl, hR1, h10, h11, h13, hrs⟩ := hg
    exact z_zret rfl rfl dX6_changeTimes_13 (hqT B1 K1 V1 c1 x1 s1 a1 hrb hR1 h10 h11 h13 (fun k x5 x6 x10 x11 x13 x7 => by rw [hrs k x5 x6 x10 x11 x13]; simp [va_up, x7]))
