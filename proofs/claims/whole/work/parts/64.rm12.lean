set_option maxHeartbeats 4000000 in
set_option maxRecDepth 100000 in
theorem r_pull_l {l : zL} {d kc ks n b B H T : Nat} {h : Nat → va_E} {s : Nat → Int32} {Q : zQ} {x y : Int32} (hb : b + 14 ≤ n) : ∀ m (K V : Nat → Nat) (a : Nat → Nat → Int32) (free : Nat), pulT B H T m K free → mV B H T K V (a 0) → free < B → K free = 0 → (∀ K' V' c' a', pulF B H T m K V free (a 0 5) = (K', V', c') → mV B H T K' V' (a' 0) → a' 0 5 = c' → (∀ k, k < 9 → k ≠ 5 → a' 0 k = a 0 k) → (∀ q, q ≠ 0 → a' q = a q) → Q (.inl (some (.int x))) n (mW h b s a')) → Zj l mX8_takesOut (d + 3) kc ks 68 [(0, .ref b), (1, .int y), (2, .int ((nI free))), (3, .int x), (4, .int (optI (pulR B H T K free H)))] [] n (mW h b s a) Q := by
  intro m
  induction m with
  | zero => intro K V a free hpt; exact absurd hpt id
  | succ m ih =>
    intro K V a free hpt hM hfr hfree hq
    obtain ⟨okb, h2H, hH6, h1T, hT99, e0, e1, e2, ek, ev, ekv, ez⟩ := id hM
    have hle := okb.le
    rcases hps : pulS B H T K free H with _ | ⟨j, k⟩
    · have hn : pulR B H T K free H = none := by rw [pulR, hps]; rfl
      rw [hn, show optI none = -1 from rfl]
      refine z_iload (j := 4) dX8_takesOut_68 rfl ?_
      refine z_iconst (v := (-1)) dX8_takesOut_70 (by decide) ?_
      refine z_icmp_eq (tgt := 104) dX8_takesOut_71 (by decide) (fun c_71 => ?_) (fun c_71 => absurd rfl c_71)
      refine z_iload_n (j := 3) dX8_takesOut_104 rfl ?_
      exact z_iret rfl dX8_takesOut_105 (hq K V (a 0 5) a (pulF_stop hps) hM rfl (fun _ _ _ => rfl) (fun _ _ => rfl))
    · obtain ⟨hj1, hj2, hj3, -⟩ := pulS_some hps
      have hsrc := mvSrc_pull okb hfr (show j ≤ 5 by omega) (show k ≤ 5 by omega) hj2
      have hnf := pull_ne okb hfr (show j ≤ 5 by omega) (show k ≤ 5 by omega) hj2
      have hsB : mvSrc B free j k < B := by rw [hsrc]; exact mod_lt' okb
      have hne : mvSrc B free j k ≠ free := by rw [hsrc]; exact hnf
      have hn : pulR B H T K free H = some (mvSrc B free j k) := by rw [pulR, hps]; rfl
      rw [hn, show optI (some (mvSrc B free j k)) = nI (mvSrc B free j k) from rfl]
      refine z_iload (j := 4) dX8_takesOut_68 rfl ?_
      refine z_iconst (v := (-1)) dX8_takesOut_70 (by decide) ?_
      refine z_icmp_eq (tgt := 104) dX8_takesOut_71 (by decide) (fun c_71 => absurd c_71 (nI_neg1 (by omega))) (fun c_71 => ?_)
      refine z_aload_n (j := 0) dX8_takesOut_74 rfl ?_
      refine z_iload (j := 4) dX8_takesOut_75 rfl ?_
      refine z_iload_n (j := 2) dX8_takesOut_77 rfl ?_
      refine z_cVx [.int ((nI (mvSrc B free j k))), .int ((nI free))] none (fun g => ∃ a1, g = mW h b s a1 ∧ mV B H T (mvK K (mvSrc B free j k) free) (mvK V (mvSrc B free j k) free) (a1 0) ∧ (∀ k, k < 9 → a1 0 k = a 0 k) ∧ (∀ q, q ≠ 0 → a1 q = a q)) yoX8_moves yvX8_moves rfl (by decide) lX8_106 (by omega) mW_obj rfl rfl (Nat.le_of_ble_eq_true rfl) (Nat.le_of_ble_eq_true rfl) dX8_takesOut_78 (z_room (by omega) (Nat.le_refl _) (Nat.le_refl _) (r_moves (d := 0) hb hM hsB hfr hne (fun a' h1 h2 h3 => ⟨rfl, rfl, a', rfl, h1, h2, h3⟩))) (fun g hg => ?_)
      obtain ⟨a1, rfl, hM1, h91, hr1⟩ := hg
      refine z_aload_n (j := 0) dX8_takesOut_81 rfl ?_
      refine z_get (v := .ref (b + 1)) (by omega) mW_obj fX8_7 rfl dX8_takesOut_82 ?_
      refine z_iconst (v := 5) dX8_takesOut_85 (by decide) ?_
      refine z_dup2 rfl rfl dX8_takesOut_86 ?_
      refine m_aldN 0 137 5 (by decide) rfl rfl hb rfl (by omega) (by decide) dX8_takesOut_87 ?_
      refine z_iconst (v := 1) dX8_takesOut_88 (by decide) ?_
      refine z_iadd dX8_takesOut_89 ?_
      refine m_astN 0 137 5 (by decide) rfl rfl hb rfl (by omega) (by decide) dX8_takesOut_90 ?_
      refine z_iload (j := 4) dX8_takesOut_91 rfl ?_
      refine z_istore_n [1, 2, 0, 3, 4] [(0, .ref b), (1, .int y), (2, .int ((nI (mvSrc B free j k)))), (3, .int x), (4, .int ((nI (mvSrc B free j k))))] dX8_takesOut_93 (by decide) rfl ?_
      have hM2 : mV B H T (mvK K (mvSrc B free j k) free) (mvK V (mvSrc B free j k) free) (va_up a1 0 (va_up (a1 0) 5 (a1 0 5 + 1)) 0) := mV_same (r := a1 0) hM1 (fun q q1 q3 q4 q5 q6 q7 q8 => by simp [va_up, q5])
      refine z_aload_n (j := 0) dX8_takesOut_94 rfl ?_
      refine z_iload_n (j := 2) dX8_takesOut_95 rfl ?_
      refine z_cV [.int ((nI (mvSrc B free j k)))] (some (.int ((optI (pulR B H T (mvK K (mvSrc B free j k) free) (mvSrc B free j k) H))))) yoX8_pulled yvX8_pulled rfl (by decide) lX8_139 (by omega) mW_obj rfl rfl (Nat.le_of_ble_eq_true rfl) (Nat.le_of_ble_eq_true rfl) dX8_takesOut_96 (z_room (by omega) (Nat.le_refl _) (Nat.le_refl _) (r_pulled (d := 0) hb (hM2) hsB ⟨rfl, rfl, rfl⟩)) ?_
      refine z_istore [1, 2, 3, 4, 0] [(0, .ref b), (1, .int y), (2, .int ((nI (mvSrc B free j k)))), (3, .int x), (4, .int ((optI (pulR B H T (mvK K (mvSrc B free j k) free) (mvSrc B free j k) H))))] dX8_takesOut_99 (by decide) rfl ?_
      refine z_goto (tgt := 68) dX8_takesOut_101 (by decide) ?_
      have hpl := pulF_step (n := m) (V := V) (c := a 0 5) hps
      have hpt2 := pulT_step hps hpt
      rw [hsrc] at hM2 hpt2 ⊢
      refine ih _ _ _ ((free + (k - j)) % B) hpt2 hM2 (mod_lt' okb) (by rw [← hsrc]; exact mvK_src hne) (fun K' V' c' a' e h1 h2 h3 h4 => hq K' V' c' a' (hpl.trans ?_) h1 h2 (fun q h9 q5 => ?_) (fun q q0 => ?_))
      · rw [← h91 5 (by decide), hsrc]; exact e
      · rw [h3 q h9 q5]; simp [va_up, q5, h91 q h9]
      · rw [h4 q q0]; simp [va_up, q0, hr1 q q0]

set_option maxHeartbeats 4000000 in
set_option maxRecDepth 100000 in
theorem r_takesOut_n {l : zL} {d kc ks n b free : Nat} {h : Nat → va_E} {s : Nat → Int32} {a : Nat → Nat → Int32} {Q : zQ} {x y : Int32} (hb : b + 14 ≤ n) (hq : ∀ a', a = a' → Q (.inl (some (.int x))) n (mW h b s a')) : Zj l mX8_takesOut (d + 3) kc ks 68 [(0, .ref b), (1, .int y), (2, .int ((nI free))), (3, .int x), (4, .int ((-1)))] [] n (mW h b s a) Q := by
  refine z_iload (j := 4) dX8_takesOut_68 rfl ?_
  refine z_iconst (v := (-1)) dX8_takesOut_70 (by decide) ?_
  refine z_icmp_eq (tgt := 104) dX8_takesOut_71 (by decide) (fun c_71 => ?_) (fun c_71 => absurd rfl c_71)
  refine z_iload_n (j := 3) dX8_takesOut_104 rfl ?_
  exact z_iret rfl dX8_takesOut_105 (hq a rfl)

set_option maxHeartbeats 4000000 in
set_option maxRecDepth 100000 in
theorem r_takesOut {l : zL} {d kc ks n b B H T : Nat} {h : Nat → va_E} {K V : Nat → Nat} {s : Nat → Int32} {a : Nat → Nat → Int32} {Q : zQ} (hb : b + 14 ≤ n) (hM : mV B H T K V (a 0)) {key bk : Nat} (hkey : key ≤ 9999) (hbw : bwS B K key = some bk) (hp : a 0 3 = 0 ∨ a 0 3 = 1) (hpt : pulT B H T 384 (va_up K bk 0) bk) (hq : ∀ K' V' c' a', takF B H T K V (a 0 5) (a 0 3) bk = (K', V', c') → mV B H T K' V' (a' 0) → a' 0 5 = c' → a' 0 8 = a 0 8 + 1 → (∀ k, k < 9 → k ≠ 5 → k ≠ 8 → a' 0 k = a 0 k) → (∀ q, q ≠ 0 → a' q = a q) → Q (.inl (some (.int (nI (V bk))))) n (mW h b s a')) : Zj l mX8_takesOut (d + 3) kc ks 0 [(0, .ref b), (1, .int ((nI key)))] [] n (mW h b s a) Q := by
  obtain ⟨okb, h2H, hH6, h1T, hT99, e0, e1, e2, ek, ev, ekv, ez⟩ := id hM
  have hle := okb.le
  obtain ⟨hbB, hKb⟩ := bwS_lt hbw
  refine z_aload_n (j := 0) dX8_takesOut_0 rfl ?_
  refine z_iload_n (j := 1) dX8_takesOut_1 rfl ?_
  refine z_cV [.int ((nI key))] (some (.int ((optI (bwS B K key))))) yoX8_bucketWith yvX8_bucketWith rfl (by decide) lX8_129 (by omega) mW_obj rfl rfl (Nat.le_of_ble_eq_true rfl) (Nat.le_of_ble_eq_true rfl) dX8_takesOut_2 (z_room (by omega) (Nat.le_refl _) (Nat.le_refl _) (r_bucketWith (d := 0) hb hM hkey ⟨rfl, rfl, rfl⟩)) ?_
  rw [show (optI (bwS B K key)) = (nI bk) from by rw [hbw]; rfl]
  refine z_istore_n [1, 2, 0] [(0, .ref b), (1, .int ((nI key))), (2, .int ((nI bk)))] dX8_takesOut_5 (by decide) rfl ?_
  refine z_aload_n (j := 0) dX8_takesOut_6 rfl ?_
  refine z_get (v := .ref (b + 1)) (by omega) mW_obj fX8_7 rfl dX8_takesOut_7 ?_
  refine z_bipush (v := 73) dX8_takesOut_10 (by decide) ?_
  refine z_iload_n (j := 2) dX8_takesOut_12 rfl ?_
  refine z_iadd dX8_takesOut_13 ?_
  refine m_aldN 0 137 (73 + bk) (by decide) rfl rfl hb (nI_add 73 _) (by omega) (by decide) dX8_takesOut_14 ?_
  rw [show (a 0 (73 + bk)) = (nI (V bk)) from ev bk (by omega)]
  refine z_istore_n [1, 2, 3, 0] [(0, .ref b), (1, .int ((nI key))), (2, .int ((nI bk))), (3, .int ((nI (V bk))))] dX8_takesOut_15 (by decide) rfl ?_
  refine z_aload_n (j := 0) dX8_takesOut_16 rfl ?_
  refine z_get (v := .ref (b + 1)) (by omega) mW_obj fX8_7 rfl dX8_takesOut_17 ?_
  refine z_bipush (v := 9) dX8_takesOut_20 (by decide) ?_
  refine z_iload_n (j := 2) dX8_takesOut_22 rfl ?_
  refine z_iadd dX8_takesOut_23 ?_
  refine z_iconst (v := 0) dX8_takesOut_24 (by decide) ?_
  refine m_astN 0 137 (9 + bk) (by decide) rfl rfl hb (nI_add 9 _) (by omega) (by decide) dX8_takesOut_25 ?_
  refine z_aload_n (j := 0) dX8_takesOut_26 rfl ?_
  refine z_get (v := .ref (b + 1)) (by omega) mW_obj fX8_7 rfl dX8_takesOut_27 ?_
  refine z_bipush (v := 73) dX8_takesOut_30 (by decide) ?_
  refine z_iload_n (j := 2) dX8_takesOut_32 rfl ?_
  refine z_iadd dX8_takesOut_33 ?_
  refine z_iconst (v := 0) dX8_takesOut_34 (by decide) ?_
  refine m_astN 0 137 (73 + bk) (by decide) rfl rfl hb (nI_add 73 _) (by omega) (by decide) dX8_takesOut_35 ?_
  refine z_aload_n (j := 0) dX8_takesOut_36 rfl ?_
  refine z_get (v := .ref (b + 1)) (by omega) mW_obj fX8_7 rfl dX8_takesOut_37 ?_
  refine z_bipush (v := 8) dX8_takesOut_40 (by decide) ?_
  refine z_dup2 rfl rfl dX8_takesOut_42 ?_
  refine m_aldN 0 137 8 (by decide) rfl rfl hb rfl (by omega) (by decide) dX8_takesOut_43 ?_
  refine z_iconst (v := 1) dX8_takesOut_44 (by decide) ?_
  refine z_iadd dX8_takesOut_45 ?_
  refine m_astN 0 137 8 (by decide) rfl rfl hb rfl (by omega) (by decide) dX8_takesOut_46 ?_
  have hM1 : mV B H T (va_up K bk 0) (va_up V bk 0) ((va_up (va_up (va_up a 0 (va_up (a 0) (9 + bk) 0)) 0 (va_up ((va_up a 0 (va_up (a 0) (9 + bk) 0)) 0) (73 + bk) 0)) 0 (va_up ((va_up (va_up a 0 (va_up (a 0) (9 + bk) 0)) 0 (va_up ((va_up a 0 (va_up (a 0) (9 + bk) 0)) 0) (73 + bk) 0)) 0) 8 (((va_up (va_up a 0 (va_up (a 0) (9 + bk) 0)) 0 (va_up ((va_up a 0 (va_up (a 0) (9 + bk) 0)) 0) (73 + bk) 0)) 0 8) + 1))) 0) := by
    refine mV_del (r := a 0) hM (fun k hk => ?_) (fun i hi => ?_) (fun i hi => ?_)
    · have x1 : ¬ k = 9 + bk := by omega
      have x2 : ¬ k = 73 + bk := by omega
      have x3 : ¬ k = 8 := by omega
      simp [va_up, x1, x2, x3]
    · have x2 : ¬ 9 + i = 73 + bk := by omega
      have x3 : ¬ 9 + i = 8 := by omega
      by_cases y1 : i = bk
      · subst y1; simp [va_up, x2, x3]
      · simp [va_up, x2, x3, y1]
    · have x2 : ¬ 73 + i = 9 + bk := by omega
      have x3 : ¬ 73 + i = 8 := by omega
      by_cases y1 : i = bk
      · subst y1; simp [va_up, x2, x3]
      · simp [va_up, x2, x3, y1]
  have h8 : (va_up (va_up (va_up a 0 (va_up (a 0) (9 + bk) 0)) 0 (va_up ((va_up a 0 (va_up (a 0) (9 + bk) 0)) 0) (73 + bk) 0)) 0 (va_up ((va_up (va_up a 0 (va_up (a 0) (9 + bk) 0)) 0 (va_up ((va_up a 0 (va_up (a 0) (9 + bk) 0)) 0) (73 + bk) 0)) 0) 8 (((va_up (va_up a 0 (va_up (a 0) (9 + bk) 0)) 0 (va_up ((va_up a 0 (va_up (a 0) (9 + bk) 0)) 0) (73 + bk) 0)) 0 8) + 1))) 0 8 = a 0 8 + 1 := by
    have x1 : ¬ 8 = 9 + bk := by omega
    have x2 : ¬ 8 = 73 + bk := by omega
    simp [va_up, x1, x2]
  have h9 : ∀ k, k < 9 → k ≠ 8 → (va_up (va_up (va_up a 0 (va_up (a 0) (9 + bk) 0)) 0 (va_up ((va_up a 0 (va_up (a 0) (9 + bk) 0)) 0) (73 + bk) 0)) 0 (va_up ((va_up (va_up a 0 (va_up (a 0) (9 + bk) 0)) 0 (va_up ((va_up a 0 (va_up (a 0) (9 + bk) 0)) 0) (73 + bk) 0)) 0) 8 (((va_up (va_up a 0 (va_up (a 0) (9 + bk) 0)) 0 (va_up ((va_up a 0 (va_up (a 0) (9 + bk) 0)) 0) (73 + bk) 0)) 0 8) + 1))) 0 k = a 0 k := fun k hk k8 => by
    have x1 : ¬ k = 9 + bk := by omega
    have x2 : ¬ k = 73 + bk := by omega
    simp [va_up, x1, x2, k8]
  have hr : ∀ q, q ≠ 0 → (va_up (va_up (va_up a 0 (va_up (a 0) (9 + bk) 0)) 0 (va_up ((va_up a 0 (va_up (a 0) (9 + bk) 0)) 0) (73 + bk) 0)) 0 (va_up ((va_up (va_up a 0 (va_up (a 0) (9 + bk) 0)) 0 (va_up ((va_up a 0 (va_up (a 0) (9 + bk) 0)) 0) (73 + bk) 0)) 0) 8 (((va_up (va_up a 0 (va_up (a 0) (9 + bk) 0)) 0 (va_up ((va_up a 0 (va_up (a 0) (9 + bk) 0)) 0) (73 + bk) 0)) 0 8) + 1))) q = a q := fun q q0 => by simp [va_up, q0]
  generalize (va_up (va_up (va_up a 0 (va_up (a 0) (9 + bk) 0)) 0 (va_up ((va_up a 0 (va_up (a 0) (9 + bk) 0)) 0) (73 + bk) 0)) 0 (va_up ((va_up (va_up a 0 (va_up (a 0) (9 + bk) 0)) 0 (va_up ((va_up a 0 (va_up (a 0) (9 + bk) 0)) 0) (73 + bk) 0)) 0) 8 (((va_up (va_up a 0 (va_up (a 0) (9 + bk) 0)) 0 (va_up ((va_up a 0 (va_up (a 0) (9 + bk) 0)) 0) (73 + bk) 0)) 0 8) + 1))) = a1 at hM1 h8 h9 hr ⊢
  have h3 : a1 0 3 = a 0 3 := h9 3 (by decide) (by decide)
  refine z_aload_n (j := 0) dX8_takesOut_47 rfl ?_
  refine z_get (v := .ref (b + 1)) (by omega) mW_obj fX8_7 rfl dX8_takesOut_48 ?_
  refine z_iconst (v := 3) dX8_takesOut_51 (by decide) ?_
  refine m_aldN 0 137 3 (by decide) rfl rfl hb rfl (by omega) (by decide) dX8_takesOut_52 ?_
  refine z_iconst (v := 1) dX8_takesOut_53 (by decide) ?_
  refine z_icmp_ne (tgt := 65) dX8_takesOut_54 (by decide) (fun c_54 => ?_) (fun c_54 => ?_)
  · refine z_iconst (v := (-1)) dX8_takesOut_65 (by decide) ?_
    refine z_istore [1, 2, 3, 4, 0] [(0, .ref b), (1, .int ((nI key))), (2, .int ((nI bk))), (3, .int ((nI (V bk)))), (4, .int ((-1)))] dX8_takesOut_66 (by decide) rfl ?_
    have h0 : a 0 3 = 0 := by
      rcases hp with h | h
      · exact h
      · exact absurd (h3.trans h) c_54
    exact r_takesOut_n hb (fun a' e => by subst e; exact hq _ _ (a 0 5) a1 (by rw [takF, if_pos h0]) hM1 (h9 5 (by decide) (by decide)) h8 (fun k hk k5 k8 => h9 k hk k8) hr)
  · refine z_aload_n (j := 0) dX8_takesOut_57 rfl ?_
    refine z_iload_n (j := 2) dX8_takesOut_58 rfl ?_
    refine z_cV [.int ((nI bk))] (some (.int ((optI (pulR B H T (va_up K bk 0) bk H))))) yoX8_pulled yvX8_pulled rfl (by decide) lX8_139 (by omega) mW_obj rfl rfl (Nat.le_of_ble_eq_true rfl) (Nat.le_of_ble_eq_true rfl) dX8_takesOut_59 (z_room (by omega) (Nat.le_refl _) (Nat.le_refl _) (r_pulled (d := 0) hb hM1 hbB ⟨rfl, rfl, rfl⟩)) ?_
    refine z_goto (tgt := 66) dX8_takesOut_62 (by decide) ?_
    refine z_istore [1, 2, 3, 4, 0] [(0, .ref b), (1, .int ((nI key))), (2, .int ((nI bk))), (3, .int ((nI (V bk)))), (4, .int ((optI (pulR B H T (va_up K bk 0) bk H))))] dX8_takesOut_66 (by decide) rfl ?_
    have h1 : ¬ a 0 3 = 0 := fun e => by
      rw [h3, e] at c_54
      exact absurd c_54 (by decide)
    exact r_pull_l hb 384 _ _ a1 bk hpt hM1 hbB (by simp [va_up]) (fun K' V' c' a' e h11 h12 h13 h14 => hq K' V' c' a' (by rw [takF, if_neg h1, ← h9 5 (by decide) (by decide)]; exact e) h11 h12 (by rw [h13 8 (by decide) (by decide), h8]) (fun k hk k5 k8 => by rw [h13 k hk k5, h9 k hk k8]) (fun q q0 => by rw [h14 q q0, hr q q0]))
