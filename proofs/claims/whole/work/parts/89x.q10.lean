/-! THE REFERENCE'S READER: which command -/

set_option maxHeartbeats 4000000 in
set_option maxRecDepth 100000 in
theorem m_word0 {l : zL} {d kc ks n b : Nat} {h : Nat → va_E} {a : Nat → Nat → Int32} {L : Nat} {x : Nat → Nat} {p : Nat} {S : zS} {Q : zQ} {s : Nat → Int32} (hb : b + 14 ≤ n) (hL : L ≤ 600) (hu : ∀ i, i < L → a 10 i = nI (x i)) (hx : ∀ i, x i < 256) (hp : p ≤ L) (h15 : s 15 = nI L) (h16 : s 16 = 0) (hT : rT L x (tS L x p) s) (hM : mT S (a 0)) (hqY : ∀ p' S', smp L x 0 p S = .inr (p', S') → ∀ s' a', mT S' (a' 0) → s' 23 = nI p' → s' 16 = 0 → s' 25 = s 25 → rF s a s' a' → Q (.inl (some (.int 1))) n (mW h b s' a')) (hqN : ∀ k off, smp L x 0 p S = .inl (k, off) → k ≠ 0 → k < 10 → ∀ s' a', s' 16 = nI k → s' 17 = nI off → rF s a s' a' → Q (.inl (some (.int 0))) n (mW h b s' a')) : Zj l mX8_readsWord (d + 10) kc ks 0 [(0, .ref b), (1, .int 0)] [] n (mW h b s a) Q := by
  refine z_iload_n (j := 1) dX8_readsWord_0 rfl ?_
  refine z_tableIn 51 52 dX8_readsWord_1 (by decide) (by decide) rfl (by decide) ?_
  refine z_aload_n (j := 0) dX8_readsWord_52 rfl ?_
  refine z_kV [] 0 0 kc ks yoX8_readsAdd yvX8_readsAdd rfl (by decide) lX8_274 (by omega) mW_obj rfl rfl (Nat.le_of_ble_eq_true rfl) (Nat.le_of_ble_eq_true rfl) dX8_readsWord_53 (by omega) (by omega) (z_room (by omega) (Nat.le_refl _) (Nat.le_refl _) (m_reads0 (d := 0) (S := S) hb hL hu hx hp h15 h16 hT hM (fun p2 S2 he s2 a2 g1 g2 g3 g4 g5 => ⟨rfl, ?_⟩) (fun k off he g0 g1 s2 a2 e1 e2 hF => ⟨rfl, ?_⟩)))
  · exact z_zret rfl rfl dX8_readsWord_56 (hqY p2 S2 he _ _ g1 g2 g3 g4 g5)
  · exact z_zret rfl rfl dX8_readsWord_56 (hqN k off he g0 g1 _ _ e1 e2 hF)

set_option maxHeartbeats 4000000 in
set_option maxRecDepth 100000 in
theorem m_word1 {l : zL} {d kc ks n b : Nat} {h : Nat → va_E} {a : Nat → Nat → Int32} {L : Nat} {x : Nat → Nat} {p : Nat} {S : zS} {Q : zQ} {s : Nat → Int32} (hb : b + 14 ≤ n) (hL : L ≤ 600) (hu : ∀ i, i < L → a 10 i = nI (x i)) (hx : ∀ i, x i < 256) (hp : p ≤ L) (h15 : s 15 = nI L) (h16 : s 16 = 0) (hT : rT L x (tS L x p) s) (hM : mT S (a 0)) (hqY : ∀ p' S', smp L x 1 p S = .inr (p', S') → ∀ s' a', mT S' (a' 0) → s' 23 = nI p' → s' 16 = 0 → s' 25 = s 25 → rF s a s' a' → Q (.inl (some (.int 1))) n (mW h b s' a')) (hqN : ∀ k off, smp L x 1 p S = .inl (k, off) → k ≠ 0 → k < 10 → ∀ s' a', s' 16 = nI k → s' 17 = nI off → rF s a s' a' → Q (.inl (some (.int 0))) n (mW h b s' a')) : Zj l mX8_readsWord (d + 10) kc ks 0 [(0, .ref b), (1, .int 1)] [] n (mW h b s a) Q := by
  refine z_iload_n (j := 1) dX8_readsWord_0 rfl ?_
  refine z_tableIn 56 57 dX8_readsWord_1 (by decide) (by decide) rfl (by decide) ?_
  refine z_aload_n (j := 0) dX8_readsWord_57 rfl ?_
  refine z_kV [] 0 0 kc ks yoX8_readsPut yvX8_readsPut rfl (by decide) lX8_277 (by omega) mW_obj rfl rfl (Nat.le_of_ble_eq_true rfl) (Nat.le_of_ble_eq_true rfl) dX8_readsWord_58 (by omega) (by omega) (z_room (by omega) (Nat.le_refl _) (Nat.le_refl _) (m_reads1 (d := 0) (S := S) hb hL hu hx hp h15 h16 hT hM (fun p2 S2 he s2 a2 g1 g2 g3 g4 g5 => ⟨rfl, ?_⟩) (fun k off he g0 g1 s2 a2 e1 e2 hF => ⟨rfl, ?_⟩)))
  · exact z_zret rfl rfl dX8_readsWord_61 (hqY p2 S2 he _ _ g1 g2 g3 g4 g5)
  · exact z_zret rfl rfl dX8_readsWord_61 (hqN k off he g0 g1 _ _ e1 e2 hF)

set_option maxHeartbeats 4000000 in
set_option maxRecDepth 100000 in
theorem m_word2 {l : zL} {d kc ks n b : Nat} {h : Nat → va_E} {a : Nat → Nat → Int32} {L : Nat} {x : Nat → Nat} {p : Nat} {S : zS} {Q : zQ} {s : Nat → Int32} (hb : b + 14 ≤ n) (hL : L ≤ 600) (hu : ∀ i, i < L → a 10 i = nI (x i)) (hx : ∀ i, x i < 256) (hp : p ≤ L) (h15 : s 15 = nI L) (h16 : s 16 = 0) (hT : rT L x (tS L x p) s) (hM : mT S (a 0)) (hqY : ∀ p' S', smp L x 2 p S = .inr (p', S') → ∀ s' a', mT S' (a' 0) → s' 23 = nI p' → s' 16 = 0 → s' 25 = s 25 → rF s a s' a' → Q (.inl (some (.int 1))) n (mW h b s' a')) (hqN : ∀ k off, smp L x 2 p S = .inl (k, off) → k ≠ 0 → k < 10 → ∀ s' a', s' 16 = nI k → s' 17 = nI off → rF s a s' a' → Q (.inl (some (.int 0))) n (mW h b s' a')) : Zj l mX8_readsWord (d + 10) kc ks 0 [(0, .ref b), (1, .int 2)] [] n (mW h b s a) Q := by
  refine z_iload_n (j := 1) dX8_readsWord_0 rfl ?_
  refine z_tableIn 61 62 dX8_readsWord_1 (by decide) (by decide) rfl (by decide) ?_
  refine z_aload_n (j := 0) dX8_readsWord_62 rfl ?_
  refine z_kV [] 0 0 kc ks yoX8_readsRow yvX8_readsRow rfl (by decide) lX8_280 (by omega) mW_obj rfl rfl (Nat.le_of_ble_eq_true rfl) (Nat.le_of_ble_eq_true rfl) dX8_readsWord_63 (by omega) (by omega) (z_room (by omega) (Nat.le_refl _) (Nat.le_refl _) (m_reads2 (d := 0) (S := S) hb hL hu hx hp h15 h16 hT hM (fun p2 S2 he s2 a2 g1 g2 g3 g4 g5 => ⟨rfl, ?_⟩) (fun k off he g0 g1 s2 a2 e1 e2 hF => ⟨rfl, ?_⟩)))
  · exact z_zret rfl rfl dX8_readsWord_66 (hqY p2 S2 he _ _ g1 g2 g3 g4 g5)
  · exact z_zret rfl rfl dX8_readsWord_66 (hqN k off he g0 g1 _ _ e1 e2 hF)

set_option maxHeartbeats 4000000 in
set_option maxRecDepth 100000 in
theorem m_word3 {l : zL} {d kc ks n b : Nat} {h : Nat → va_E} {a : Nat → Nat → Int32} {L : Nat} {x : Nat → Nat} {p : Nat} {S : zS} {Q : zQ} {s : Nat → Int32} (hb : b + 14 ≤ n) (hL : L ≤ 600) (hu : ∀ i, i < L → a 10 i = nI (x i)) (hx : ∀ i, x i < 256) (hp : p ≤ L) (h15 : s 15 = nI L) (h16 : s 16 = 0) (hT : rT L x (tS L x p) s) (hM : mT S (a 0)) (hqY : ∀ p' S', smp L x 3 p S = .inr (p', S') → ∀ s' a', mT S' (a' 0) → s' 23 = nI p' → s' 16 = 0 → s' 25 = s 25 → rF s a s' a' → Q (.inl (some (.int 1))) n (mW h b s' a')) (hqN : ∀ k off, smp L x 3 p S = .inl (k, off) → k ≠ 0 → k < 10 → ∀ s' a', s' 16 = nI k → s' 17 = nI off → rF s a s' a' → Q (.inl (some (.int 0))) n (mW h b s' a')) : Zj l mX8_readsWord (d + 10) kc ks 0 [(0, .ref b), (1, .int 3)] [] n (mW h b s a) Q := by
  refine z_iload_n (j := 1) dX8_readsWord_0 rfl ?_
  refine z_tableIn 66 67 dX8_readsWord_1 (by decide) (by decide) rfl (by decide) ?_
  refine z_aload_n (j := 0) dX8_readsWord_67 rfl ?_
  refine z_kV [] 0 0 kc ks yoX8_readsRemove yvX8_readsRemove rfl (by decide) lX8_283 (by omega) mW_obj rfl rfl (Nat.le_of_ble_eq_true rfl) (Nat.le_of_ble_eq_true rfl) dX8_readsWord_68 (by omega) (by omega) (z_room (by omega) (Nat.le_refl _) (Nat.le_refl _) (m_reads3 (d := 0) (S := S) hb hL hu hx hp h15 h16 hT hM (fun p2 S2 he s2 a2 g1 g2 g3 g4 g5 => ⟨rfl, ?_⟩) (fun k off he g0 g1 s2 a2 e1 e2 hF => ⟨rfl, ?_⟩)))
  · exact z_zret rfl rfl dX8_readsWord_71 (hqY p2 S2 he _ _ g1 g2 g3 g4 g5)
  · exact z_zret rfl rfl dX8_readsWord_71 (hqN k off he g0 g1 _ _ e1 e2 hF)

set_option maxHeartbeats 4000000 in
set_option maxRecDepth 100000 in
theorem m_word4 {l : zL} {d kc ks n b : Nat} {h : Nat → va_E} {a : Nat → Nat → Int32} {L : Nat} {x : Nat → Nat} {p : Nat} {S : zS} {Q : zQ} {s : Nat → Int32} (hb : b + 14 ≤ n) (hL : L ≤ 600) (hu : ∀ i, i < L → a 10 i = nI (x i)) (hx : ∀ i, x i < 256) (hp : p ≤ L) (h15 : s 15 = nI L) (h16 : s 16 = 0) (hT : rT L x (tS L x p) s) (hM : mT S (a 0)) (hqY : ∀ p' S', smp L x 4 p S = .inr (p', S') → ∀ s' a', mT S' (a' 0) → s' 23 = nI p' → s' 16 = 0 → s' 25 = s 25 → rF s a s' a' → Q (.inl (some (.int 1))) n (mW h b s' a')) (hqN : ∀ k off, smp L x 4 p S = .inl (k, off) → k ≠ 0 → k < 10 → ∀ s' a', s' 16 = nI k → s' 17 = nI off → rF s a s' a' → Q (.inl (some (.int 0))) n (mW h b s' a')) : Zj l mX8_readsWord (d + 10) kc ks 0 [(0, .ref b), (1, .int 4)] [] n (mW h b s a) Q := by
  refine z_iload_n (j := 1) dX8_readsWord_0 rfl ?_
  refine z_tableIn 71 72 dX8_readsWord_1 (by decide) (by decide) rfl (by decide) ?_
  refine z_aload_n (j := 0) dX8_readsWord_72 rfl ?_
  refine z_iconst (v := 1) dX8_readsWord_73 (by decide) ?_
  refine z_iconst (v := 2) dX8_readsWord_74 (by decide) ?_
  refine z_bipush (v := 6) dX8_readsWord_75 (by decide) ?_
  refine z_kV [.int 1, .int 2, .int 6] 0 0 kc ks yoX8_readsSetting yvX8_readsSetting rfl (by decide) lX8_286 (by omega) mW_obj rfl rfl (Nat.le_of_ble_eq_true rfl) (Nat.le_of_ble_eq_true rfl) dX8_readsWord_77 (by omega) (by omega) (z_room (by omega) (Nat.le_refl _) (Nat.le_refl _) (m_reads4 (d := 0) (S := S) hb hL hu hx hp h15 h16 hT hM (fun p2 S2 he s2 a2 g1 g2 g3 g4 g5 => ⟨rfl, ?_⟩) (fun k off he g0 g1 s2 a2 e1 e2 hF => ⟨rfl, ?_⟩)))
  · exact z_zret rfl rfl dX8_readsWord_80 (hqY p2 S2 he _ _ g1 g2 g3 g4 g5)
  · exact z_zret rfl rfl dX8_readsWord_80 (hqN k off he g0 g1 _ _ e1 e2 hF)

set_option maxHeartbeats 4000000 in
set_option maxRecDepth 100000 in
theorem m_word5 {l : zL} {d kc ks n b : Nat} {h : Nat → va_E} {a : Nat → Nat → Int32} {L : Nat} {x : Nat → Nat} {p : Nat} {S : zS} {Q : zQ} {s : Nat → Int32} (hb : b + 14 ≤ n) (hL : L ≤ 600) (hu : ∀ i, i < L → a 10 i = nI (x i)) (hx : ∀ i, x i < 256) (hp : p ≤ L) (h15 : s 15 = nI L) (h16 : s 16 = 0) (hT : rT L x (tS L x p) s) (hM : mT S (a 0)) (hqY : ∀ p' S', smp L x 5 p S = .inr (p', S') → ∀ s' a', mT S' (a' 0) → s' 23 = nI p' → s' 16 = 0 → s' 25 = s 25 → rF s a s' a' → Q (.inl (some (.int 1))) n (mW h b s' a')) (hqN : ∀ k off, smp L x 5 p S = .inl (k, off) → k ≠ 0 → k < 10 → ∀ s' a', s' 16 = nI k → s' 17 = nI off → rF s a s' a' → Q (.inl (some (.int 0))) n (mW h b s' a')) : Zj l mX8_readsWord (d + 10) kc ks 0 [(0, .ref b), (1, .int 5)] [] n (mW h b s a) Q := by
  refine z_iload_n (j := 1) dX8_readsWord_0 rfl ?_
  refine z_tableIn 80 81 dX8_readsWord_1 (by decide) (by decide) rfl (by decide) ?_
  refine z_aload_n (j := 0) dX8_readsWord_81 rfl ?_
  refine z_iconst (v := 2) dX8_readsWord_82 (by decide) ?_
  refine z_iconst (v := 1) dX8_readsWord_83 (by decide) ?_
  refine z_bipush (v := 99) dX8_readsWord_84 (by decide) ?_
  refine z_kV [.int 2, .int 1, .int 99] 0 0 kc ks yoX8_readsSetting yvX8_readsSetting rfl (by decide) lX8_286 (by omega) mW_obj rfl rfl (Nat.le_of_ble_eq_true rfl) (Nat.le_of_ble_eq_true rfl) dX8_readsWord_86 (by omega) (by omega) (z_room (by omega) (Nat.le_refl _) (Nat.le_refl _) (m_reads5 (d := 0) (S := S) hb hL hu hx hp h15 h16 hT hM (fun p2 S2 he s2 a2 g1 g2 g3 g4 g5 => ⟨rfl, ?_⟩) (fun k off he g0 g1 s2 a2 e1 e2 hF => ⟨rfl, ?_⟩)))
  · exact z_zret rfl rfl dX8_readsWord_89 (hqY p2 S2 he _ _ g1 g2 g3 g4 g5)
  · exact z_zret rfl rfl dX8_readsWord_89 (hqN k off he g0 g1 _ _ e1 e2 hF)

set_option maxHeartbeats 4000000 in
set_option maxRecDepth 100000 in
theorem m_word6 {l : zL} {d kc ks n b : Nat} {h : Nat → va_E} {a : Nat → Nat → Int32} {L : Nat} {x : Nat → Nat} {p : Nat} {S : zS} {Q : zQ} {s : Nat → Int32} (hb : b + 14 ≤ n) (hL : L ≤ 600) (hu : ∀ i, i < L → a 10 i = nI (x i)) (hx : ∀ i, x i < 256) (hp : p ≤ L) (h15 : s 15 = nI L) (h16 : s 16 = 0) (hT : rT L x (tS L x p) s) (hM : mT S (a 0)) (hqY : ∀ p' S', smp L x 6 p S = .inr (p', S') → ∀ s' a', mT S' (a' 0) → s' 23 = nI p' → s' 16 = 0 → s' 25 = s 25 → rF s a s' a' → Q (.inl (some (.int 1))) n (mW h b s' a')) (hqN : ∀ k off, smp L x 6 p S = .inl (k, off) → k ≠ 0 → k < 10 → ∀ s' a', s' 16 = nI k → s' 17 = nI off → rF s a s' a' → Q (.inl (some (.int 0))) n (mW h b s' a')) : Zj l mX8_readsWord (d + 10) kc ks 0 [(0, .ref b), (1, .int 6)] [] n (mW h b s a) Q := by
  refine z_iload_n (j := 1) dX8_readsWord_0 rfl ?_
  refine z_tableIn 89 90 dX8_readsWord_1 (by decide) (by decide) rfl (by decide) ?_
  refine z_aload_n (j := 0) dX8_readsWord_90 rfl ?_
  refine z_iconst (v := 1) dX8_readsWord_91 (by decide) ?_
  refine z_kV [.int 1] 0 0 kc ks yoX8_readsPulling yvX8_readsPulling rfl (by decide) lX8_289 (by omega) mW_obj rfl rfl (Nat.le_of_ble_eq_true rfl) (Nat.le_of_ble_eq_true rfl) dX8_readsWord_92 (by omega) (by omega) (z_room (by omega) (Nat.le_refl _) (Nat.le_refl _) (m_reads6 (d := 0) (S := S) hb hL hu hx hp h15 h16 hT hM (fun p2 S2 he s2 a2 g1 g2 g3 g4 g5 => ⟨rfl, ?_⟩) (fun k off he g0 g1 s2 a2 e1 e2 hF => ⟨rfl, ?_⟩)))
  · exact z_zret rfl rfl dX8_readsWord_95 (hqY p2 S2 he _ _ g1 g2 g3 g4 g5)
  · exact z_zret rfl rfl dX8_readsWord_95 (hqN k off he g0 g1 _ _ e1 e2 hF)

set_option maxHeartbeats 4000000 in
set_option maxRecDepth 100000 in
theorem m_word7 {l : zL} {d kc ks n b : Nat} {h : Nat → va_E} {a : Nat → Nat → Int32} {L : Nat} {x : Nat → Nat} {p : Nat} {S : zS} {Q : zQ} {s : Nat → Int32} (hb : b + 14 ≤ n) (hL : L ≤ 600) (hu : ∀ i, i < L → a 10 i = nI (x i)) (hx : ∀ i, x i < 256) (hp : p ≤ L) (h15 : s 15 = nI L) (h16 : s 16 = 0) (hT : rT L x (tS L x p) s) (hM : mT S (a 0)) (hqY : ∀ p' S', smp L x 7 p S = .inr (p', S') → ∀ s' a', mT S' (a' 0) → s' 23 = nI p' → s' 16 = 0 → s' 25 = s 25 → rF s a s' a' → Q (.inl (some (.int 1))) n (mW h b s' a')) (hqN : ∀ k off, smp L x 7 p S = .inl (k, off) → k ≠ 0 → k < 10 → ∀ s' a', s' 16 = nI k → s' 17 = nI off → rF s a s' a' → Q (.inl (some (.int 0))) n (mW h b s' a')) : Zj l mX8_readsWord (d + 10) kc ks 0 [(0, .ref b), (1, .int 7)] [] n (mW h b s a) Q := by
  refine z_iload_n (j := 1) dX8_readsWord_0 rfl ?_
  refine z_tableIn 95 96 dX8_readsWord_1 (by decide) (by decide) rfl (by decide) ?_
  refine z_aload_n (j := 0) dX8_readsWord_96 rfl ?_
  refine z_iconst (v := 0) dX8_readsWord_97 (by decide) ?_
  refine z_kV [.int 0] 0 0 kc ks yoX8_readsPulling yvX8_readsPulling rfl (by decide) lX8_289 (by omega) mW_obj rfl rfl (Nat.le_of_ble_eq_true rfl) (Nat.le_of_ble_eq_true rfl) dX8_readsWord_98 (by omega) (by omega) (z_room (by omega) (Nat.le_refl _) (Nat.le_refl _) (m_reads7 (d := 0) (S := S) hb hL hu hx hp h15 h16 hT hM (fun p2 S2 he s2 a2 g1 g2 g3 g4 g5 => ⟨rfl, ?_⟩) (fun k off he g0 g1 s2 a2 e1 e2 hF => ⟨rfl, ?_⟩)))
  · exact z_zret rfl rfl dX8_readsWord_101 (hqY p2 S2 he _ _ g1 g2 g3 g4 g5)
  · exact z_zret rfl rfl dX8_readsWord_101 (hqN k off he g0 g1 _ _ e1 e2 hF)

set_option maxHeartbeats 4000000 in
set_option maxRecDepth 100000 in
theorem m_word8 {l : zL} {d kc ks n b : Nat} {h : Nat → va_E} {a : Nat → Nat → Int32} {L : Nat} {x : Nat → Nat} {p : Nat} {S : zS} {Q : zQ} {s : Nat → Int32} (hb : b + 14 ≤ n) (hL : L ≤ 600) (hu : ∀ i, i < L → a 10 i = nI (x i)) (hx : ∀ i, x i < 256) (hp : p ≤ L) (h15 : s 15 = nI L) (h16 : s 16 = 0) (hT : rT L x (tS L x p) s) (hM : mT S (a 0)) (hqY : ∀ p' S', smp L x 8 p S = .inr (p', S') → ∀ s' a', mT S' (a' 0) → s' 23 = nI p' → s' 16 = 0 → s' 25 = s 25 → rF s a s' a' → Q (.inl (some (.int 1))) n (mW h b s' a')) (hqN : ∀ k off, smp L x 8 p S = .inl (k, off) → k ≠ 0 → k < 10 → ∀ s' a', s' 16 = nI k → s' 17 = nI off → rF s a s' a' → Q (.inl (some (.int 0))) n (mW h b s' a')) : Zj l mX8_readsWord (d + 10) kc ks 0 [(0, .ref b), (1, .int 8)] [] n (mW h b s a) Q := by
  refine z_iload_n (j := 1) dX8_readsWord_0 rfl ?_
  refine z_tableIn 101 102 dX8_readsWord_1 (by decide) (by decide) rfl (by decide) ?_
  refine z_aload_n (j := 0) dX8_readsWord_102 rfl ?_
  refine z_kV [] 0 0 kc ks yoX8_readsGrow yvX8_readsGrow rfl (by decide) lX8_292 (by omega) mW_obj rfl rfl (Nat.le_of_ble_eq_true rfl) (Nat.le_of_ble_eq_true rfl) dX8_readsWord_103 (by omega) (by omega) (z_room (by omega) (Nat.le_refl _) (Nat.le_refl _) (m_reads8 (d := 0) (S := S) hb hL hu hx hp h15 h16 hT hM (fun p2 S2 he s2 a2 g1 g2 g3 g4 g5 => ⟨rfl, ?_⟩) (fun k off he g0 g1 s2 a2 e1 e2 hF => ⟨rfl, ?_⟩)))
  · exact z_zret rfl rfl dX8_readsWord_106 (hqY p2 S2 he _ _ g1 g2 g3 g4 g5)
  · exact z_zret rfl rfl dX8_readsWord_106 (hqN k off he g0 g1 _ _ e1 e2 hF)

set_option maxHeartbeats 4000000 in
set_option maxRecDepth 100000 in
theorem m_word9 {l : zL} {d kc ks n b : Nat} {h : Nat → va_E} {a : Nat → Nat → Int32} {L : Nat} {x : Nat → Nat} {p : Nat} {S : zS} {Q : zQ} {s : Nat → Int32} (hb : b + 14 ≤ n) (hL : L ≤ 600) (hu : ∀ i, i < L → a 10 i = nI (x i)) (hx : ∀ i, x i < 256) (hp : p ≤ L) (h15 : s 15 = nI L) (h16 : s 16 = 0) (hT : rT L x (tS L x p) s) (hM : mT S (a 0)) (hqY : ∀ p' S', smp L x 9 p S = .inr (p', S') → ∀ s' a', mT S' (a' 0) → s' 23 = nI p' → s' 16 = 0 → s' 25 = s 25 → rF s a s' a' → Q (.inl (some (.int 1))) n (mW h b s' a')) (hqN : ∀ k off, smp L x 9 p S = .inl (k, off) → k ≠ 0 → k < 10 → ∀ s' a', s' 16 = nI k → s' 17 = nI off → rF s a s' a' → Q (.inl (some (.int 0))) n (mW h b s' a')) : Zj l mX8_readsWord (d + 10) kc ks 0 [(0, .ref b), (1, .int 9)] [] n (mW h b s a) Q := by
  refine z_iload_n (j := 1) dX8_readsWord_0 rfl ?_
  refine z_tableOut 107 dX8_readsWord_1 (by decide) (by decide) ?_
  refine z_aload_n (j := 0) dX8_readsWord_107 rfl ?_
  refine z_kV [] 0 0 kc ks yoX8_readsClear yvX8_readsClear rfl (by decide) lX8_295 (by omega) mW_obj rfl rfl (Nat.le_of_ble_eq_true rfl) (Nat.le_of_ble_eq_true rfl) dX8_readsWord_108 (by omega) (by omega) (z_room (by omega) (Nat.le_refl _) (Nat.le_refl _) (m_reads9 (d := 0) (S := S) hb hL hu hx hp h15 h16 hT hM (fun p2 S2 he s2 a2 g1 g2 g3 g4 g5 => ⟨rfl, ?_⟩) (fun k off he g0 g1 s2 a2 e1 e2 hF => ⟨rfl, ?_⟩)))
  · exact z_zret rfl rfl dX8_readsWord_111 (hqY p2 S2 he _ _ g1 g2 g3 g4 g5)
  · exact z_zret rfl rfl dX8_readsWord_111 (hqN k off he g0 g1 _ _ e1 e2 hF)

set_option maxHeartbeats 4000000 in
set_option maxRecDepth 100000 in
theorem m_laterWord {l : zL} {d kc ks n b : Nat} {h : Nat → va_E} {a : Nat → Nat → Int32} {L : Nat} {x : Nat → Nat} {st : Nat} {Q : zQ} {s : Nat → Int32} (hb : b + 14 ≤ n) (hL : L ≤ 600) (hu : ∀ i, i < L → a 10 i = nI (x i)) (hx : ∀ i, x i < 256) (hst : st ≤ L) (hT : rT L x st s) (hno : ∀ j, j < 6 → ¬ wIs L x st j = true) (hq : Q (.inl (some (.int (optI (wId L x st))))) n (mW h b s a)) : Zj l mX8_laterWord (d + 5) kc ks 0 [(0, .ref b)] [] n (mW h b s a) Q := by
  refine z_aload_n (j := 0) dX8_laterWord_0 rfl ?_
  refine z_ldcS (tx := "pull") (a := zB + 27 + 6) (by decide +kernel) dX8_laterWord_1 ?_
  refine z_kV [.ref ((zB + 27 + 6))] 0 0 kc ks yoX8_says yvX8_says rfl (by decide) lX8_235 (by omega) mW_obj rfl rfl (Nat.le_of_ble_eq_true rfl) (Nat.le_of_ble_eq_true rfl) dX8_laterWord_3 (by omega) (by omega) (z_room (by omega) (Nat.le_refl _) (Nat.le_refl _) (m_says (d := 0) (w := 6) hb hL hu hx (by decide) hT.2.1 hT.1 hT.2.2.1 hst ⟨rfl, ?_⟩))
  refine z_if_eq (tgt := 14) dX8_laterWord_6 (by decide) (fun czq6 => ?_) (fun czq6 => ?_)
  · refine z_aload_n (j := 0) dX8_laterWord_14 rfl ?_
    refine z_ldcS (tx := "lie") (a := zB + 27 + 7) (by decide +kernel) dX8_laterWord_15 ?_
    refine z_kV [.ref ((zB + 27 + 7))] 0 0 kc ks yoX8_says yvX8_says rfl (by decide) lX8_235 (by omega) mW_obj rfl rfl (Nat.le_of_ble_eq_true rfl) (Nat.le_of_ble_eq_true rfl) dX8_laterWord_17 (by omega) (by omega) (z_room (by omega) (Nat.le_refl _) (Nat.le_refl _) (m_says (d := 0) (w := 7) hb hL hu hx (by decide) hT.2.1 hT.1 hT.2.2.1 hst ⟨rfl, ?_⟩))
    refine z_if_eq (tgt := 28) dX8_laterWord_20 (by decide) (fun czq20 => ?_) (fun czq20 => ?_)
    · refine z_aload_n (j := 0) dX8_laterWord_28 rfl ?_
      refine z_ldcSW (tx := "grow") (a := zB + 27 + 8) (by decide +kernel) dX8_laterWord_29 ?_
      refine z_kV [.ref ((zB + 27 + 8))] 0 0 kc ks yoX8_says yvX8_says rfl (by decide) lX8_235 (by omega) mW_obj rfl rfl (Nat.le_of_ble_eq_true rfl) (Nat.le_of_ble_eq_true rfl) dX8_laterWord_32 (by omega) (by omega) (z_room (by omega) (Nat.le_refl _) (Nat.le_refl _) (m_says (d := 0) (w := 8) hb hL hu hx (by decide) hT.2.1 hT.1 hT.2.2.1 hst ⟨rfl, ?_⟩))
      refine z_if_eq (tgt := 43) dX8_laterWord_35 (by decide) (fun czq35 => ?_) (fun czq35 => ?_)
      · refine z_aload_n (j := 0) dX8_laterWord_43 rfl ?_
        refine z_ldcSW (tx := "clear") (a := zB + 27 + 9) (by decide +kernel) dX8_laterWord_44 ?_
        refine z_kV [.ref ((zB + 27 + 9))] 0 0 kc ks yoX8_says yvX8_says rfl (by decide) lX8_235 (by omega) mW_obj rfl rfl (Nat.le_of_ble_eq_true rfl) (Nat.le_of_ble_eq_true rfl) dX8_laterWord_47 (by omega) (by omega) (z_room (by omega) (Nat.le_refl _) (Nat.le_refl _) (m_says (d := 0) (w := 9) hb hL hu hx (by decide) hT.2.1 hT.1 hT.2.2.1 hst ⟨rfl, ?_⟩))
        refine z_if_eq (tgt := 58) dX8_laterWord_50 (by decide) (fun czq50 => ?_) (fun czq50 => ?_)
        · refine z_aload_n (j := 0) dX8_laterWord_58 rfl ?_
          refine z_ldcSW (tx := "repeat") (a := zB + 27 + 10) (by decide +kernel) dX8_laterWord_59 ?_
          refine z_kV [.ref ((zB + 27 + 10))] 0 0 kc ks yoX8_says yvX8_says rfl (by decide) lX8_235 (by omega) mW_obj rfl rfl (Nat.le_of_ble_eq_true rfl) (Nat.le_of_ble_eq_true rfl) dX8_laterWord_62 (by omega) (by omega) (z_room (by omega) (Nat.le_refl _) (Nat.le_refl _) (m_says (d := 0) (w := 10) hb hL hu hx (by decide) hT.2.1 hT.1 hT.2.2.1 hst ⟨rfl, ?_⟩))
          refine z_if_eq (tgt := 73) dX8_laterWord_65 (by decide) (fun czq65 => ?_) (fun czq65 => ?_)
          · refine z_iconst (v := (-1)) dX8_laterWord_73 (by decide) ?_
            exact z_iret rfl dX8_laterWord_74 (by
                rw [wId_none (fun j hj => by
                  by_cases h6 : j < 6
                  · exact Bool.eq_false_iff.mpr (hno j h6)
                  · rcases (show j = 6 ∨ j = 7 ∨ j = 8 ∨ j = 9 ∨ j = 10 by omega) with rfl | rfl | rfl | rfl | rfl
                    · exact Bool.eq_false_iff.mpr (bI_0.mp czq6)
                    · exact Bool.eq_false_iff.mpr (bI_0.mp czq20)
                    · exact Bool.eq_false_iff.mpr (bI_0.mp czq35)
                    · exact Bool.eq_false_iff.mpr (bI_0.mp czq50)
                    · exact Bool.eq_false_iff.mpr (bI_0.mp czq65))] at hq
                exact hq)
          · refine z_bipush (v := 10) dX8_laterWord_68 (by decide) ?_
            refine z_goto (tgt := 74) dX8_laterWord_70 (by decide) ?_
            exact z_iret rfl dX8_laterWord_74 (by
                rw [wId_of (by decide) (bI_n.mp czq65)] at hq
                exact hq)
        · refine z_bipush (v := 9) dX8_laterWord_53 (by decide) ?_
          refine z_goto (tgt := 74) dX8_laterWord_55 (by decide) ?_
          exact z_iret rfl dX8_laterWord_74 (by
              rw [wId_of (by decide) (bI_n.mp czq50)] at hq
              exact hq)
      · refine z_bipush (v := 8) dX8_laterWord_38 (by decide) ?_
        refine z_goto (tgt := 74) dX8_laterWord_40 (by decide) ?_
        exact z_iret rfl dX8_laterWord_74 (by
            rw [wId_of (by decide) (bI_n.mp czq35)] at hq
            exact hq)
    · refine z_bipush (v := 7) dX8_laterWord_23 (by decide) ?_
      refine z_goto (tgt := 74) dX8_laterWord_25 (by decide) ?_
      exact z_iret rfl dX8_laterWord_74 (by
          rw [wId_of (by decide) (bI_n.mp czq20)] at hq
          exact hq)
  · refine z_bipush (v := 6) dX8_laterWord_9 (by decide) ?_
    refine z_goto (tgt := 74) dX8_laterWord_11 (by decide) ?_
    exact z_iret rfl dX8_laterWord_74 (by
        rw [wId_of (by decide) (bI_n.mp czq6)] at hq
        exact hq)

set_option maxHeartbeats 4000000 in
set_option maxRecDepth 100000 in
theorem m_wordAhead {l : zL} {d kc ks n b : Nat} {h : Nat → va_E} {a : Nat → Nat → Int32} {L : Nat} {x : Nat → Nat} {st : Nat} {Q : zQ} {s : Nat → Int32} (hb : b + 14 ≤ n) (hL : L ≤ 600) (hu : ∀ i, i < L → a 10 i = nI (x i)) (hx : ∀ i, x i < 256) (hst : st ≤ L) (hT : rT L x st s) (hq : Q (.inl (some (.int (optI (wId L x st))))) n (mW h b s a)) : Zj l mX8_wordAhead (d + 6) kc ks 0 [(0, .ref b)] [] n (mW h b s a) Q := by
  refine z_aload_n (j := 0) dX8_wordAhead_0 rfl ?_
  refine z_ldcS (tx := "add") (a := zB + 27 + 0) (by decide +kernel) dX8_wordAhead_1 ?_
  refine z_kV [.ref ((zB + 27 + 0))] 0 0 kc ks yoX8_says yvX8_says rfl (by decide) lX8_235 (by omega) mW_obj rfl rfl (Nat.le_of_ble_eq_true rfl) (Nat.le_of_ble_eq_true rfl) dX8_wordAhead_3 (by omega) (by omega) (z_room (by omega) (Nat.le_refl _) (Nat.le_refl _) (m_says (d := 0) (w := 0) hb hL hu hx (by decide) hT.2.1 hT.1 hT.2.2.1 hst ⟨rfl, ?_⟩))
  refine z_if_eq (tgt := 13) dX8_wordAhead_6 (by decide) (fun czq6 => ?_) (fun czq6 => ?_)
  · refine z_aload_n (j := 0) dX8_wordAhead_13 rfl ?_
    refine z_ldcS (tx := "put") (a := zB + 27 + 1) (by decide +kernel) dX8_wordAhead_14 ?_
    refine z_kV [.ref ((zB + 27 + 1))] 0 0 kc ks yoX8_says yvX8_says rfl (by decide) lX8_235 (by omega) mW_obj rfl rfl (Nat.le_of_ble_eq_true rfl) (Nat.le_of_ble_eq_true rfl) dX8_wordAhead_16 (by omega) (by omega) (z_room (by omega) (Nat.le_refl _) (Nat.le_refl _) (m_says (d := 0) (w := 1) hb hL hu hx (by decide) hT.2.1 hT.1 hT.2.2.1 hst ⟨rfl, ?_⟩))
    refine z_if_eq (tgt := 26) dX8_wordAhead_19 (by decide) (fun czq19 => ?_) (fun czq19 => ?_)
    · refine z_aload_n (j := 0) dX8_wordAhead_26 rfl ?_
      refine z_ldcS (tx := "row") (a := zB + 27 + 2) (by decide +kernel) dX8_wordAhead_27 ?_
      refine z_kV [.ref ((zB + 27 + 2))] 0 0 kc ks yoX8_says yvX8_says rfl (by decide) lX8_235 (by omega) mW_obj rfl rfl (Nat.le_of_ble_eq_true rfl) (Nat.le_of_ble_eq_true rfl) dX8_wordAhead_29 (by omega) (by omega) (z_room (by omega) (Nat.le_refl _) (Nat.le_refl _) (m_says (d := 0) (w := 2) hb hL hu hx (by decide) hT.2.1 hT.1 hT.2.2.1 hst ⟨rfl, ?_⟩))
      refine z_if_eq (tgt := 39) dX8_wordAhead_32 (by decide) (fun czq32 => ?_) (fun czq32 => ?_)
      · refine z_aload_n (j := 0) dX8_wordAhead_39 rfl ?_
        refine z_ldcS (tx := "remove") (a := zB + 27 + 3) (by decide +kernel) dX8_wordAhead_40 ?_
        refine z_kV [.ref ((zB + 27 + 3))] 0 0 kc ks yoX8_says yvX8_says rfl (by decide) lX8_235 (by omega) mW_obj rfl rfl (Nat.le_of_ble_eq_true rfl) (Nat.le_of_ble_eq_true rfl) dX8_wordAhead_42 (by omega) (by omega) (z_room (by omega) (Nat.le_refl _) (Nat.le_refl _) (m_says (d := 0) (w := 3) hb hL hu hx (by decide) hT.2.1 hT.1 hT.2.2.1 hst ⟨rfl, ?_⟩))
        refine z_if_eq (tgt := 52) dX8_wordAhead_45 (by decide) (fun czq45 => ?_) (fun czq45 => ?_)
        · refine z_aload_n (j := 0) dX8_wordAhead_52 rfl ?_
          refine z_ldcS (tx := "near") (a := zB + 27 + 4) (by decide +kernel) dX8_wordAhead_53 ?_
          refine z_kV [.ref ((zB + 27 + 4))] 0 0 kc ks yoX8_says yvX8_says rfl (by decide) lX8_235 (by omega) mW_obj rfl rfl (Nat.le_of_ble_eq_true rfl) (Nat.le_of_ble_eq_true rfl) dX8_wordAhead_55 (by omega) (by omega) (z_room (by omega) (Nat.le_refl _) (Nat.le_refl _) (m_says (d := 0) (w := 4) hb hL hu hx (by decide) hT.2.1 hT.1 hT.2.2.1 hst ⟨rfl, ?_⟩))
          refine z_if_eq (tgt := 65) dX8_wordAhead_58 (by decide) (fun czq58 => ?_) (fun czq58 => ?_)
          · refine z_aload_n (j := 0) dX8_wordAhead_65 rfl ?_
            refine z_ldcS (tx := "times") (a := zB + 27 + 5) (by decide +kernel) dX8_wordAhead_66 ?_
            refine z_kV [.ref ((zB + 27 + 5))] 0 0 kc ks yoX8_says yvX8_says rfl (by decide) lX8_235 (by omega) mW_obj rfl rfl (Nat.le_of_ble_eq_true rfl) (Nat.le_of_ble_eq_true rfl) dX8_wordAhead_68 (by omega) (by omega) (z_room (by omega) (Nat.le_refl _) (Nat.le_refl _) (m_says (d := 0) (w := 5) hb hL hu hx (by decide) hT.2.1 hT.1 hT.2.2.1 hst ⟨rfl, ?_⟩))
            refine z_if_eq (tgt := 78) dX8_wordAhead_71 (by decide) (fun czq71 => ?_) (fun czq71 => ?_)
            · refine z_aload_n (j := 0) dX8_wordAhead_78 rfl ?_
              refine z_kV [] 0 0 kc ks yoX8_laterWord yvX8_laterWord rfl (by decide) lX8_249 (by omega) mW_obj rfl rfl (Nat.le_of_ble_eq_true rfl) (Nat.le_of_ble_eq_true rfl) dX8_wordAhead_79 (by omega) (by omega) (z_room (by omega) (Nat.le_refl _) (Nat.le_refl _) (m_laterWord (d := 0) hb hL hu hx hst hT (fun j hj => by
                rcases (show j = 0 ∨ j = 1 ∨ j = 2 ∨ j = 3 ∨ j = 4 ∨ j = 5 by omega) with rfl | rfl | rfl | rfl | rfl | rfl
                · exact bI_0.mp czq6
                · exact bI_0.mp czq19
                · exact bI_0.mp czq32
                · exact bI_0.mp czq45
                · exact bI_0.mp czq58
                · exact bI_0.mp czq71) ⟨rfl, ?_⟩))
              exact z_iret rfl dX8_wordAhead_82 (hq)
            · refine z_iconst (v := 5) dX8_wordAhead_74 (by decide) ?_
              refine z_goto (tgt := 82) dX8_wordAhead_75 (by decide) ?_
              exact z_iret rfl dX8_wordAhead_82 (by
                  rw [wId_of (by decide) (bI_n.mp czq71)] at hq
                  exact hq)
          · refine z_iconst (v := 4) dX8_wordAhead_61 (by decide) ?_
            refine z_goto (tgt := 82) dX8_wordAhead_62 (by decide) ?_
            exact z_iret rfl dX8_wordAhead_82 (by
                rw [wId_of (by decide) (bI_n.mp czq58)] at hq
                exact hq)
        · refine z_iconst (v := 3) dX8_wordAhead_48 (by decide) ?_
          refine z_goto (tgt := 82) dX8_wordAhead_49 (by decide) ?_
          exact z_iret rfl dX8_wordAhead_82 (by
              rw [wId_of (by decide) (bI_n.mp czq45)] at hq
              exact hq)
      · refine z_iconst (v := 2) dX8_wordAhead_35 (by decide) ?_
        refine z_goto (tgt := 82) dX8_wordAhead_36 (by decide) ?_
        exact z_iret rfl dX8_wordAhead_82 (by
            rw [wId_of (by decide) (bI_n.mp czq32)] at hq
            exact hq)
    · refine z_iconst (v := 1) dX8_wordAhead_22 (by decide) ?_
      refine z_goto (tgt := 82) dX8_wordAhead_23 (by decide) ?_
      exact z_iret rfl dX8_wordAhead_82 (by
          rw [wId_of (by decide) (bI_n.mp czq19)] at hq
          exact hq)
  · refine z_iconst (v := 0) dX8_wordAhead_9 (by decide) ?_
    refine z_goto (tgt := 82) dX8_wordAhead_10 (by decide) ?_
    exact z_iret rfl dX8_wordAhead_82 (by
        rw [wId_of (by decide) (bI_n.mp czq6)] at hq
        exact hq)
