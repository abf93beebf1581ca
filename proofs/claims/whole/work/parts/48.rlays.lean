set_option maxHeartbeats 4000000 in
set_option maxRecDepth 100000 in
theorem r_lays_neg {l : zL} {d kc ks n b : Nat} {h : Nat → va_E} {s : Nat → Int32} {a : Nat → Nat → Int32} {Q : zQ} {key v hm : Nat} {x : Int32} (hb : b + 14 ≤ n) (hq : ∀ a', (∀ i, i < 137 → a' 0 i = a 4 i) → (∀ q, q ≠ 0 → a' q = a q) → Q (.inl (some (.int (-1)))) n (mW h b s a')) : Zj l mX8_lays (d + 3) kc ks 44 [(0, .ref b), (1, .int ((nI key))), (2, .int ((nI v))), (3, .int ((nI hm))), (4, .int x), (5, .int ((-1)))] [] n (mW h b s a) Q := by
  refine z_iload (j := 5) dX8_lays_44 rfl ?_
  refine z_iconst (v := (-1)) dX8_lays_46 (by decide) ?_
  refine z_icmp_eq (tgt := 105) dX8_lays_47 (by decide) (fun c_47 => ?_) (fun c_47 => absurd rfl c_47)
  refine z_iload (j := 5) dX8_lays_105 rfl ?_
  refine z_iconst (v := (-1)) dX8_lays_107 (by decide) ?_
  refine z_icmp_ne (tgt := 125) dX8_lays_108 (by decide) (fun c_108 => absurd rfl c_108) (fun c_108 => ?_)
  refine z_aload_n (j := 0) dX8_lays_111 rfl ?_
  refine z_aload_n (j := 0) dX8_lays_112 rfl ?_
  refine z_get (v := .ref (b + 5)) (by omega) mW_obj fX8_22 rfl dX8_lays_113 ?_
  refine z_aload_n (j := 0) dX8_lays_116 rfl ?_
  refine z_get (v := .ref (b + 1)) (by omega) mW_obj fX8_7 rfl dX8_lays_117 ?_
  refine z_cVx [.ref (b + 5), .ref (b + 1)] none (fun g => ∃ a2, g = mW h b s a2 ∧ (∀ i, i < 137 → a2 0 i = a 4 i) ∧ (∀ q, q ≠ 0 → a2 q = a q)) yoX8_copies yvX8_copies rfl (by decide) lX8_96 (by omega) mW_obj rfl rfl (Nat.le_of_ble_eq_true rfl) (Nat.le_of_ble_eq_true rfl) dX8_lays_120 (z_room (by omega) (Nat.le_refl _) (Nat.le_refl _) (r_copies (d := 0) (j := 4) (j2 := 0) hb (by decide) rfl rfl (by decide) rfl rfl (by decide) (fun a' h1 h2 => ⟨rfl, rfl, a', rfl, h1, h2⟩))) (fun g hg => ?_)
  obtain ⟨a2, rfl, hc1, hc2⟩ := hg
  refine z_iconst (v := (-1)) dX8_lays_123 (by decide) ?_
  exact z_iret rfl dX8_lays_124 (hq a2 hc1 hc2)

set_option maxHeartbeats 4000000 in
set_option maxRecDepth 100000 in
theorem r_lays_l {l : zL} {d kc ks n b B H T key v hm : Nat} {h : Nat → va_E} {s : Nat → Int32} {Q : zQ} {x : Int32} {r0 : Nat → Int32} (hb : b + 14 ≤ n) (hkey : key ≤ 9999) (hv : v ≤ 999) (hhm : hm < B) : ∀ m (K V : Nat → Nat) st (a : Nat → Nat → Int32), st < m → st < B → mV B H T K V (a 0) → K ((hm + st) % B) = 0 → (∀ i, i < 137 → a 4 i = r0 i) → (∀ K' V' c' a', plc B H T hm m K V st (a 0 4) = (none, K', V', c') → (∀ i, i < 137 → a' 0 i = r0 i) → (∀ q, q ≠ 0 → a' q = a q) → Q (.inl (some (.int (-1)))) n (mW h b s a')) → (∀ t K' V' c' a', plc B H T hm m K V st (a 0 4) = (some t, K', V', c') → mV B H T (va_up K' ((hm + t) % B) (key + 1)) (va_up V' ((hm + t) % B) v) (a' 0) → a' 0 4 = c' → (∀ k, k < 9 → k ≠ 4 → a' 0 k = a 0 k) → (∀ q, q ≠ 0 → a' q = a q) → Q (.inl (some (.int (nI ((hm + t) % B))))) n (mW h b s a')) → Zj l mX8_lays (d + 3) kc ks 44 [(0, .ref b), (1, .int ((nI key))), (2, .int ((nI v))), (3, .int ((nI hm))), (4, .int x), (5, .int ((nI ((hm + st) % B))))] [] n (mW h b s a) Q := by
  intro m
  induction m with
  | zero => intro K V st a h0; omega
  | succ m ih =>
    intro K V st a hsm hst0 hM hfree hh hqN hqS
    obtain ⟨okb, h2H, hH6, h1T, hT99, e0, e1, e2, ek, ev, ekv, ez⟩ := id hM
    have hle := okb.le
    have hfx : (hm + st) % B < B := mod_lt' okb
    refine z_iload (j := 5) dX8_lays_44 rfl ?_
    refine z_iconst (v := (-1)) dX8_lays_46 (by decide) ?_
    refine z_icmp_eq (tgt := 105) dX8_lays_47 (by decide) (fun c_47 => absurd c_47 (nI_neg1 (by omega))) (fun c_47 => ?_)
    refine z_aload_n (j := 0) dX8_lays_50 rfl ?_
    refine z_iload_n (j := 3) dX8_lays_51 rfl ?_
    refine z_iload (j := 5) dX8_lays_52 rfl ?_
    refine z_cV [.int ((nI hm)), .int ((nI ((hm + st) % B)))] (some (.int ((nI (((hm + st) % B + B - hm) % B))))) yoX8_distance yvX8_distance rfl (by decide) lX8_78 (by omega) mW_obj rfl rfl (Nat.le_of_ble_eq_true rfl) (Nat.le_of_ble_eq_true rfl) dX8_lays_54 (z_room (by omega) (Nat.le_refl _) (Nat.le_refl _) (r_distance (d := 0) hb hM (by omega) (by omega) ⟨rfl, rfl, rfl⟩)) ?_
    rw [show (nI (((hm + st) % B + B - hm) % B)) = (nI st) from by rw [mod_back2 okb hhm hst0]]
    refine z_aload_n (j := 0) dX8_lays_57 rfl ?_
    refine z_get (v := .ref (b + 1)) (by omega) mW_obj fX8_7 rfl dX8_lays_58 ?_
    refine z_iconst (v := 1) dX8_lays_61 (by decide) ?_
    refine m_aldN 0 137 1 (by decide) rfl rfl hb rfl (by omega) (by decide) dX8_lays_62 ?_
    rw [show (a 0 1) = (nI H) from e1]
    refine z_icmp_lt (tgt := 105) dX8_lays_63 (by decide) (fun c_63 => ?_) (fun c_63 => ?_)
    · refine z_iload (j := 5) dX8_lays_105 rfl ?_
      refine z_iconst (v := (-1)) dX8_lays_107 (by decide) ?_
      refine z_icmp_ne (tgt := 125) dX8_lays_108 (by decide) (fun c_108 => ?_) (fun c_108 => absurd c_108 (nI_neg1 (by omega)))
      refine z_aload_n (j := 0) dX8_lays_125 rfl ?_
      refine z_get (v := .ref (b + 1)) (by omega) mW_obj fX8_7 rfl dX8_lays_126 ?_
      refine z_bipush (v := 9) dX8_lays_129 (by decide) ?_
      refine z_iload (j := 5) dX8_lays_131 rfl ?_
      refine z_iadd dX8_lays_133 ?_
      refine z_iload_n (j := 1) dX8_lays_134 rfl ?_
      refine z_iconst (v := 1) dX8_lays_135 (by decide) ?_
      refine z_iadd dX8_lays_136 ?_
      refine m_astN 0 137 (9 + ((hm + st) % B)) (by decide) rfl rfl hb (nI_add 9 _) (by omega) (by decide) dX8_lays_137 ?_
      refine z_aload_n (j := 0) dX8_lays_138 rfl ?_
      refine z_get (v := .ref (b + 1)) (by omega) mW_obj fX8_7 rfl dX8_lays_139 ?_
      refine z_bipush (v := 73) dX8_lays_142 (by decide) ?_
      refine z_iload (j := 5) dX8_lays_144 rfl ?_
      refine z_iadd dX8_lays_146 ?_
      refine z_iload_n (j := 2) dX8_lays_147 rfl ?_
      refine m_astN 0 137 (73 + ((hm + st) % B)) (by decide) rfl rfl hb (nI_add 73 _) (by omega) (by decide) dX8_lays_148 ?_
      refine z_iload (j := 5) dX8_lays_149 rfl ?_
      exact z_iret rfl dX8_lays_151 (by
          have hst : st < H := (nI_ltI (by omega) (by omega)).mp c_63
          have hx : (hm + st) % B < B := mod_lt' okb
          refine hqS st K V (a 0 4) _ (plc_near hst) (mV_put (r := a 0) hM hx hkey hv (fun k hk => ?_) (fun i hi => ?_) (fun i hi => ?_)) ?_ (fun k hk h4 => ?_) (fun q h0 => by simp [va_up, h0])
          · have x1 : ¬ k = 9 + (hm + st) % B := by omega
            have x2 : ¬ k = 73 + (hm + st) % B := by omega
            simp [va_up, x1, x2]
          · have x2 : ¬ 9 + i = 73 + (hm + st) % B := by omega
            by_cases y : i = (hm + st) % B
            · rw [if_pos y, y]; have x3 : ¬ 9 + (hm + st) % B = 73 + (hm + st) % B := by omega
              simp [va_up, x3]; exact nI_1 key
            · rw [if_neg y]; have x3 : ¬ 9 + i = 9 + (hm + st) % B := by omega
              simp [va_up, x2, y]
          · have x2 : ¬ 73 + i = 9 + (hm + st) % B := by omega
            by_cases y : i = (hm + st) % B
            · rw [if_pos y, y]; simp [va_up]
            · rw [if_neg y]; have x3 : ¬ 73 + i = 73 + (hm + st) % B := by omega
              simp [va_up, x2, y]
          · have x1 : ¬ 4 = 9 + (hm + st) % B := by omega
            have x2 : ¬ 4 = 73 + (hm + st) % B := by omega
            simp [va_up, x1, x2]
          · have x1 : ¬ k = 9 + (hm + st) % B := by omega
            have x2 : ¬ k = 73 + (hm + st) % B := by omega
            simp [va_up, x1, x2])
    · refine z_aload_n (j := 0) dX8_lays_66 rfl ?_
      refine z_iload (j := 5) dX8_lays_67 rfl ?_
      refine z_cV [.int ((nI ((hm + st) % B)))] (some (.int ((optI (movR B T K ((hm + st) % B) (H - 1)))))) yoX8_mover yvX8_mover rfl (by decide) lX8_103 (by omega) mW_obj rfl rfl (Nat.le_of_ble_eq_true rfl) (Nat.le_of_ble_eq_true rfl) dX8_lays_69 (z_room (by omega) (Nat.le_refl _) (Nat.le_refl _) (r_mover (d := 0) hb hM (mod_lt' okb) ⟨rfl, rfl, rfl⟩)) ?_
      have hst : ¬ st < H := fun e => c_63 (nI_lt e (by omega))
      rcases hmv : movS B T K ((hm + st) % B) (H - 1) with _ | ⟨j, k⟩
      · rw [show movR B T K ((hm + st) % B) (H - 1) = none from by rw [movR, hmv]; rfl, show optI none = -1 from rfl]
        refine z_istore [1, 2, 3, 4, 5, 6, 0] [(0, .ref b), (1, .int ((nI key))), (2, .int ((nI v))), (3, .int ((nI hm))), (4, .int x), (5, .int ((nI ((hm + st) % B)))), (6, .int ((-1)))] dX8_lays_72 (by decide) rfl ?_
        refine z_iload (j := 6) dX8_lays_74 rfl ?_
        refine z_iconst (v := (-1)) dX8_lays_76 (by decide) ?_
        refine z_icmp_eq (tgt := 98) dX8_lays_77 (by decide) (fun c_77 => ?_) (fun c_77 => absurd rfl c_77)
        refine z_iload (j := 6) dX8_lays_98 rfl ?_
        refine z_istore [1, 2, 3, 4, 5, 0, 6] [(0, .ref b), (1, .int ((nI key))), (2, .int ((nI v))), (3, .int ((nI hm))), (4, .int x), (5, .int ((-1))), (6, .int ((-1)))] dX8_lays_100 (by decide) rfl ?_
        refine z_goto (tgt := 44) dX8_lays_102 (by decide) ?_
        refine z_lv [(0, .ref b), (1, .int ((nI key))), (2, .int ((nI v))), (3, .int ((nI hm))), (4, .int x), (5, .int ((-1)))] [0, 1, 2, 3, 4, 5] rfl ?_
        exact r_lays_neg hb (fun a' h1 h2 => hqN K V (a 0 4) a' (plc_stuck hst hmv) (fun i hi => (h1 i hi).trans (hh i hi)) h2)
      · obtain ⟨hj1, hj2, hj3, hj4⟩ := movS_some hmv
        have hsrc := mvSrc_step (k := k) okb hhm hst0 (show j ≤ st by omega) (show k ≤ j by omega)
        have hsB : mvSrc B ((hm + st) % B) j k < B := by rw [hsrc]; exact mod_lt' okb
        have hne : mvSrc B ((hm + st) % B) j k ≠ (hm + st) % B := by
          rw [hsrc]
          rcases okb with rfl | rfl | rfl | rfl <;> omega
        rw [show movR B T K ((hm + st) % B) (H - 1) = some (mvSrc B ((hm + st) % B) j k) from by rw [movR, hmv]; rfl, show optI (some (mvSrc B ((hm + st) % B) j k)) = nI (mvSrc B ((hm + st) % B) j k) from rfl]
        refine z_istore [1, 2, 3, 4, 5, 6, 0] [(0, .ref b), (1, .int ((nI key))), (2, .int ((nI v))), (3, .int ((nI hm))), (4, .int x), (5, .int ((nI ((hm + st) % B)))), (6, .int ((nI (mvSrc B ((hm + st) % B) j k))))] dX8_lays_72 (by decide) rfl ?_
        refine z_iload (j := 6) dX8_lays_74 rfl ?_
        refine z_iconst (v := (-1)) dX8_lays_76 (by decide) ?_
        refine z_icmp_eq (tgt := 98) dX8_lays_77 (by decide) (fun c_77 => absurd c_77 (nI_neg1 (by omega))) (fun c_77 => ?_)
        refine z_aload_n (j := 0) dX8_lays_80 rfl ?_
        refine z_iload (j := 6) dX8_lays_81 rfl ?_
        refine z_iload (j := 5) dX8_lays_83 rfl ?_
        refine z_cVx [.int ((nI (mvSrc B ((hm + st) % B) j k))), .int ((nI ((hm + st) % B)))] none (fun g => ∃ a1, g = mW h b s a1 ∧ mV B H T (mvK K (mvSrc B ((hm + st) % B) j k) ((hm + st) % B)) (mvK V (mvSrc B ((hm + st) % B) j k) ((hm + st) % B)) (a1 0) ∧ (∀ k, k < 9 → a1 0 k = a 0 k) ∧ (∀ q, q ≠ 0 → a1 q = a q)) yoX8_moves yvX8_moves rfl (by decide) lX8_106 (by omega) mW_obj rfl rfl (Nat.le_of_ble_eq_true rfl) (Nat.le_of_ble_eq_true rfl) dX8_lays_85 (z_room (by omega) (Nat.le_refl _) (Nat.le_refl _) (r_moves (d := 0) hb hM hsB (mod_lt' okb) hne (fun a' h1 h2 h3 => ⟨rfl, rfl, a', rfl, h1, h2, h3⟩))) (fun g hg => ?_)
        obtain ⟨a1, rfl, hM1, h91, hq1⟩ := hg
        refine z_aload_n (j := 0) dX8_lays_88 rfl ?_
        refine z_get (v := .ref (b + 1)) (by omega) mW_obj fX8_7 rfl dX8_lays_89 ?_
        refine z_iconst (v := 4) dX8_lays_92 (by decide) ?_
        refine z_dup2 rfl rfl dX8_lays_93 ?_
        refine m_aldN 0 137 4 (by decide) rfl rfl hb rfl (by omega) (by decide) dX8_lays_94 ?_
        refine z_iconst (v := 1) dX8_lays_95 (by decide) ?_
        refine z_iadd dX8_lays_96 ?_
        refine m_astN 0 137 4 (by decide) rfl rfl hb rfl (by omega) (by decide) dX8_lays_97 ?_
        refine z_iload (j := 6) dX8_lays_98 rfl ?_
        refine z_istore [1, 2, 3, 4, 5, 0, 6] [(0, .ref b), (1, .int ((nI key))), (2, .int ((nI v))), (3, .int ((nI hm))), (4, .int x), (5, .int ((nI (mvSrc B ((hm + st) % B) j k)))), (6, .int ((nI (mvSrc B ((hm + st) % B) j k))))] dX8_lays_100 (by decide) rfl ?_
        refine z_goto (tgt := 44) dX8_lays_102 (by decide) ?_
        refine z_lv [(0, .ref b), (1, .int ((nI key))), (2, .int ((nI v))), (3, .int ((nI hm))), (4, .int x), (5, .int ((nI (mvSrc B ((hm + st) % B) j k))))] [0, 1, 2, 3, 4, 5] rfl ?_
        rw [hsrc]
        have hpl := plc_step (n := m) (V := V) (c := a 0 4) hst hmv
        refine ih (mvK K (mvSrc B ((hm + st) % B) j k) ((hm + st) % B)) (mvK V (mvSrc B ((hm + st) % B) j k) ((hm + st) % B)) (st - (j - k)) _ (by omega) (by omega) (mV_same hM1 (fun q q1 q3 q4 q5 q6 q7 q8 => by simp [va_up, q4])) (by rw [← hsrc]; exact mvK_src hne) (fun i hi => by simp only [va_up, if_neg (show ¬ 4 = 0 by decide)]; rw [hq1 4 (by decide)]; exact hh i hi) ?_ ?_
        · intro K' V' c' a' e h1 h2
          refine hqN K' V' c' a' (hpl.trans (by rw [← h91 4 (by decide)]; exact e)) h1 (fun q h0 => ?_)
          rw [h2 q h0]; simp only [va_up, if_neg h0]; exact hq1 q h0
        · intro t K' V' c' a' e h1 h2 h3 h4
          refine hqS t K' V' c' a' (hpl.trans (by rw [← h91 4 (by decide)]; exact e)) h1 h2 (fun q h9 h40 => ?_) (fun q h0 => ?_)
          · rw [h3 q h9 h40]; simp only [va_up, if_pos, if_neg h40]; exact h91 q h9
          · rw [h4 q h0]; simp only [va_up, if_neg h0]; exact hq1 q h0

set_option maxHeartbeats 4000000 in
set_option maxRecDepth 100000 in
theorem r_lays {l : zL} {d kc ks n b B H T : Nat} {h : Nat → va_E} {K V : Nat → Nat} {s : Nat → Int32} {a : Nat → Nat → Int32} {Q : zQ} {key v : Nat} (hb : b + 14 ≤ n) (hM : mV B H T K V (a 0)) (hkey : key ≤ 9999) (hv : v ≤ 999) (hqN : ∀ {K' V' c'} a', placeF B H T K V (a 0 4) key v = (none, K', V', c') → (∀ i, i < 137 → a' 0 i = a 0 i) → (∀ q, q ≠ 0 → q ≠ 4 → a' q = a q) → Q (.inl (some (.int (-1)))) n (mW h b s a')) (hqS : ∀ bk K' V' c' a', placeF B H T K V (a 0 4) key v = (some bk, K', V', c') → mV B H T K' V' (a' 0) → a' 0 4 = c' → (∀ k, k < 9 → k ≠ 4 → a' 0 k = a 0 k) → (∀ q, q ≠ 0 → q ≠ 4 → a' q = a q) → Q (.inl (some (.int (nI bk)))) n (mW h b s a')) : Zj l mX8_lays (d + 3) kc ks 0 [(0, .ref b), (1, .int ((nI key))), (2, .int ((nI v)))] [] n (mW h b s a) Q := by
  obtain ⟨okb, h2H, hH6, h1T, hT99, e0, e1, e2, ek, ev, ekv, ez⟩ := id hM
  have hle := okb.le
  refine z_aload_n (j := 0) dX8_lays_0 rfl ?_
  refine z_aload_n (j := 0) dX8_lays_1 rfl ?_
  refine z_get (v := .ref (b + 1)) (by omega) mW_obj fX8_7 rfl dX8_lays_2 ?_
  refine z_aload_n (j := 0) dX8_lays_5 rfl ?_
  refine z_get (v := .ref (b + 5)) (by omega) mW_obj fX8_22 rfl dX8_lays_6 ?_
  refine z_cVx [.ref (b + 1), .ref (b + 5)] none (fun g => ∃ a1, g = mW h b s a1 ∧ (∀ i, i < 137 → a1 4 i = a 0 i) ∧ (∀ q, q ≠ 4 → a1 q = a q)) yoX8_copies yvX8_copies rfl (by decide) lX8_96 (by omega) mW_obj rfl rfl (Nat.le_of_ble_eq_true rfl) (Nat.le_of_ble_eq_true rfl) dX8_lays_9 (z_room (by omega) (Nat.le_refl _) (Nat.le_refl _) (r_copies (d := 0) (j := 0) (j2 := 4) hb (by decide) rfl rfl (by decide) rfl rfl (by decide) (fun a' h1 h2 => ⟨rfl, rfl, a', rfl, h1, h2⟩))) (fun g hg => ?_)
  obtain ⟨a1, rfl, hd1, hd2⟩ := hg
  have h10 : a1 0 = a 0 := hd2 0 (by decide)
  have hM1 : mV B H T K V (a1 0) := by rw [h10]; exact hM
  refine z_aload_n (j := 0) dX8_lays_12 rfl ?_
  refine z_iload_n (j := 1) dX8_lays_13 rfl ?_
  refine z_cV [.int ((nI key))] (some (.int ((nI (hmo B T key))))) yoX8_home yvX8_home rfl (by decide) lX8_75 (by omega) mW_obj rfl rfl (Nat.le_of_ble_eq_true rfl) (Nat.le_of_ble_eq_true rfl) dX8_lays_14 (z_room (by omega) (Nat.le_refl _) (Nat.le_refl _) (r_home (d := 0) hb hM1 hkey ⟨rfl, rfl, rfl⟩)) ?_
  refine z_istore_n [1, 2, 3, 0] [(0, .ref b), (1, .int ((nI key))), (2, .int ((nI v))), (3, .int ((nI (hmo B T key))))] dX8_lays_17 (by decide) rfl ?_
  refine z_aload_n (j := 0) dX8_lays_18 rfl ?_
  refine z_iload_n (j := 3) dX8_lays_19 rfl ?_
  refine z_cV [.int ((nI (hmo B T key)))] (some (.int ((optI (frD B K (hmo B T key)))))) yoX8_freeFrom yvX8_freeFrom rfl (by decide) lX8_100 (by omega) mW_obj rfl rfl (Nat.le_of_ble_eq_true rfl) (Nat.le_of_ble_eq_true rfl) dX8_lays_20 (z_room (by omega) (Nat.le_refl _) (Nat.le_refl _) (r_freeFrom (d := 0) hb hM1 (hmo_lt okb T key) ⟨rfl, rfl, rfl⟩)) ?_
  have hhm := hmo_lt okb T key
  rcases hfd : frD B K (hmo B T key) with _ | st
  · rw [show optI none = -1 from rfl]
    refine z_istore [1, 2, 3, 4, 0] [(0, .ref b), (1, .int ((nI key))), (2, .int ((nI v))), (3, .int ((nI (hmo B T key)))), (4, .int ((-1)))] dX8_lays_23 (by decide) rfl ?_
    refine z_iload (j := 4) dX8_lays_25 rfl ?_
    refine z_iconst (v := (-1)) dX8_lays_27 (by decide) ?_
    refine z_icmp_ne (tgt := 35) dX8_lays_28 (by decide) (fun c_28 => absurd rfl c_28) (fun c_28 => ?_)
    refine z_iconst (v := (-1)) dX8_lays_31 (by decide) ?_
    refine z_goto (tgt := 42) dX8_lays_32 (by decide) ?_
    refine z_istore [1, 2, 3, 4, 5, 0] [(0, .ref b), (1, .int ((nI key))), (2, .int ((nI v))), (3, .int ((nI (hmo B T key)))), (4, .int ((-1))), (5, .int ((-1)))] dX8_lays_42 (by decide) rfl ?_
    exact r_lays_neg hb (fun a' h1 h2 => hqN (K' := K) (V' := V) (c' := a 0 4) a' (by unfold placeF; rw [hfd]) (fun i hi => (h1 i hi).trans (hd1 i hi)) (fun q h0 h4 => (h2 q h0).trans (hd2 q h4)))
  · rw [show optI (some st) = nI st from rfl]
    obtain ⟨hst, hfree⟩ := frD_lt hfd
    refine z_istore [1, 2, 3, 4, 0] [(0, .ref b), (1, .int ((nI key))), (2, .int ((nI v))), (3, .int ((nI (hmo B T key)))), (4, .int ((nI st)))] dX8_lays_23 (by decide) rfl ?_
    refine z_iload (j := 4) dX8_lays_25 rfl ?_
    refine z_iconst (v := (-1)) dX8_lays_27 (by decide) ?_
    refine z_icmp_ne (tgt := 35) dX8_lays_28 (by decide) (fun c_28 => ?_) (fun c_28 => absurd c_28 (nI_neg1 (by omega)))
    refine z_aload_n (j := 0) dX8_lays_35 rfl ?_
    refine z_iload_n (j := 3) dX8_lays_36 rfl ?_
    refine z_iload (j := 4) dX8_lays_37 rfl ?_
    refine z_cV [.int ((nI (hmo B T key))), .int ((nI st))] (some (.int ((nI ((hmo B T key + st) % B))))) yoX8_behind yvX8_behind rfl (by decide) lX8_86 (by omega) mW_obj rfl rfl (Nat.le_of_ble_eq_true rfl) (Nat.le_of_ble_eq_true rfl) dX8_lays_39 (z_room (by omega) (Nat.le_refl _) (Nat.le_refl _) (r_behind (d := 0) hb hM1 (by omega) (by omega) ⟨rfl, rfl, rfl⟩)) ?_
    refine z_istore [1, 2, 3, 4, 5, 0] [(0, .ref b), (1, .int ((nI key))), (2, .int ((nI v))), (3, .int ((nI (hmo B T key)))), (4, .int ((nI st))), (5, .int ((nI ((hmo B T key + st) % B))))] dX8_lays_42 (by decide) rfl ?_
    refine r_lays_l (r0 := a 0) hb hkey hv hhm 65 K V st a1 (by omega) hst hM1 hfree hd1 ?_ ?_
    · intro K' V' c' a' e h1 h2
      rw [h10] at e
      exact hqN (K' := K') (V' := V') (c' := c') a' (by unfold placeF; rw [hfd]; simp only [e]) h1 (fun q h0 h4 => (h2 q h0).trans (hd2 q h4))
    · intro t K' V' c' a' e h1 h2 h3 h4
      rw [h10] at e
      exact hqS _ _ _ c' a' (by unfold placeF; rw [hfd]; simp only [e]) h1 h2 (fun k h9 hk4 => by rw [h3 k h9 hk4, h10]) (fun q h0 hq4 => (h4 q h0).trans (hd2 q hq4))
