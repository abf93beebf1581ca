/-! THE LAW'S holds() -/
def hF (B T : Nat) (K : Nat → Nat) (b : Nat) : Nat → Bool := fun k => isO B T K ((b + k) % B) b
def hQ (B T : Nat) (K : Nat → Nat) (b : Nat) : Nat → Nat := fun k => if isO B T K ((b + k) % B) b = true then 1 else 0
theorem hF_yes {B T b k : Nat} {K : Nat → Nat} (h : isO B T K ((b + k) % B) b = true) : hb6 (hF B T K b) (k + 1) = hb6 (hF B T K b) k + 2 ^ k ∧ sumN (hQ B T K b) (k + 1) = sumN (hQ B T K b) k + 1 := by
  constructor
  · show hb6 (hF B T K b) k + (if isO B T K ((b + k) % B) b = true then 2 ^ k else 0) = _
    rw [if_pos h]
  · show sumN (hQ B T K b) k + (if isO B T K ((b + k) % B) b = true then 1 else 0) = _
    rw [if_pos h]
theorem hF_no {B T b k : Nat} {K : Nat → Nat} (h : isO B T K ((b + k) % B) b = false) : hb6 (hF B T K b) (k + 1) = hb6 (hF B T K b) k ∧ sumN (hQ B T K b) (k + 1) = sumN (hQ B T K b) k := by
  have h1 : ¬ isO B T K ((b + k) % B) b = true := by rw [h]; decide
  constructor
  · show hb6 (hF B T K b) k + (if isO B T K ((b + k) % B) b = true then 2 ^ k else 0) = _
    rw [if_neg h1, Nat.add_zero]
  · show sumN (hQ B T K b) k + (if isO B T K ((b + k) % B) b = true then 1 else 0) = _
    rw [if_neg h1, Nat.add_zero]
theorem isO_not {B T x hm : Nat} {K : Nat → Nat} (h : K x = 0 ∨ ¬ hmo B T (K x - 1) = hm) : isO B T K x hm = false := by
  rcases h with h | h
  · exact isO_free h
  · simp [isO, h]
theorem tval_ne {k v : Nat} (h : k ≠ 0) : tval k v = nI v := if_neg h
theorem okB_no {B : Nat} (hB : okB B) (h1 : ¬ nI B = 8) (h2 : ¬ nI B = 16) (h3 : ¬ nI B = 32) (h4 : ¬ nI B = 64) : False := by
  rcases hB with rfl | rfl | rfl | rfl
  · exact h1 rfl
  · exact h2 rfl
  · exact h3 rfl
  · exact h4 rfl
theorem cnt_no {K : Nat → Nat} {b : Nat} (h : K b = 0) : cnt K (b + 1) = cnt K b := by simp [cnt, h]
theorem cnt_yes {K : Nat → Nat} {b : Nat} (h : K b ≠ 0) : cnt K (b + 1) = cnt K b + 1 := by simp [cnt, h]
theorem off_no {B T b : Nat} {K : Nat → Nat} (h : K b = 0) : sumN (offN B T K) (b + 1) = sumN (offN B T K) b := by
  show sumN (offN B T K) b + offN B T K b = _
  unfold offN
  rw [if_pos h, Nat.add_zero]
theorem off_yes {B T b : Nat} {K : Nat → Nat} (h : K b ≠ 0) : sumN (offN B T K) (b + 1) = sumN (offN B T K) b + dst B T K b := by
  show sumN (offN B T K) b + offN B T K b = _
  rw [show offN B T K b = dst B T K b from if_neg h]
theorem max_off {B H T : Nat} {K : Nat → Nat} (hB : okB B) (h2 : 2 ≤ H) (hH : H ≤ 6) (hI : inH B H T K) : ∀ i, i ≤ B → maxN (offN B T K) i < H
  | 0, _ => by show 0 < H; omega
  | i + 1, hi => by
    have ih := max_off hB h2 hH hI i (by omega)
    have h1 : offN B T K i < H := by
      unfold offN
      by_cases h : K i = 0
      · rw [if_pos h]; omega
      · rw [if_neg h]; exact (dst_H hB hH hI (by omega) h).1
    show (if maxN (offN B T K) i < offN B T K i then offN B T K i else maxN (offN B T K) i) < H
    split <;> omega
theorem dst_eq {B T b : Nat} {K : Nat → Nat} (hB : okB B) (hb : b < B) : (nI b - nI (hmo B T (K b - 1)) + nI B) - (nI b - nI (hmo B T (K b - 1)) + nI B) / nI B * nI B = nI (dst B T K b) := by
  have hle := hB.le
  have hh := hmo_lt hB T (K b - 1)
  have e : nI b - nI (hmo B T (K b - 1)) + nI B = nI (b + B - hmo B T (K b - 1)) := by rw [wrap_sub, nI_add, pk_sub (by omega)]
  rw [e, pk_rem (by omega) (by omega) (by omega)]
  rfl

set_option maxHeartbeats 4000000 in
set_option maxRecDepth 100000 in
theorem H_in {l : zL} {d kc ks n : Nat} {h : Nat → va_E} {B H T : Nat} {K V : Nat → Nat} {c : Nat → Int32} {gr : zGr} {Q : zQ} {ee ss b : Nat} (hbB : b < B) (hn : 89 ≤ n) (hno : ∀ E n' h', ¬ Q (.inr E) n' h') (hk : ∀ cm o u s a, cI ((B, H, T, K, V, c), gr) o u s a → Zj l mL_holds (d + 8) kc ks 131 [(0, .ref 0), (1, .int (nI B)), (2, .int (nI H)), (3, .int (nI ee)), (4, .int (nI ss)), (5, .int (nI b)), (6, .int (nI (hop B H T K b))), (7, .int (nI (cntH B H T K b)))] [] n (gW h cm o u s a) Q) : ∀ m (k : Nat) (cm : Value) (o u : Nat → Nat → Int32) (s : Nat → Nat → Int32) (a : Nat → Nat → Nat → Int32), k + m = H → cI ((B, H, T, K, V, c), gr) o u s a → Zj l mL_holds (d + 8) kc ks 77 [(0, .ref 0), (1, .int ((nI B))), (2, .int ((nI H))), (3, .int ((nI ee))), (4, .int ((nI ss))), (5, .int ((nI b))), (6, .int ((nI (hb6 (hF B T K b) k)))), (7, .int ((nI (sumN (hQ B T K b) k)))), (8, .int ((nI k)))] [] n (gW h cm o u s a) Q := by
  intro m
  induction m with
  | zero =>
    intro k cm o u s a hkm hC
    have hT : cT (B, H, T, K, V, c) (s 1) (a 1) := hC.t
    obtain ⟨hR, ⟨hI, hd3, h3⟩, e9, e10, e11, e12, e13, e14, e15⟩ := id hT
    obtain ⟨okb, h2H, hH6, h1T, hT99, e6, e7, e8, ek_, ev_, eh_, ekv, ez⟩ := id hR
    have hle := okb.le
    refine z_iload (j := 8) dL_holds_77 rfl ?_
    refine z_iload_n (j := 2) dL_holds_79 rfl ?_
    refine z_icmp_ge (tgt := 131) dL_holds_80 (by decide) (fun czq80 => ?_) (fun czq80 => absurd (nI_le (by omega) (by omega)) czq80)
    refine z_lv [(0, .ref 0), (1, .int ((nI B))), (2, .int ((nI H))), (3, .int ((nI ee))), (4, .int ((nI ss))), (5, .int ((nI b))), (6, .int ((nI (hb6 (hF B T K b) k)))), (7, .int ((nI (sumN (hQ B T K b) k))))] [0, 1, 2, 3, 4, 5, 6, 7] rfl ?_
    rw [show k = H by omega]
    exact hk cm o u s a hC
  | succ m ih =>
    intro k cm o u s a hkm hC
    have hT : cT (B, H, T, K, V, c) (s 1) (a 1) := hC.t
    obtain ⟨hR, ⟨hI, hd3, h3⟩, e9, e10, e11, e12, e13, e14, e15⟩ := id hT
    obtain ⟨okb, h2H, hH6, h1T, hT99, e6, e7, e8, ek_, ev_, eh_, ekv, ez⟩ := id hR
    have hle := okb.le
    refine z_iload (j := 8) dL_holds_77 rfl ?_
    refine z_iload_n (j := 2) dL_holds_79 rfl ?_
    refine z_icmp_ge (tgt := 131) dL_holds_80 (by decide) (fun czq80 => absurd czq80 (nI_ge (by omega) (by omega))) (fun czq80 => ?_)
    refine z_aload_n (j := 0) dL_holds_83 rfl ?_
    refine z_iload (j := 5) dL_holds_84 rfl ?_
    refine z_iload (j := 8) dL_holds_86 rfl ?_
    refine z_iadd dL_holds_88 ?_
    refine z_iload_n (j := 1) dL_holds_89 rfl ?_
    refine z_irem (nI_ne0 (by omega) (by omega)) dL_holds_90 ?_
    rw [show (((nI b) + (nI k)) - ((nI b) + (nI k)) / (nI B) * (nI B)) = nI ((b + k) % B) from by rw [nI_add]; exact pk_rem (by omega) (by omega) (by omega)]
    have hx : ((b + k) % B) < B := mod_lt' okb
    refine z_kV [.int ((nI ((b + k) % B)))] 0 0 kc ks yoX7_keyAt yvX7_keyAt rfl (by decide) lL_16 (by omega) gW_0 rfl rfl (Nat.le_of_ble_eq_true rfl) (Nat.le_of_ble_eq_true rfl) dL_holds_91 (by omega) (by omega) (z_room (by omega) (Nat.le_refl _) (Nat.le_refl _) (V_keyAt (d := 0) (g := ((B, H, T, K, V, c), gr)) (g' := ((B, H, T, K, V, c), gr)) (v := (tkey (K ((b + k) % B)))) hn (zk_no hno) hC (fk_keyAt (g := ((B, H, T, K, V, c), gr)) hx okb) (fun cm1001 o1001 u1001 s1001 a1001 hC1001 => ⟨rfl, ?_⟩)))
    refine z_istore [1, 2, 3, 4, 5, 6, 7, 8, 9, 0] [(0, .ref 0), (1, .int ((nI B))), (2, .int ((nI H))), (3, .int ((nI ee))), (4, .int ((nI ss))), (5, .int ((nI b))), (6, .int ((nI (hb6 (hF B T K b) k)))), (7, .int ((nI (sumN (hQ B T K b) k)))), (8, .int ((nI k))), (9, .int ((tkey (K ((b + k) % B)))))] dL_holds_94 (by decide) rfl ?_
    refine z_iload (j := 9) dL_holds_96 rfl ?_
    refine z_iconst (v := (-1)) dL_holds_98 (by decide) ?_
    refine z_icmp_eq (tgt := 125) dL_holds_99 (by decide) (fun czq99 => ?_) (fun czq99 => ?_)
    · skip
      refine z_iinc ((nI (k + 1))) [1, 2, 3, 4, 5, 6, 7, 8, 0, 9] [(0, .ref 0), (1, .int ((nI B))), (2, .int ((nI H))), (3, .int ((nI ee))), (4, .int ((nI ss))), (5, .int ((nI b))), (6, .int ((nI (hb6 (hF B T K b) k)))), (7, .int ((nI (sumN (hQ B T K b) k)))), (8, .int ((nI (k + 1)))), (9, .int ((tkey (K ((b + k) % B)))))] dL_holds_125 (j := 8) rfl (nI_1 k) (by decide) rfl ?_
      refine z_goto (tgt := 77) dL_holds_128 (by decide) ?_
      have hf := hF_no (T := T) (isO_not (T := T) (hm := b) (Or.inl ((tkey_eq (ekv ((b + k) % B)).1).mp czq99)))
      refine z_lv [(0, .ref 0), (1, .int ((nI B))), (2, .int ((nI H))), (3, .int ((nI ee))), (4, .int ((nI ss))), (5, .int ((nI b))), (6, .int ((nI (hb6 (hF B T K b) k)))), (7, .int ((nI (sumN (hQ B T K b) k)))), (8, .int ((nI (k + 1))))] [0, 1, 2, 3, 4, 5, 6, 7, 8] rfl ?_
      rw [← hf.1, ← hf.2]
      exact ih (k + 1) cm1001 o1001 u1001 s1001 a1001 (by omega) hC1001
    · have hK : K ((b + k) % B) ≠ 0 := fun q => czq99 (by rw [q]; rfl)
      rw [tkey_ne hK]
      refine z_aload_n (j := 0) dL_holds_102 rfl ?_
      refine z_iload (j := 9) dL_holds_103 rfl ?_
      refine z_kV [.int ((nI (K ((b + k) % B) - 1)))] 0 0 kc ks yoX7_homeOf yvX7_homeOf rfl (by decide) lL_67 (by omega) gW_0 rfl rfl (Nat.le_of_ble_eq_true rfl) (Nat.le_of_ble_eq_true rfl) dL_holds_105 (by omega) (by omega) (z_room (by omega) (Nat.le_refl _) (Nat.le_refl _) (V_homeOf (d := 0) (g := ((B, H, T, K, V, c), gr)) (g' := ((B, H, T, K, V, c), gr)) (v := (nI (hmo B T (K ((b + k) % B) - 1)))) hn (zk_no hno) hC1001 (fk_homeOf (g := ((B, H, T, K, V, c), gr)) (by have := (ekv ((b + k) % B)).1; omega)) (fun cm1002 o1002 u1002 s1002 a1002 hC1002 => ⟨rfl, ?_⟩)))
      refine z_iload (j := 5) dL_holds_108 rfl ?_
      refine z_icmp_ne (tgt := 125) dL_holds_110 (by decide) (fun czq110 => ?_) (fun czq110 => ?_)
      · skip
        refine z_iinc ((nI (k + 1))) [1, 2, 3, 4, 5, 6, 7, 8, 0, 9] [(0, .ref 0), (1, .int ((nI B))), (2, .int ((nI H))), (3, .int ((nI ee))), (4, .int ((nI ss))), (5, .int ((nI b))), (6, .int ((nI (hb6 (hF B T K b) k)))), (7, .int ((nI (sumN (hQ B T K b) k)))), (8, .int ((nI (k + 1)))), (9, .int ((nI (K ((b + k) % B) - 1))))] dL_holds_125 (j := 8) rfl (nI_1 k) (by decide) rfl ?_
        refine z_goto (tgt := 77) dL_holds_128 (by decide) ?_
        have hf := hF_no (T := T) (isO_not (T := T) (hm := b) (Or.inr (fun q => czq110 (by rw [q]))))
        refine z_lv [(0, .ref 0), (1, .int ((nI B))), (2, .int ((nI H))), (3, .int ((nI ee))), (4, .int ((nI ss))), (5, .int ((nI b))), (6, .int ((nI (hb6 (hF B T K b) k)))), (7, .int ((nI (sumN (hQ B T K b) k)))), (8, .int ((nI (k + 1))))] [0, 1, 2, 3, 4, 5, 6, 7, 8] rfl ?_
        rw [← hf.1, ← hf.2]
        exact ih (k + 1) cm1002 o1002 u1002 s1002 a1002 (by omega) hC1002
      · refine z_iload (j := 6) dL_holds_113 rfl ?_
        refine z_iconst (v := 1) dL_holds_115 (by decide) ?_
        refine z_iload (j := 8) dL_holds_116 rfl ?_
        refine z_ishl dL_holds_118 ?_
        refine z_ior dL_holds_119 ?_
        rw [or_bit k (by omega) _ (hb6_lt _ _)]
        refine z_istore [1, 2, 3, 4, 5, 6, 0, 7, 8, 9] [(0, .ref 0), (1, .int ((nI B))), (2, .int ((nI H))), (3, .int ((nI ee))), (4, .int ((nI ss))), (5, .int ((nI b))), (6, .int ((nI ((hb6 (hF B T K b) k) + 2 ^ k)))), (7, .int ((nI (sumN (hQ B T K b) k)))), (8, .int ((nI k))), (9, .int ((nI (K ((b + k) % B) - 1))))] dL_holds_120 (by decide) rfl ?_
        skip
        refine z_iinc ((nI ((sumN (hQ B T K b) k) + 1))) [1, 2, 3, 4, 5, 6, 7, 0, 8, 9] [(0, .ref 0), (1, .int ((nI B))), (2, .int ((nI H))), (3, .int ((nI ee))), (4, .int ((nI ss))), (5, .int ((nI b))), (6, .int ((nI ((hb6 (hF B T K b) k) + 2 ^ k)))), (7, .int ((nI ((sumN (hQ B T K b) k) + 1)))), (8, .int ((nI k))), (9, .int ((nI (K ((b + k) % B) - 1))))] dL_holds_122 (j := 7) rfl (nI_1 (sumN (hQ B T K b) k)) (by decide) rfl ?_
        skip
        refine z_iinc ((nI (k + 1))) [1, 2, 3, 4, 5, 6, 7, 8, 0, 9] [(0, .ref 0), (1, .int ((nI B))), (2, .int ((nI H))), (3, .int ((nI ee))), (4, .int ((nI ss))), (5, .int ((nI b))), (6, .int ((nI ((hb6 (hF B T K b) k) + 2 ^ k)))), (7, .int ((nI ((sumN (hQ B T K b) k) + 1)))), (8, .int ((nI (k + 1)))), (9, .int ((nI (K ((b + k) % B) - 1))))] dL_holds_125 (j := 8) rfl (nI_1 k) (by decide) rfl ?_
        refine z_goto (tgt := 77) dL_holds_128 (by decide) ?_
        have hf := hF_yes (T := T) (show isO B T K ((b + k) % B) b = true from by
          have q : hmo B T (K ((b + k) % B) - 1) = b := (nI_eq (by have := hmo_lt okb T (K ((b + k) % B) - 1); omega) (by omega)).mp czq110
          simp [isO, hK, q])
        refine z_lv [(0, .ref 0), (1, .int ((nI B))), (2, .int ((nI H))), (3, .int ((nI ee))), (4, .int ((nI ss))), (5, .int ((nI b))), (6, .int ((nI ((hb6 (hF B T K b) k) + 2 ^ k)))), (7, .int ((nI ((sumN (hQ B T K b) k) + 1)))), (8, .int ((nI (k + 1))))] [0, 1, 2, 3, 4, 5, 6, 7, 8] rfl ?_
        rw [← hf.1, ← hf.2]
        exact ih (k + 1) cm1002 o1002 u1002 s1002 a1002 (by omega) hC1002

set_option maxHeartbeats 4000000 in
set_option maxRecDepth 100000 in
theorem H_131 {l : zL} {d kc ks n : Nat} {h : Nat → va_E} {cm : Value} {o u : Nat → Nat → Int32} {s : Nat → Nat → Int32} {a : Nat → Nat → Nat → Int32} {B H T : Nat} {K V : Nat → Nat} {c : Nat → Int32} {gr : zGr} {Q : zQ} {b : Nat} (hbB : b < B) (hn : 89 ≤ n) (hno : ∀ E n' h', ¬ Q (.inr E) n' h') (hC : cI ((B, H, T, K, V, c), gr) o u s a) (hk : ∀ cm o u s a, cI ((B, H, T, K, V, c), gr) o u s a → Zj l mL_holds (d + 8) kc ks 62 [(0, .ref 0), (1, .int (nI B)), (2, .int (nI H)), (3, .int (nI (cnt K (b + 1)))), (4, .int (nI (sumN (offN B T K) (b + 1)))), (5, .int (nI (b + 1)))] [] n (gW h cm o u s a) Q) : Zj l mL_holds (d + 8) kc ks 131 [(0, .ref 0), (1, .int ((nI B))), (2, .int ((nI H))), (3, .int ((nI (cnt K b)))), (4, .int ((nI (sumN (offN B T K) b)))), (5, .int ((nI b))), (6, .int ((nI (hop B H T K b)))), (7, .int ((nI (cntH B H T K b))))] [] n (gW h cm o u s a) Q := by
  have hT : cT (B, H, T, K, V, c) (s 1) (a 1) := hC.t
  obtain ⟨hR, ⟨hI, hd3, h3⟩, e9, e10, e11, e12, e13, e14, e15⟩ := id hT
  obtain ⟨okb, h2H, hH6, h1T, hT99, e6, e7, e8, ek_, ev_, eh_, ekv, ez⟩ := id hR
  have hle := okb.le
  refine z_aload_n (j := 0) dL_holds_131 rfl ?_
  refine z_iload (j := 5) dL_holds_132 rfl ?_
  refine z_kV [.int ((nI b))] 0 0 kc ks yoX7_hopBits yvX7_hopBits rfl (by decide) lL_70 (by omega) gW_0 rfl rfl (Nat.le_of_ble_eq_true rfl) (Nat.le_of_ble_eq_true rfl) dL_holds_134 (by omega) (by omega) (z_room (by omega) (Nat.le_refl _) (Nat.le_refl _) (V_hopBits (d := 0) (g := ((B, H, T, K, V, c), gr)) (g' := ((B, H, T, K, V, c), gr)) (v := (nI (hop B H T K b))) hn (zk_no hno) hC (fk_hopBits (g := ((B, H, T, K, V, c), gr)) hbB okb) (fun cm1003 o1003 u1003 s1003 a1003 hC1003 => ⟨rfl, ?_⟩)))
  refine z_iload (j := 6) dL_holds_137 rfl ?_
  refine z_icmp_ne (tgt := 153) dL_holds_139 (by decide) (fun czq139 => absurd rfl czq139) (fun czq139 => ?_)
  refine z_aload_n (j := 0) dL_holds_142 rfl ?_
  refine z_iload (j := 5) dL_holds_143 rfl ?_
  refine z_kV [.int ((nI b))] 0 0 kc ks yoX7_entriesOf yvX7_entriesOf rfl (by decide) lL_73 (by omega) gW_0 rfl rfl (Nat.le_of_ble_eq_true rfl) (Nat.le_of_ble_eq_true rfl) dL_holds_145 (by omega) (by omega) (z_room (by omega) (Nat.le_refl _) (Nat.le_refl _) (V_entriesOf (d := 0) (g := ((B, H, T, K, V, c), gr)) (g' := ((B, H, T, K, V, c), gr)) (v := (nI (cntH B H T K b))) hn (zk_no hno) hC1003 (fk_entriesOf (g := ((B, H, T, K, V, c), gr)) hbB okb) (fun cm1004 o1004 u1004 s1004 a1004 hC1004 => ⟨rfl, ?_⟩)))
  refine z_iload (j := 7) dL_holds_148 rfl ?_
  refine z_icmp_eq (tgt := 155) dL_holds_150 (by decide) (fun czq150 => ?_) (fun czq150 => absurd rfl czq150)
  refine z_aload_n (j := 0) dL_holds_155 rfl ?_
  refine z_iload (j := 5) dL_holds_156 rfl ?_
  refine z_kV [.int ((nI b))] 0 0 kc ks yoX7_keyAt yvX7_keyAt rfl (by decide) lL_16 (by omega) gW_0 rfl rfl (Nat.le_of_ble_eq_true rfl) (Nat.le_of_ble_eq_true rfl) dL_holds_158 (by omega) (by omega) (z_room (by omega) (Nat.le_refl _) (Nat.le_refl _) (V_keyAt (d := 0) (g := ((B, H, T, K, V, c), gr)) (g' := ((B, H, T, K, V, c), gr)) (v := (tkey (K b))) hn (zk_no hno) hC1004 (fk_keyAt (g := ((B, H, T, K, V, c), gr)) hbB okb) (fun cm1005 o1005 u1005 s1005 a1005 hC1005 => ⟨rfl, ?_⟩)))
  refine z_istore [1, 2, 3, 4, 5, 6, 7, 8, 0] [(0, .ref 0), (1, .int ((nI B))), (2, .int ((nI H))), (3, .int ((nI (cnt K b)))), (4, .int ((nI (sumN (offN B T K) b)))), (5, .int ((nI b))), (6, .int ((nI (hop B H T K b)))), (7, .int ((nI (cntH B H T K b)))), (8, .int ((tkey (K b))))] dL_holds_161 (by decide) rfl ?_
  refine z_iload (j := 8) dL_holds_163 rfl ?_
  refine z_iconst (v := (-1)) dL_holds_165 (by decide) ?_
  refine z_icmp_ne (tgt := 173) dL_holds_166 (by decide) (fun czq166 => ?_) (fun czq166 => ?_)
  · refine z_iconst (v := 0) dL_holds_173 (by decide) ?_
    refine z_aload_n (j := 0) dL_holds_174 rfl ?_
    refine z_iload (j := 5) dL_holds_175 rfl ?_
    refine z_kV [.int ((nI b))] 0 0 kc ks yoX7_valueAt yvX7_valueAt rfl (by decide) lL_76 (by omega) gW_0 rfl rfl (Nat.le_of_ble_eq_true rfl) (Nat.le_of_ble_eq_true rfl) dL_holds_177 (by omega) (by omega) (z_room (by omega) (Nat.le_refl _) (Nat.le_refl _) (V_valueAt (d := 0) (g := ((B, H, T, K, V, c), gr)) (g' := ((B, H, T, K, V, c), gr)) (v := (tval (K b) (V b))) hn (zk_no hno) hC1005 (fk_valueAt (g := ((B, H, T, K, V, c), gr)) hbB okb) (fun cm1006 o1006 u1006 s1006 a1006 hC1006 => ⟨rfl, ?_⟩)))
    refine z_iconst (v := (-1)) dL_holds_180 (by decide) ?_
    refine z_icmp_ne (tgt := 188) dL_holds_181 (by decide) (fun czq181 => ?_) (fun czq181 => absurd czq181 (by rw [tval_ne (fun q => czq166 (by rw [q]; rfl))]; exact nI_neg1 (by have := (ekv b).2; omega)))
    refine z_iconst (v := 0) dL_holds_188 (by decide) ?_
    refine z_icmp_eq (tgt := 194) dL_holds_189 (by decide) (fun czq189 => ?_) (fun czq189 => absurd rfl czq189)
    refine z_iload (j := 8) dL_holds_194 rfl ?_
    refine z_iconst (v := (-1)) dL_holds_196 (by decide) ?_
    refine z_icmp_ne (tgt := 203) dL_holds_197 (by decide) (fun czq197 => ?_) (fun czq197 => absurd czq197 czq166)
    have hK : K b ≠ 0 := fun q => czq166 (by rw [q]; rfl)
    rw [tkey_ne hK]
    have hky : K b - 1 ≤ 9999 := by have := (ekv b).1; omega
    obtain ⟨hdl, hdm⟩ := dst_H okb hH6 hI hbB hK
    have hff : sFind (B, H, T, K, V, c) (K b - 1) = some b := find_at hd3 hbB (show K b = K b - 1 + 1 by omega)
    have hhm := hmo_lt okb T (K b - 1)
    have hso : isO B T K (((hmo B T (K b - 1)) + dst B T K b) % B) (hmo B T (K b - 1)) = true := by
      rw [hdm]
      exact isO_of (by omega)
    refine z_iload (j := 5) dL_holds_203 rfl ?_
    refine z_aload_n (j := 0) dL_holds_205 rfl ?_
    refine z_iload (j := 8) dL_holds_206 rfl ?_
    refine z_kV [.int ((nI (K b - 1)))] 0 0 kc ks yoX7_homeOf yvX7_homeOf rfl (by decide) lL_67 (by omega) gW_0 rfl rfl (Nat.le_of_ble_eq_true rfl) (Nat.le_of_ble_eq_true rfl) dL_holds_208 (by omega) (by omega) (z_room (by omega) (Nat.le_refl _) (Nat.le_refl _) (V_homeOf (d := 0) (g := ((B, H, T, K, V, c), gr)) (g' := ((B, H, T, K, V, c), gr)) (v := (nI (hmo B T (K b - 1)))) hn (zk_no hno) hC1006 (fk_homeOf (g := ((B, H, T, K, V, c), gr)) hky) (fun cm1007 o1007 u1007 s1007 a1007 hC1007 => ⟨rfl, ?_⟩)))
    refine z_isub dL_holds_211 ?_
    refine z_iload_n (j := 1) dL_holds_212 rfl ?_
    refine z_iadd dL_holds_213 ?_
    refine z_iload_n (j := 1) dL_holds_214 rfl ?_
    refine z_irem (nI_ne0 (by omega) (by omega)) dL_holds_215 ?_
    rw [dst_eq okb hbB]
    refine z_istore [1, 2, 3, 4, 5, 6, 7, 8, 9, 0] [(0, .ref 0), (1, .int ((nI B))), (2, .int ((nI H))), (3, .int ((nI (cnt K b)))), (4, .int ((nI (sumN (offN B T K) b)))), (5, .int ((nI b))), (6, .int ((nI (hop B H T K b)))), (7, .int ((nI (cntH B H T K b)))), (8, .int ((nI (K b - 1)))), (9, .int ((nI (dst B T K b))))] dL_holds_216 (by decide) rfl ?_
    refine z_iload (j := 9) dL_holds_218 rfl ?_
    refine z_iload_n (j := 2) dL_holds_220 rfl ?_
    refine z_icmp_ge (tgt := 279) dL_holds_221 (by decide) (fun czq221 => absurd czq221 (nI_ge hdl (by omega))) (fun czq221 => ?_)
    refine z_aload_n (j := 0) dL_holds_224 rfl ?_
    refine z_iload (j := 8) dL_holds_225 rfl ?_
    refine z_kV [.int ((nI (K b - 1)))] 0 0 kc ks yoX7_distanceOf yvX7_distanceOf rfl (by decide) lL_79 (by omega) gW_0 rfl rfl (Nat.le_of_ble_eq_true rfl) (Nat.le_of_ble_eq_true rfl) dL_holds_227 (by omega) (by omega) (z_room (by omega) (Nat.le_refl _) (Nat.le_refl _) (V_distanceOf (d := 0) (g := ((B, H, T, K, V, c), gr)) (g' := ((B, H, T, K, V, c), gr)) (v := (nI (dst B T K b))) hn (zk_no hno) hC1007 (fk_distanceOf (g := ((B, H, T, K, V, c), gr)) hky hff) (fun cm1008 o1008 u1008 s1008 a1008 hC1008 => ⟨rfl, ?_⟩)))
    refine z_iload (j := 9) dL_holds_230 rfl ?_
    refine z_icmp_ne (tgt := 279) dL_holds_232 (by decide) (fun czq232 => absurd rfl czq232) (fun czq232 => ?_)
    refine z_aload_n (j := 0) dL_holds_235 rfl ?_
    refine z_iload (j := 8) dL_holds_236 rfl ?_
    refine z_kV [.int ((nI (K b - 1)))] 0 0 kc ks yoX7_bucketOf yvX7_bucketOf rfl (by decide) lL_82 (by omega) gW_0 rfl rfl (Nat.le_of_ble_eq_true rfl) (Nat.le_of_ble_eq_true rfl) dL_holds_238 (by omega) (by omega) (z_room (by omega) (Nat.le_refl _) (Nat.le_refl _) (V_bucketOf (d := 0) (g := ((B, H, T, K, V, c), gr)) (g' := ((B, H, T, K, V, c), gr)) (v := (nI b)) hn (zk_no hno) hC1008 (fk_bucketOf (g := ((B, H, T, K, V, c), gr)) hky hff) (fun cm1009 o1009 u1009 s1009 a1009 hC1009 => ⟨rfl, ?_⟩)))
    refine z_iload (j := 5) dL_holds_241 rfl ?_
    refine z_icmp_ne (tgt := 279) dL_holds_243 (by decide) (fun czq243 => absurd rfl czq243) (fun czq243 => ?_)
    refine z_aload_n (j := 0) dL_holds_246 rfl ?_
    refine z_iload (j := 8) dL_holds_247 rfl ?_
    refine z_kV [.int ((nI (K b - 1)))] 0 0 kc ks yoX7_valueOf yvX7_valueOf rfl (by decide) lL_85 (by omega) gW_0 rfl rfl (Nat.le_of_ble_eq_true rfl) (Nat.le_of_ble_eq_true rfl) dL_holds_249 (by omega) (by omega) (z_room (by omega) (Nat.le_refl _) (Nat.le_refl _) (V_valueOf (d := 0) (g := ((B, H, T, K, V, c), gr)) (g' := ((B, H, T, K, V, c), gr)) (v := (nI (V b))) hn (zk_no hno) hC1009 (fk_valueOf (g := ((B, H, T, K, V, c), gr)) hky hff) (fun cm1010 o1010 u1010 s1010 a1010 hC1010 => ⟨rfl, ?_⟩)))
    refine z_aload_n (j := 0) dL_holds_252 rfl ?_
    refine z_iload (j := 5) dL_holds_253 rfl ?_
    refine z_kV [.int ((nI b))] 0 0 kc ks yoX7_valueAt yvX7_valueAt rfl (by decide) lL_76 (by omega) gW_0 rfl rfl (Nat.le_of_ble_eq_true rfl) (Nat.le_of_ble_eq_true rfl) dL_holds_255 (by omega) (by omega) (z_room (by omega) (Nat.le_refl _) (Nat.le_refl _) (V_valueAt (d := 0) (g := ((B, H, T, K, V, c), gr)) (g' := ((B, H, T, K, V, c), gr)) (v := (tval (K b) (V b))) hn (zk_no hno) hC1010 (fk_valueAt (g := ((B, H, T, K, V, c), gr)) hbB okb) (fun cm1011 o1011 u1011 s1011 a1011 hC1011 => ⟨rfl, ?_⟩)))
    rw [tval_ne hK]
    refine z_icmp_ne (tgt := 279) dL_holds_258 (by decide) (fun czq258 => absurd rfl czq258) (fun czq258 => ?_)
    refine z_aload_n (j := 0) dL_holds_261 rfl ?_
    refine z_aload_n (j := 0) dL_holds_262 rfl ?_
    refine z_iload (j := 8) dL_holds_263 rfl ?_
    refine z_kV [.int ((nI (K b - 1)))] 0 0 kc ks yoX7_homeOf yvX7_homeOf rfl (by decide) lL_67 (by omega) gW_0 rfl rfl (Nat.le_of_ble_eq_true rfl) (Nat.le_of_ble_eq_true rfl) dL_holds_265 (by omega) (by omega) (z_room (by omega) (Nat.le_refl _) (Nat.le_refl _) (V_homeOf (d := 0) (g := ((B, H, T, K, V, c), gr)) (g' := ((B, H, T, K, V, c), gr)) (v := (nI (hmo B T (K b - 1)))) hn (zk_no hno) hC1011 (fk_homeOf (g := ((B, H, T, K, V, c), gr)) hky) (fun cm1012 o1012 u1012 s1012 a1012 hC1012 => ⟨rfl, ?_⟩)))
    refine z_kV [.int ((nI (hmo B T (K b - 1))))] 0 0 kc ks yoX7_hopBits yvX7_hopBits rfl (by decide) lL_70 (by omega) gW_0 rfl rfl (Nat.le_of_ble_eq_true rfl) (Nat.le_of_ble_eq_true rfl) dL_holds_268 (by omega) (by omega) (z_room (by omega) (Nat.le_refl _) (Nat.le_refl _) (V_hopBits (d := 0) (g := ((B, H, T, K, V, c), gr)) (g' := ((B, H, T, K, V, c), gr)) (v := (nI (hop B H T K (hmo B T (K b - 1))))) hn (zk_no hno) hC1012 (fk_hopBits (g := ((B, H, T, K, V, c), gr)) hhm okb) (fun cm1013 o1013 u1013 s1013 a1013 hC1013 => ⟨rfl, ?_⟩)))
    refine z_iload (j := 9) dL_holds_271 rfl ?_
    refine z_ishr dL_holds_273 ?_
    refine z_iconst (v := 1) dL_holds_274 (by decide) ?_
    refine z_iand dL_holds_275 ?_
    refine z_if_ne (tgt := 281) dL_holds_276 (by decide) (fun czq276 => ?_) (fun czq276 => absurd ((hop_bit hH6 hdl).mp czq276) (by rw [hso]; decide))
    skip
    refine z_iinc ((nI ((cnt K b) + 1))) [1, 2, 3, 0, 4, 5, 6, 7, 8, 9] [(0, .ref 0), (1, .int ((nI B))), (2, .int ((nI H))), (3, .int ((nI ((cnt K b) + 1)))), (4, .int ((nI (sumN (offN B T K) b)))), (5, .int ((nI b))), (6, .int ((nI (hop B H T K b)))), (7, .int ((nI (cntH B H T K b)))), (8, .int ((nI (K b - 1)))), (9, .int ((nI (dst B T K b))))] dL_holds_281 (j := 3) rfl (nI_1 (cnt K b)) (by decide) rfl ?_
    refine z_iload (j := 4) dL_holds_284 rfl ?_
    refine z_iload (j := 9) dL_holds_286 rfl ?_
    refine z_iadd dL_holds_288 ?_
    rw [nI_add]
    refine z_istore [1, 2, 3, 4, 0, 5, 6, 7, 8, 9] [(0, .ref 0), (1, .int ((nI B))), (2, .int ((nI H))), (3, .int ((nI ((cnt K b) + 1)))), (4, .int ((nI (sumN (offN B T K) b + dst B T K b)))), (5, .int ((nI b))), (6, .int ((nI (hop B H T K b)))), (7, .int ((nI (cntH B H T K b)))), (8, .int ((nI (K b - 1)))), (9, .int ((nI (dst B T K b))))] dL_holds_289 (by decide) rfl ?_
    skip
    refine z_iinc ((nI (b + 1))) [1, 2, 3, 4, 5, 0, 6, 7, 8, 9] [(0, .ref 0), (1, .int ((nI B))), (2, .int ((nI H))), (3, .int ((nI ((cnt K b) + 1)))), (4, .int ((nI (sumN (offN B T K) b + dst B T K b)))), (5, .int ((nI (b + 1)))), (6, .int ((nI (hop B H T K b)))), (7, .int ((nI (cntH B H T K b)))), (8, .int ((nI (K b - 1)))), (9, .int ((nI (dst B T K b))))] dL_holds_291 (j := 5) rfl (nI_1 b) (by decide) rfl ?_
    refine z_goto (tgt := 62) dL_holds_294 (by decide) ?_
    refine z_lv [(0, .ref 0), (1, .int ((nI B))), (2, .int ((nI H))), (3, .int ((nI ((cnt K b) + 1)))), (4, .int ((nI (sumN (offN B T K) b + dst B T K b)))), (5, .int ((nI (b + 1))))] [0, 1, 2, 3, 4, 5] rfl ?_
    rw [← cnt_yes hK, ← off_yes hK]
    exact hk cm1013 o1013 u1013 s1013 a1013 hC1013
  · refine z_iconst (v := 1) dL_holds_169 (by decide) ?_
    refine z_goto (tgt := 174) dL_holds_170 (by decide) ?_
    refine z_aload_n (j := 0) dL_holds_174 rfl ?_
    refine z_iload (j := 5) dL_holds_175 rfl ?_
    refine z_kV [.int ((nI b))] 0 0 kc ks yoX7_valueAt yvX7_valueAt rfl (by decide) lL_76 (by omega) gW_0 rfl rfl (Nat.le_of_ble_eq_true rfl) (Nat.le_of_ble_eq_true rfl) dL_holds_177 (by omega) (by omega) (z_room (by omega) (Nat.le_refl _) (Nat.le_refl _) (V_valueAt (d := 0) (g := ((B, H, T, K, V, c), gr)) (g' := ((B, H, T, K, V, c), gr)) (v := (tval (K b) (V b))) hn (zk_no hno) hC1005 (fk_valueAt (g := ((B, H, T, K, V, c), gr)) hbB okb) (fun cm1014 o1014 u1014 s1014 a1014 hC1014 => ⟨rfl, ?_⟩)))
    refine z_iconst (v := (-1)) dL_holds_180 (by decide) ?_
    refine z_icmp_ne (tgt := 188) dL_holds_181 (by decide) (fun czq181 => absurd (by rw [(tkey_eq (ekv b).1).mp czq166]; rfl) czq181) (fun czq181 => ?_)
    refine z_iconst (v := 1) dL_holds_184 (by decide) ?_
    refine z_goto (tgt := 189) dL_holds_185 (by decide) ?_
    refine z_icmp_eq (tgt := 194) dL_holds_189 (by decide) (fun czq189 => ?_) (fun czq189 => absurd rfl czq189)
    refine z_iload (j := 8) dL_holds_194 rfl ?_
    refine z_iconst (v := (-1)) dL_holds_196 (by decide) ?_
    refine z_icmp_ne (tgt := 203) dL_holds_197 (by decide) (fun czq197 => absurd czq166 czq197) (fun czq197 => ?_)
    refine z_goto (tgt := 291) dL_holds_200 (by decide) ?_
    skip
    refine z_iinc ((nI (b + 1))) [1, 2, 3, 4, 5, 0, 6, 7, 8] [(0, .ref 0), (1, .int ((nI B))), (2, .int ((nI H))), (3, .int ((nI (cnt K b)))), (4, .int ((nI (sumN (offN B T K) b)))), (5, .int ((nI (b + 1)))), (6, .int ((nI (hop B H T K b)))), (7, .int ((nI (cntH B H T K b)))), (8, .int ((tkey (K b))))] dL_holds_291 (j := 5) rfl (nI_1 b) (by decide) rfl ?_
    refine z_goto (tgt := 62) dL_holds_294 (by decide) ?_
    refine z_lv [(0, .ref 0), (1, .int ((nI B))), (2, .int ((nI H))), (3, .int ((nI (cnt K b)))), (4, .int ((nI (sumN (offN B T K) b)))), (5, .int ((nI (b + 1))))] [0, 1, 2, 3, 4, 5] rfl ?_
    have hK0 := (tkey_eq (ekv b).1).mp czq166
    rw [← cnt_no hK0, ← off_no (T := T) (B := B) hK0]
    exact hk cm1014 o1014 u1014 s1014 a1014 hC1014

set_option maxHeartbeats 4000000 in
set_option maxRecDepth 100000 in
theorem H_l {l : zL} {d kc ks n : Nat} {h : Nat → va_E} {B H T : Nat} {K V : Nat → Nat} {c : Nat → Int32} {gr : zGr} {Q : zQ} (hn : 89 ≤ n) (hno : ∀ E n' h', ¬ Q (.inr E) n' h') (hcc : okc (B, H, T, K, V, c)) (hq : ∀ cm o u s a, cI ((B, H, T, K, V, c), gr) o u s a → Q (.inl (some (.int 1))) n (gW h cm o u s a)) : ∀ m (b : Nat) (cm : Value) (o u : Nat → Nat → Int32) (s : Nat → Nat → Int32) (a : Nat → Nat → Nat → Int32), b + m = B → cI ((B, H, T, K, V, c), gr) o u s a → Zj l mL_holds (d + 8) kc ks 62 [(0, .ref 0), (1, .int ((nI B))), (2, .int ((nI H))), (3, .int ((nI (cnt K b)))), (4, .int ((nI (sumN (offN B T K) b)))), (5, .int ((nI b)))] [] n (gW h cm o u s a) Q := by
  intro m
  induction m with
  | zero =>
    intro b cm o u s a hb hC
    have hT : cT (B, H, T, K, V, c) (s 1) (a 1) := hC.t
    obtain ⟨hR, ⟨hI, hd3, h3⟩, e9, e10, e11, e12, e13, e14, e15⟩ := id hT
    obtain ⟨okb, h2H, hH6, h1T, hT99, e6, e7, e8, ek_, ev_, eh_, ekv, ez⟩ := id hR
    have hle := okb.le
    refine z_iload (j := 5) dL_holds_62 rfl ?_
    refine z_iload_n (j := 1) dL_holds_64 rfl ?_
    refine z_icmp_ge (tgt := 297) dL_holds_65 (by decide) (fun czq65 => ?_) (fun czq65 => absurd (nI_le (by omega) (by omega)) czq65)
    rw [show b = B by omega]
    have hc7 : c 7 = c 8 + nI (cnt K B) := hcc
    refine z_aload_n (j := 0) dL_holds_297 rfl ?_
    refine z_kV [] 0 0 kc ks yoX7_entryCount yvX7_entryCount rfl (by decide) lL_7 (by omega) gW_0 rfl rfl (Nat.le_of_ble_eq_true rfl) (Nat.le_of_ble_eq_true rfl) dL_holds_298 (by omega) (by omega) (z_room (by omega) (Nat.le_refl _) (Nat.le_refl _) (V_entryCount (d := 0) (g := ((B, H, T, K, V, c), gr)) (g' := ((B, H, T, K, V, c), gr)) (v := (nI (cnt K B))) hn (zk_no hno) hC rfl (fun cm1015 o1015 u1015 s1015 a1015 hC1015 => ⟨rfl, ?_⟩)))
    refine z_iload_n (j := 3) dL_holds_301 rfl ?_
    refine z_icmp_ne (tgt := 339) dL_holds_302 (by decide) (fun czq302 => absurd rfl czq302) (fun czq302 => ?_)
    refine z_aload_n (j := 0) dL_holds_305 rfl ?_
    refine z_kV [] 0 0 kc ks yoX7_sumOfDistances yvX7_sumOfDistances rfl (by decide) lL_88 (by omega) gW_0 rfl rfl (Nat.le_of_ble_eq_true rfl) (Nat.le_of_ble_eq_true rfl) dL_holds_306 (by omega) (by omega) (z_room (by omega) (Nat.le_refl _) (Nat.le_refl _) (V_sumOfDistances (d := 0) (g := ((B, H, T, K, V, c), gr)) (g' := ((B, H, T, K, V, c), gr)) (v := (nI (sumN (offN B T K) B))) hn (zk_no hno) hC1015 rfl (fun cm1016 o1016 u1016 s1016 a1016 hC1016 => ⟨rfl, ?_⟩)))
    refine z_iload (j := 4) dL_holds_309 rfl ?_
    refine z_icmp_ne (tgt := 339) dL_holds_311 (by decide) (fun czq311 => absurd rfl czq311) (fun czq311 => ?_)
    refine z_aload_n (j := 0) dL_holds_314 rfl ?_
    refine z_kV [] 0 0 kc ks yoX7_addedCount yvX7_addedCount rfl (by decide) lL_91 (by omega) gW_0 rfl rfl (Nat.le_of_ble_eq_true rfl) (Nat.le_of_ble_eq_true rfl) dL_holds_315 (by omega) (by omega) (z_room (by omega) (Nat.le_refl _) (Nat.le_refl _) (V_addedCount (d := 0) (g := ((B, H, T, K, V, c), gr)) (g' := ((B, H, T, K, V, c), gr)) (v := (c 7)) hn (zk_no hno) hC1016 rfl (fun cm1017 o1017 u1017 s1017 a1017 hC1017 => ⟨rfl, ?_⟩)))
    refine z_aload_n (j := 0) dL_holds_318 rfl ?_
    refine z_kV [] 0 0 kc ks yoX7_removedCount yvX7_removedCount rfl (by decide) lL_94 (by omega) gW_0 rfl rfl (Nat.le_of_ble_eq_true rfl) (Nat.le_of_ble_eq_true rfl) dL_holds_319 (by omega) (by omega) (z_room (by omega) (Nat.le_refl _) (Nat.le_refl _) (V_removedCount (d := 0) (g := ((B, H, T, K, V, c), gr)) (g' := ((B, H, T, K, V, c), gr)) (v := (c 8)) hn (zk_no hno) hC1017 rfl (fun cm1018 o1018 u1018 s1018 a1018 hC1018 => ⟨rfl, ?_⟩)))
    refine z_iload_n (j := 3) dL_holds_322 rfl ?_
    refine z_iadd dL_holds_323 ?_
    refine z_icmp_ne (tgt := 339) dL_holds_324 (by decide) (fun czq324 => absurd hc7 czq324) (fun czq324 => ?_)
    refine z_aload_n (j := 0) dL_holds_327 rfl ?_
    refine z_kV [] 0 0 kc ks yoX7_longestDistance yvX7_longestDistance rfl (by decide) lL_97 (by omega) gW_0 rfl rfl (Nat.le_of_ble_eq_true rfl) (Nat.le_of_ble_eq_true rfl) dL_holds_328 (by omega) (by omega) (z_room (by omega) (Nat.le_refl _) (Nat.le_refl _) (V_longestDistance (d := 0) (g := ((B, H, T, K, V, c), gr)) (g' := ((B, H, T, K, V, c), gr)) (v := (nI (maxN (offN B T K) B))) hn (zk_no hno) hC1018 rfl (fun cm1019 o1019 u1019 s1019 a1019 hC1019 => ⟨rfl, ?_⟩)))
    refine z_iload_n (j := 2) dL_holds_331 rfl ?_
    refine z_icmp_ge (tgt := 339) dL_holds_332 (by decide) (fun czq332 => absurd czq332 (nI_ge (max_off okb h2H hH6 hI B (Nat.le_refl _)) (by omega))) (fun czq332 => ?_)
    refine z_iconst (v := 1) dL_holds_335 (by decide) ?_
    refine z_goto (tgt := 340) dL_holds_336 (by decide) ?_
    exact z_zret rfl rfl dL_holds_340 (hq _ _ _ _ _ hC1019)
  | succ m ih =>
    intro b cm o u s a hb hC
    have hbB : b < B := by omega
    have hT : cT (B, H, T, K, V, c) (s 1) (a 1) := hC.t
    obtain ⟨hR, ⟨hI, hd3, h3⟩, e9, e10, e11, e12, e13, e14, e15⟩ := id hT
    obtain ⟨okb, h2H, hH6, h1T, hT99, e6, e7, e8, ek_, ev_, eh_, ekv, ez⟩ := id hR
    have hle := okb.le
    refine z_iload (j := 5) dL_holds_62 rfl ?_
    refine z_iload_n (j := 1) dL_holds_64 rfl ?_
    refine z_icmp_ge (tgt := 297) dL_holds_65 (by decide) (fun czq65 => absurd czq65 (nI_ge (by omega) (by omega))) (fun czq65 => ?_)
    refine z_iconst (v := 0) dL_holds_68 (by decide) ?_
    skip
    refine z_istore [1, 2, 3, 4, 5, 6, 0] [(0, .ref 0), (1, .int ((nI B))), (2, .int ((nI H))), (3, .int ((nI (cnt K b)))), (4, .int ((nI (sumN (offN B T K) b)))), (5, .int ((nI b))), (6, .int ((nI (hb6 (hF B T K b) 0))))] dL_holds_69 (by decide) rfl ?_
    refine z_iconst (v := 0) dL_holds_71 (by decide) ?_
    skip
    refine z_istore [1, 2, 3, 4, 5, 6, 7, 0] [(0, .ref 0), (1, .int ((nI B))), (2, .int ((nI H))), (3, .int ((nI (cnt K b)))), (4, .int ((nI (sumN (offN B T K) b)))), (5, .int ((nI b))), (6, .int ((nI (hb6 (hF B T K b) 0)))), (7, .int ((nI (sumN (hQ B T K b) 0))))] dL_holds_72 (by decide) rfl ?_
    refine z_iconst (v := 0) dL_holds_74 (by decide) ?_
    skip
    refine z_istore [1, 2, 3, 4, 5, 6, 7, 8, 0] [(0, .ref 0), (1, .int ((nI B))), (2, .int ((nI H))), (3, .int ((nI (cnt K b)))), (4, .int ((nI (sumN (offN B T K) b)))), (5, .int ((nI b))), (6, .int ((nI (hb6 (hF B T K b) 0)))), (7, .int ((nI (sumN (hQ B T K b) 0)))), (8, .int ((nI 0)))] dL_holds_75 (by decide) rfl ?_
    exact H_in hbB hn hno (fun cm o u s a hC => H_131 hbB hn hno hC (fun cm o u s a hC => ih (b + 1) cm o u s a (by omega) hC)) H 0 cm o u s a (by omega) hC

set_option maxHeartbeats 4000000 in
set_option maxRecDepth 100000 in
theorem H_46 {l : zL} {d kc ks n : Nat} {h : Nat → va_E} {cm : Value} {o u : Nat → Nat → Int32} {s : Nat → Nat → Int32} {a : Nat → Nat → Nat → Int32} {B H T : Nat} {K V : Nat → Nat} {c : Nat → Int32} {gr : zGr} {Q : zQ} (hn : 89 ≤ n) (hno : ∀ E n' h', ¬ Q (.inr E) n' h') (hC : cI ((B, H, T, K, V, c), gr) o u s a) (hcc : okc (B, H, T, K, V, c)) (hq : ∀ cm o u s a, cI ((B, H, T, K, V, c), gr) o u s a → Q (.inl (some (.int 1))) n (gW h cm o u s a)) : Zj l mL_holds (d + 8) kc ks 46 [(0, .ref 0), (1, .int ((nI B))), (2, .int ((nI H))), (3, .int ((nI (cnt K 0)))), (4, .int ((nI (sumN (offN B T K) 0))))] [] n (gW h cm o u s a) Q := by
  have hT : cT (B, H, T, K, V, c) (s 1) (a 1) := hC.t
  obtain ⟨hR, ⟨hI, hd3, h3⟩, e9, e10, e11, e12, e13, e14, e15⟩ := id hT
  obtain ⟨okb, h2H, hH6, h1T, hT99, e6, e7, e8, ek_, ev_, eh_, ekv, ez⟩ := id hR
  have hle := okb.le
  refine z_iload_n (j := 2) dL_holds_46 rfl ?_
  refine z_iconst (v := 2) dL_holds_47 (by decide) ?_
  refine z_icmp_lt (tgt := 57) dL_holds_48 (by decide) (fun czq48 => absurd czq48 (nI_nlt (b := 2) h2H (by omega))) (fun czq48 => ?_)
  refine z_iload_n (j := 2) dL_holds_51 rfl ?_
  refine z_bipush (v := 6) dL_holds_52 (by decide) ?_
  refine z_icmp_le (tgt := 59) dL_holds_54 (by decide) (fun czq54 => ?_) (fun czq54 => absurd (nI_le (b := 6) hH6 (by decide)) czq54)
  refine z_iconst (v := 0) dL_holds_59 (by decide) ?_
  skip
  refine z_istore [1, 2, 3, 4, 5, 0] [(0, .ref 0), (1, .int ((nI B))), (2, .int ((nI H))), (3, .int ((nI (cnt K 0)))), (4, .int ((nI (sumN (offN B T K) 0)))), (5, .int ((nI 0)))] dL_holds_60 (by decide) rfl ?_
  exact H_l hn hno hcc hq B 0 cm o u s a (by omega) hC

set_option maxHeartbeats 4000000 in
set_option maxRecDepth 100000 in
theorem W_holds0 {l : zL} {d kc ks n : Nat} {h : Nat → va_E} {cm : Value} {o u : Nat → Nat → Int32} {s : Nat → Nat → Int32} {a : Nat → Nat → Nat → Int32} {B H T : Nat} {K V : Nat → Nat} {c : Nat → Int32} {gr : zGr} {Q : zQ} (hn : 89 ≤ n) (hno : ∀ E n' h', ¬ Q (.inr E) n' h') (hC : cI ((B, H, T, K, V, c), gr) o u s a) (hcc : okc (B, H, T, K, V, c)) (hq : ∀ cm o u s a, cI ((B, H, T, K, V, c), gr) o u s a → Q (.inl (some (.int 1))) n (gW h cm o u s a)) : Zj l mL_holds (d + 8) kc ks 0 [(0, .ref 0)] [] n (gW h cm o u s a) Q := by
  have hT : cT (B, H, T, K, V, c) (s 1) (a 1) := hC.t
  obtain ⟨hR, ⟨hI, hd3, h3⟩, e9, e10, e11, e12, e13, e14, e15⟩ := id hT
  obtain ⟨okb, h2H, hH6, h1T, hT99, e6, e7, e8, ek_, ev_, eh_, ekv, ez⟩ := id hR
  have hle := okb.le
  refine z_aload_n (j := 0) dL_holds_0 rfl ?_
  refine z_kV [] 0 0 kc ks yoX7_bucketCount yvX7_bucketCount rfl (by decide) lL_13 (by omega) gW_0 rfl rfl (Nat.le_of_ble_eq_true rfl) (Nat.le_of_ble_eq_true rfl) dL_holds_1 (by omega) (by omega) (z_room (by omega) (Nat.le_refl _) (Nat.le_refl _) (V_bucketCount (d := 0) (g := ((B, H, T, K, V, c), gr)) (g' := ((B, H, T, K, V, c), gr)) (v := (nI B)) hn (zk_no hno) hC rfl (fun cm1020 o1020 u1020 s1020 a1020 hC1020 => ⟨rfl, ?_⟩)))
  refine z_istore_n [1, 0] [(0, .ref 0), (1, .int ((nI B)))] dL_holds_4 (by decide) rfl ?_
  refine z_aload_n (j := 0) dL_holds_5 rfl ?_
  refine z_kV [] 0 0 kc ks yoX7_neighbourhood yvX7_neighbourhood rfl (by decide) lL_61 (by omega) gW_0 rfl rfl (Nat.le_of_ble_eq_true rfl) (Nat.le_of_ble_eq_true rfl) dL_holds_6 (by omega) (by omega) (z_room (by omega) (Nat.le_refl _) (Nat.le_refl _) (V_neighbourhood (d := 0) (g := ((B, H, T, K, V, c), gr)) (g' := ((B, H, T, K, V, c), gr)) (v := (nI H)) hn (zk_no hno) hC1020 rfl (fun cm1021 o1021 u1021 s1021 a1021 hC1021 => ⟨rfl, ?_⟩)))
  refine z_istore_n [1, 2, 0] [(0, .ref 0), (1, .int ((nI B))), (2, .int ((nI H)))] dL_holds_9 (by decide) rfl ?_
  refine z_iconst (v := 0) dL_holds_10 (by decide) ?_
  skip
  refine z_istore_n [1, 2, 3, 0] [(0, .ref 0), (1, .int ((nI B))), (2, .int ((nI H))), (3, .int ((nI (cnt K 0))))] dL_holds_11 (by decide) rfl ?_
  refine z_iconst (v := 0) dL_holds_12 (by decide) ?_
  skip
  refine z_istore [1, 2, 3, 4, 0] [(0, .ref 0), (1, .int ((nI B))), (2, .int ((nI H))), (3, .int ((nI (cnt K 0)))), (4, .int ((nI (sumN (offN B T K) 0))))] dL_holds_13 (by decide) rfl ?_
  refine z_aload_n (j := 0) dL_holds_15 rfl ?_
  refine z_kV [] 0 0 kc ks yoX7_violations yvX7_violations rfl (by decide) lL_64 (by omega) gW_0 rfl rfl (Nat.le_of_ble_eq_true rfl) (Nat.le_of_ble_eq_true rfl) dL_holds_16 (by omega) (by omega) (z_room (by omega) (Nat.le_refl _) (Nat.le_refl _) (V_violations (d := 0) (g := ((B, H, T, K, V, c), gr)) (g' := ((B, H, T, K, V, c), gr)) (v := 0) hn (zk_no hno) hC1021 (fk_violations (g := ((B, H, T, K, V, c), gr)) hC1021.t hcc) (fun cm1022 o1022 u1022 s1022 a1022 hC1022 => ⟨rfl, ?_⟩)))
  refine z_if_ne (tgt := 57) dL_holds_19 (by decide) (fun czq19 => absurd rfl czq19) (fun czq19 => ?_)
  refine z_iload_n (j := 1) dL_holds_22 rfl ?_
  refine z_bipush (v := 8) dL_holds_23 (by decide) ?_
  refine z_icmp_eq (tgt := 46) dL_holds_25 (by decide) (fun czq25 => ?_) (fun czq25 => ?_)
  · exact H_46 hn hno hC1022 hcc hq
  · refine z_iload_n (j := 1) dL_holds_28 rfl ?_
    refine z_bipush (v := 16) dL_holds_29 (by decide) ?_
    refine z_icmp_eq (tgt := 46) dL_holds_31 (by decide) (fun czq31 => ?_) (fun czq31 => ?_)
    · exact H_46 hn hno hC1022 hcc hq
    · refine z_iload_n (j := 1) dL_holds_34 rfl ?_
      refine z_bipush (v := 32) dL_holds_35 (by decide) ?_
      refine z_icmp_eq (tgt := 46) dL_holds_37 (by decide) (fun czq37 => ?_) (fun czq37 => ?_)
      · exact H_46 hn hno hC1022 hcc hq
      · refine z_iload_n (j := 1) dL_holds_40 rfl ?_
        refine z_bipush (v := 64) dL_holds_41 (by decide) ?_
        refine z_icmp_ne (tgt := 57) dL_holds_43 (by decide) (fun czq43 => (okB_no okb czq25 czq31 czq37 czq43).elim) (fun czq43 => ?_)
        exact H_46 hn hno hC1022 hcc hq

theorem W_holds {l : zL} {d kc ks n : Nat} {h : Nat → va_E} {cm : Value} {o u : Nat → Nat → Int32} {s : Nat → Nat → Int32} {a : Nat → Nat → Nat → Int32} {g : zGs} {Q : zQ} (hn : 89 ≤ n) (hno : ∀ E n' h', ¬ Q (.inr E) n' h') (hC : cI g o u s a) (hcc : okc g.1) (hq : ∀ cm o u s a, cI g o u s a → Q (.inl (some (.int 1))) n (gW h cm o u s a)) : Zj l mL_holds (d + 8) kc ks 0 [(0, .ref 0)] [] n (gW h cm o u s a) Q := by
  obtain ⟨⟨B, H, T, K, V, c⟩, gr⟩ := g
  exact W_holds0 hn hno hC hcc hq
