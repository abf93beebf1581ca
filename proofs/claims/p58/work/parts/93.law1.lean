/-! THE LAW'S READING METHODS -/
set_option maxHeartbeats 4000000 in
set_option maxRecDepth 100000 in
theorem W_cell {l : zL} {d kc ks n k : Nat} {h : Nat → va_E} {Q : zQ} (hL : l.2.1 ≤ 260) (hk : k < 14) (hq : ∀ v, Q (.inl (some (.int v))) n h) : Zj l mL_cell d kc ks 0 [(0, .ref (zB + 500)), (1, .int (nI k))] [] n h Q := by
  refine z_iload_n (j := 1) dL_cell_0 rfl ?_
  refine z_aload_n (j := 0) dL_cell_1 rfl ?_
  refine z_slen dL_cell_2 ?_
  refine z_icmp_ge (tgt := 12) dL_cell_3 (by decide) (fun czq3 => ?_) (fun czq3 => ?_)
  · refine z_iconst (v := 0) dL_cell_12 (by decide) ?_
    exact z_iret rfl dL_cell_13 (hq _)
  · have hkl : k < l.2.1 := by
      have h9 : k < l.2.1 ∨ l.2.1 ≤ k := by omega
      rcases h9 with h9 | h9
      · exact h9
      · exact absurd (nI_le h9 (by omega)) czq3
    refine z_aload_n (j := 0) dL_cell_6 rfl ?_
    refine z_iload_n (j := 1) dL_cell_7 rfl ?_
    refine z_sld (vp_in_nI hkl (by omega)) dL_cell_8 ?_
    refine z_goto (tgt := 13) dL_cell_9 (by decide) ?_
    exact z_iret rfl dL_cell_13 (hq _)

set_option maxHeartbeats 4000000 in
set_option maxRecDepth 100000 in
theorem W_entry_l {l : zL} {d kc ks n : Nat} {h : Nat → va_E} {B H T : Nat} {K V : Nat → Nat} {c : Nat → Int32} {gr : zGr} {Q : zQ} {x : Int32} (hn : 89 ≤ n) (hno : ∀ E n' h', ¬ Q (.inr E) n' h') (hq : ∀ v cm o u s a, eOK (B, H, T, K, V, c) v → cI ((B, H, T, K, V, c), gr) o u s a → Q (.inl (some (.int v))) n (gW h cm o u s a)) : ∀ m (b : Nat) (kk : Int32) (cm : Value) (o u : Nat → Nat → Int32) (s : Nat → Nat → Int32) (a : Nat → Nat → Nat → Int32), b + m = B → cI ((B, H, T, K, V, c), gr) o u s a → Zj l mL_entry (d + 8) kc ks 20 [(0, .ref 0), (1, .int x), (2, .int kk), (3, .int ((nI b)))] [] n (gW h cm o u s a) Q := by
  intro m
  induction m with
  | zero =>
    intro b kk cm o u s a hb hC
    have hT : cT (B, H, T, K, V, c) (s 1) (a 1) := hC.t
    obtain ⟨hR, ⟨hI, hd3, h3⟩, e9, e10, e11, e12, e13, e14, e15⟩ := id hT
    obtain ⟨okb, h2H, hH6, h1T, hT99, e6, e7, e8, ek_, ev_, eh_, ekv, ez⟩ := id hR
    have hle := okb.le
    refine z_iload_n (j := 3) dL_entry_20 rfl ?_
    refine z_aload_n (j := 0) dL_entry_21 rfl ?_
    refine z_kV [] 0 0 kc ks yoX7_bucketCount yvX7_bucketCount rfl (by decide) lL_13 (by omega) gW_0 rfl rfl (Nat.le_of_ble_eq_true rfl) (Nat.le_of_ble_eq_true rfl) dL_entry_22 (by omega) (by omega) (z_room (by omega) (Nat.le_refl _) (Nat.le_refl _) (V_bucketCount (d := 0) (g := ((B, H, T, K, V, c), gr)) (g' := ((B, H, T, K, V, c), gr)) (v := (nI B)) hn (zk_no hno) hC rfl (fun cm4 o4 u4 s4 a4 hC4 => ⟨rfl, ?_⟩)))
    refine z_icmp_ge (tgt := 60) dL_entry_25 (by decide) (fun czq25 => ?_) (fun czq25 => absurd (nI_le (by omega) (by omega)) czq25)
    refine z_iconst (v := (-1)) dL_entry_60 (by decide) ?_
    exact z_iret rfl dL_entry_61 (hq _ _ _ _ _ _ (Or.inl rfl) hC4)
  | succ m ih =>
    intro b kk cm o u s a hb hC
    have hT : cT (B, H, T, K, V, c) (s 1) (a 1) := hC.t
    obtain ⟨hR, ⟨hI, hd3, h3⟩, e9, e10, e11, e12, e13, e14, e15⟩ := id hT
    obtain ⟨okb, h2H, hH6, h1T, hT99, e6, e7, e8, ek_, ev_, eh_, ekv, ez⟩ := id hR
    have hle := okb.le
    refine z_iload_n (j := 3) dL_entry_20 rfl ?_
    refine z_aload_n (j := 0) dL_entry_21 rfl ?_
    refine z_kV [] 0 0 kc ks yoX7_bucketCount yvX7_bucketCount rfl (by decide) lL_13 (by omega) gW_0 rfl rfl (Nat.le_of_ble_eq_true rfl) (Nat.le_of_ble_eq_true rfl) dL_entry_22 (by omega) (by omega) (z_room (by omega) (Nat.le_refl _) (Nat.le_refl _) (V_bucketCount (d := 0) (g := ((B, H, T, K, V, c), gr)) (g' := ((B, H, T, K, V, c), gr)) (v := (nI B)) hn (zk_no hno) hC rfl (fun cm1 o1 u1 s1 a1 hC1 => ⟨rfl, ?_⟩)))
    refine z_icmp_ge (tgt := 60) dL_entry_25 (by decide) (fun czq25 => absurd czq25 (nI_ge (by omega) (by omega))) (fun czq25 => ?_)
    refine z_iload_n (j := 2) dL_entry_28 rfl ?_
    refine z_if_lt (tgt := 60) dL_entry_29 (by decide) (fun czq29 => ?_) (fun czq29 => ?_)
    · refine z_iconst (v := (-1)) dL_entry_60 (by decide) ?_
      exact z_iret rfl dL_entry_61 (hq _ _ _ _ _ _ (Or.inl rfl) hC1)
    · refine z_aload_n (j := 0) dL_entry_32 rfl ?_
      refine z_iload_n (j := 3) dL_entry_33 rfl ?_
      refine z_kV [.int ((nI b))] 0 0 kc ks yoX7_keyAt yvX7_keyAt rfl (by decide) lL_16 (by omega) gW_0 rfl rfl (Nat.le_of_ble_eq_true rfl) (Nat.le_of_ble_eq_true rfl) dL_entry_34 (by omega) (by omega) (z_room (by omega) (Nat.le_refl _) (Nat.le_refl _) (V_keyAt (d := 0) (g := ((B, H, T, K, V, c), gr)) (g' := ((B, H, T, K, V, c), gr)) (v := (tkey (K b))) hn (zk_no hno) hC1 (fk_keyAt (g := ((B, H, T, K, V, c), gr)) (show b < B by omega) okb) (fun cm2 o2 u2 s2 a2 hC2 => ⟨rfl, ?_⟩)))
      refine z_iconst (v := (-1)) dL_entry_37 (by decide) ?_
      refine z_icmp_eq (tgt := 54) dL_entry_38 (by decide) (fun czq38 => ?_) (fun czq38 => ?_)
      · skip
        refine z_iinc ((nI (b + 1))) [1, 2, 3, 0] [(0, .ref 0), (1, .int x), (2, .int kk), (3, .int ((nI (b + 1))))] dL_entry_54 (j := 3) rfl (nI_1 b) (by decide) rfl ?_
        refine z_goto (tgt := 20) dL_entry_57 (by decide) ?_
        exact ih (b + 1) kk cm2 o2 u2 s2 a2 (by omega) hC2
      · refine z_iload_n (j := 2) dL_entry_41 rfl ?_
        skip
        refine z_iinc ((kk + -1)) [1, 2, 0, 3] [(0, .ref 0), (1, .int x), (2, .int ((kk + -1))), (3, .int ((nI b)))] dL_entry_42 (j := 2) rfl rfl (by decide) rfl ?_
        refine z_if_ne (tgt := 54) dL_entry_45 (by decide) (fun czq45 => ?_) (fun czq45 => ?_)
        · skip
          refine z_iinc ((nI (b + 1))) [1, 2, 3, 0] [(0, .ref 0), (1, .int x), (2, .int ((kk + -1))), (3, .int ((nI (b + 1))))] dL_entry_54 (j := 3) rfl (nI_1 b) (by decide) rfl ?_
          refine z_goto (tgt := 20) dL_entry_57 (by decide) ?_
          exact ih (b + 1) (kk + -1) cm2 o2 u2 s2 a2 (by omega) hC2
        · refine z_aload_n (j := 0) dL_entry_48 rfl ?_
          refine z_iload_n (j := 3) dL_entry_49 rfl ?_
          refine z_kV [.int ((nI b))] 0 0 kc ks yoX7_keyAt yvX7_keyAt rfl (by decide) lL_16 (by omega) gW_0 rfl rfl (Nat.le_of_ble_eq_true rfl) (Nat.le_of_ble_eq_true rfl) dL_entry_50 (by omega) (by omega) (z_room (by omega) (Nat.le_refl _) (Nat.le_refl _) (V_keyAt (d := 0) (g := ((B, H, T, K, V, c), gr)) (g' := ((B, H, T, K, V, c), gr)) (v := (tkey (K b))) hn (zk_no hno) hC2 (fk_keyAt (g := ((B, H, T, K, V, c), gr)) (show b < B by omega) okb) (fun cm3 o3 u3 s3 a3 hC3 => ⟨rfl, ?_⟩)))
          exact z_iret rfl dL_entry_53 (hq _ _ _ _ _ _ (eOK_at (S := (B, H, T, K, V, c)) (show b < B by omega) czq38) hC3)

set_option maxHeartbeats 4000000 in
set_option maxRecDepth 100000 in
theorem W_entry0 {l : zL} {d kc ks n : Nat} {h : Nat → va_E} {cm : Value} {o u : Nat → Nat → Int32} {s : Nat → Nat → Int32} {a : Nat → Nat → Nat → Int32} {B H T : Nat} {K V : Nat → Nat} {c : Nat → Int32} {gr : zGr} {Q : zQ} {x : Int32} (hn : 89 ≤ n) (hno : ∀ E n' h', ¬ Q (.inr E) n' h') (hC : cI ((B, H, T, K, V, c), gr) o u s a) (hq : ∀ v cm o u s a, eOK (B, H, T, K, V, c) v → cI ((B, H, T, K, V, c), gr) o u s a → Q (.inl (some (.int v))) n (gW h cm o u s a)) : Zj l mL_entry (d + 8) kc ks 0 [(0, .ref 0), (1, .int x)] [] n (gW h cm o u s a) Q := by
  refine z_aload_n (j := 0) dL_entry_0 rfl ?_
  refine z_kV [] 0 0 kc ks yoX7_entryCount yvX7_entryCount rfl (by decide) lL_7 (by omega) gW_0 rfl rfl (Nat.le_of_ble_eq_true rfl) (Nat.le_of_ble_eq_true rfl) dL_entry_1 (by omega) (by omega) (z_room (by omega) (Nat.le_refl _) (Nat.le_refl _) (V_entryCount (d := 0) (g := ((B, H, T, K, V, c), gr)) (g' := ((B, H, T, K, V, c), gr)) (v := (nI (cnt K B))) hn (zk_no hno) hC rfl (fun cm5 o5 u5 s5 a5 hC5 => ⟨rfl, ?_⟩)))
  refine z_if_ne (tgt := 11) dL_entry_4 (by decide) (fun czq4 => ?_) (fun czq4 => ?_)
  · refine z_iload_n (j := 1) dL_entry_11 rfl ?_
    refine z_aload_n (j := 0) dL_entry_12 rfl ?_
    refine z_kV [] 0 0 kc ks yoX7_entryCount yvX7_entryCount rfl (by decide) lL_7 (by omega) gW_0 rfl rfl (Nat.le_of_ble_eq_true rfl) (Nat.le_of_ble_eq_true rfl) dL_entry_13 (by omega) (by omega) (z_room (by omega) (Nat.le_refl _) (Nat.le_refl _) (V_entryCount (d := 0) (g := ((B, H, T, K, V, c), gr)) (g' := ((B, H, T, K, V, c), gr)) (v := (nI (cnt K B))) hn (zk_no hno) hC5 rfl (fun cm6 o6 u6 s6 a6 hC6 => ⟨rfl, ?_⟩)))
    refine z_irem czq4 dL_entry_16 ?_
    refine z_istore_n [1, 2, 0] [(0, .ref 0), (1, .int x), (2, .int ((x - x / (nI (cnt K B)) * (nI (cnt K B)))))] dL_entry_17 (by decide) rfl ?_
    refine z_iconst (v := 0) dL_entry_18 (by decide) ?_
    refine z_istore_n [1, 2, 3, 0] [(0, .ref 0), (1, .int x), (2, .int ((x - x / (nI (cnt K B)) * (nI (cnt K B))))), (3, .int 0)] dL_entry_19 (by decide) rfl ?_
    exact W_entry_l hn hno hq B 0 (x - x / (nI (cnt K B)) * (nI (cnt K B))) cm6 o6 u6 s6 a6 (by omega) hC6
  · refine z_iconst (v := (-1)) dL_entry_7 (by decide) ?_
    refine z_goto (tgt := 17) dL_entry_8 (by decide) ?_
    refine z_istore_n [1, 2, 0] [(0, .ref 0), (1, .int x), (2, .int ((-1)))] dL_entry_17 (by decide) rfl ?_
    refine z_iconst (v := 0) dL_entry_18 (by decide) ?_
    refine z_istore_n [1, 2, 3, 0] [(0, .ref 0), (1, .int x), (2, .int ((-1))), (3, .int 0)] dL_entry_19 (by decide) rfl ?_
    exact W_entry_l hn hno hq B 0 (-1) cm5 o5 u5 s5 a5 (by omega) hC5

theorem W_entry {l : zL} {d kc ks n : Nat} {h : Nat → va_E} {cm : Value} {o u : Nat → Nat → Int32} {s : Nat → Nat → Int32} {a : Nat → Nat → Nat → Int32} {g : zGs} {Q : zQ} {x : Int32} (hn : 89 ≤ n) (hno : ∀ E n' h', ¬ Q (.inr E) n' h') (hC : cI g o u s a) (hq : ∀ v cm o u s a, eOK g.1 v → cI g o u s a → Q (.inl (some (.int v))) n (gW h cm o u s a)) : Zj l mL_entry (d + 8) kc ks 0 [(0, .ref 0), (1, .int x)] [] n (gW h cm o u s a) Q := by
  obtain ⟨⟨B, H, T, K, V, c⟩, gr⟩ := g
  exact W_entry0 hn hno hC hq

set_option maxHeartbeats 4000000 in
set_option maxRecDepth 100000 in
theorem W_content_l {l : zL} {d kc ks n : Nat} {h : Nat → va_E} {B H T : Nat} {K V : Nat → Nat} {c : Nat → Int32} {gr : zGr} {Q : zQ} (hn : 89 ≤ n) (hno : ∀ E n' h', ¬ Q (.inr E) n' h') (hq : ∀ cm o u s a, cI ((B, H, T, K, V, c), gr) o u s a → Q (.inl (some (.long (lN (conN K V B))))) n (gW h cm o u s a)) : ∀ m (b : Nat) (cm : Value) (o u : Nat → Nat → Int32) (s : Nat → Nat → Int32) (a : Nat → Nat → Nat → Int32), b + m = B → cI ((B, H, T, K, V, c), gr) o u s a → Zj l mL_content (d + 8) kc ks 4 [(0, .ref 0), (1, .long ((lN (conN K V b)))), (3, .int ((nI b)))] [] n (gW h cm o u s a) Q := by
  intro m
  induction m with
  | zero =>
    intro b cm o u s a hb hC
    have hT : cT (B, H, T, K, V, c) (s 1) (a 1) := hC.t
    obtain ⟨hR, ⟨hI, hd3, h3⟩, e9, e10, e11, e12, e13, e14, e15⟩ := id hT
    obtain ⟨okb, h2H, hH6, h1T, hT99, e6, e7, e8, ek_, ev_, eh_, ekv, ez⟩ := id hR
    have hle := okb.le
    refine z_iload_n (j := 2) dL_content_4 rfl ?_
    refine z_aload_n (j := 0) dL_content_5 rfl ?_
    refine z_kV [] 0 0 kc ks yoX7_bucketCount yvX7_bucketCount rfl (by decide) lL_13 (by omega) gW_0 rfl rfl (Nat.le_of_ble_eq_true rfl) (Nat.le_of_ble_eq_true rfl) dL_content_6 (by omega) (by omega) (z_room (by omega) (Nat.le_refl _) (Nat.le_refl _) (V_bucketCount (d := 0) (g := ((B, H, T, K, V, c), gr)) (g' := ((B, H, T, K, V, c), gr)) (v := (nI B)) hn (zk_no hno) hC rfl (fun cm12 o12 u12 s12 a12 hC12 => ⟨rfl, ?_⟩)))
    refine z_icmp_ge (tgt := 60) dL_content_9 (by decide) (fun czq9 => ?_) (fun czq9 => absurd (nI_le (by omega) (by omega)) czq9)
    rw [show b = B by omega]
    refine z_lload_n (j := 1) dL_content_60 rfl ?_
    exact z_lret rfl dL_content_61 (hq _ _ _ _ _ hC12)
  | succ m ih =>
    intro b cm o u s a hb hC
    have hT : cT (B, H, T, K, V, c) (s 1) (a 1) := hC.t
    obtain ⟨hR, ⟨hI, hd3, h3⟩, e9, e10, e11, e12, e13, e14, e15⟩ := id hT
    obtain ⟨okb, h2H, hH6, h1T, hT99, e6, e7, e8, ek_, ev_, eh_, ekv, ez⟩ := id hR
    have hle := okb.le
    refine z_iload_n (j := 2) dL_content_4 rfl ?_
    refine z_aload_n (j := 0) dL_content_5 rfl ?_
    refine z_kV [] 0 0 kc ks yoX7_bucketCount yvX7_bucketCount rfl (by decide) lL_13 (by omega) gW_0 rfl rfl (Nat.le_of_ble_eq_true rfl) (Nat.le_of_ble_eq_true rfl) dL_content_6 (by omega) (by omega) (z_room (by omega) (Nat.le_refl _) (Nat.le_refl _) (V_bucketCount (d := 0) (g := ((B, H, T, K, V, c), gr)) (g' := ((B, H, T, K, V, c), gr)) (v := (nI B)) hn (zk_no hno) hC rfl (fun cm7 o7 u7 s7 a7 hC7 => ⟨rfl, ?_⟩)))
    refine z_icmp_ge (tgt := 60) dL_content_9 (by decide) (fun czq9 => absurd czq9 (nI_ge (by omega) (by omega))) (fun czq9 => ?_)
    refine z_aload_n (j := 0) dL_content_12 rfl ?_
    refine z_iload_n (j := 2) dL_content_13 rfl ?_
    refine z_kV [.int ((nI b))] 0 0 kc ks yoX7_keyAt yvX7_keyAt rfl (by decide) lL_16 (by omega) gW_0 rfl rfl (Nat.le_of_ble_eq_true rfl) (Nat.le_of_ble_eq_true rfl) dL_content_14 (by omega) (by omega) (z_room (by omega) (Nat.le_refl _) (Nat.le_refl _) (V_keyAt (d := 0) (g := ((B, H, T, K, V, c), gr)) (g' := ((B, H, T, K, V, c), gr)) (v := (tkey (K b))) hn (zk_no hno) hC7 (fk_keyAt (g := ((B, H, T, K, V, c), gr)) (show b < B by omega) okb) (fun cm8 o8 u8 s8 a8 hC8 => ⟨rfl, ?_⟩)))
    refine z_iconst (v := (-1)) dL_content_17 (by decide) ?_
    refine z_icmp_eq (tgt := 54) dL_content_18 (by decide) (fun czq18 => ?_) (fun czq18 => ?_)
    · skip
      refine z_iinc ((nI (b + 1))) [1, 2, 0] [(0, .ref 0), (1, .long ((lN (conN K V b)))), (3, .int ((nI (b + 1))))] dL_content_54 (j := 2) rfl (nI_1 b) (by decide) rfl ?_
      refine z_goto (tgt := 4) dL_content_57 (by decide) ?_
      rw [← con_skip (V := V) ((tkey_eq (ekv b).1).mp czq18)]
      exact ih (b + 1) cm8 o8 u8 s8 a8 (by omega) hC8
    · refine z_lload_n (j := 1) dL_content_21 rfl ?_
      refine z_aload_n (j := 0) dL_content_22 rfl ?_
      refine z_iload_n (j := 2) dL_content_23 rfl ?_
      refine z_kV [.int ((nI b))] 0 0 kc ks yoX7_keyAt yvX7_keyAt rfl (by decide) lL_16 (by omega) gW_0 rfl rfl (Nat.le_of_ble_eq_true rfl) (Nat.le_of_ble_eq_true rfl) dL_content_24 (by omega) (by omega) (z_room (by omega) (Nat.le_refl _) (Nat.le_refl _) (V_keyAt (d := 0) (g := ((B, H, T, K, V, c), gr)) (g' := ((B, H, T, K, V, c), gr)) (v := (tkey (K b))) hn (zk_no hno) hC8 (fk_keyAt (g := ((B, H, T, K, V, c), gr)) (show b < B by omega) okb) (fun cm9 o9 u9 s9 a9 hC9 => ⟨rfl, ?_⟩)))
      refine z_i2l dL_content_27 ?_
      refine z_lconst (v := 1) dL_content_28 rfl ?_
      refine z_ladd dL_content_29 ?_
      refine z_aload_n (j := 0) dL_content_30 rfl ?_
      refine z_iload_n (j := 2) dL_content_31 rfl ?_
      refine z_kV [.int ((nI b))] 0 0 kc ks yoX7_keyAt yvX7_keyAt rfl (by decide) lL_16 (by omega) gW_0 rfl rfl (Nat.le_of_ble_eq_true rfl) (Nat.le_of_ble_eq_true rfl) dL_content_32 (by omega) (by omega) (z_room (by omega) (Nat.le_refl _) (Nat.le_refl _) (V_keyAt (d := 0) (g := ((B, H, T, K, V, c), gr)) (g' := ((B, H, T, K, V, c), gr)) (v := (tkey (K b))) hn (zk_no hno) hC9 (fk_keyAt (g := ((B, H, T, K, V, c), gr)) (show b < B by omega) okb) (fun cm10 o10 u10 s10 a10 hC10 => ⟨rfl, ?_⟩)))
      refine z_i2l dL_content_35 ?_
      refine z_ldc2 (v := 7) lL_100 dL_content_36 ?_
      refine z_ladd dL_content_39 ?_
      refine z_lmul dL_content_40 ?_
      refine z_aload_n (j := 0) dL_content_41 rfl ?_
      refine z_iload_n (j := 2) dL_content_42 rfl ?_
      refine z_kV [.int ((nI b))] 0 0 kc ks yoX7_valueAt yvX7_valueAt rfl (by decide) lL_76 (by omega) gW_0 rfl rfl (Nat.le_of_ble_eq_true rfl) (Nat.le_of_ble_eq_true rfl) dL_content_43 (by omega) (by omega) (z_room (by omega) (Nat.le_refl _) (Nat.le_refl _) (V_valueAt (d := 0) (g := ((B, H, T, K, V, c), gr)) (g' := ((B, H, T, K, V, c), gr)) (v := (tval (K b) (V b))) hn (zk_no hno) hC10 (fk_valueAt (g := ((B, H, T, K, V, c), gr)) (show b < B by omega) okb) (fun cm11 o11 u11 s11 a11 hC11 => ⟨rfl, ?_⟩)))
      refine z_i2l dL_content_46 ?_
      refine z_ldc2 (v := 3) lL_102 dL_content_47 ?_
      refine z_ladd dL_content_50 ?_
      refine z_lmul dL_content_51 ?_
      refine z_ladd dL_content_52 ?_
      refine z_lstore_n [1, 0, 2] [(0, .ref 0), (1, .long (((lN (conN K V b)) + (((((tkey (K b))).toInt64 + 1) * (((tkey (K b))).toInt64 + 7)) * (((tval (K b) (V b))).toInt64 + 3))))), (3, .int ((nI b)))] dL_content_53 (by decide) rfl ?_
      skip
      refine z_iinc ((nI (b + 1))) [1, 2, 0] [(0, .ref 0), (1, .long (((lN (conN K V b)) + (((((tkey (K b))).toInt64 + 1) * (((tkey (K b))).toInt64 + 7)) * (((tval (K b) (V b))).toInt64 + 3))))), (3, .int ((nI (b + 1))))] dL_content_54 (j := 2) rfl (nI_1 b) (by decide) rfl ?_
      refine z_goto (tgt := 4) dL_content_57 (by decide) ?_
      rw [con_step (fun q => czq18 (by rw [q]; rfl)) (ekv b).1 (ekv b).2]
      exact ih (b + 1) cm11 o11 u11 s11 a11 (by omega) hC11

set_option maxHeartbeats 4000000 in
set_option maxRecDepth 100000 in
theorem W_content0 {l : zL} {d kc ks n : Nat} {h : Nat → va_E} {cm : Value} {o u : Nat → Nat → Int32} {s : Nat → Nat → Int32} {a : Nat → Nat → Nat → Int32} {B H T : Nat} {K V : Nat → Nat} {c : Nat → Int32} {gr : zGr} {Q : zQ} (hn : 89 ≤ n) (hno : ∀ E n' h', ¬ Q (.inr E) n' h') (hC : cI ((B, H, T, K, V, c), gr) o u s a) (hq : ∀ cm o u s a, cI ((B, H, T, K, V, c), gr) o u s a → Q (.inl (some (.long (lN (conN K V B))))) n (gW h cm o u s a)) : Zj l mL_content (d + 8) kc ks 0 [(0, .ref 0)] [] n (gW h cm o u s a) Q := by
  refine z_lconst (v := 0) dL_content_0 rfl ?_
  refine z_lstore_n [1, 0] [(0, .ref 0), (1, .long 0)] dL_content_1 (by decide) rfl ?_
  refine z_iconst (v := 0) dL_content_2 (by decide) ?_
  refine z_istore_n [1, 2, 0] [(0, .ref 0), (1, .long 0), (3, .int 0)] dL_content_3 (by decide) rfl ?_
  exact W_content_l hn hno hq B 0 cm o u s a (by omega) hC

theorem W_content {l : zL} {d kc ks n : Nat} {h : Nat → va_E} {cm : Value} {o u : Nat → Nat → Int32} {s : Nat → Nat → Int32} {a : Nat → Nat → Nat → Int32} {g : zGs} {Q : zQ} {v : Int64} (hn : 89 ≤ n) (hno : ∀ E n' h', ¬ Q (.inr E) n' h') (hC : cI g o u s a) (hv : fCon g.1 = v) (hq : ∀ cm o u s a, cI g o u s a → Q (.inl (some (.long v))) n (gW h cm o u s a)) : Zj l mL_content (d + 8) kc ks 0 [(0, .ref 0)] [] n (gW h cm o u s a) Q := by
  subst hv
  obtain ⟨⟨B, H, T, K, V, c⟩, gr⟩ := g
  exact W_content0 hn hno hC hq

set_option maxHeartbeats 4000000 in
set_option maxRecDepth 100000 in
theorem W_sum_l {l : zL} {d kc ks n : Nat} {h : Nat → va_E} {B H T : Nat} {K V : Nat → Nat} {c : Nat → Int32} {gr : zGr} {Q : zQ} (hn : 89 ≤ n) (hno : ∀ E n' h', ¬ Q (.inr E) n' h') (hq : ∀ cm o u s a, cI ((B, H, T, K, V, c), gr) o u s a → Q (.inl (some (.long (sumL (B, H, T, K, V, c) B)))) n (gW h cm o u s a)) : ∀ m (b : Nat) (cm : Value) (o u : Nat → Nat → Int32) (s : Nat → Nat → Int32) (a : Nat → Nat → Nat → Int32), b + m = B → cI ((B, H, T, K, V, c), gr) o u s a → Zj l mL_sum (d + 8) kc ks 93 [(0, .ref 0), (1, .long ((sumL (B, H, T, K, V, c) b))), (3, .int ((nI b)))] [] n (gW h cm o u s a) Q := by
  intro m
  induction m with
  | zero =>
    intro b cm o u s a hb hC
    have hT : cT (B, H, T, K, V, c) (s 1) (a 1) := hC.t
    obtain ⟨hR, ⟨hI, hd3, h3⟩, e9, e10, e11, e12, e13, e14, e15⟩ := id hT
    obtain ⟨okb, h2H, hH6, h1T, hT99, e6, e7, e8, ek_, ev_, eh_, ekv, ez⟩ := id hR
    have hle := okb.le
    refine z_iload_n (j := 2) dL_sum_93 rfl ?_
    refine z_aload_n (j := 0) dL_sum_94 rfl ?_
    refine z_kV [] 0 0 kc ks yoX7_bucketCount yvX7_bucketCount rfl (by decide) lL_13 (by omega) gW_0 rfl rfl (Nat.le_of_ble_eq_true rfl) (Nat.le_of_ble_eq_true rfl) dL_sum_95 (by omega) (by omega) (z_room (by omega) (Nat.le_refl _) (Nat.le_refl _) (V_bucketCount (d := 0) (g := ((B, H, T, K, V, c), gr)) (g' := ((B, H, T, K, V, c), gr)) (v := (nI B)) hn (zk_no hno) hC rfl (fun cm16 o16 u16 s16 a16 hC16 => ⟨rfl, ?_⟩)))
    refine z_icmp_ge (tgt := 131) dL_sum_98 (by decide) (fun czq98 => ?_) (fun czq98 => absurd (nI_le (by omega) (by omega)) czq98)
    rw [show b = B by omega]
    refine z_lload_n (j := 1) dL_sum_131 rfl ?_
    exact z_lret rfl dL_sum_132 (hq _ _ _ _ _ hC16)
  | succ m ih =>
    intro b cm o u s a hb hC
    have hT : cT (B, H, T, K, V, c) (s 1) (a 1) := hC.t
    obtain ⟨hR, ⟨hI, hd3, h3⟩, e9, e10, e11, e12, e13, e14, e15⟩ := id hT
    obtain ⟨okb, h2H, hH6, h1T, hT99, e6, e7, e8, ek_, ev_, eh_, ekv, ez⟩ := id hR
    have hle := okb.le
    refine z_iload_n (j := 2) dL_sum_93 rfl ?_
    refine z_aload_n (j := 0) dL_sum_94 rfl ?_
    refine z_kV [] 0 0 kc ks yoX7_bucketCount yvX7_bucketCount rfl (by decide) lL_13 (by omega) gW_0 rfl rfl (Nat.le_of_ble_eq_true rfl) (Nat.le_of_ble_eq_true rfl) dL_sum_95 (by omega) (by omega) (z_room (by omega) (Nat.le_refl _) (Nat.le_refl _) (V_bucketCount (d := 0) (g := ((B, H, T, K, V, c), gr)) (g' := ((B, H, T, K, V, c), gr)) (v := (nI B)) hn (zk_no hno) hC rfl (fun cm13 o13 u13 s13 a13 hC13 => ⟨rfl, ?_⟩)))
    refine z_icmp_ge (tgt := 131) dL_sum_98 (by decide) (fun czq98 => absurd czq98 (nI_ge (by omega) (by omega))) (fun czq98 => ?_)
    refine z_ldc2 (v := 31) lL_134 dL_sum_101 ?_
    refine z_lload_n (j := 1) dL_sum_104 rfl ?_
    refine z_lmul dL_sum_105 ?_
    refine z_aload_n (j := 0) dL_sum_106 rfl ?_
    refine z_iload_n (j := 2) dL_sum_107 rfl ?_
    refine z_kV [.int ((nI b))] 0 0 kc ks yoX7_keyAt yvX7_keyAt rfl (by decide) lL_16 (by omega) gW_0 rfl rfl (Nat.le_of_ble_eq_true rfl) (Nat.le_of_ble_eq_true rfl) dL_sum_108 (by omega) (by omega) (z_room (by omega) (Nat.le_refl _) (Nat.le_refl _) (V_keyAt (d := 0) (g := ((B, H, T, K, V, c), gr)) (g' := ((B, H, T, K, V, c), gr)) (v := (tkey (K b))) hn (zk_no hno) hC13 (fk_keyAt (g := ((B, H, T, K, V, c), gr)) (show b < B by omega) okb) (fun cm14 o14 u14 s14 a14 hC14 => ⟨rfl, ?_⟩)))
    refine z_i2l dL_sum_111 ?_
    refine z_ladd dL_sum_112 ?_
    refine z_ldc2 (v := 20000) lL_136 dL_sum_113 ?_
    refine z_aload_n (j := 0) dL_sum_116 rfl ?_
    refine z_iload_n (j := 2) dL_sum_117 rfl ?_
    refine z_kV [.int ((nI b))] 0 0 kc ks yoX7_valueAt yvX7_valueAt rfl (by decide) lL_76 (by omega) gW_0 rfl rfl (Nat.le_of_ble_eq_true rfl) (Nat.le_of_ble_eq_true rfl) dL_sum_118 (by omega) (by omega) (z_room (by omega) (Nat.le_refl _) (Nat.le_refl _) (V_valueAt (d := 0) (g := ((B, H, T, K, V, c), gr)) (g' := ((B, H, T, K, V, c), gr)) (v := (tval (K b) (V b))) hn (zk_no hno) hC14 (fk_valueAt (g := ((B, H, T, K, V, c), gr)) (show b < B by omega) okb) (fun cm15 o15 u15 s15 a15 hC15 => ⟨rfl, ?_⟩)))
    refine z_i2l dL_sum_121 ?_
    refine z_lmul dL_sum_122 ?_
    refine z_ladd dL_sum_123 ?_
    refine z_lstore_n [1, 0, 2] [(0, .ref 0), (1, .long ((((31 * (sumL (B, H, T, K, V, c) b)) + ((tkey (K b))).toInt64) + (20000 * ((tval (K b) (V b))).toInt64)))), (3, .int ((nI b)))] dL_sum_124 (by decide) rfl ?_
    skip
    refine z_iinc ((nI (b + 1))) [1, 2, 0] [(0, .ref 0), (1, .long ((((31 * (sumL (B, H, T, K, V, c) b)) + ((tkey (K b))).toInt64) + (20000 * ((tval (K b) (V b))).toInt64)))), (3, .int ((nI (b + 1))))] dL_sum_125 (j := 2) rfl (nI_1 b) (by decide) rfl ?_
    refine z_goto (tgt := 93) dL_sum_128 (by decide) ?_
    exact ih (b + 1) cm15 o15 u15 s15 a15 (by omega) hC15

set_option maxHeartbeats 4000000 in
set_option maxRecDepth 100000 in
theorem W_sum0 {l : zL} {d kc ks n : Nat} {h : Nat → va_E} {cm : Value} {o u : Nat → Nat → Int32} {s : Nat → Nat → Int32} {a : Nat → Nat → Nat → Int32} {B H T : Nat} {K V : Nat → Nat} {c : Nat → Int32} {gr : zGr} {Q : zQ} (hn : 89 ≤ n) (hno : ∀ E n' h', ¬ Q (.inr E) n' h') (hC : cI ((B, H, T, K, V, c), gr) o u s a) (hq : ∀ cm o u s a, cI ((B, H, T, K, V, c), gr) o u s a → Q (.inl (some (.long (sumL (B, H, T, K, V, c) B)))) n (gW h cm o u s a)) : Zj l mL_sum (d + 8) kc ks 0 [(0, .ref 0)] [] n (gW h cm o u s a) Q := by
  refine z_aload_n (j := 0) dL_sum_0 rfl ?_
  refine z_kV [] 0 0 kc ks yoX7_bucketCount yvX7_bucketCount rfl (by decide) lL_13 (by omega) gW_0 rfl rfl (Nat.le_of_ble_eq_true rfl) (Nat.le_of_ble_eq_true rfl) dL_sum_1 (by omega) (by omega) (z_room (by omega) (Nat.le_refl _) (Nat.le_refl _) (V_bucketCount (d := 0) (g := ((B, H, T, K, V, c), gr)) (g' := ((B, H, T, K, V, c), gr)) (v := (nI B)) hn (zk_no hno) hC rfl (fun cm17 o17 u17 s17 a17 hC17 => ⟨rfl, ?_⟩)))
  refine z_i2l dL_sum_4 ?_
  refine z_ldc2 (v := 100) lL_104 dL_sum_5 ?_
  refine z_aload_n (j := 0) dL_sum_8 rfl ?_
  refine z_kV [] 0 0 kc ks yoX7_neighbourhood yvX7_neighbourhood rfl (by decide) lL_61 (by omega) gW_0 rfl rfl (Nat.le_of_ble_eq_true rfl) (Nat.le_of_ble_eq_true rfl) dL_sum_9 (by omega) (by omega) (z_room (by omega) (Nat.le_refl _) (Nat.le_refl _) (V_neighbourhood (d := 0) (g := ((B, H, T, K, V, c), gr)) (g' := ((B, H, T, K, V, c), gr)) (v := (nI H)) hn (zk_no hno) hC17 rfl (fun cm18 o18 u18 s18 a18 hC18 => ⟨rfl, ?_⟩)))
  refine z_i2l dL_sum_12 ?_
  refine z_lmul dL_sum_13 ?_
  refine z_ladd dL_sum_14 ?_
  refine z_ldc2 (v := 1000) lL_106 dL_sum_15 ?_
  refine z_aload_n (j := 0) dL_sum_18 rfl ?_
  refine z_kV [] 0 0 kc ks yoX7_multiplier yvX7_multiplier rfl (by decide) lL_108 (by omega) gW_0 rfl rfl (Nat.le_of_ble_eq_true rfl) (Nat.le_of_ble_eq_true rfl) dL_sum_19 (by omega) (by omega) (z_room (by omega) (Nat.le_refl _) (Nat.le_refl _) (V_multiplier (d := 0) (g := ((B, H, T, K, V, c), gr)) (g' := ((B, H, T, K, V, c), gr)) (v := (nI T)) hn (zk_no hno) hC18 rfl (fun cm19 o19 u19 s19 a19 hC19 => ⟨rfl, ?_⟩)))
  refine z_i2l dL_sum_22 ?_
  refine z_lmul dL_sum_23 ?_
  refine z_ladd dL_sum_24 ?_
  refine z_aload_n (j := 0) dL_sum_25 rfl ?_
  refine z_kV [] 0 0 kc ks yoX7_isPulling yvX7_isPulling rfl (by decide) lL_111 (by omega) gW_0 rfl rfl (Nat.le_of_ble_eq_true rfl) (Nat.le_of_ble_eq_true rfl) dL_sum_26 (by omega) (by omega) (z_room (by omega) (Nat.le_refl _) (Nat.le_refl _) (V_isPulling (d := 0) (g := ((B, H, T, K, V, c), gr)) (g' := ((B, H, T, K, V, c), gr)) (v := (c 3)) hn (zk_no hno) hC19 rfl (fun cm20 o20 u20 s20 a20 hC20 => ⟨rfl, ?_⟩)))
  refine z_if_eq (tgt := 38) dL_sum_29 (by decide) (fun czq29 => ?_) (fun czq29 => ?_)
  · refine z_lconst (v := 0) dL_sum_38 rfl ?_
    refine z_ladd dL_sum_39 ?_
    refine z_ldc2 (v := 11) lL_115 dL_sum_40 ?_
    refine z_aload_n (j := 0) dL_sum_43 rfl ?_
    refine z_kV [] 0 0 kc ks yoX7_moves yvX7_moves rfl (by decide) lL_117 (by omega) gW_0 rfl rfl (Nat.le_of_ble_eq_true rfl) (Nat.le_of_ble_eq_true rfl) dL_sum_44 (by omega) (by omega) (z_room (by omega) (Nat.le_refl _) (Nat.le_refl _) (V_moves (d := 0) (g := ((B, H, T, K, V, c), gr)) (g' := ((B, H, T, K, V, c), gr)) (v := (c 4)) hn (zk_no hno) hC20 rfl (fun cm21 o21 u21 s21 a21 hC21 => ⟨rfl, ?_⟩)))
    refine z_i2l dL_sum_47 ?_
    refine z_lmul dL_sum_48 ?_
    refine z_ladd dL_sum_49 ?_
    refine z_ldc2 (v := 13) lL_120 dL_sum_50 ?_
    refine z_aload_n (j := 0) dL_sum_53 rfl ?_
    refine z_kV [] 0 0 kc ks yoX7_pulls yvX7_pulls rfl (by decide) lL_122 (by omega) gW_0 rfl rfl (Nat.le_of_ble_eq_true rfl) (Nat.le_of_ble_eq_true rfl) dL_sum_54 (by omega) (by omega) (z_room (by omega) (Nat.le_refl _) (Nat.le_refl _) (V_pulls (d := 0) (g := ((B, H, T, K, V, c), gr)) (g' := ((B, H, T, K, V, c), gr)) (v := (c 5)) hn (zk_no hno) hC21 rfl (fun cm22 o22 u22 s22 a22 hC22 => ⟨rfl, ?_⟩)))
    refine z_i2l dL_sum_57 ?_
    refine z_lmul dL_sum_58 ?_
    refine z_ladd dL_sum_59 ?_
    refine z_ldc2 (v := 17) lL_125 dL_sum_60 ?_
    refine z_aload_n (j := 0) dL_sum_63 rfl ?_
    refine z_kV [] 0 0 kc ks yoX7_growths yvX7_growths rfl (by decide) lL_127 (by omega) gW_0 rfl rfl (Nat.le_of_ble_eq_true rfl) (Nat.le_of_ble_eq_true rfl) dL_sum_64 (by omega) (by omega) (z_room (by omega) (Nat.le_refl _) (Nat.le_refl _) (V_growths (d := 0) (g := ((B, H, T, K, V, c), gr)) (g' := ((B, H, T, K, V, c), gr)) (v := (c 6)) hn (zk_no hno) hC22 rfl (fun cm23 o23 u23 s23 a23 hC23 => ⟨rfl, ?_⟩)))
    refine z_i2l dL_sum_67 ?_
    refine z_lmul dL_sum_68 ?_
    refine z_ladd dL_sum_69 ?_
    refine z_ldc2 (v := 19) lL_130 dL_sum_70 ?_
    refine z_aload_n (j := 0) dL_sum_73 rfl ?_
    refine z_kV [] 0 0 kc ks yoX7_addedCount yvX7_addedCount rfl (by decide) lL_91 (by omega) gW_0 rfl rfl (Nat.le_of_ble_eq_true rfl) (Nat.le_of_ble_eq_true rfl) dL_sum_74 (by omega) (by omega) (z_room (by omega) (Nat.le_refl _) (Nat.le_refl _) (V_addedCount (d := 0) (g := ((B, H, T, K, V, c), gr)) (g' := ((B, H, T, K, V, c), gr)) (v := (c 7)) hn (zk_no hno) hC23 rfl (fun cm24 o24 u24 s24 a24 hC24 => ⟨rfl, ?_⟩)))
    refine z_i2l dL_sum_77 ?_
    refine z_lmul dL_sum_78 ?_
    refine z_ladd dL_sum_79 ?_
    refine z_ldc2 (v := 23) lL_132 dL_sum_80 ?_
    refine z_aload_n (j := 0) dL_sum_83 rfl ?_
    refine z_kV [] 0 0 kc ks yoX7_removedCount yvX7_removedCount rfl (by decide) lL_94 (by omega) gW_0 rfl rfl (Nat.le_of_ble_eq_true rfl) (Nat.le_of_ble_eq_true rfl) dL_sum_84 (by omega) (by omega) (z_room (by omega) (Nat.le_refl _) (Nat.le_refl _) (V_removedCount (d := 0) (g := ((B, H, T, K, V, c), gr)) (g' := ((B, H, T, K, V, c), gr)) (v := (c 8)) hn (zk_no hno) hC24 rfl (fun cm25 o25 u25 s25 a25 hC25 => ⟨rfl, ?_⟩)))
    refine z_i2l dL_sum_87 ?_
    refine z_lmul dL_sum_88 ?_
    refine z_ladd dL_sum_89 ?_
    refine z_lstore_n [1, 0] [(0, .ref 0), (1, .long (((((((((((nI B)).toInt64 + (100 * ((nI H)).toInt64)) + (1000 * ((nI T)).toInt64)) + 0) + (11 * ((c 4)).toInt64)) + (13 * ((c 5)).toInt64)) + (17 * ((c 6)).toInt64)) + (19 * ((c 7)).toInt64)) + (23 * ((c 8)).toInt64))))] dL_sum_90 (by decide) rfl ?_
    refine z_iconst (v := 0) dL_sum_91 (by decide) ?_
    refine z_istore_n [1, 2, 0] [(0, .ref 0), (1, .long (((((((((((nI B)).toInt64 + (100 * ((nI H)).toInt64)) + (1000 * ((nI T)).toInt64)) + 0) + (11 * ((c 4)).toInt64)) + (13 * ((c 5)).toInt64)) + (17 * ((c 6)).toInt64)) + (19 * ((c 7)).toInt64)) + (23 * ((c 8)).toInt64)))), (3, .int 0)] dL_sum_92 (by decide) rfl ?_
    have e0 : (if c 3 = 0 then (0 : Int64) else 7) = 0 := if_pos czq29
    rw [show ((((((((((nI B)).toInt64 + (100 * ((nI H)).toInt64)) + (1000 * ((nI T)).toInt64)) + 0) + (11 * ((c 4)).toInt64)) + (13 * ((c 5)).toInt64)) + (17 * ((c 6)).toInt64)) + (19 * ((c 7)).toInt64)) + (23 * ((c 8)).toInt64)) = sumL (B, H, T, K, V, c) 0 from by
      show _ = sum0 (B, H, T, K, V, c)
      unfold sum0
      rw [show (if (B, H, T, K, V, c).2.2.2.2.2 3 = 0 then (0 : Int64) else 7) = 0 from e0]]
    exact W_sum_l hn hno hq B 0 cm25 o25 u25 s25 a25 (by omega) hC25
  · refine z_ldc2 (v := 7) lL_100 dL_sum_32 ?_
    refine z_goto (tgt := 39) dL_sum_35 (by decide) ?_
    refine z_ladd dL_sum_39 ?_
    refine z_ldc2 (v := 11) lL_115 dL_sum_40 ?_
    refine z_aload_n (j := 0) dL_sum_43 rfl ?_
    refine z_kV [] 0 0 kc ks yoX7_moves yvX7_moves rfl (by decide) lL_117 (by omega) gW_0 rfl rfl (Nat.le_of_ble_eq_true rfl) (Nat.le_of_ble_eq_true rfl) dL_sum_44 (by omega) (by omega) (z_room (by omega) (Nat.le_refl _) (Nat.le_refl _) (V_moves (d := 0) (g := ((B, H, T, K, V, c), gr)) (g' := ((B, H, T, K, V, c), gr)) (v := (c 4)) hn (zk_no hno) hC20 rfl (fun cm26 o26 u26 s26 a26 hC26 => ⟨rfl, ?_⟩)))
    refine z_i2l dL_sum_47 ?_
    refine z_lmul dL_sum_48 ?_
    refine z_ladd dL_sum_49 ?_
    refine z_ldc2 (v := 13) lL_120 dL_sum_50 ?_
    refine z_aload_n (j := 0) dL_sum_53 rfl ?_
    refine z_kV [] 0 0 kc ks yoX7_pulls yvX7_pulls rfl (by decide) lL_122 (by omega) gW_0 rfl rfl (Nat.le_of_ble_eq_true rfl) (Nat.le_of_ble_eq_true rfl) dL_sum_54 (by omega) (by omega) (z_room (by omega) (Nat.le_refl _) (Nat.le_refl _) (V_pulls (d := 0) (g := ((B, H, T, K, V, c), gr)) (g' := ((B, H, T, K, V, c), gr)) (v := (c 5)) hn (zk_no hno) hC26 rfl (fun cm27 o27 u27 s27 a27 hC27 => ⟨rfl, ?_⟩)))
    refine z_i2l dL_sum_57 ?_
    refine z_lmul dL_sum_58 ?_
    refine z_ladd dL_sum_59 ?_
    refine z_ldc2 (v := 17) lL_125 dL_sum_60 ?_
    refine z_aload_n (j := 0) dL_sum_63 rfl ?_
    refine z_kV [] 0 0 kc ks yoX7_growths yvX7_growths rfl (by decide) lL_127 (by omega) gW_0 rfl rfl (Nat.le_of_ble_eq_true rfl) (Nat.le_of_ble_eq_true rfl) dL_sum_64 (by omega) (by omega) (z_room (by omega) (Nat.le_refl _) (Nat.le_refl _) (V_growths (d := 0) (g := ((B, H, T, K, V, c), gr)) (g' := ((B, H, T, K, V, c), gr)) (v := (c 6)) hn (zk_no hno) hC27 rfl (fun cm28 o28 u28 s28 a28 hC28 => ⟨rfl, ?_⟩)))
    refine z_i2l dL_sum_67 ?_
    refine z_lmul dL_sum_68 ?_
    refine z_ladd dL_sum_69 ?_
    refine z_ldc2 (v := 19) lL_130 dL_sum_70 ?_
    refine z_aload_n (j := 0) dL_sum_73 rfl ?_
    refine z_kV [] 0 0 kc ks yoX7_addedCount yvX7_addedCount rfl (by decide) lL_91 (by omega) gW_0 rfl rfl (Nat.le_of_ble_eq_true rfl) (Nat.le_of_ble_eq_true rfl) dL_sum_74 (by omega) (by omega) (z_room (by omega) (Nat.le_refl _) (Nat.le_refl _) (V_addedCount (d := 0) (g := ((B, H, T, K, V, c), gr)) (g' := ((B, H, T, K, V, c), gr)) (v := (c 7)) hn (zk_no hno) hC28 rfl (fun cm29 o29 u29 s29 a29 hC29 => ⟨rfl, ?_⟩)))
    refine z_i2l dL_sum_77 ?_
    refine z_lmul dL_sum_78 ?_
    refine z_ladd dL_sum_79 ?_
    refine z_ldc2 (v := 23) lL_132 dL_sum_80 ?_
    refine z_aload_n (j := 0) dL_sum_83 rfl ?_
    refine z_kV [] 0 0 kc ks yoX7_removedCount yvX7_removedCount rfl (by decide) lL_94 (by omega) gW_0 rfl rfl (Nat.le_of_ble_eq_true rfl) (Nat.le_of_ble_eq_true rfl) dL_sum_84 (by omega) (by omega) (z_room (by omega) (Nat.le_refl _) (Nat.le_refl _) (V_removedCount (d := 0) (g := ((B, H, T, K, V, c), gr)) (g' := ((B, H, T, K, V, c), gr)) (v := (c 8)) hn (zk_no hno) hC29 rfl (fun cm30 o30 u30 s30 a30 hC30 => ⟨rfl, ?_⟩)))
    refine z_i2l dL_sum_87 ?_
    refine z_lmul dL_sum_88 ?_
    refine z_ladd dL_sum_89 ?_
    refine z_lstore_n [1, 0] [(0, .ref 0), (1, .long (((((((((((nI B)).toInt64 + (100 * ((nI H)).toInt64)) + (1000 * ((nI T)).toInt64)) + 7) + (11 * ((c 4)).toInt64)) + (13 * ((c 5)).toInt64)) + (17 * ((c 6)).toInt64)) + (19 * ((c 7)).toInt64)) + (23 * ((c 8)).toInt64))))] dL_sum_90 (by decide) rfl ?_
    refine z_iconst (v := 0) dL_sum_91 (by decide) ?_
    refine z_istore_n [1, 2, 0] [(0, .ref 0), (1, .long (((((((((((nI B)).toInt64 + (100 * ((nI H)).toInt64)) + (1000 * ((nI T)).toInt64)) + 7) + (11 * ((c 4)).toInt64)) + (13 * ((c 5)).toInt64)) + (17 * ((c 6)).toInt64)) + (19 * ((c 7)).toInt64)) + (23 * ((c 8)).toInt64)))), (3, .int 0)] dL_sum_92 (by decide) rfl ?_
    have e0 : (if c 3 = 0 then (0 : Int64) else 7) = 7 := if_neg czq29
    rw [show ((((((((((nI B)).toInt64 + (100 * ((nI H)).toInt64)) + (1000 * ((nI T)).toInt64)) + 7) + (11 * ((c 4)).toInt64)) + (13 * ((c 5)).toInt64)) + (17 * ((c 6)).toInt64)) + (19 * ((c 7)).toInt64)) + (23 * ((c 8)).toInt64)) = sumL (B, H, T, K, V, c) 0 from by
      show _ = sum0 (B, H, T, K, V, c)
      unfold sum0
      rw [show (if (B, H, T, K, V, c).2.2.2.2.2 3 = 0 then (0 : Int64) else 7) = 7 from e0]]
    exact W_sum_l hn hno hq B 0 cm30 o30 u30 s30 a30 (by omega) hC30

theorem W_sum {l : zL} {d kc ks n : Nat} {h : Nat → va_E} {cm : Value} {o u : Nat → Nat → Int32} {s : Nat → Nat → Int32} {a : Nat → Nat → Nat → Int32} {g : zGs} {Q : zQ} {v : Int64} (hn : 89 ≤ n) (hno : ∀ E n' h', ¬ Q (.inr E) n' h') (hC : cI g o u s a) (hv : fSum g.1 = v) (hq : ∀ cm o u s a, cI g o u s a → Q (.inl (some (.long v))) n (gW h cm o u s a)) : Zj l mL_sum (d + 8) kc ks 0 [(0, .ref 0)] [] n (gW h cm o u s a) Q := by
  subst hv
  obtain ⟨⟨B, H, T, K, V, c⟩, gr⟩ := g
  exact W_sum0 hn hno hC hq
