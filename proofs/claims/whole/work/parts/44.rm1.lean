set_option maxHeartbeats 4000000 in
set_option maxRecDepth 100000 in
theorem r_key {l : zL} {d kc ks n b B H T : Nat} {h : Nat → va_E} {K V : Nat → Nat} {s : Nat → Int32} {a : Nat → Nat → Int32} {Q : zQ} {i : Nat} (hb : b + 14 ≤ n) (hM : mV B H T K V (a 0)) (hi : i < B) (hq : Q (.inl (some (.int (tkey (K i))))) n (mW h b s a)) : Zj l mX8_key d kc ks 0 [(0, .ref b), (1, .int ((nI i)))] [] n (mW h b s a) Q := by
  obtain ⟨okb, h2H, hH6, h1T, hT99, e0, e1, e2, ek, ev, ekv, ez⟩ := id hM
  have hle := okb.le
  refine z_aload_n (j := 0) dX8_key_0 rfl ?_
  refine z_get (v := .ref (b + 1)) (by omega) mW_obj fX8_7 rfl dX8_key_1 ?_
  refine z_bipush (v := 9) dX8_key_4 (by decide) ?_
  refine z_iload_n (j := 1) dX8_key_6 rfl ?_
  refine z_iadd dX8_key_7 ?_
  refine m_aldN 0 137 (9 + i) (by decide) rfl rfl hb (nI_add 9 _) (by omega) (by decide) dX8_key_8 ?_
  refine z_iconst (v := 1) dX8_key_9 (by decide) ?_
  refine z_isub dX8_key_10 ?_
  exact z_iret rfl dX8_key_11 (by
      rw [ek i (by omega), key_tk]
      exact hq)

set_option maxHeartbeats 4000000 in
set_option maxRecDepth 100000 in
theorem r_isFree {l : zL} {d kc ks n b B H T : Nat} {h : Nat → va_E} {K V : Nat → Nat} {s : Nat → Int32} {a : Nat → Nat → Int32} {Q : zQ} {i : Nat} (hb : b + 14 ≤ n) (hM : mV B H T K V (a 0)) (hi : i < B) (hq : Q (.inl (some (.int (bI (K i = 0))))) n (mW h b s a)) : Zj l mX8_isFree d kc ks 0 [(0, .ref b), (1, .int ((nI i)))] [] n (mW h b s a) Q := by
  obtain ⟨okb, h2H, hH6, h1T, hT99, e0, e1, e2, ek, ev, ekv, ez⟩ := id hM
  have hle := okb.le
  refine z_aload_n (j := 0) dX8_isFree_0 rfl ?_
  refine z_get (v := .ref (b + 1)) (by omega) mW_obj fX8_7 rfl dX8_isFree_1 ?_
  refine z_bipush (v := 9) dX8_isFree_4 (by decide) ?_
  refine z_iload_n (j := 1) dX8_isFree_6 rfl ?_
  refine z_iadd dX8_isFree_7 ?_
  refine m_aldN 0 137 (9 + i) (by decide) rfl rfl hb (nI_add 9 _) (by omega) (by decide) dX8_isFree_8 ?_
  refine z_if_ne (tgt := 16) dX8_isFree_9 (by decide) (fun c_9 => ?_) (fun c_9 => ?_)
  · refine z_iconst (v := 0) dX8_isFree_16 (by decide) ?_
    exact z_zret rfl rfl dX8_isFree_17 (by
        have hK : ¬ K i = 0 := fun e => c_9 (by rw [ek i (by omega), e]; rfl)
        rw [bI_f hK] at hq
        exact hq)
  · refine z_iconst (v := 1) dX8_isFree_12 (by decide) ?_
    refine z_goto (tgt := 17) dX8_isFree_13 (by decide) ?_
    exact z_zret rfl rfl dX8_isFree_17 (by
        have hK : K i = 0 := by
          rw [ek i (by omega)] at c_9
          exact (nI_eq (by have := ekv i; omega) (by decide)).mp c_9
        rw [bI_t hK] at hq
        exact hq)

set_option maxHeartbeats 4000000 in
set_option maxRecDepth 100000 in
theorem r_behind {l : zL} {d kc ks n b B H T : Nat} {h : Nat → va_E} {K V : Nat → Nat} {s : Nat → Int32} {a : Nat → Nat → Int32} {Q : zQ} {i k : Nat} (hb : b + 14 ≤ n) (hM : mV B H T K V (a 0)) (hi : i < 1000) (hk : k < 1000) (hq : Q (.inl (some (.int (nI ((i + k) % B))))) n (mW h b s a)) : Zj l mX8_behind d kc ks 0 [(0, .ref b), (1, .int ((nI i))), (2, .int ((nI k)))] [] n (mW h b s a) Q := by
  obtain ⟨okb, h2H, hH6, h1T, hT99, e0, e1, e2, ek, ev, ekv, ez⟩ := id hM
  have hle := okb.le
  refine z_iload_n (j := 1) dX8_behind_0 rfl ?_
  refine z_iload_n (j := 2) dX8_behind_1 rfl ?_
  refine z_iadd dX8_behind_2 ?_
  refine z_aload_n (j := 0) dX8_behind_3 rfl ?_
  refine z_get (v := .ref (b + 1)) (by omega) mW_obj fX8_7 rfl dX8_behind_4 ?_
  refine z_iconst (v := 0) dX8_behind_7 (by decide) ?_
  refine m_aldN 0 137 0 (by decide) rfl rfl hb rfl (by omega) (by decide) dX8_behind_8 ?_
  refine z_iadd dX8_behind_9 ?_
  refine z_aload_n (j := 0) dX8_behind_10 rfl ?_
  refine z_get (v := .ref (b + 1)) (by omega) mW_obj fX8_7 rfl dX8_behind_11 ?_
  refine z_iconst (v := 0) dX8_behind_14 (by decide) ?_
  refine m_aldN 0 137 0 (by decide) rfl rfl hb rfl (by omega) (by decide) dX8_behind_15 ?_
  refine z_irem (by rw [e0]; exact nI_ne0 (by omega) (by omega)) dX8_behind_16 ?_
  exact z_iret rfl dX8_behind_17 (by
      rw [e0, nI_add, nI_add, pk_rem (by omega) (by omega) (by omega), Nat.add_mod_right]
      exact hq)

set_option maxHeartbeats 4000000 in
set_option maxRecDepth 100000 in
theorem r_behindN {l : zL} {d kc ks n b B H T : Nat} {h : Nat → va_E} {K V : Nat → Nat} {s : Nat → Int32} {a : Nat → Nat → Int32} {Q : zQ} {i k : Nat} (hb : b + 14 ≤ n) (hM : mV B H T K V (a 0)) (hi : i < 1000) (hk : k ≤ B) (hq : Q (.inl (some (.int (nI ((i + B - k) % B))))) n (mW h b s a)) : Zj l mX8_behind d kc ks 0 [(0, .ref b), (1, .int ((nI i))), (2, .int ((-(nI k))))] [] n (mW h b s a) Q := by
  obtain ⟨okb, h2H, hH6, h1T, hT99, e0, e1, e2, ek, ev, ekv, ez⟩ := id hM
  have hle := okb.le
  refine z_iload_n (j := 1) dX8_behind_0 rfl ?_
  refine z_iload_n (j := 2) dX8_behind_1 rfl ?_
  refine z_iadd dX8_behind_2 ?_
  refine z_aload_n (j := 0) dX8_behind_3 rfl ?_
  refine z_get (v := .ref (b + 1)) (by omega) mW_obj fX8_7 rfl dX8_behind_4 ?_
  refine z_iconst (v := 0) dX8_behind_7 (by decide) ?_
  refine m_aldN 0 137 0 (by decide) rfl rfl hb rfl (by omega) (by decide) dX8_behind_8 ?_
  refine z_iadd dX8_behind_9 ?_
  refine z_aload_n (j := 0) dX8_behind_10 rfl ?_
  refine z_get (v := .ref (b + 1)) (by omega) mW_obj fX8_7 rfl dX8_behind_11 ?_
  refine z_iconst (v := 0) dX8_behind_14 (by decide) ?_
  refine m_aldN 0 137 0 (by decide) rfl rfl hb rfl (by omega) (by decide) dX8_behind_15 ?_
  refine z_irem (by rw [e0]; exact nI_ne0 (by omega) (by omega)) dX8_behind_16 ?_
  exact z_iret rfl dX8_behind_17 (by
      rw [e0, wrap_neg, nI_add, pk_sub (by omega), pk_rem (by omega) (by omega) (by omega)]
      exact hq)

set_option maxHeartbeats 4000000 in
set_option maxRecDepth 100000 in
theorem r_distance {l : zL} {d kc ks n b B H T : Nat} {h : Nat → va_E} {K V : Nat → Nat} {s : Nat → Int32} {a : Nat → Nat → Int32} {Q : zQ} {i k : Nat} (hb : b + 14 ≤ n) (hM : mV B H T K V (a 0)) (hi : i < 1000) (hk : k ≤ B) (hq : Q (.inl (some (.int (nI ((i + B - k) % B))))) n (mW h b s a)) : Zj l mX8_distance d kc ks 0 [(0, .ref b), (1, .int ((nI k))), (2, .int ((nI i)))] [] n (mW h b s a) Q := by
  obtain ⟨okb, h2H, hH6, h1T, hT99, e0, e1, e2, ek, ev, ekv, ez⟩ := id hM
  have hle := okb.le
  refine z_iload_n (j := 2) dX8_distance_0 rfl ?_
  refine z_iload_n (j := 1) dX8_distance_1 rfl ?_
  refine z_isub dX8_distance_2 ?_
  refine z_aload_n (j := 0) dX8_distance_3 rfl ?_
  refine z_get (v := .ref (b + 1)) (by omega) mW_obj fX8_7 rfl dX8_distance_4 ?_
  refine z_iconst (v := 0) dX8_distance_7 (by decide) ?_
  refine m_aldN 0 137 0 (by decide) rfl rfl hb rfl (by omega) (by decide) dX8_distance_8 ?_
  refine z_iadd dX8_distance_9 ?_
  refine z_aload_n (j := 0) dX8_distance_10 rfl ?_
  refine z_get (v := .ref (b + 1)) (by omega) mW_obj fX8_7 rfl dX8_distance_11 ?_
  refine z_iconst (v := 0) dX8_distance_14 (by decide) ?_
  refine m_aldN 0 137 0 (by decide) rfl rfl hb rfl (by omega) (by decide) dX8_distance_15 ?_
  refine z_irem (by rw [e0]; exact nI_ne0 (by omega) (by omega)) dX8_distance_16 ?_
  exact z_iret rfl dX8_distance_17 (by
      rw [e0, wrap_sub, nI_add, pk_sub (by omega), pk_rem (by omega) (by omega) (by omega)]
      exact hq)

set_option maxHeartbeats 4000000 in
set_option maxRecDepth 100000 in
theorem r_home {l : zL} {d kc ks n b B H T : Nat} {h : Nat → va_E} {K V : Nat → Nat} {s : Nat → Int32} {a : Nat → Nat → Int32} {Q : zQ} {key : Nat} (hb : b + 14 ≤ n) (hM : mV B H T K V (a 0)) (hkey : key ≤ 9999) (hq : Q (.inl (some (.int (nI (hmo B T key))))) n (mW h b s a)) : Zj l mX8_home d kc ks 0 [(0, .ref b), (1, .int ((nI key)))] [] n (mW h b s a) Q := by
  obtain ⟨okb, h2H, hH6, h1T, hT99, e0, e1, e2, ek, ev, ekv, ez⟩ := id hM
  have hle := okb.le
  refine z_iload_n (j := 1) dX8_home_0 rfl ?_
  refine z_aload_n (j := 0) dX8_home_1 rfl ?_
  refine z_get (v := .ref (b + 1)) (by omega) mW_obj fX8_7 rfl dX8_home_2 ?_
  refine z_iconst (v := 2) dX8_home_5 (by decide) ?_
  refine m_aldN 0 137 2 (by decide) rfl rfl hb rfl (by omega) (by decide) dX8_home_6 ?_
  refine z_imul dX8_home_7 ?_
  refine z_sipush (v := 997) dX8_home_8 (by decide) ?_
  refine z_irem (by decide) dX8_home_11 ?_
  refine z_aload_n (j := 0) dX8_home_12 rfl ?_
  refine z_get (v := .ref (b + 1)) (by omega) mW_obj fX8_7 rfl dX8_home_13 ?_
  refine z_iconst (v := 0) dX8_home_16 (by decide) ?_
  refine m_aldN 0 137 0 (by decide) rfl rfl hb rfl (by omega) (by decide) dX8_home_17 ?_
  refine z_irem (by rw [e0]; exact nI_ne0 (by omega) (by omega)) dX8_home_18 ?_
  exact z_iret rfl dX8_home_19 (by
      have hm : key * T ≤ 9999 * 99 := Nat.mul_le_mul hkey hT99
      rw [e0, e2, pk_mul, show (997 : Int32) = nI 997 from rfl, pk_rem (by omega) (by decide) (by decide), pk_rem (by omega) (by omega) (by omega)]
      exact hq)

set_option maxHeartbeats 4000000 in
set_option maxRecDepth 100000 in
theorem r_off {l : zL} {d kc ks n b B H T : Nat} {h : Nat → va_E} {K V : Nat → Nat} {s : Nat → Int32} {a : Nat → Nat → Int32} {Q : zQ} {i : Nat} (hb : b + 14 ≤ n) (hM : mV B H T K V (a 0)) (hi : i < B) (hK : K i ≠ 0) (hq : Q (.inl (some (.int (nI (dst B T K i))))) n (mW h b s a)) : Zj l mX8_off (d + 1) kc ks 0 [(0, .ref b), (1, .int ((nI i)))] [] n (mW h b s a) Q := by
  obtain ⟨okb, h2H, hH6, h1T, hT99, e0, e1, e2, ek, ev, ekv, ez⟩ := id hM
  have hle := okb.le
  refine z_aload_n (j := 0) dX8_off_0 rfl ?_
  refine z_aload_n (j := 0) dX8_off_1 rfl ?_
  refine z_aload_n (j := 0) dX8_off_2 rfl ?_
  refine z_iload_n (j := 1) dX8_off_3 rfl ?_
  refine z_cV [.int ((nI i))] (some (.int ((tkey (K i))))) yoX8_key yvX8_key rfl (by decide) lX8_71 (by omega) mW_obj rfl rfl (Nat.le_of_ble_eq_true rfl) (Nat.le_of_ble_eq_true rfl) dX8_off_4 (z_room (by omega) (Nat.le_refl _) (Nat.le_refl _) (r_key (d := 0) hb hM hi ⟨rfl, rfl, rfl⟩)) ?_
  rw [show (tkey (K i)) = (nI (K i - 1)) from tkey_ne hK]
  refine z_cV [.int ((nI (K i - 1)))] (some (.int ((nI (hmo B T (K i - 1)))))) yoX8_home yvX8_home rfl (by decide) lX8_75 (by omega) mW_obj rfl rfl (Nat.le_of_ble_eq_true rfl) (Nat.le_of_ble_eq_true rfl) dX8_off_7 (z_room (by omega) (Nat.le_refl _) (Nat.le_refl _) (r_home (d := 0) hb hM (by have := ekv i; omega) ⟨rfl, rfl, rfl⟩)) ?_
  refine z_iload_n (j := 1) dX8_off_10 rfl ?_
  refine z_cV [.int ((nI (hmo B T (K i - 1)))), .int ((nI i))] (some (.int ((nI (dst B T K i))))) yoX8_distance yvX8_distance rfl (by decide) lX8_78 (by omega) mW_obj rfl rfl (Nat.le_of_ble_eq_true rfl) (Nat.le_of_ble_eq_true rfl) dX8_off_11 (z_room (by omega) (Nat.le_refl _) (Nat.le_refl _) (r_distance (d := 0) hb hM (by omega) (Nat.le_of_lt (hmo_lt okb T _)) ⟨rfl, rfl, rfl⟩)) ?_
  exact z_iret rfl dX8_off_14 (hq)

set_option maxHeartbeats 4000000 in
set_option maxRecDepth 100000 in
theorem r_isOf {l : zL} {d kc ks n b B H T : Nat} {h : Nat → va_E} {K V : Nat → Nat} {s : Nat → Int32} {a : Nat → Nat → Int32} {Q : zQ} {i hm : Nat} (hb : b + 14 ≤ n) (hM : mV B H T K V (a 0)) (hi : i < B) (hhm : hm < B) (hq : Q (.inl (some (.int (bI (isO B T K i hm = true))))) n (mW h b s a)) : Zj l mX8_isOf (d + 1) kc ks 0 [(0, .ref b), (1, .int ((nI i))), (2, .int ((nI hm)))] [] n (mW h b s a) Q := by
  obtain ⟨okb, h2H, hH6, h1T, hT99, e0, e1, e2, ek, ev, ekv, ez⟩ := id hM
  have hle := okb.le
  refine z_aload_n (j := 0) dX8_isOf_0 rfl ?_
  refine z_iload_n (j := 1) dX8_isOf_1 rfl ?_
  refine z_cV [.int ((nI i))] (some (.int ((bI (K i = 0))))) yoX8_isFree yvX8_isFree rfl (by decide) lX8_82 (by omega) mW_obj rfl rfl (Nat.le_of_ble_eq_true rfl) (Nat.le_of_ble_eq_true rfl) dX8_isOf_2 (z_room (by omega) (Nat.le_refl _) (Nat.le_refl _) (r_isFree (d := 0) hb hM hi ⟨rfl, rfl, rfl⟩)) ?_
  refine z_if_ne (tgt := 25) dX8_isOf_5 (by decide) (fun c_5 => ?_) (fun c_5 => ?_)
  · refine z_iconst (v := 0) dX8_isOf_25 (by decide) ?_
    exact z_zret rfl rfl dX8_isOf_26 (by
        have hno : ¬ isO B T K i hm = true := by simp [isO, bI_n.mp c_5]
        rw [bI_f hno] at hq
        exact hq)
  · have hK : K i ≠ 0 := bI_0.mp c_5
    refine z_aload_n (j := 0) dX8_isOf_8 rfl ?_
    refine z_aload_n (j := 0) dX8_isOf_9 rfl ?_
    refine z_iload_n (j := 1) dX8_isOf_10 rfl ?_
    refine z_cV [.int ((nI i))] (some (.int ((tkey (K i))))) yoX8_key yvX8_key rfl (by decide) lX8_71 (by omega) mW_obj rfl rfl (Nat.le_of_ble_eq_true rfl) (Nat.le_of_ble_eq_true rfl) dX8_isOf_11 (z_room (by omega) (Nat.le_refl _) (Nat.le_refl _) (r_key (d := 0) hb hM hi ⟨rfl, rfl, rfl⟩)) ?_
    rw [show (tkey (K i)) = (nI (K i - 1)) from tkey_ne hK]
    refine z_cV [.int ((nI (K i - 1)))] (some (.int ((nI (hmo B T (K i - 1)))))) yoX8_home yvX8_home rfl (by decide) lX8_75 (by omega) mW_obj rfl rfl (Nat.le_of_ble_eq_true rfl) (Nat.le_of_ble_eq_true rfl) dX8_isOf_14 (z_room (by omega) (Nat.le_refl _) (Nat.le_refl _) (r_home (d := 0) hb hM (by have := ekv i; omega) ⟨rfl, rfl, rfl⟩)) ?_
    refine z_iload_n (j := 2) dX8_isOf_17 rfl ?_
    refine z_icmp_ne (tgt := 25) dX8_isOf_18 (by decide) (fun c_18 => ?_) (fun c_18 => ?_)
    · refine z_iconst (v := 0) dX8_isOf_25 (by decide) ?_
      exact z_zret rfl rfl dX8_isOf_26 (by
          have hne : ¬ hmo B T (K i - 1) = hm := fun e => c_18 (by rw [e])
          have hno : ¬ isO B T K i hm = true := by simp [isO, hne]
          rw [bI_f hno] at hq
          exact hq)
    · refine z_iconst (v := 1) dX8_isOf_21 (by decide) ?_
      refine z_goto (tgt := 26) dX8_isOf_22 (by decide) ?_
      exact z_zret rfl rfl dX8_isOf_26 (by
          have hh := hmo_lt okb T (K i - 1)
          have he : hmo B T (K i - 1) = hm := (nI_eq (by omega) (by omega)).mp c_18
          have hyes : isO B T K i hm = true := by simp [isO, he, hK]
          rw [bI_t hyes] at hq
          exact hq)

set_option maxHeartbeats 4000000 in
set_option maxRecDepth 100000 in
theorem r_bucketWith_l {l : zL} {d kc ks n b B H T : Nat} {h : Nat → va_E} {K V : Nat → Nat} {s : Nat → Int32} {a : Nat → Nat → Int32} {Q : zQ} {key : Nat} (hb : b + 14 ≤ n) (hM : mV B H T K V (a 0)) (hkey : key ≤ 9999) : ∀ m i, i + m = B → Q (.inl (some (.int (optI (fnd (fun i => decide (K i = key + 1)) m i))))) n (mW h b s a) → Zj l mX8_bucketWith (d + 1) kc ks 2 [(0, .ref b), (1, .int ((nI key))), (2, .int ((nI i)))] [] n (mW h b s a) Q := by
  obtain ⟨okb, h2H, hH6, h1T, hT99, e0, e1, e2, ek, ev, ekv, ez⟩ := id hM
  have hle := okb.le
  intro m
  induction m with
  | zero =>
    intro i hi hq
    refine z_iload_n (j := 2) dX8_bucketWith_2 rfl ?_
    refine z_aload_n (j := 0) dX8_bucketWith_3 rfl ?_
    refine z_get (v := .ref (b + 1)) (by omega) mW_obj fX8_7 rfl dX8_bucketWith_4 ?_
    refine z_iconst (v := 0) dX8_bucketWith_7 (by decide) ?_
    refine m_aldN 0 137 0 (by decide) rfl rfl hb rfl (by omega) (by decide) dX8_bucketWith_8 ?_
    refine z_icmp_ge (tgt := 29) dX8_bucketWith_9 (by decide) (fun c_9 => ?_) (fun c_9 => absurd (by rw [e0]; exact nI_le (by omega) (by omega)) c_9)
    refine z_iconst (v := (-1)) dX8_bucketWith_29 (by decide) ?_
    exact z_iret rfl dX8_bucketWith_30 (by rw [show fnd _ 0 i = none from rfl] at hq; exact hq)
  | succ m ih =>
    intro i hi hq
    refine z_iload_n (j := 2) dX8_bucketWith_2 rfl ?_
    refine z_aload_n (j := 0) dX8_bucketWith_3 rfl ?_
    refine z_get (v := .ref (b + 1)) (by omega) mW_obj fX8_7 rfl dX8_bucketWith_4 ?_
    refine z_iconst (v := 0) dX8_bucketWith_7 (by decide) ?_
    refine m_aldN 0 137 0 (by decide) rfl rfl hb rfl (by omega) (by decide) dX8_bucketWith_8 ?_
    refine z_icmp_ge (tgt := 29) dX8_bucketWith_9 (by decide) (fun c_9 => absurd c_9 (by rw [e0]; exact nI_ge (by omega) (by omega))) (fun c_9 => ?_)
    refine z_aload_n (j := 0) dX8_bucketWith_12 rfl ?_
    refine z_iload_n (j := 2) dX8_bucketWith_13 rfl ?_
    refine z_cV [.int ((nI i))] (some (.int ((tkey (K i))))) yoX8_key yvX8_key rfl (by decide) lX8_71 (by omega) mW_obj rfl rfl (Nat.le_of_ble_eq_true rfl) (Nat.le_of_ble_eq_true rfl) dX8_bucketWith_14 (z_room (by omega) (Nat.le_refl _) (Nat.le_refl _) (r_key (d := 0) hb hM (by omega) ⟨rfl, rfl, rfl⟩)) ?_
    refine z_iload_n (j := 1) dX8_bucketWith_17 rfl ?_
    refine z_icmp_ne (tgt := 23) dX8_bucketWith_18 (by decide) (fun c_18 => ?_) (fun c_18 => ?_)
    · skip
      refine z_iinc ((nI (i + 1))) [1, 2, 0] [(0, .ref b), (1, .int ((nI key))), (2, .int ((nI (i + 1))))] dX8_bucketWith_23 (j := 2) rfl (nI_1 i) (by decide) rfl ?_
      refine z_goto (tgt := 2) dX8_bucketWith_26 (by decide) ?_
      refine ih (i + 1) (by omega) ?_
      rw [fnd_no (p := (fun i => decide (K i = key + 1))) (by simpa using fun e => c_18 ((tkey_is (ekv i).1 hkey).mpr e))] at hq
      exact hq
    · refine z_iload_n (j := 2) dX8_bucketWith_21 rfl ?_
      exact z_iret rfl dX8_bucketWith_22 (by
          rw [fnd_yes (p := (fun i => decide (K i = key + 1))) (by simpa using (tkey_is (ekv i).1 hkey).mp c_18)] at hq
          exact hq)

set_option maxHeartbeats 4000000 in
set_option maxRecDepth 100000 in
theorem r_bucketWith {l : zL} {d kc ks n b B H T : Nat} {h : Nat → va_E} {K V : Nat → Nat} {s : Nat → Int32} {a : Nat → Nat → Int32} {Q : zQ} {key : Nat} (hb : b + 14 ≤ n) (hM : mV B H T K V (a 0)) (hkey : key ≤ 9999) (hq : Q (.inl (some (.int (optI (bwS B K key))))) n (mW h b s a)) : Zj l mX8_bucketWith (d + 1) kc ks 0 [(0, .ref b), (1, .int ((nI key)))] [] n (mW h b s a) Q := by
  refine z_iconst (v := 0) dX8_bucketWith_0 (by decide) ?_
  refine z_istore_n [1, 2, 0] [(0, .ref b), (1, .int ((nI key))), (2, .int 0)] dX8_bucketWith_1 (by decide) rfl ?_
  exact r_bucketWith_l hb hM hkey B 0 (by omega) hq

set_option maxHeartbeats 4000000 in
set_option maxRecDepth 100000 in
theorem r_entries_l {l : zL} {d kc ks n b B H T : Nat} {h : Nat → va_E} {K V : Nat → Nat} {s : Nat → Int32} {a : Nat → Nat → Int32} {Q : zQ} (hb : b + 14 ≤ n) (hM : mV B H T K V (a 0)) : ∀ m i, i + m = B → Q (.inl (some (.int (nI (cnt K B))))) n (mW h b s a) → Zj l mX8_entries (d + 1) kc ks 4 [(0, .ref b), (1, .int ((nI (cnt K i)))), (2, .int ((nI i)))] [] n (mW h b s a) Q := by
  obtain ⟨okb, h2H, hH6, h1T, hT99, e0, e1, e2, ek, ev, ekv, ez⟩ := id hM
  have hle := okb.le
  intro m
  induction m with
  | zero =>
    intro i hi hq
    refine z_iload_n (j := 2) dX8_entries_4 rfl ?_
    refine z_aload_n (j := 0) dX8_entries_5 rfl ?_
    refine z_get (v := .ref (b + 1)) (by omega) mW_obj fX8_7 rfl dX8_entries_6 ?_
    refine z_iconst (v := 0) dX8_entries_9 (by decide) ?_
    refine m_aldN 0 137 0 (by decide) rfl rfl hb rfl (by omega) (by decide) dX8_entries_10 ?_
    refine z_icmp_ge (tgt := 36) dX8_entries_11 (by decide) (fun c_11 => ?_) (fun c_11 => absurd (by rw [e0]; exact nI_le (by omega) (by omega)) c_11)
    refine z_iload_n (j := 1) dX8_entries_36 rfl ?_
    exact z_iret rfl dX8_entries_37 (by
        obtain rfl : i = B := by omega
        exact hq)
  | succ m ih =>
    intro i hi hq
    refine z_iload_n (j := 2) dX8_entries_4 rfl ?_
    refine z_aload_n (j := 0) dX8_entries_5 rfl ?_
    refine z_get (v := .ref (b + 1)) (by omega) mW_obj fX8_7 rfl dX8_entries_6 ?_
    refine z_iconst (v := 0) dX8_entries_9 (by decide) ?_
    refine m_aldN 0 137 0 (by decide) rfl rfl hb rfl (by omega) (by decide) dX8_entries_10 ?_
    refine z_icmp_ge (tgt := 36) dX8_entries_11 (by decide) (fun c_11 => absurd c_11 (by rw [e0]; exact nI_ge (by omega) (by omega))) (fun c_11 => ?_)
    refine z_iload_n (j := 1) dX8_entries_14 rfl ?_
    refine z_aload_n (j := 0) dX8_entries_15 rfl ?_
    refine z_iload_n (j := 2) dX8_entries_16 rfl ?_
    refine z_cV [.int ((nI i))] (some (.int ((bI (K i = 0))))) yoX8_isFree yvX8_isFree rfl (by decide) lX8_82 (by omega) mW_obj rfl rfl (Nat.le_of_ble_eq_true rfl) (Nat.le_of_ble_eq_true rfl) dX8_entries_17 (z_room (by omega) (Nat.le_refl _) (Nat.le_refl _) (r_isFree (d := 0) hb hM (by omega) ⟨rfl, rfl, rfl⟩)) ?_
    refine z_if_eq (tgt := 27) dX8_entries_20 (by decide) (fun c_20 => ?_) (fun c_20 => ?_)
    · refine z_iconst (v := 1) dX8_entries_27 (by decide) ?_
      refine z_iadd dX8_entries_28 ?_
      rw [show nI (cnt K i) + 1 = nI (cnt K (i + 1)) from by
        rw [cnt, if_neg (bI_0.mp c_20)]; exact nI_1 _]
      refine z_istore_n [1, 0, 2] [(0, .ref b), (1, .int ((nI (cnt K (i + 1))))), (2, .int ((nI i)))] dX8_entries_29 (by decide) rfl ?_
      skip
      refine z_iinc ((nI (i + 1))) [1, 2, 0] [(0, .ref b), (1, .int ((nI (cnt K (i + 1))))), (2, .int ((nI (i + 1))))] dX8_entries_30 (j := 2) rfl (nI_1 i) (by decide) rfl ?_
      refine z_goto (tgt := 4) dX8_entries_33 (by decide) ?_
      exact ih (i + 1) (by omega) hq
    · refine z_iconst (v := 0) dX8_entries_23 (by decide) ?_
      refine z_goto (tgt := 28) dX8_entries_24 (by decide) ?_
      refine z_iadd dX8_entries_28 ?_
      rw [show nI (cnt K i) + 0 = nI (cnt K (i + 1)) from by
        rw [cnt, if_pos (bI_n.mp c_20)]; exact Int32.add_zero _]
      refine z_istore_n [1, 0, 2] [(0, .ref b), (1, .int ((nI (cnt K (i + 1))))), (2, .int ((nI i)))] dX8_entries_29 (by decide) rfl ?_
      skip
      refine z_iinc ((nI (i + 1))) [1, 2, 0] [(0, .ref b), (1, .int ((nI (cnt K (i + 1))))), (2, .int ((nI (i + 1))))] dX8_entries_30 (j := 2) rfl (nI_1 i) (by decide) rfl ?_
      refine z_goto (tgt := 4) dX8_entries_33 (by decide) ?_
      exact ih (i + 1) (by omega) hq

set_option maxHeartbeats 4000000 in
set_option maxRecDepth 100000 in
theorem r_entries {l : zL} {d kc ks n b B H T : Nat} {h : Nat → va_E} {K V : Nat → Nat} {s : Nat → Int32} {a : Nat → Nat → Int32} {Q : zQ} (hb : b + 14 ≤ n) (hM : mV B H T K V (a 0)) (hq : Q (.inl (some (.int (nI (cnt K B))))) n (mW h b s a)) : Zj l mX8_entries (d + 1) kc ks 0 [(0, .ref b)] [] n (mW h b s a) Q := by
  refine z_iconst (v := 0) dX8_entries_0 (by decide) ?_
  refine z_istore_n [1, 0] [(0, .ref b), (1, .int 0)] dX8_entries_1 (by decide) rfl ?_
  refine z_iconst (v := 0) dX8_entries_2 (by decide) ?_
  refine z_istore_n [1, 2, 0] [(0, .ref b), (1, .int 0), (2, .int 0)] dX8_entries_3 (by decide) rfl ?_
  exact r_entries_l hb hM B 0 (by omega) hq

set_option maxHeartbeats 4000000 in
set_option maxRecDepth 100000 in
theorem r_manyOf_l {l : zL} {d kc ks n b B H T : Nat} {h : Nat → va_E} {K V : Nat → Nat} {s : Nat → Int32} {a : Nat → Nat → Int32} {Q : zQ} {hm : Nat} (hb : b + 14 ≤ n) (hM : mV B H T K V (a 0)) (hhm : hm < B) : ∀ m i, i + m = B → Q (.inl (some (.int (nI (manN B T K hm B))))) n (mW h b s a) → Zj l mX8_manyOf (d + 2) kc ks 4 [(0, .ref b), (1, .int ((nI hm))), (2, .int ((nI (manN B T K hm i)))), (3, .int ((nI i)))] [] n (mW h b s a) Q := by
  obtain ⟨okb, h2H, hH6, h1T, hT99, e0, e1, e2, ek, ev, ekv, ez⟩ := id hM
  have hle := okb.le
  intro m
  induction m with
  | zero =>
    intro i hi hq
    refine z_iload_n (j := 3) dX8_manyOf_4 rfl ?_
    refine z_aload_n (j := 0) dX8_manyOf_5 rfl ?_
    refine z_get (v := .ref (b + 1)) (by omega) mW_obj fX8_7 rfl dX8_manyOf_6 ?_
    refine z_iconst (v := 0) dX8_manyOf_9 (by decide) ?_
    refine m_aldN 0 137 0 (by decide) rfl rfl hb rfl (by omega) (by decide) dX8_manyOf_10 ?_
    refine z_icmp_ge (tgt := 37) dX8_manyOf_11 (by decide) (fun c_11 => ?_) (fun c_11 => absurd (by rw [e0]; exact nI_le (by omega) (by omega)) c_11)
    refine z_iload_n (j := 2) dX8_manyOf_37 rfl ?_
    exact z_iret rfl dX8_manyOf_38 (by
        obtain rfl : i = B := by omega
        exact hq)
  | succ m ih =>
    intro i hi hq
    refine z_iload_n (j := 3) dX8_manyOf_4 rfl ?_
    refine z_aload_n (j := 0) dX8_manyOf_5 rfl ?_
    refine z_get (v := .ref (b + 1)) (by omega) mW_obj fX8_7 rfl dX8_manyOf_6 ?_
    refine z_iconst (v := 0) dX8_manyOf_9 (by decide) ?_
    refine m_aldN 0 137 0 (by decide) rfl rfl hb rfl (by omega) (by decide) dX8_manyOf_10 ?_
    refine z_icmp_ge (tgt := 37) dX8_manyOf_11 (by decide) (fun c_11 => absurd c_11 (by rw [e0]; exact nI_ge (by omega) (by omega))) (fun c_11 => ?_)
    refine z_iload_n (j := 2) dX8_manyOf_14 rfl ?_
    refine z_aload_n (j := 0) dX8_manyOf_15 rfl ?_
    refine z_iload_n (j := 3) dX8_manyOf_16 rfl ?_
    refine z_iload_n (j := 1) dX8_manyOf_17 rfl ?_
    refine z_cV [.int ((nI i)), .int ((nI hm))] (some (.int ((bI (isO B T K i hm = true))))) yoX8_isOf yvX8_isOf rfl (by decide) lX8_89 (by omega) mW_obj rfl rfl (Nat.le_of_ble_eq_true rfl) (Nat.le_of_ble_eq_true rfl) dX8_manyOf_18 (z_room (by omega) (Nat.le_refl _) (Nat.le_refl _) (r_isOf (d := 0) hb hM (by omega) hhm ⟨rfl, rfl, rfl⟩)) ?_
    refine z_if_eq (tgt := 28) dX8_manyOf_21 (by decide) (fun c_21 => ?_) (fun c_21 => ?_)
    · refine z_iconst (v := 0) dX8_manyOf_28 (by decide) ?_
      refine z_iadd dX8_manyOf_29 ?_
      rw [show nI (manN B T K hm i) + 0 = nI (manN B T K hm (i + 1)) from by
        rw [manN, sumN, if_neg (bI_0.mp c_21)]; exact Int32.add_zero _]
      refine z_istore_n [1, 2, 0, 3] [(0, .ref b), (1, .int ((nI hm))), (2, .int ((nI (manN B T K hm (i + 1))))), (3, .int ((nI i)))] dX8_manyOf_30 (by decide) rfl ?_
      skip
      refine z_iinc ((nI (i + 1))) [1, 2, 3, 0] [(0, .ref b), (1, .int ((nI hm))), (2, .int ((nI (manN B T K hm (i + 1))))), (3, .int ((nI (i + 1))))] dX8_manyOf_31 (j := 3) rfl (nI_1 i) (by decide) rfl ?_
      refine z_goto (tgt := 4) dX8_manyOf_34 (by decide) ?_
      exact ih (i + 1) (by omega) hq
    · refine z_iconst (v := 1) dX8_manyOf_24 (by decide) ?_
      refine z_goto (tgt := 29) dX8_manyOf_25 (by decide) ?_
      refine z_iadd dX8_manyOf_29 ?_
      rw [show nI (manN B T K hm i) + 1 = nI (manN B T K hm (i + 1)) from by
        rw [manN, sumN, if_pos (bI_n.mp c_21)]; exact nI_1 _]
      refine z_istore_n [1, 2, 0, 3] [(0, .ref b), (1, .int ((nI hm))), (2, .int ((nI (manN B T K hm (i + 1))))), (3, .int ((nI i)))] dX8_manyOf_30 (by decide) rfl ?_
      skip
      refine z_iinc ((nI (i + 1))) [1, 2, 3, 0] [(0, .ref b), (1, .int ((nI hm))), (2, .int ((nI (manN B T K hm (i + 1))))), (3, .int ((nI (i + 1))))] dX8_manyOf_31 (j := 3) rfl (nI_1 i) (by decide) rfl ?_
      refine z_goto (tgt := 4) dX8_manyOf_34 (by decide) ?_
      exact ih (i + 1) (by omega) hq

set_option maxHeartbeats 4000000 in
set_option maxRecDepth 100000 in
theorem r_manyOf {l : zL} {d kc ks n b B H T : Nat} {h : Nat → va_E} {K V : Nat → Nat} {s : Nat → Int32} {a : Nat → Nat → Int32} {Q : zQ} {hm : Nat} (hb : b + 14 ≤ n) (hM : mV B H T K V (a 0)) (hhm : hm < B) (hq : Q (.inl (some (.int (nI (manN B T K hm B))))) n (mW h b s a)) : Zj l mX8_manyOf (d + 2) kc ks 0 [(0, .ref b), (1, .int ((nI hm)))] [] n (mW h b s a) Q := by
  refine z_iconst (v := 0) dX8_manyOf_0 (by decide) ?_
  refine z_istore_n [1, 2, 0] [(0, .ref b), (1, .int ((nI hm))), (2, .int 0)] dX8_manyOf_1 (by decide) rfl ?_
  refine z_iconst (v := 0) dX8_manyOf_2 (by decide) ?_
  refine z_istore_n [1, 2, 3, 0] [(0, .ref b), (1, .int ((nI hm))), (2, .int 0), (3, .int 0)] dX8_manyOf_3 (by decide) rfl ?_
  exact r_manyOf_l hb hM hhm B 0 (by omega) hq

set_option maxHeartbeats 4000000 in
set_option maxRecDepth 100000 in
theorem r_offTogether_l {l : zL} {d kc ks n b B H T : Nat} {h : Nat → va_E} {K V : Nat → Nat} {s : Nat → Int32} {a : Nat → Nat → Int32} {Q : zQ} (hb : b + 14 ≤ n) (hM : mV B H T K V (a 0)) : ∀ m i, i + m = B → Q (.inl (some (.int (nI (sumN (offN B T K) B))))) n (mW h b s a) → Zj l mX8_offTogether (d + 2) kc ks 4 [(0, .ref b), (1, .int ((nI (sumN (offN B T K) i)))), (2, .int ((nI i)))] [] n (mW h b s a) Q := by
  obtain ⟨okb, h2H, hH6, h1T, hT99, e0, e1, e2, ek, ev, ekv, ez⟩ := id hM
  have hle := okb.le
  intro m
  induction m with
  | zero =>
    intro i hi hq
    refine z_iload_n (j := 2) dX8_offTogether_4 rfl ?_
    refine z_aload_n (j := 0) dX8_offTogether_5 rfl ?_
    refine z_get (v := .ref (b + 1)) (by omega) mW_obj fX8_7 rfl dX8_offTogether_6 ?_
    refine z_iconst (v := 0) dX8_offTogether_9 (by decide) ?_
    refine m_aldN 0 137 0 (by decide) rfl rfl hb rfl (by omega) (by decide) dX8_offTogether_10 ?_
    refine z_icmp_ge (tgt := 40) dX8_offTogether_11 (by decide) (fun c_11 => ?_) (fun c_11 => absurd (by rw [e0]; exact nI_le (by omega) (by omega)) c_11)
    refine z_iload_n (j := 1) dX8_offTogether_40 rfl ?_
    exact z_iret rfl dX8_offTogether_41 (by
        obtain rfl : i = B := by omega
        exact hq)
  | succ m ih =>
    intro i hi hq
    refine z_iload_n (j := 2) dX8_offTogether_4 rfl ?_
    refine z_aload_n (j := 0) dX8_offTogether_5 rfl ?_
    refine z_get (v := .ref (b + 1)) (by omega) mW_obj fX8_7 rfl dX8_offTogether_6 ?_
    refine z_iconst (v := 0) dX8_offTogether_9 (by decide) ?_
    refine m_aldN 0 137 0 (by decide) rfl rfl hb rfl (by omega) (by decide) dX8_offTogether_10 ?_
    refine z_icmp_ge (tgt := 40) dX8_offTogether_11 (by decide) (fun c_11 => absurd c_11 (by rw [e0]; exact nI_ge (by omega) (by omega))) (fun c_11 => ?_)
    refine z_iload_n (j := 1) dX8_offTogether_14 rfl ?_
    refine z_aload_n (j := 0) dX8_offTogether_15 rfl ?_
    refine z_iload_n (j := 2) dX8_offTogether_16 rfl ?_
    refine z_cV [.int ((nI i))] (some (.int ((bI (K i = 0))))) yoX8_isFree yvX8_isFree rfl (by decide) lX8_82 (by omega) mW_obj rfl rfl (Nat.le_of_ble_eq_true rfl) (Nat.le_of_ble_eq_true rfl) dX8_offTogether_17 (z_room (by omega) (Nat.le_refl _) (Nat.le_refl _) (r_isFree (d := 0) hb hM (by omega) ⟨rfl, rfl, rfl⟩)) ?_
    refine z_if_eq (tgt := 27) dX8_offTogether_20 (by decide) (fun c_20 => ?_) (fun c_20 => ?_)
    · refine z_aload_n (j := 0) dX8_offTogether_27 rfl ?_
      refine z_iload_n (j := 2) dX8_offTogether_28 rfl ?_
      refine z_cV [.int ((nI i))] (some (.int ((nI (dst B T K i))))) yoX8_off yvX8_off rfl (by decide) lX8_93 (by omega) mW_obj rfl rfl (Nat.le_of_ble_eq_true rfl) (Nat.le_of_ble_eq_true rfl) dX8_offTogether_29 (z_room (by omega) (Nat.le_refl _) (Nat.le_refl _) (r_off (d := 0) hb hM (by omega) (bI_0.mp c_20) ⟨rfl, rfl, rfl⟩)) ?_
      refine z_iadd dX8_offTogether_32 ?_
      rw [show nI (sumN (offN B T K) i) + nI (dst B T K i) = nI (sumN (offN B T K) (i + 1)) from by
        rw [sumN, offN, if_neg (bI_0.mp c_20)]; exact nI_add _ _]
      refine z_istore_n [1, 0, 2] [(0, .ref b), (1, .int ((nI (sumN (offN B T K) (i + 1))))), (2, .int ((nI i)))] dX8_offTogether_33 (by decide) rfl ?_
      skip
      refine z_iinc ((nI (i + 1))) [1, 2, 0] [(0, .ref b), (1, .int ((nI (sumN (offN B T K) (i + 1))))), (2, .int ((nI (i + 1))))] dX8_offTogether_34 (j := 2) rfl (nI_1 i) (by decide) rfl ?_
      refine z_goto (tgt := 4) dX8_offTogether_37 (by decide) ?_
      exact ih (i + 1) (by omega) hq
    · refine z_iconst (v := 0) dX8_offTogether_23 (by decide) ?_
      refine z_goto (tgt := 32) dX8_offTogether_24 (by decide) ?_
      refine z_iadd dX8_offTogether_32 ?_
      rw [show nI (sumN (offN B T K) i) + 0 = nI (sumN (offN B T K) (i + 1)) from by
        rw [sumN, offN, if_pos (bI_n.mp c_20)]; exact Int32.add_zero _]
      refine z_istore_n [1, 0, 2] [(0, .ref b), (1, .int ((nI (sumN (offN B T K) (i + 1))))), (2, .int ((nI i)))] dX8_offTogether_33 (by decide) rfl ?_
      skip
      refine z_iinc ((nI (i + 1))) [1, 2, 0] [(0, .ref b), (1, .int ((nI (sumN (offN B T K) (i + 1))))), (2, .int ((nI (i + 1))))] dX8_offTogether_34 (j := 2) rfl (nI_1 i) (by decide) rfl ?_
      refine z_goto (tgt := 4) dX8_offTogether_37 (by decide) ?_
      exact ih (i + 1) (by omega) hq

set_option maxHeartbeats 4000000 in
set_option maxRecDepth 100000 in
theorem r_offTogether {l : zL} {d kc ks n b B H T : Nat} {h : Nat → va_E} {K V : Nat → Nat} {s : Nat → Int32} {a : Nat → Nat → Int32} {Q : zQ} (hb : b + 14 ≤ n) (hM : mV B H T K V (a 0)) (hq : Q (.inl (some (.int (nI (sumN (offN B T K) B))))) n (mW h b s a)) : Zj l mX8_offTogether (d + 2) kc ks 0 [(0, .ref b)] [] n (mW h b s a) Q := by
  refine z_iconst (v := 0) dX8_offTogether_0 (by decide) ?_
  refine z_istore_n [1, 0] [(0, .ref b), (1, .int 0)] dX8_offTogether_1 (by decide) rfl ?_
  refine z_iconst (v := 0) dX8_offTogether_2 (by decide) ?_
  refine z_istore_n [1, 2, 0] [(0, .ref b), (1, .int 0), (2, .int 0)] dX8_offTogether_3 (by decide) rfl ?_
  exact r_offTogether_l hb hM B 0 (by omega) hq

set_option maxHeartbeats 4000000 in
set_option maxRecDepth 100000 in
theorem r_freeFrom_l {l : zL} {d kc ks n b B H T : Nat} {h : Nat → va_E} {K V : Nat → Nat} {s : Nat → Int32} {a : Nat → Nat → Int32} {Q : zQ} {f : Nat} (hb : b + 14 ≤ n) (hM : mV B H T K V (a 0)) (hf : f < B) : ∀ m i, i + m = B → Q (.inl (some (.int (optI (fnd (fun k => decide (K ((f + k) % B) = 0)) m i))))) n (mW h b s a) → Zj l mX8_freeFrom (d + 1) kc ks 2 [(0, .ref b), (1, .int ((nI f))), (2, .int ((nI i)))] [] n (mW h b s a) Q := by
  obtain ⟨okb, h2H, hH6, h1T, hT99, e0, e1, e2, ek, ev, ekv, ez⟩ := id hM
  have hle := okb.le
  intro m
  induction m with
  | zero =>
    intro i hi hq
    refine z_iload_n (j := 2) dX8_freeFrom_2 rfl ?_
    refine z_aload_n (j := 0) dX8_freeFrom_3 rfl ?_
    refine z_get (v := .ref (b + 1)) (by omega) mW_obj fX8_7 rfl dX8_freeFrom_4 ?_
    refine z_iconst (v := 0) dX8_freeFrom_7 (by decide) ?_
    refine m_aldN 0 137 0 (by decide) rfl rfl hb rfl (by omega) (by decide) dX8_freeFrom_8 ?_
    refine z_icmp_ge (tgt := 33) dX8_freeFrom_9 (by decide) (fun c_9 => ?_) (fun c_9 => absurd (by rw [e0]; exact nI_le (by omega) (by omega)) c_9)
    refine z_iconst (v := (-1)) dX8_freeFrom_33 (by decide) ?_
    exact z_iret rfl dX8_freeFrom_34 (by rw [show fnd _ 0 i = none from rfl] at hq; exact hq)
  | succ m ih =>
    intro i hi hq
    refine z_iload_n (j := 2) dX8_freeFrom_2 rfl ?_
    refine z_aload_n (j := 0) dX8_freeFrom_3 rfl ?_
    refine z_get (v := .ref (b + 1)) (by omega) mW_obj fX8_7 rfl dX8_freeFrom_4 ?_
    refine z_iconst (v := 0) dX8_freeFrom_7 (by decide) ?_
    refine m_aldN 0 137 0 (by decide) rfl rfl hb rfl (by omega) (by decide) dX8_freeFrom_8 ?_
    refine z_icmp_ge (tgt := 33) dX8_freeFrom_9 (by decide) (fun c_9 => absurd c_9 (by rw [e0]; exact nI_ge (by omega) (by omega))) (fun c_9 => ?_)
    refine z_aload_n (j := 0) dX8_freeFrom_12 rfl ?_
    refine z_aload_n (j := 0) dX8_freeFrom_13 rfl ?_
    refine z_iload_n (j := 1) dX8_freeFrom_14 rfl ?_
    refine z_iload_n (j := 2) dX8_freeFrom_15 rfl ?_
    refine z_cV [.int ((nI f)), .int ((nI i))] (some (.int ((nI ((f + i) % B))))) yoX8_behind yvX8_behind rfl (by decide) lX8_86 (by omega) mW_obj rfl rfl (Nat.le_of_ble_eq_true rfl) (Nat.le_of_ble_eq_true rfl) dX8_freeFrom_16 (z_room (by omega) (Nat.le_refl _) (Nat.le_refl _) (r_behind (d := 0) hb hM (by omega) (by omega) ⟨rfl, rfl, rfl⟩)) ?_
    refine z_cV [.int ((nI ((f + i) % B)))] (some (.int ((bI (K ((f + i) % B) = 0))))) yoX8_isFree yvX8_isFree rfl (by decide) lX8_82 (by omega) mW_obj rfl rfl (Nat.le_of_ble_eq_true rfl) (Nat.le_of_ble_eq_true rfl) dX8_freeFrom_19 (z_room (by omega) (Nat.le_refl _) (Nat.le_refl _) (r_isFree (d := 0) hb hM (mod_lt' okb) ⟨rfl, rfl, rfl⟩)) ?_
    refine z_if_eq (tgt := 27) dX8_freeFrom_22 (by decide) (fun c_22 => ?_) (fun c_22 => ?_)
    · skip
      refine z_iinc ((nI (i + 1))) [1, 2, 0] [(0, .ref b), (1, .int ((nI f))), (2, .int ((nI (i + 1))))] dX8_freeFrom_27 (j := 2) rfl (nI_1 i) (by decide) rfl ?_
      refine z_goto (tgt := 2) dX8_freeFrom_30 (by decide) ?_
      refine ih (i + 1) (by omega) ?_
      rw [fnd_no (p := (fun k => decide (K ((f + k) % B) = 0))) (by simpa using bI_0.mp c_22)] at hq
      exact hq
    · refine z_iload_n (j := 2) dX8_freeFrom_25 rfl ?_
      exact z_iret rfl dX8_freeFrom_26 (by
          rw [fnd_yes (p := (fun k => decide (K ((f + k) % B) = 0))) (by simpa using bI_n.mp c_22)] at hq
          exact hq)

set_option maxHeartbeats 4000000 in
set_option maxRecDepth 100000 in
theorem r_freeFrom {l : zL} {d kc ks n b B H T : Nat} {h : Nat → va_E} {K V : Nat → Nat} {s : Nat → Int32} {a : Nat → Nat → Int32} {Q : zQ} {f : Nat} (hb : b + 14 ≤ n) (hM : mV B H T K V (a 0)) (hf : f < B) (hq : Q (.inl (some (.int (optI (frD B K f))))) n (mW h b s a)) : Zj l mX8_freeFrom (d + 1) kc ks 0 [(0, .ref b), (1, .int ((nI f)))] [] n (mW h b s a) Q := by
  refine z_iconst (v := 0) dX8_freeFrom_0 (by decide) ?_
  refine z_istore_n [1, 2, 0] [(0, .ref b), (1, .int ((nI f))), (2, .int 0)] dX8_freeFrom_1 (by decide) rfl ?_
  exact r_freeFrom_l hb hM hf B 0 (by omega) hq
