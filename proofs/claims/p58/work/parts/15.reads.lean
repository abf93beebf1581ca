set_option maxHeartbeats 4000000 in
set_option maxRecDepth 100000 in
theorem w_keyIn {l : zL} {d kc ks n b B H T : Nat} {h : Nat → va_E} {K V : Nat → Nat} {s : Nat → Int32} {a : Nat → Nat → Int32} {Q : zQ} {i : Nat} (hb : b + 6 ≤ n) (hR : tR B H T K V s a) (hi : i < B) (hq : Q (.inl (some (.int (tkey (K i))))) n (tW h b s a)) : Zj l mX6_keyIn d kc ks 0 [(0, .ref b), (1, .int ((nI i)))] [] n (tW h b s a) Q := by
  obtain ⟨okb, h2H, hH6, h1T, hT99, e6, e7, e8, ek, ev, eh, ekv, ez⟩ := id hR
  have hle := okb.le
  refine z_iload_n (j := 1) dX6_keyIn_0 rfl ?_
  refine z_if_lt (tgt := 27) dX6_keyIn_1 (by decide) (fun c_1 => absurd c_1 (nI_pos (by omega))) (fun c_1 => ?_)
  refine z_iload_n (j := 1) dX6_keyIn_4 rfl ?_
  refine z_aload_n (j := 0) dX6_keyIn_5 rfl ?_
  refine z_get (v := .int (s 6)) (by omega) tW_obj fX6_64 rfl dX6_keyIn_6 ?_
  refine z_icmp_ge (tgt := 27) dX6_keyIn_9 (by decide) (fun c_9 => absurd c_9 (by rw [e6]; exact nI_ge hi okb.lt31)) (fun c_9 => ?_)
  refine z_iload_n (j := 1) dX6_keyIn_12 rfl ?_
  refine z_bipush (v := 64) dX6_keyIn_13 (by decide) ?_
  refine z_icmp_ge (tgt := 27) dX6_keyIn_15 (by decide) (fun c_15 => absurd c_15 (nI_ge (b := 64) (by omega) (by decide))) (fun c_15 => ?_)
  refine z_aload_n (j := 0) dX6_keyIn_18 rfl ?_
  refine z_get (v := .ref (b + 1)) (by omega) tW_obj fX6_9 rfl dX6_keyIn_19 ?_
  refine z_iload_n (j := 1) dX6_keyIn_22 rfl ?_
  refine t_ald 0 (by decide) hb (vp_in_nI (by omega) (by decide)) dX6_keyIn_23 ?_
  refine z_goto (tgt := 28) dX6_keyIn_24 (by decide) ?_
  exact z_iret rfl dX6_keyIn_28 (by rw [nI_clamp (by omega), ek i (by omega)]; exact hq)

set_option maxHeartbeats 4000000 in
set_option maxRecDepth 100000 in
theorem w_keyInN {l : zL} {d kc ks n b : Nat} {h : Nat → va_E} {s : Nat → Int32} {a : Nat → Nat → Int32} {Q : zQ} (hb : b + 6 ≤ n) (hq : Q (.inl (some (.int (-1)))) n (tW h b s a)) : Zj l mX6_keyIn d kc ks 0 [(0, .ref b), (1, .int ((-1)))] [] n (tW h b s a) Q := by
  refine z_iload_n (j := 1) dX6_keyIn_0 rfl ?_
  refine z_if_lt (tgt := 27) dX6_keyIn_1 (by decide) (fun c_1 => ?_) (fun c_1 => absurd (by decide) c_1)
  refine z_iconst (v := (-1)) dX6_keyIn_27 (by decide) ?_
  exact z_iret rfl dX6_keyIn_28 (hq)

set_option maxHeartbeats 4000000 in
set_option maxRecDepth 100000 in
theorem w_valueIn {l : zL} {d kc ks n b B H T : Nat} {h : Nat → va_E} {K V : Nat → Nat} {s : Nat → Int32} {a : Nat → Nat → Int32} {Q : zQ} {i : Nat} (hb : b + 6 ≤ n) (hR : tR B H T K V s a) (hi : i < B) (hq : Q (.inl (some (.int (tval (K i) (V i))))) n (tW h b s a)) : Zj l mX6_valueIn d kc ks 0 [(0, .ref b), (1, .int ((nI i)))] [] n (tW h b s a) Q := by
  obtain ⟨okb, h2H, hH6, h1T, hT99, e6, e7, e8, ek, ev, eh, ekv, ez⟩ := id hR
  have hle := okb.le
  refine z_iload_n (j := 1) dX6_valueIn_0 rfl ?_
  refine z_if_lt (tgt := 27) dX6_valueIn_1 (by decide) (fun c_1 => absurd c_1 (nI_pos (by omega))) (fun c_1 => ?_)
  refine z_iload_n (j := 1) dX6_valueIn_4 rfl ?_
  refine z_aload_n (j := 0) dX6_valueIn_5 rfl ?_
  refine z_get (v := .int (s 6)) (by omega) tW_obj fX6_64 rfl dX6_valueIn_6 ?_
  refine z_icmp_ge (tgt := 27) dX6_valueIn_9 (by decide) (fun c_9 => absurd c_9 (by rw [e6]; exact nI_ge hi okb.lt31)) (fun c_9 => ?_)
  refine z_iload_n (j := 1) dX6_valueIn_12 rfl ?_
  refine z_bipush (v := 64) dX6_valueIn_13 (by decide) ?_
  refine z_icmp_ge (tgt := 27) dX6_valueIn_15 (by decide) (fun c_15 => absurd c_15 (nI_ge (b := 64) (by omega) (by decide))) (fun c_15 => ?_)
  refine z_aload_n (j := 0) dX6_valueIn_18 rfl ?_
  refine z_get (v := .ref (b + 2)) (by omega) tW_obj fX6_15 rfl dX6_valueIn_19 ?_
  refine z_iload_n (j := 1) dX6_valueIn_22 rfl ?_
  refine t_ald 1 (by decide) hb (vp_in_nI (by omega) (by decide)) dX6_valueIn_23 ?_
  refine z_goto (tgt := 28) dX6_valueIn_24 (by decide) ?_
  exact z_iret rfl dX6_valueIn_28 (by rw [nI_clamp (by omega), ev i (by omega)]; exact hq)

set_option maxHeartbeats 4000000 in
set_option maxRecDepth 100000 in
theorem w_valueInN {l : zL} {d kc ks n b : Nat} {h : Nat → va_E} {s : Nat → Int32} {a : Nat → Nat → Int32} {Q : zQ} (hb : b + 6 ≤ n) (hq : Q (.inl (some (.int (-1)))) n (tW h b s a)) : Zj l mX6_valueIn d kc ks 0 [(0, .ref b), (1, .int ((-1)))] [] n (tW h b s a) Q := by
  refine z_iload_n (j := 1) dX6_valueIn_0 rfl ?_
  refine z_if_lt (tgt := 27) dX6_valueIn_1 (by decide) (fun c_1 => ?_) (fun c_1 => absurd (by decide) c_1)
  refine z_iconst (v := (-1)) dX6_valueIn_27 (by decide) ?_
  exact z_iret rfl dX6_valueIn_28 (hq)

set_option maxHeartbeats 4000000 in
set_option maxRecDepth 100000 in
theorem w_hopsIn {l : zL} {d kc ks n b B H T : Nat} {h : Nat → va_E} {K V : Nat → Nat} {s : Nat → Int32} {a : Nat → Nat → Int32} {Q : zQ} {i : Nat} (hb : b + 6 ≤ n) (hR : tR B H T K V s a) (hi : i < B) (hq : Q (.inl (some (.int (nI (hop B H T K i))))) n (tW h b s a)) : Zj l mX6_hopsIn d kc ks 0 [(0, .ref b), (1, .int ((nI i)))] [] n (tW h b s a) Q := by
  obtain ⟨okb, h2H, hH6, h1T, hT99, e6, e7, e8, ek, ev, eh, ekv, ez⟩ := id hR
  have hle := okb.le
  refine z_iload_n (j := 1) dX6_hopsIn_0 rfl ?_
  refine z_if_lt (tgt := 27) dX6_hopsIn_1 (by decide) (fun c_1 => absurd c_1 (nI_pos (by omega))) (fun c_1 => ?_)
  refine z_iload_n (j := 1) dX6_hopsIn_4 rfl ?_
  refine z_aload_n (j := 0) dX6_hopsIn_5 rfl ?_
  refine z_get (v := .int (s 6)) (by omega) tW_obj fX6_64 rfl dX6_hopsIn_6 ?_
  refine z_icmp_ge (tgt := 27) dX6_hopsIn_9 (by decide) (fun c_9 => absurd c_9 (by rw [e6]; exact nI_ge hi okb.lt31)) (fun c_9 => ?_)
  refine z_iload_n (j := 1) dX6_hopsIn_12 rfl ?_
  refine z_bipush (v := 64) dX6_hopsIn_13 (by decide) ?_
  refine z_icmp_ge (tgt := 27) dX6_hopsIn_15 (by decide) (fun c_15 => absurd c_15 (nI_ge (b := 64) (by omega) (by decide))) (fun c_15 => ?_)
  refine z_aload_n (j := 0) dX6_hopsIn_18 rfl ?_
  refine z_get (v := .ref (b + 3)) (by omega) tW_obj fX6_18 rfl dX6_hopsIn_19 ?_
  refine z_iload_n (j := 1) dX6_hopsIn_22 rfl ?_
  refine t_ald 2 (by decide) hb (vp_in_nI (by omega) (by decide)) dX6_hopsIn_23 ?_
  refine z_goto (tgt := 28) dX6_hopsIn_24 (by decide) ?_
  exact z_iret rfl dX6_hopsIn_28 (by rw [nI_clamp (by omega), eh i (by omega)]; exact hq)

set_option maxHeartbeats 4000000 in
set_option maxRecDepth 100000 in
theorem w_hopsInN {l : zL} {d kc ks n b : Nat} {h : Nat → va_E} {s : Nat → Int32} {a : Nat → Nat → Int32} {Q : zQ} (hb : b + 6 ≤ n) (hq : Q (.inl (some (.int 0))) n (tW h b s a)) : Zj l mX6_hopsIn d kc ks 0 [(0, .ref b), (1, .int ((-1)))] [] n (tW h b s a) Q := by
  refine z_iload_n (j := 1) dX6_hopsIn_0 rfl ?_
  refine z_if_lt (tgt := 27) dX6_hopsIn_1 (by decide) (fun c_1 => ?_) (fun c_1 => absurd (by decide) c_1)
  refine z_iconst (v := 0) dX6_hopsIn_27 (by decide) ?_
  exact z_iret rfl dX6_hopsIn_28 (hq)

set_option maxHeartbeats 4000000 in
set_option maxRecDepth 100000 in
theorem w_hasBucket {l : zL} {d kc ks n b B H T : Nat} {h : Nat → va_E} {K V : Nat → Nat} {s : Nat → Int32} {a : Nat → Nat → Int32} {Q : zQ} {i : Nat} (hb : b + 6 ≤ n) (hR : tR B H T K V s a) (hi : i < B) (hq : Q (.inl (some (.int 1))) n (tW h b s a)) : Zj l mX6_hasBucket d kc ks 0 [(0, .ref b), (1, .int ((nI i)))] [] n (tW h b s a) Q := by
  obtain ⟨okb, h2H, hH6, h1T, hT99, e6, e7, e8, ek, ev, eh, ekv, ez⟩ := id hR
  have hle := okb.le
  refine z_iload_n (j := 1) dX6_hasBucket_0 rfl ?_
  refine z_if_lt (tgt := 22) dX6_hasBucket_1 (by decide) (fun c_1 => absurd c_1 (nI_pos (by omega))) (fun c_1 => ?_)
  refine z_iload_n (j := 1) dX6_hasBucket_4 rfl ?_
  refine z_aload_n (j := 0) dX6_hasBucket_5 rfl ?_
  refine z_get (v := .int (s 6)) (by omega) tW_obj fX6_64 rfl dX6_hasBucket_6 ?_
  refine z_icmp_ge (tgt := 22) dX6_hasBucket_9 (by decide) (fun c_9 => absurd c_9 (by rw [e6]; exact nI_ge hi okb.lt31)) (fun c_9 => ?_)
  refine z_iload_n (j := 1) dX6_hasBucket_12 rfl ?_
  refine z_bipush (v := 64) dX6_hasBucket_13 (by decide) ?_
  refine z_icmp_ge (tgt := 22) dX6_hasBucket_15 (by decide) (fun c_15 => absurd c_15 (nI_ge (b := 64) (by omega) (by decide))) (fun c_15 => ?_)
  refine z_iconst (v := 1) dX6_hasBucket_18 (by decide) ?_
  refine z_goto (tgt := 23) dX6_hasBucket_19 (by decide) ?_
  exact z_zret rfl rfl dX6_hasBucket_23 (hq)

set_option maxHeartbeats 4000000 in
set_option maxRecDepth 100000 in
theorem w_hasBucketN {l : zL} {d kc ks n b : Nat} {h : Nat → va_E} {s : Nat → Int32} {a : Nat → Nat → Int32} {Q : zQ} (hb : b + 6 ≤ n) (hq : Q (.inl (some (.int 0))) n (tW h b s a)) : Zj l mX6_hasBucket d kc ks 0 [(0, .ref b), (1, .int ((-1)))] [] n (tW h b s a) Q := by
  refine z_iload_n (j := 1) dX6_hasBucket_0 rfl ?_
  refine z_if_lt (tgt := 22) dX6_hasBucket_1 (by decide) (fun c_1 => ?_) (fun c_1 => absurd (by decide) c_1)
  refine z_iconst (v := 0) dX6_hasBucket_22 (by decide) ?_
  exact z_zret rfl rfl dX6_hasBucket_23 (hq)

set_option maxHeartbeats 4000000 in
set_option maxRecDepth 100000 in
theorem w_homeFor {l : zL} {d kc ks n b B H T : Nat} {h : Nat → va_E} {K V : Nat → Nat} {s : Nat → Int32} {a : Nat → Nat → Int32} {Q : zQ} {key : Nat} (hb : b + 6 ≤ n) (hR : tR B H T K V s a) (hkey : key ≤ 9999) (hq : Q (.inl (some (.int (nI (hmo B T key))))) n (tW h b s a)) : Zj l mX6_homeFor d kc ks 0 [(0, .ref b), (1, .int ((nI key)))] [] n (tW h b s a) Q := by
  obtain ⟨okb, h2H, hH6, h1T, hT99, e6, e7, e8, ek, ev, eh, ekv, ez⟩ := id hR
  have hle := okb.le
  refine z_iload_n (j := 1) dX6_homeFor_0 rfl ?_
  refine z_aload_n (j := 0) dX6_homeFor_1 rfl ?_
  refine z_get (v := .int (s 8)) (by omega) tW_obj fX6_35 rfl dX6_homeFor_2 ?_
  refine z_imul dX6_homeFor_5 ?_
  refine z_sipush (v := 997) dX6_homeFor_6 (by decide) ?_
  refine z_irem (by decide) dX6_homeFor_9 ?_
  refine z_aload_n (j := 0) dX6_homeFor_10 rfl ?_
  refine z_get (v := .int (s 6)) (by omega) tW_obj fX6_64 rfl dX6_homeFor_11 ?_
  refine z_iconst (v := 1) dX6_homeFor_14 (by decide) ?_
  refine z_isub dX6_homeFor_15 ?_
  refine z_iand dX6_homeFor_16 ?_
  exact z_iret rfl dX6_homeFor_17 (by
      have e : ((nI key * s 8 - nI key * s 8 / 997 * 997) &&& (s 6 - 1)) = nI (hmo B T key) := by
        rw [e6, e8, pk_mul]
        have hm : key * T ≤ 9999 * 99 := Nat.mul_le_mul hkey hT99
        rw [show (997 : Int32) = nI 997 from rfl, pk_rem (by omega) (by decide) (by decide), mB okb (by omega)]
        rfl
      rw [e]
      exact hq)
