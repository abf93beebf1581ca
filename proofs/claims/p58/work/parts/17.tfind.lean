set_option maxHeartbeats 4000000 in
set_option maxRecDepth 100000 in
theorem w_stepsToFree_l {l : zL} {d kc ks n b B H T : Nat} {h : Nat → va_E} {K V : Nat → Nat} {s : Nat → Int32} {a : Nat → Nat → Int32} {Q : zQ} {f : Nat} (hb : b + 6 ≤ n) (hR : tR B H T K V s a) (hf : f < B) : ∀ m k, k + m = B → Q (.inl (some (.int (optI (fnd (fun k => decide (K ((f + k) % B) = 0)) m k))))) n (tW h b s a) → Zj l mX6_stepsToFree (d + 1) kc ks 2 [(0, .ref b), (1, .int ((nI f))), (2, .int ((nI k)))] [] n (tW h b s a) Q := by
  obtain ⟨okb, h2H, hH6, h1T, hT99, e6, e7, e8, ek, ev, eh, ekv, ez⟩ := id hR
  have hle := okb.le
  intro m
  induction m with
  | zero =>
    intro k hk hq
    refine z_iload_n (j := 2) dX6_stepsToFree_2 rfl ?_
    refine z_aload_n (j := 0) dX6_stepsToFree_3 rfl ?_
    refine z_get (v := .int (s 6)) (by omega) tW_obj fX6_64 rfl dX6_stepsToFree_4 ?_
    refine z_icmp_ge (tgt := 36) dX6_stepsToFree_7 (by decide) (fun c_7 => ?_) (fun c_7 => absurd (by rw [e6]; exact nI_le (by omega) (by omega)) c_7)
    refine z_iconst (v := (-1)) dX6_stepsToFree_36 (by decide) ?_
    exact z_iret rfl dX6_stepsToFree_37 (by rw [show fnd _ 0 k = none from rfl] at hq; exact hq)
  | succ m ih =>
    intro k hk hq
    refine z_iload_n (j := 2) dX6_stepsToFree_2 rfl ?_
    refine z_aload_n (j := 0) dX6_stepsToFree_3 rfl ?_
    refine z_get (v := .int (s 6)) (by omega) tW_obj fX6_64 rfl dX6_stepsToFree_4 ?_
    refine z_icmp_ge (tgt := 36) dX6_stepsToFree_7 (by decide) (fun c_7 => absurd c_7 (by rw [e6]; exact nI_ge (by omega) okb.lt31)) (fun c_7 => ?_)
    refine z_aload_n (j := 0) dX6_stepsToFree_10 rfl ?_
    refine z_iload_n (j := 1) dX6_stepsToFree_11 rfl ?_
    refine z_iload_n (j := 2) dX6_stepsToFree_12 rfl ?_
    refine z_iadd dX6_stepsToFree_13 ?_
    refine z_aload_n (j := 0) dX6_stepsToFree_14 rfl ?_
    refine z_get (v := .int (s 6)) (by omega) tW_obj fX6_64 rfl dX6_stepsToFree_15 ?_
    refine z_iconst (v := 1) dX6_stepsToFree_18 (by decide) ?_
    refine z_isub dX6_stepsToFree_19 ?_
    refine z_iand dX6_stepsToFree_20 ?_
    have ei : ((nI f + nI k) &&& (s 6 - 1)) = nI ((f + k) % B) := by rw [e6]; exact mBadd okb (by omega) (by omega)
    rw [ei]
    refine z_cV [.int ((nI ((f + k) % B)))] (some (.int ((tkey (K ((f + k) % B)))))) yoX6_keyIn yvX6_keyIn rfl (by decide) lX6_124 (by omega) tW_obj rfl rfl (Nat.le_of_ble_eq_true rfl) (Nat.le_of_ble_eq_true rfl) dX6_stepsToFree_21 (z_room (by omega) (Nat.le_refl _) (Nat.le_refl _) (w_keyIn (d := 0) hb hR (mod_lt' okb) ⟨rfl, rfl, rfl⟩)) ?_
    refine z_iconst (v := (-1)) dX6_stepsToFree_24 (by decide) ?_
    refine z_icmp_ne (tgt := 30) dX6_stepsToFree_25 (by decide) (fun c_25 => ?_) (fun c_25 => ?_)
    · skip
      refine z_iinc ((nI (k + 1))) [1, 2, 0] [(0, .ref b), (1, .int ((nI f))), (2, .int ((nI (k + 1))))] dX6_stepsToFree_30 (j := 2) rfl (nI_1 k) (by decide) rfl ?_
      refine z_goto (tgt := 2) dX6_stepsToFree_33 (by decide) ?_
      refine ih (k + 1) (by omega) ?_
      rw [fnd_no (by simpa using fun e => c_25 ((tkey_eq (ekv _).1).mpr e))] at hq
      exact hq
    · refine z_iload_n (j := 2) dX6_stepsToFree_28 rfl ?_
      exact z_iret rfl dX6_stepsToFree_29 (by rw [fnd_yes (by simpa using (tkey_eq (ekv _).1).mp c_25)] at hq; exact hq)

set_option maxHeartbeats 4000000 in
set_option maxRecDepth 100000 in
theorem w_stepsToFree {l : zL} {d kc ks n b B H T : Nat} {h : Nat → va_E} {K V : Nat → Nat} {s : Nat → Int32} {a : Nat → Nat → Int32} {Q : zQ} {f : Nat} (hb : b + 6 ≤ n) (hR : tR B H T K V s a) (hf : f < B) (hq : Q (.inl (some (.int (optI (frD B K f))))) n (tW h b s a)) : Zj l mX6_stepsToFree (d + 1) kc ks 0 [(0, .ref b), (1, .int ((nI f)))] [] n (tW h b s a) Q := by
  refine z_iconst (v := 0) dX6_stepsToFree_0 (by decide) ?_
  refine z_istore_n [1, 2, 0] [(0, .ref b), (1, .int ((nI f))), (2, .int 0)] dX6_stepsToFree_1 (by decide) rfl ?_
  exact w_stepsToFree_l hb hR hf B 0 (by omega) hq

set_option maxHeartbeats 4000000 in
set_option maxRecDepth 100000 in
theorem w_stepsFromHome {l : zL} {d kc ks n b B H T : Nat} {h : Nat → va_E} {K V : Nat → Nat} {s : Nat → Int32} {a : Nat → Nat → Int32} {Q : zQ} {i : Nat} (hb : b + 6 ≤ n) (hR : tR B H T K V s a) (hi : i < B) (hq : Q (.inl (some (.int (sfh B T K i)))) n (tW h b s a)) : Zj l mX6_stepsFromHome (d + 1) kc ks 0 [(0, .ref b), (1, .int ((nI i)))] [] n (tW h b s a) Q := by
  obtain ⟨okb, h2H, hH6, h1T, hT99, e6, e7, e8, ek, ev, eh, ekv, ez⟩ := id hR
  have hle := okb.le
  by_cases hK : K i = 0
  · skip
    refine z_aload_n (j := 0) dX6_stepsFromHome_0 rfl ?_
    refine z_iload_n (j := 1) dX6_stepsFromHome_1 rfl ?_
    refine z_cV [.int ((nI i))] (some (.int ((tkey (K i))))) yoX6_keyIn yvX6_keyIn rfl (by decide) lX6_124 (by omega) tW_obj rfl rfl (Nat.le_of_ble_eq_true rfl) (Nat.le_of_ble_eq_true rfl) dX6_stepsFromHome_2 (z_room (by omega) (Nat.le_refl _) (Nat.le_refl _) (w_keyIn (d := 0) hb hR hi ⟨rfl, rfl, rfl⟩)) ?_
    refine z_istore_n [1, 2, 0] [(0, .ref b), (1, .int ((nI i))), (2, .int ((tkey (K i))))] dX6_stepsFromHome_5 (by decide) rfl ?_
    refine z_iload_n (j := 2) dX6_stepsFromHome_6 rfl ?_
    refine z_iconst (v := (-1)) dX6_stepsFromHome_7 (by decide) ?_
    refine z_icmp_ne (tgt := 15) dX6_stepsFromHome_8 (by decide) (fun c_8 => (absurd ((tkey_eq (ekv i).1).mpr hK) c_8)) (fun c_8 => ?_)
    refine z_iconst (v := (-1)) dX6_stepsFromHome_11 (by decide) ?_
    refine z_goto (tgt := 29) dX6_stepsFromHome_12 (by decide) ?_
    exact z_iret rfl dX6_stepsFromHome_29 (by rw [sfh, if_pos hK] at hq; exact hq)
  · skip
    refine z_aload_n (j := 0) dX6_stepsFromHome_0 rfl ?_
    refine z_iload_n (j := 1) dX6_stepsFromHome_1 rfl ?_
    refine z_cV [.int ((nI i))] (some (.int ((tkey (K i))))) yoX6_keyIn yvX6_keyIn rfl (by decide) lX6_124 (by omega) tW_obj rfl rfl (Nat.le_of_ble_eq_true rfl) (Nat.le_of_ble_eq_true rfl) dX6_stepsFromHome_2 (z_room (by omega) (Nat.le_refl _) (Nat.le_refl _) (w_keyIn (d := 0) hb hR hi ⟨rfl, rfl, rfl⟩)) ?_
    refine z_istore_n [1, 2, 0] [(0, .ref b), (1, .int ((nI i))), (2, .int ((tkey (K i))))] dX6_stepsFromHome_5 (by decide) rfl ?_
    refine z_iload_n (j := 2) dX6_stepsFromHome_6 rfl ?_
    refine z_iconst (v := (-1)) dX6_stepsFromHome_7 (by decide) ?_
    refine z_icmp_ne (tgt := 15) dX6_stepsFromHome_8 (by decide) (fun c_8 => ?_) (fun c_8 => absurd ((tkey_eq (ekv i).1).mp c_8) hK)
    refine z_iload_n (j := 1) dX6_stepsFromHome_15 rfl ?_
    refine z_aload_n (j := 0) dX6_stepsFromHome_16 rfl ?_
    refine z_iload_n (j := 2) dX6_stepsFromHome_17 rfl ?_
    rw [tkey_ne hK]
    refine z_cV [.int ((nI (K i - 1)))] (some (.int ((nI (hmo B T (K i - 1)))))) yoX6_homeFor yvX6_homeFor rfl (by decide) lX6_94 (by omega) tW_obj rfl rfl (Nat.le_of_ble_eq_true rfl) (Nat.le_of_ble_eq_true rfl) dX6_stepsFromHome_18 (z_room (by omega) (Nat.le_refl _) (Nat.le_refl _) (w_homeFor (d := 0) hb hR (by have := (ekv i).1; omega) ⟨rfl, rfl, rfl⟩)) ?_
    refine z_isub dX6_stepsFromHome_21 ?_
    refine z_aload_n (j := 0) dX6_stepsFromHome_22 rfl ?_
    refine z_get (v := .int (s 6)) (by omega) tW_obj fX6_64 rfl dX6_stepsFromHome_23 ?_
    refine z_iconst (v := 1) dX6_stepsFromHome_26 (by decide) ?_
    refine z_isub dX6_stepsFromHome_27 ?_
    refine z_iand dX6_stepsFromHome_28 ?_
    exact z_iret rfl dX6_stepsFromHome_29 (by
        rw [sfh, if_neg hK] at hq
        rw [e6, mBsub okb hi (hmo_lt okb _ _)]
        exact hq)

set_option maxHeartbeats 4000000 in
set_option maxRecDepth 100000 in
theorem w_stepsFromHomeN {l : zL} {d kc ks n b : Nat} {h : Nat → va_E} {s : Nat → Int32} {a : Nat → Nat → Int32} {Q : zQ} (hb : b + 6 ≤ n) (hq : Q (.inl (some (.int (-1)))) n (tW h b s a)) : Zj l mX6_stepsFromHome (d + 1) kc ks 0 [(0, .ref b), (1, .int ((-1)))] [] n (tW h b s a) Q := by
  refine z_aload_n (j := 0) dX6_stepsFromHome_0 rfl ?_
  refine z_iload_n (j := 1) dX6_stepsFromHome_1 rfl ?_
  refine z_cV [.int ((-1))] (some (.int ((-1)))) yoX6_keyIn yvX6_keyIn rfl (by decide) lX6_124 (by omega) tW_obj rfl rfl (Nat.le_of_ble_eq_true rfl) (Nat.le_of_ble_eq_true rfl) dX6_stepsFromHome_2 (z_room (by omega) (Nat.le_refl _) (Nat.le_refl _) (w_keyInN (d := 0) hb ⟨rfl, rfl, rfl⟩)) ?_
  refine z_istore_n [1, 2, 0] [(0, .ref b), (1, .int ((-1))), (2, .int ((-1)))] dX6_stepsFromHome_5 (by decide) rfl ?_
  refine z_iload_n (j := 2) dX6_stepsFromHome_6 rfl ?_
  refine z_iconst (v := (-1)) dX6_stepsFromHome_7 (by decide) ?_
  refine z_icmp_ne (tgt := 15) dX6_stepsFromHome_8 (by decide) (fun c_8 => absurd rfl c_8) (fun c_8 => ?_)
  refine z_iconst (v := (-1)) dX6_stepsFromHome_11 (by decide) ?_
  refine z_goto (tgt := 29) dX6_stepsFromHome_12 (by decide) ?_
  exact z_iret rfl dX6_stepsFromHome_29 (hq)
