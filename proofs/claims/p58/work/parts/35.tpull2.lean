set_option maxHeartbeats 4000000 in
set_option maxRecDepth 100000 in
theorem w_pullFrom_l {l : zL} {d kc ks n b B H T : Nat} {h : Nat → va_E} {Q : zQ} {x : Int32} (hb : b + 6 ≤ n) : ∀ m i (K V : Nat → Nat) (s : Nat → Int32) (a : Nat → Nat → Int32) (free : Nat), i + m = 384 → tR B H T K V s a → free < B → K free = 0 → (∀ K' V' c' s' a', pulF B H T m K V free (s 12) = (K', V', c') → tR B H T K' V' s' a' → s' 12 = c' → (∀ k, k ≠ 12 → s' k = s k) → Q (.inl none) n (tW h b s' a')) → Zj l mX6_pullFrom (d + 2) kc ks 4 [(0, .ref b), (1, .int x), (2, .int ((nI free))), (3, .int ((nI i)))] [] n (tW h b s a) Q := by
  intro m
  induction m with
  | zero =>
    intro i K V s a free hi hR hfr hfree hq
    obtain ⟨okb, h2H, hH6, h1T, hT99, e6, e7, e8, ek, ev, eh, ekv, ez⟩ := id hR
    have hle := okb.le
    refine z_iload_n (j := 3) dX6_pullFrom_4 rfl ?_
    refine z_sipush (v := 384) dX6_pullFrom_5 (by decide) ?_
    refine z_icmp_ge (tgt := 52) dX6_pullFrom_8 (by decide) (fun c_8 => ?_) (fun c_8 => absurd (nI_le (a := 384) (b := i) (by omega) (by omega)) c_8)
    exact z_vret rfl dX6_pullFrom_52 (hq K V (s 12) s a rfl hR rfl (fun _ _ => rfl))
  | succ m ih =>
    intro i K V s a free hi hR hfr hfree hq
    obtain ⟨okb, h2H, hH6, h1T, hT99, e6, e7, e8, ek, ev, eh, ekv, ez⟩ := id hR
    have hle := okb.le
    refine z_iload_n (j := 3) dX6_pullFrom_4 rfl ?_
    refine z_sipush (v := 384) dX6_pullFrom_5 (by decide) ?_
    refine z_icmp_ge (tgt := 52) dX6_pullFrom_8 (by decide) (fun c_8 => absurd c_8 (nI_ge (b := 384) (by omega) (by decide))) (fun c_8 => ?_)
    refine z_aload_n (j := 0) dX6_pullFrom_11 rfl ?_
    refine z_iload_n (j := 2) dX6_pullFrom_12 rfl ?_
    rcases hps : pulS B H T K free H with _ | ⟨j, k⟩
    · refine z_cV [.int (nI free)] (some (.int 0)) yoX6_pullInto yvX6_pullInto rfl (by decide) lX6_121 (by omega) tW_obj rfl rfl (Nat.le_of_ble_eq_true rfl) (Nat.le_of_ble_eq_true rfl) dX6_pullFrom_13 (z_room (by omega) (Nat.le_refl _) (Nat.le_refl _) (w_pullInto (d := 0) hb hR hfr hfree (fun _ => ⟨rfl, rfl, rfl⟩) (fun j k a' e _ => by rw [hps] at e; cases e))) ?_
      refine z_istore [1, 2, 3, 4, 0] [(0, .ref b), (1, .int x), (2, .int ((nI free))), (3, .int ((nI i))), (4, .int 0)] dX6_pullFrom_16 (by decide) rfl ?_
      refine z_iload (j := 4) dX6_pullFrom_18 rfl ?_
      refine z_if_ne (tgt := 24) dX6_pullFrom_20 (by decide) (fun c_20 => absurd rfl c_20) (fun c_20 => ?_)
      exact z_vret rfl dX6_pullFrom_23 (hq K V (s 12) s a (pulF_stop hps) hR rfl (fun _ _ => rfl))
    · refine z_cVx [.int (nI free)] (some (.int (nI (k - j)))) (fun g => ∃ a1, g = tW h b s a1 ∧ tR B H T (mvK K (mvSrc B free j k) free) (mvK V (mvSrc B free j k) free) s a1) yoX6_pullInto yvX6_pullInto rfl (by decide) lX6_121 (by omega) tW_obj rfl rfl (Nat.le_of_ble_eq_true rfl) (Nat.le_of_ble_eq_true rfl) dX6_pullFrom_13 (z_room (by omega) (Nat.le_refl _) (Nat.le_refl _) (w_pullInto (d := 0) hb hR hfr hfree (fun e => by rw [hps] at e; cases e) (fun j' k' a' e hR' => by
          rw [hps] at e
          cases e
          exact ⟨rfl, rfl, a', rfl, hR'⟩))) (fun g hg => ?_)
      obtain ⟨a1, rfl, hR1⟩ := hg
      obtain ⟨hj1, hj2, hj3, -⟩ := pulS_some hps
      refine z_istore [1, 2, 3, 4, 0] [(0, .ref b), (1, .int x), (2, .int ((nI free))), (3, .int ((nI i))), (4, .int ((nI (k - j))))] dX6_pullFrom_16 (by decide) rfl ?_
      refine z_iload (j := 4) dX6_pullFrom_18 rfl ?_
      refine z_if_ne (tgt := 24) dX6_pullFrom_20 (by decide) (fun c_20 => ?_) (fun c_20 => absurd c_20 (nI_ne0 (by omega) (by omega)))
      refine z_aload_n (j := 0) dX6_pullFrom_24 rfl ?_
      refine z_dup rfl dX6_pullFrom_25 ?_
      refine z_get (v := .int (s 12)) (by omega) tW_obj fX6_42 rfl dX6_pullFrom_26 ?_
      refine z_iconst (v := 1) dX6_pullFrom_29 (by decide) ?_
      refine z_iadd dX6_pullFrom_30 ?_
      refine t_put (k := 12) (by omega) fX6_42 (by decide) (by decide) (by decide) dX6_pullFrom_31 ?_
      refine z_iload_n (j := 2) dX6_pullFrom_34 rfl ?_
      refine z_iload (j := 4) dX6_pullFrom_35 rfl ?_
      refine z_iadd dX6_pullFrom_37 ?_
      refine z_aload_n (j := 0) dX6_pullFrom_38 rfl ?_
      refine z_get (v := .int (s 6)) (by omega) tW_obj fX6_64 rfl dX6_pullFrom_39 ?_
      refine z_iconst (v := 1) dX6_pullFrom_42 (by decide) ?_
      refine z_isub dX6_pullFrom_43 ?_
      refine z_iand dX6_pullFrom_44 ?_
      rw [e6, mBadd okb (by omega) (by omega)]
      refine z_istore_n [1, 2, 0, 3, 4] [(0, .ref b), (1, .int x), (2, .int ((nI ((free + (k - j)) % B)))), (3, .int ((nI i))), (4, .int ((nI (k - j))))] dX6_pullFrom_45 (by decide) rfl ?_
      skip
      refine z_iinc ((nI (i + 1))) [1, 2, 3, 0, 4] [(0, .ref b), (1, .int x), (2, .int ((nI ((free + (k - j)) % B)))), (3, .int ((nI (i + 1)))), (4, .int ((nI (k - j))))] dX6_pullFrom_46 (j := 3) rfl (nI_1 i) (by decide) rfl ?_
      refine z_goto (tgt := 4) dX6_pullFrom_49 (by decide) ?_
      refine z_lv [(0, .ref b), (1, .int x), (2, .int ((nI ((free + (k - j)) % B)))), (3, .int ((nI (i + 1))))] [0, 1, 2, 3] rfl ?_
      have hsrc := mvSrc_pull okb hfr (show j ≤ 5 by omega) (show k ≤ 5 by omega) hj2
      have hnf := pull_ne okb hfr (show j ≤ 5 by omega) (show k ≤ 5 by omega) hj2
      refine ih (i + 1) _ _ (va_up s 12 (s 12 + 1)) a1 ((free + (k - j)) % B) (by omega) (tR_s hR1 (by simp [va_up]) (by simp [va_up]) (by simp [va_up])) (mod_lt' okb) (by rw [hsrc]; exact mvK_src hnf) (fun K' V' c' s' a' e h1 h2 h3 => hq K' V' c' s' a' (by rw [pulF_step hps]; exact e) h1 h2 (fun q hq' => by rw [h3 q hq']; simp [va_up, hq']))

set_option maxHeartbeats 4000000 in
set_option maxRecDepth 100000 in
theorem w_pullFrom {l : zL} {d kc ks n b B H T : Nat} {h : Nat → va_E} {K V : Nat → Nat} {s : Nat → Int32} {a : Nat → Nat → Int32} {Q : zQ} {free : Nat} (hb : b + 6 ≤ n) (hR : tR B H T K V s a) (hfr : free < B) (hfree : K free = 0) (hq : ∀ K' V' c' s' a', pulF B H T 384 K V free (s 12) = (K', V', c') → tR B H T K' V' s' a' → s' 12 = c' → (∀ k, k ≠ 12 → s' k = s k) → Q (.inl none) n (tW h b s' a')) : Zj l mX6_pullFrom (d + 2) kc ks 0 [(0, .ref b), (1, .int ((nI free)))] [] n (tW h b s a) Q := by
  refine z_iload_n (j := 1) dX6_pullFrom_0 rfl ?_
  refine z_istore_n [1, 2, 0] [(0, .ref b), (1, .int ((nI free))), (2, .int ((nI free)))] dX6_pullFrom_1 (by decide) rfl ?_
  refine z_iconst (v := 0) dX6_pullFrom_2 (by decide) ?_
  refine z_istore_n [1, 2, 3, 0] [(0, .ref b), (1, .int ((nI free))), (2, .int ((nI free))), (3, .int 0)] dX6_pullFrom_3 (by decide) rfl ?_
  exact w_pullFrom_l hb 384 0 K V s a free (by omega) hR hfr hfree hq

set_option maxHeartbeats 4000000 in
set_option maxRecDepth 100000 in
theorem w_take {l : zL} {d kc ks n b B H T : Nat} {h : Nat → va_E} {K V : Nat → Nat} {s : Nat → Int32} {a : Nat → Nat → Int32} {Q : zQ} (hb : b + 6 ≤ n) (hR : tR B H T K V s a) {key bk : Nat} (hkey : key ≤ 9999) (hbw : bw B H T K key = some bk) (hq : ∀ K' V' c' s' a', takF B H T K V (s 12) (s 9) bk = (K', V', c') → tR B H T K' V' s' a' → s' 10 = s 10 - 1 → s' 12 = c' → s' 15 = s 15 + 1 → (∀ k, k ≠ 10 → k ≠ 12 → k ≠ 15 → s' k = s k) → Q (.inl (some (.int (nI (V bk))))) n (tW h b s' a')) : Zj l mX6_take (d + 3) kc ks 0 [(0, .ref b), (1, .int ((nI key)))] [] n (tW h b s a) Q := by
  obtain ⟨okb, h2H, hH6, h1T, hT99, e6, e7, e8, ek, ev, eh, ekv, ez⟩ := id hR
  have hle := okb.le
  obtain ⟨t, ht, hbk, hKb⟩ := bw_some hbw
  have hhm := hmo_lt okb T key
  have hbB : bk < B := by rw [hbk]; exact mod_lt' okb
  have hcb : (nI bk).toNatClampNeg = bk := nI_clamp (by omega)
  have hch : (nI (hmo B T key)).toNatClampNeg = hmo B T key := nI_clamp (by omega)
  have hsf : sfh B T K bk = nI t := by
    rw [hbk] at hKb ⊢
    exact sfh_of okb hhm (by omega) hKb
  have hva : a 1 bk = nI (V bk) := by rw [ev bk (by omega), tval, if_neg (by omega)]
  refine z_aload_n (j := 0) dX6_take_0 rfl ?_
  refine z_iload_n (j := 1) dX6_take_1 rfl ?_
  refine z_cV [.int ((nI key))] (some (.int ((optI (bw B H T K key))))) yoX6_bucketWith yvX6_bucketWith rfl (by decide) lX6_84 (by omega) tW_obj rfl rfl (Nat.le_of_ble_eq_true rfl) (Nat.le_of_ble_eq_true rfl) dX6_take_2 (z_room (by omega) (Nat.le_refl _) (Nat.le_refl _) (w_bucketWith (d := 0) hb hR hkey ⟨rfl, rfl, rfl⟩)) ?_
  rw [show (optI (bw B H T K key)) = (nI bk) from by rw [hbw]; rfl]
  refine z_istore_n [1, 2, 0] [(0, .ref b), (1, .int ((nI key))), (2, .int ((nI bk)))] dX6_take_5 (by decide) rfl ?_
  refine z_aload_n (j := 0) dX6_take_6 rfl ?_
  refine z_iload_n (j := 1) dX6_take_7 rfl ?_
  refine z_cV [.int ((nI key))] (some (.int ((nI (hmo B T key))))) yoX6_homeFor yvX6_homeFor rfl (by decide) lX6_94 (by omega) tW_obj rfl rfl (Nat.le_of_ble_eq_true rfl) (Nat.le_of_ble_eq_true rfl) dX6_take_8 (z_room (by omega) (Nat.le_refl _) (Nat.le_refl _) (w_homeFor (d := 0) hb hR hkey ⟨rfl, rfl, rfl⟩)) ?_
  refine z_istore_n [1, 2, 3, 0] [(0, .ref b), (1, .int ((nI key))), (2, .int ((nI bk))), (3, .int ((nI (hmo B T key))))] dX6_take_11 (by decide) rfl ?_
  refine z_aload_n (j := 0) dX6_take_12 rfl ?_
  refine z_iload_n (j := 2) dX6_take_13 rfl ?_
  refine z_cV [.int ((nI bk))] (some (.int 1)) yoX6_hasBucket yvX6_hasBucket rfl (by decide) lX6_91 (by omega) tW_obj rfl rfl (Nat.le_of_ble_eq_true rfl) (Nat.le_of_ble_eq_true rfl) dX6_take_14 (z_room (by omega) (Nat.le_refl _) (Nat.le_refl _) (w_hasBucket (d := 0) hb hR hbB ⟨rfl, rfl, rfl⟩)) ?_
  refine z_if_eq (tgt := 28) dX6_take_17 (by decide) (fun c_17 => absurd c_17 (by decide)) (fun c_17 => ?_)
  refine z_aload_n (j := 0) dX6_take_20 rfl ?_
  refine z_iload_n (j := 3) dX6_take_21 rfl ?_
  refine z_cV [.int ((nI (hmo B T key)))] (some (.int 1)) yoX6_hasBucket yvX6_hasBucket rfl (by decide) lX6_91 (by omega) tW_obj rfl rfl (Nat.le_of_ble_eq_true rfl) (Nat.le_of_ble_eq_true rfl) dX6_take_22 (z_room (by omega) (Nat.le_refl _) (Nat.le_refl _) (w_hasBucket (d := 0) hb hR hhm ⟨rfl, rfl, rfl⟩)) ?_
  refine z_if_ne (tgt := 30) dX6_take_25 (by decide) (fun c_25 => ?_) (fun c_25 => absurd c_25 (by decide))
  refine z_aload_n (j := 0) dX6_take_30 rfl ?_
  refine z_get (v := .ref (b + 2)) (by omega) tW_obj fX6_15 rfl dX6_take_31 ?_
  refine z_iload_n (j := 2) dX6_take_34 rfl ?_
  refine t_ald 1 (by decide) hb (vp_in_nI (by omega) (by decide)) dX6_take_35 ?_
  refine z_istore [1, 2, 3, 4, 0] [(0, .ref b), (1, .int ((nI key))), (2, .int ((nI bk))), (3, .int ((nI (hmo B T key)))), (4, .int ((a 1 ((nI bk)).toNatClampNeg)))] dX6_take_36 (by decide) rfl ?_
  refine z_aload_n (j := 0) dX6_take_38 rfl ?_
  refine z_get (v := .ref (b + 3)) (by omega) tW_obj fX6_18 rfl dX6_take_39 ?_
  refine z_iload_n (j := 3) dX6_take_42 rfl ?_
  refine z_dup2 rfl rfl dX6_take_43 ?_
  refine t_ald 2 (by decide) hb (vp_in_nI (by omega) (by decide)) dX6_take_44 ?_
  refine z_iconst (v := 1) dX6_take_45 (by decide) ?_
  refine z_aload_n (j := 0) dX6_take_46 rfl ?_
  refine z_iload_n (j := 2) dX6_take_47 rfl ?_
  refine z_cV [.int ((nI bk))] (some (.int ((sfh B T K bk)))) yoX6_stepsFromHome yvX6_stepsFromHome rfl (by decide) lX6_97 (by omega) tW_obj rfl rfl (Nat.le_of_ble_eq_true rfl) (Nat.le_of_ble_eq_true rfl) dX6_take_48 (z_room (by omega) (Nat.le_refl _) (Nat.le_refl _) (w_stepsFromHome (d := 0) hb hR hbB ⟨rfl, rfl, rfl⟩)) ?_
  rw [show (sfh B T K bk) = (nI t) from hsf]
  refine z_ishl dX6_take_51 ?_
  refine z_iconst (v := (-1)) dX6_take_52 (by decide) ?_
  refine z_ixor dX6_take_53 ?_
  refine z_iand dX6_take_54 ?_
  refine t_ast 2 (by decide) hb (vp_in_nI (by omega) (by decide)) dX6_take_55 ?_
  refine z_aload_n (j := 0) dX6_take_56 rfl ?_
  refine z_get (v := .ref (b + 1)) (by omega) tW_obj fX6_9 rfl dX6_take_57 ?_
  refine z_iload_n (j := 2) dX6_take_60 rfl ?_
  refine z_iconst (v := (-1)) dX6_take_61 (by decide) ?_
  refine t_ast 0 (by decide) hb (vp_in_nI (by omega) (by decide)) dX6_take_62 ?_
  refine z_aload_n (j := 0) dX6_take_63 rfl ?_
  refine z_get (v := .ref (b + 2)) (by omega) tW_obj fX6_15 rfl dX6_take_64 ?_
  refine z_iload_n (j := 2) dX6_take_67 rfl ?_
  refine z_iconst (v := (-1)) dX6_take_68 (by decide) ?_
  refine t_ast 1 (by decide) hb (vp_in_nI (by omega) (by decide)) dX6_take_69 ?_
  refine z_aload_n (j := 0) dX6_take_70 rfl ?_
  refine z_dup rfl dX6_take_71 ?_
  refine z_get (v := .int (s 10)) (by omega) tW_obj fX6_67 rfl dX6_take_72 ?_
  refine z_iconst (v := 1) dX6_take_75 (by decide) ?_
  refine z_isub dX6_take_76 ?_
  refine t_put (k := 10) (by omega) fX6_67 (by decide) (by decide) (by decide) dX6_take_77 ?_
  refine z_aload_n (j := 0) dX6_take_80 rfl ?_
  refine z_dup rfl dX6_take_81 ?_
  refine z_get (v := .int (s 15)) (by omega) tW_obj fX6_51 rfl dX6_take_82 ?_
  refine z_iconst (v := 1) dX6_take_85 (by decide) ?_
  refine z_iadd dX6_take_86 ?_
  refine t_put (k := 15) (by omega) fX6_51 (by decide) (by decide) (by decide) dX6_take_87 ?_
  have hR1 : tR B H T (va_up K bk 0) (va_up V bk 0) (va_up (va_up s 10 ((s 10) - 1)) 15 ((s 15) + 1)) (va_up (va_up (va_up a 2 (va_up (a 2) ((nI (hmo B T key))).toNatClampNeg ((a 2 ((nI (hmo B T key))).toNatClampNeg) &&& ((1 <<< ((nI t) &&& 31)) ^^^ (-1))))) 0 (va_up ((va_up a 2 (va_up (a 2) ((nI (hmo B T key))).toNatClampNeg ((a 2 ((nI (hmo B T key))).toNatClampNeg) &&& ((1 <<< ((nI t) &&& 31)) ^^^ (-1))))) 0) ((nI bk)).toNatClampNeg (-1))) 1 (va_up ((va_up (va_up a 2 (va_up (a 2) ((nI (hmo B T key))).toNatClampNeg ((a 2 ((nI (hmo B T key))).toNatClampNeg) &&& ((1 <<< ((nI t) &&& 31)) ^^^ (-1))))) 0 (va_up ((va_up a 2 (va_up (a 2) ((nI (hmo B T key))).toNatClampNeg ((a 2 ((nI (hmo B T key))).toNatClampNeg) &&& ((1 <<< ((nI t) &&& 31)) ^^^ (-1))))) 0) ((nI bk)).toNatClampNeg (-1))) 1) ((nI bk)).toNatClampNeg (-1))) := by
    refine tR_s (s := s) ?_ rfl rfl rfl
    rw [hbk]
    refine tR_del hR ht (isO_of (by rw [← hbk]; exact hKb)) hhm (fun i hi => ?_) (fun i hi => ?_) (fun i hi => ?_)
    · rw [← hbk]; simp only [hcb, hch]; simp [va_up]
    · rw [← hbk]; simp only [hcb, hch]; simp [va_up]
    · simp only [hcb, hch]; simp [va_up]
  have h10 : (va_up (va_up s 10 ((s 10) - 1)) 15 ((s 15) + 1)) 10 = s 10 - 1 := by simp [va_up]
  have h15 : (va_up (va_up s 10 ((s 10) - 1)) 15 ((s 15) + 1)) 15 = s 15 + 1 := by simp [va_up]
  have hsk : ∀ k, k ≠ 10 → k ≠ 15 → (va_up (va_up s 10 ((s 10) - 1)) 15 ((s 15) + 1)) k = s k := fun k h1 h2 => by simp [va_up, h1, h2]
  generalize (va_up (va_up s 10 ((s 10) - 1)) 15 ((s 15) + 1)) = s1 at hR1 h10 h15 hsk ⊢
  generalize (va_up (va_up (va_up a 2 (va_up (a 2) ((nI (hmo B T key))).toNatClampNeg ((a 2 ((nI (hmo B T key))).toNatClampNeg) &&& ((1 <<< ((nI t) &&& 31)) ^^^ (-1))))) 0 (va_up ((va_up a 2 (va_up (a 2) ((nI (hmo B T key))).toNatClampNeg ((a 2 ((nI (hmo B T key))).toNatClampNeg) &&& ((1 <<< ((nI t) &&& 31)) ^^^ (-1))))) 0) ((nI bk)).toNatClampNeg (-1))) 1 (va_up ((va_up (va_up a 2 (va_up (a 2) ((nI (hmo B T key))).toNatClampNeg ((a 2 ((nI (hmo B T key))).toNatClampNeg) &&& ((1 <<< ((nI t) &&& 31)) ^^^ (-1))))) 0 (va_up ((va_up a 2 (va_up (a 2) ((nI (hmo B T key))).toNatClampNeg ((a 2 ((nI (hmo B T key))).toNatClampNeg) &&& ((1 <<< ((nI t) &&& 31)) ^^^ (-1))))) 0) ((nI bk)).toNatClampNeg (-1))) 1) ((nI bk)).toNatClampNeg (-1))) = a1 at hR1 ⊢
  have h9 : s1 9 = s 9 := hsk 9 (by decide) (by decide)
  have h12 : s1 12 = s 12 := hsk 12 (by decide) (by decide)
  refine z_aload_n (j := 0) dX6_take_90 rfl ?_
  refine z_get (v := .int (s1 9)) (by omega) tW_obj fX6_38 rfl dX6_take_91 ?_
  refine z_if_eq (tgt := 102) dX6_take_94 (by decide) (fun c_94 => ?_) (fun c_94 => ?_)
  · refine z_iload (j := 4) dX6_take_102 rfl ?_
    exact z_iret rfl dX6_take_104 (by
        rw [hcb, hva]
        exact hq _ _ (s 12) s1 a1 (by rw [takF, if_pos (h9 ▸ c_94)]) hR1 h10 h12 h15 (fun k x10 x12 x15 => hsk k x10 x15))
  · refine z_aload_n (j := 0) dX6_take_97 rfl ?_
    refine z_iload_n (j := 2) dX6_take_98 rfl ?_
    rcases hpf : pulF B H T 384 (va_up K bk 0) (va_up V bk 0) bk (s 12) with ⟨K1, V1, c1⟩
    refine z_cVx [.int (nI bk)] none (fun g => ∃ s2 a2, g = tW h b s2 a2 ∧ tR B H T K1 V1 s2 a2 ∧ s2 12 = c1 ∧ (∀ k, k ≠ 12 → s2 k = s1 k)) yoX6_pullFrom yvX6_pullFrom rfl (by decide) lX6_100 (by omega) tW_obj rfl rfl (Nat.le_of_ble_eq_true rfl) (Nat.le_of_ble_eq_true rfl) dX6_take_99 (z_room (by omega) (Nat.le_refl _) (Nat.le_refl _) (w_pullFrom (d := 0) hb hR1 hbB (by simp [va_up]) (fun K' V' c' s' a' e h1 h2 h3 => by
        rw [h12, hpf] at e
        cases e
        exact ⟨rfl, rfl, s', a', rfl, h1, h2, h3⟩))) (fun g hg => ?_)
    obtain ⟨s2, a2, rfl, hR2, h212, hs2⟩ := hg
    refine z_iload (j := 4) dX6_take_102 rfl ?_
    exact z_iret rfl dX6_take_104 (by
        rw [hcb, hva]
        exact hq K1 V1 c1 s2 a2 (by rw [takF, if_neg (h9 ▸ c_94), hpf]) hR2 (by rw [hs2 10 (by decide), h10]) h212 (by rw [hs2 15 (by decide), h15]) (fun k x10 x12 x15 => by rw [hs2 k x12, hsk k x10 x15]))

set_option maxHeartbeats 4000000 in
set_option maxRecDepth 100000 in
theorem w_takeN {l : zL} {d kc ks n b B H T : Nat} {h : Nat → va_E} {K V : Nat → Nat} {s : Nat → Int32} {a : Nat → Nat → Int32} {Q : zQ} (hb : b + 6 ≤ n) (hR : tR B H T K V s a) {key : Nat} (hkey : key ≤ 9999) (hbw : bw B H T K key = none) (hq : Q (.inl (some (.int (-1)))) n (tW h b s a)) : Zj l mX6_take (d + 3) kc ks 0 [(0, .ref b), (1, .int ((nI key)))] [] n (tW h b s a) Q := by
  obtain ⟨okb, h2H, hH6, h1T, hT99, e6, e7, e8, ek, ev, eh, ekv, ez⟩ := id hR
  have hle := okb.le
  refine z_aload_n (j := 0) dX6_take_0 rfl ?_
  refine z_iload_n (j := 1) dX6_take_1 rfl ?_
  refine z_cV [.int ((nI key))] (some (.int ((optI (bw B H T K key))))) yoX6_bucketWith yvX6_bucketWith rfl (by decide) lX6_84 (by omega) tW_obj rfl rfl (Nat.le_of_ble_eq_true rfl) (Nat.le_of_ble_eq_true rfl) dX6_take_2 (z_room (by omega) (Nat.le_refl _) (Nat.le_refl _) (w_bucketWith (d := 0) hb hR hkey ⟨rfl, rfl, rfl⟩)) ?_
  rw [show (optI (bw B H T K key)) = (-1) from by rw [hbw]; rfl]
  refine z_istore_n [1, 2, 0] [(0, .ref b), (1, .int ((nI key))), (2, .int ((-1)))] dX6_take_5 (by decide) rfl ?_
  refine z_aload_n (j := 0) dX6_take_6 rfl ?_
  refine z_iload_n (j := 1) dX6_take_7 rfl ?_
  refine z_cV [.int ((nI key))] (some (.int ((nI (hmo B T key))))) yoX6_homeFor yvX6_homeFor rfl (by decide) lX6_94 (by omega) tW_obj rfl rfl (Nat.le_of_ble_eq_true rfl) (Nat.le_of_ble_eq_true rfl) dX6_take_8 (z_room (by omega) (Nat.le_refl _) (Nat.le_refl _) (w_homeFor (d := 0) hb hR hkey ⟨rfl, rfl, rfl⟩)) ?_
  refine z_istore_n [1, 2, 3, 0] [(0, .ref b), (1, .int ((nI key))), (2, .int ((-1))), (3, .int ((nI (hmo B T key))))] dX6_take_11 (by decide) rfl ?_
  refine z_aload_n (j := 0) dX6_take_12 rfl ?_
  refine z_iload_n (j := 2) dX6_take_13 rfl ?_
  refine z_cV [.int ((-1))] (some (.int 0)) yoX6_hasBucket yvX6_hasBucket rfl (by decide) lX6_91 (by omega) tW_obj rfl rfl (Nat.le_of_ble_eq_true rfl) (Nat.le_of_ble_eq_true rfl) dX6_take_14 (z_room (by omega) (Nat.le_refl _) (Nat.le_refl _) (w_hasBucketN (d := 0) hb ⟨rfl, rfl, rfl⟩)) ?_
  refine z_if_eq (tgt := 28) dX6_take_17 (by decide) (fun c_17 => ?_) (fun c_17 => absurd rfl c_17)
  refine z_iconst (v := (-1)) dX6_take_28 (by decide) ?_
  exact z_iret rfl dX6_take_29 (hq)
