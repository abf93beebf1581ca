/-! THE CLASS'S OWN METHODS, third part: changes -/
theorem up_eq {α : Type} {f : Nat → α} {t : Nat} {v : α} : va_up f t v t = v := by simp [va_up]
theorem up_ne {α : Type} {f : Nat → α} {t k : Nat} {v : α} (h : k ≠ t) : va_up f t v k = f k := by simp [va_up, h]
theorem cT.six {S : zS} {s : Nat → Int32} {a : Nat → Nat → Int32} (h : cT S s a) : s 6 = nI S.1 := by
  obtain ⟨B, H, T, K, V, c⟩ := S
  exact h.1.2.2.2.2.2.1
theorem cT.ten {S : zS} {s : Nat → Int32} {a : Nat → Nat → Int32} (h : cT S s a) : s 10 = nI (sCnt S) := by
  obtain ⟨B, H, T, K, V, c⟩ := S
  exact h.2.2.2.1
theorem cT.ele {S : zS} {s : Nat → Int32} {a : Nat → Nat → Int32} (h : cT S s a) : s 11 = S.2.2.2.2.2 4 := by
  obtain ⟨B, H, T, K, V, c⟩ := S
  exact h.2.2.2.2.1
theorem cT.twe {S : zS} {s : Nat → Int32} {a : Nat → Nat → Int32} (h : cT S s a) : s 12 = S.2.2.2.2.2 5 := by
  obtain ⟨B, H, T, K, V, c⟩ := S
  exact h.2.2.2.2.2.1
theorem cT.okb {S : zS} {s : Nat → Int32} {a : Nat → Nat → Int32} (h : cT S s a) : okB S.1 := by
  obtain ⟨B, H, T, K, V, c⟩ := S
  exact h.1.1
theorem cI.back {S : zS} {sv : Int32} {Sn : zS} {k : Nat} {hi : Nat → zS} {L : Nat} {x : Nat → Nat} {ek eo : Int32} {rl : Nat} {rb : Nat → Nat} {o u : Nat → Nat → Int32} {s s' : Nat → Nat → Int32} {a a' : Nat → Nat → Nat → Int32} {nx : Nat} (h : cI (S, sv, Sn, k, hi, L, x, ek, eo, rl, rb) o u s a) (hnx : nx < 9) (h31 : o 3 1 = nI nx) (hT' : cT S (s' 1) (a' 1)) (hs : ∀ t, t ≠ 1 → t ≠ 4 + nx → s' t = s t) (ha : ∀ t, t ≠ 1 → t ≠ 4 + nx → a' t = a t) : cI (S, sv, Sn, k, hi, L, x, ek, eo, rl, rb) o u s' a' := by
  obtain ⟨hT, ho05, hsv, hsn, hk8, ho32, ⟨ny, hny, ho31, hhi⟩, hr⟩ := h
  have he : ny = nx := (nI_eq (by omega) (by omega)).mp (ho31.symm.trans h31)
  subst he
  exact ⟨hT', ho05, hsv, fun e => by rw [hs 3 (by decide) (by omega), ha 3 (by decide) (by omega)]; exact hsn e, hk8, ho32, ⟨ny, hny, ho31, fun j hj => by rw [hs _ (by omega) (by omega), ha _ (by omega) (by omega)]; exact hhi j hj⟩, hr⟩
theorem cI.push {S S' : zS} {sv : Int32} {Sn : zS} {k : Nat} {hi : Nat → zS} {L : Nat} {x : Nat → Nat} {ek eo : Int32} {rl : Nat} {rb : Nat → Nat} {o o' u : Nat → Nat → Int32} {s s' : Nat → Nat → Int32} {a a' : Nat → Nat → Nat → Int32} {nx : Nat} (h : cI (S, sv, Sn, k, hi, L, x, ek, eo, rl, rb) o u s a) (hnx : nx < 9) (h31 : o 3 1 = nI nx) (hT' : cT S' (s' 1) (a' 1)) (hM : cT S (s' (4 + nx)) (a' (4 + nx))) (hs : ∀ t, t ≠ 1 → t ≠ 4 + nx → s' t = s t) (ha : ∀ t, t ≠ 1 → t ≠ 4 + nx → a' t = a t) (h31' : o' 3 1 = nI (if nx + 1 < 9 then nx + 1 else 0)) (h32' : o' 3 2 = nI (if k < 8 then k + 1 else 8)) (ho : ∀ c, c ≠ 3 → o' c = o c) : cI (gPush (S, sv, Sn, k, hi, L, x, ek, eo, rl, rb) S') o' u s' a' := by
  obtain ⟨hT, ho05, hsv, hsn, hk8, ho32, ⟨ny, hny, ho31, hhi⟩, hL, ho11, hu0, hx256, ho210, ho211, hrl, ho41, hu4, hrb⟩ := h
  have he : ny = nx := (nI_eq (by omega) (by omega)).mp (ho31.symm.trans h31)
  subst he
  refine ⟨hT', by rw [ho 0 (by decide)]; exact ho05, hsv, fun e => by rw [hs 3 (by decide) (by omega), ha 3 (by decide) (by omega)]; exact hsn e, by split <;> omega, h32', ⟨if ny + 1 < 9 then ny + 1 else 0, by split <;> omega, h31', fun j hj => ?_⟩, hL, by rw [ho 1 (by decide)]; exact ho11, hu0, hx256, by rw [ho 2 (by decide)]; exact ho210, by rw [ho 2 (by decide)]; exact ho211, hrl, by rw [ho 4 (by decide)]; exact ho41, hu4, hrb⟩
  by_cases hj0 : j = 0
  · subst hj0
    show cT (if (0 : Nat) = 0 then S else hi (0 - 1)) _ _
    rw [if_pos rfl, show ((if ny + 1 < 9 then ny + 1 else 0) + 8 - 0) % 9 = ny by split <;> omega]
    exact hM
  · have hj8 : j - 1 < k := by
      by_cases hk : k < 8
      · rw [if_pos hk] at hj; omega
      · rw [if_neg hk] at hj; omega
    show cT (if j = 0 then S else hi (j - 1)) _ _
    rw [if_neg hj0, show ((if ny + 1 < 9 then ny + 1 else 0) + 8 - j) % 9 = (ny + 8 - (j - 1)) % 9 by split <;> omega, hs _ (by omega) (by omega), ha _ (by omega) (by omega)]
    exact hhi (j - 1) hj8

set_option maxHeartbeats 4000000 in
set_option maxRecDepth 100000 in
theorem K_add {l : zL} {d kc ks n : Nat} {h : Nat → va_E} {cm : Value} {o u : Nat → Nat → Int32} {s : Nat → Nat → Int32} {a : Nat → Nat → Nat → Int32} {g : zGs} {Q : zQ} {p q : Int32} (hn : 89 ≤ n) (hno : ∀ E n' h', ¬ Q (.inr E) n' h') (hC : cI g o u s a) (hq : ∀ t v g' cm' o' u' s' a', f_add g p q = (t, v, g') → cI g' o' u' s' a' → Q (oc IAE ISE t v) n (gW h cm' o' u' s' a')) : Zj l mX7_add (d + 8) kc ks 0 [(0, .ref 0), (1, .int p), (2, .int q)] [] n (gW h cm o u s a) Q := by
  obtain ⟨⟨B, H, T, K, V, c⟩, sv, Sn, k, hi, L, x, ek, eo, rl, rb⟩ := g
  obtain ⟨hT, ho05, hsv, hsn, hk8, ho32, ⟨nx, hnx, ho31, hhi⟩, hL, ho11, hu0, hx256, ho210, ho211, hrl, ho41, hu4, hrb⟩ := id hC
  obtain ⟨hR, ⟨hI, hd3, h3⟩, e9, e10, e11, e12, e13, e14, e15⟩ := id hT
  obtain ⟨okb, h2H, hH6, h1T, hT99, e6, e7, e8, ek_, ev_, eh_, ekv, ez⟩ := id hR
  have hle := okb.le
  refine z_iload_n (j := 1) dX7_add_0 rfl ?_
  refine z_kS [.int p] 0 0 kc ks yoX7_needKey ysX7_needKey rfl (by decide) lX7_118 rfl (Nat.le_of_ble_eq_true rfl) (Nat.le_of_ble_eq_true rfl) dX7_add_1 (by omega) (by omega) (z_room (by omega) (Nat.le_refl _) (Nat.le_refl _) (w_needKey (d := 0) (hno := zk_no hno)  (fun ep => ⟨rfl, ?_⟩) (fun ep => ⟨rfl, ?_⟩)))
  · obtain ⟨key, -, hkey, rfl, hkx⟩ := iO_yes 0 9999 (by decide) (by decide) ep
    refine z_iload_n (j := 2) dX7_add_4 rfl ?_
    refine z_kS [.int q] 0 0 kc ks yoX7_needValue ysX7_needValue rfl (by decide) lX7_121 rfl (Nat.le_of_ble_eq_true rfl) (Nat.le_of_ble_eq_true rfl) dX7_add_5 (by omega) (by omega) (z_room (by omega) (Nat.le_refl _) (Nat.le_refl _) (w_needValue (d := 0) (hno := zk_no hno)  (fun eq => ⟨rfl, ?_⟩) (fun eq => ⟨rfl, ?_⟩)))
    · obtain ⟨v, -, hv, rfl, hvx⟩ := iO_yes 0 999 (by decide) (by decide) eq
      refine z_aload_n (j := 0) dX7_add_8 rfl ?_
      refine z_get (v := .ref 13) (by omega) gW_0 fX7_28 rfl dX7_add_9 ?_
      refine z_iload_n (j := 1) dX7_add_12 rfl ?_
      refine z_kV [.int ((nI key))] 0 0 kc ks yoX6_bucketWith yvX6_bucketWith rfl (by decide) lX7_124 (by omega) gW_13T rfl rfl (Nat.le_of_ble_eq_true rfl) (Nat.le_of_ble_eq_true rfl) dX7_add_13 (by omega) (by omega) (z_room (by omega) (Nat.le_refl _) (Nat.le_refl _) (g_find (d := 0) (t := 1) (S := (B, H, T, K, V, c)) (by decide) rfl (by omega) hT hkey (fun hf => ⟨rfl, ?_⟩) (fun b1 hf hb1 hK1 => ⟨rfl, ?_⟩)))
      · refine z_iconst (v := (-1)) dX7_add_16 (by decide) ?_
        refine z_icmp_eq (tgt := 30) dX7_add_17 (by decide) (fun czq17 => ?_) (fun czq17 => absurd rfl czq17)
        refine z_aload_n (j := 0) dX7_add_30 rfl ?_
        refine z_get (v := .ref 31) (by omega) gW_0 fX7_45 rfl dX7_add_31 ?_
        refine z_aload_n (j := 0) dX7_add_34 rfl ?_
        refine z_get (v := .ref 13) (by omega) gW_0 fX7_28 rfl dX7_add_35 ?_
        refine z_kV [.ref 13] 0 0 kc ks yoX2_mark yvX2_mark rfl (by decide) lX7_102 (by omega) gW_31 rfl rfl (Nat.le_of_ble_eq_true rfl) (Nat.le_of_ble_eq_true rfl) dX7_add_38 (by omega) (by omega) (z_room (by omega) (Nat.le_refl _) (Nat.le_refl _) (w_mark (d := 0) hnx (by omega) ho31 hT (fun s1 a1 hT1 => ⟨rfl, ?_⟩)))
        have hTn : cT (B, H, T, K, V, c) ((va_up s (4 + nx) s1) 1) ((va_up a (4 + nx) a1) 1) := by
          rw [up_ne (show (1 : Nat) ≠ 4 + nx by omega), up_ne (show (1 : Nat) ≠ 4 + nx by omega)]
          exact hT
        refine z_aload_n (j := 0) dX7_add_41 rfl ?_
        refine z_get (v := .ref 13) (by omega) gW_0 fX7_28 rfl dX7_add_42 ?_
        refine z_iload_n (j := 1) dX7_add_45 rfl ?_
        refine z_iload_n (j := 2) dX7_add_46 rfl ?_
        refine z_kV [.int ((nI key)), .int ((nI v))] 0 0 kc ks yoX6_insert yvX6_insert rfl (by decide) lX7_60 (by omega) gW_13T rfl rfl (Nat.le_of_ble_eq_true rfl) (Nat.le_of_ble_eq_true rfl) dX7_add_47 (by omega) (by omega) (z_room (by omega) (Nat.le_refl _) (Nat.le_refl _) (g_insert (d := 0) (t := 1) (by decide) rfl (by omega) hTn hkey hv hf (fun s2 a2 ea => ⟨rfl, ?_⟩) (fun bk S' s2 a2 ea hT2 hbk => ⟨rfl, ?_⟩)))
        · refine z_istore_n [1, 2, 3, 0] [(0, .ref 0), (1, .int ((nI key))), (2, .int ((nI v))), (3, .int ((-1)))] dX7_add_50 (by decide) rfl ?_
          refine z_iload_n (j := 3) dX7_add_51 rfl ?_
          refine z_iconst (v := (-1)) dX7_add_52 (by decide) ?_
          refine z_icmp_ne (tgt := 77) dX7_add_53 (by decide) (fun czq53 => absurd rfl czq53) (fun czq53 => ?_)
          refine z_aload_n (j := 0) dX7_add_56 rfl ?_
          refine z_get (v := .ref 31) (by omega) gW_0 fX7_45 rfl dX7_add_57 ?_
          refine z_aload_n (j := 0) dX7_add_60 rfl ?_
          refine z_get (v := .ref 13) (by omega) gW_0 fX7_28 rfl dX7_add_61 ?_
          refine z_kV [.ref 13] 0 0 kc ks yoX2_takeBack yvX2_takeBack rfl (by decide) lX7_132 (by omega) gW_31 rfl rfl (Nat.le_of_ble_eq_true rfl) (Nat.le_of_ble_eq_true rfl) dX7_add_64 (by omega) (by omega) (z_room (by omega) (Nat.le_refl _) (Nat.le_refl _) (w_takeBack (d := 0) (S := (B, H, T, K, V, c)) hnx (by omega) ho31 (by rw [up_ne (show 4 + nx ≠ 1 by omega), up_ne (show 4 + nx ≠ 1 by omega), up_eq, up_eq]; exact hT1) (fun s3 a3 hT3 => ⟨rfl, ?_⟩)))
          exact z_thr hno (hq 2 0 _ _ _ _ _ _ (by unfold f_add; rw [if_pos ⟨ep, eq⟩, hkx, hvx]; simp only [hf, ea] <;> rfl) (hC.back hnx ho31 (by rw [up_eq, up_eq]; exact hT3) (fun t h1 h2 => by rw [up_ne h1, up_ne h1, up_ne h2]) (fun t h1 h2 => by rw [up_ne h1, up_ne h1, up_ne h2])))
        · have hle2 := hT2.okb.le
          refine z_istore_n [1, 2, 3, 0] [(0, .ref 0), (1, .int ((nI key))), (2, .int ((nI v))), (3, .int ((nI bk)))] dX7_add_50 (by decide) rfl ?_
          refine z_iload_n (j := 3) dX7_add_51 rfl ?_
          refine z_iconst (v := (-1)) dX7_add_52 (by decide) ?_
          refine z_icmp_ne (tgt := 77) dX7_add_53 (by decide) (fun czq53 => ?_) (fun czq53 => absurd czq53 (nI_neg1 (by omega)))
          refine z_aload_n (j := 0) dX7_add_77 rfl ?_
          refine z_get (v := .ref 31) (by omega) gW_0 fX7_45 rfl dX7_add_78 ?_
          refine z_kV [] 0 0 kc ks yoX2_keep yvX2_keep rfl (by decide) lX7_112 (by omega) gW_31 rfl rfl (Nat.le_of_ble_eq_true rfl) (Nat.le_of_ble_eq_true rfl) dX7_add_81 (by omega) (by omega) (z_room (by omega) (Nat.le_refl _) (Nat.le_refl _) (w_keep (d := 0) hk8 hnx (by omega) ho31 ho32 (fun o1 k31 k32 ko => ⟨rfl, ?_⟩)))
          refine z_iload_n (j := 3) dX7_add_84 rfl ?_
          exact z_iret rfl dX7_add_85 (by
              exact hq 0 _ _ _ _ _ _ _ (by unfold f_add; rw [if_pos ⟨ep, eq⟩, hkx, hvx]; simp only [hf, ea] <;> rfl) (hC.push hnx ho31 (by rw [up_eq, up_eq]; exact hT2) (by rw [up_ne (show 4 + nx ≠ 1 by omega), up_ne (show 4 + nx ≠ 1 by omega), up_eq, up_eq]; exact hT1) (fun t h1 h2 => by rw [up_ne h1, up_ne h2]) (fun t h1 h2 => by rw [up_ne h1, up_ne h2]) k31 k32 ko))
      · have hb1 : b1 < B := hb1
        refine z_iconst (v := (-1)) dX7_add_16 (by decide) ?_
        refine z_icmp_eq (tgt := 30) dX7_add_17 (by decide) (fun czq17 => absurd czq17 (nI_neg1 (by omega))) (fun czq17 => ?_)
        exact z_thr hno (hq 2 0 _ _ _ _ _ _ (by unfold f_add; rw [if_pos ⟨ep, eq⟩, hkx]; simp only [hf] <;> rfl) hC)
    · exact hq 1 0 _ _ _ _ _ _ (by unfold f_add; exact if_neg (fun z => eq z.2)) hC
  · exact hq 1 0 _ _ _ _ _ _ (by unfold f_add; exact if_neg (fun z => ep z.1)) hC

set_option maxHeartbeats 4000000 in
set_option maxRecDepth 100000 in
theorem K_put {l : zL} {d kc ks n : Nat} {h : Nat → va_E} {cm : Value} {o u : Nat → Nat → Int32} {s : Nat → Nat → Int32} {a : Nat → Nat → Nat → Int32} {g : zGs} {Q : zQ} {p q : Int32} (hn : 89 ≤ n) (hno : ∀ E n' h', ¬ Q (.inr E) n' h') (hC : cI g o u s a) (hq : ∀ t v g' cm' o' u' s' a', f_put g p q = (t, v, g') → cI g' o' u' s' a' → Q (oc IAE ISE t v) n (gW h cm' o' u' s' a')) : Zj l mX7_put (d + 8) kc ks 0 [(0, .ref 0), (1, .int p), (2, .int q)] [] n (gW h cm o u s a) Q := by
  obtain ⟨⟨B, H, T, K, V, c⟩, sv, Sn, k, hi, L, x, ek, eo, rl, rb⟩ := g
  obtain ⟨hT, ho05, hsv, hsn, hk8, ho32, ⟨nx, hnx, ho31, hhi⟩, hL, ho11, hu0, hx256, ho210, ho211, hrl, ho41, hu4, hrb⟩ := id hC
  obtain ⟨hR, ⟨hI, hd3, h3⟩, e9, e10, e11, e12, e13, e14, e15⟩ := id hT
  obtain ⟨okb, h2H, hH6, h1T, hT99, e6, e7, e8, ek_, ev_, eh_, ekv, ez⟩ := id hR
  have hle := okb.le
  refine z_iload_n (j := 1) dX7_put_0 rfl ?_
  refine z_kS [.int p] 0 0 kc ks yoX7_needKey ysX7_needKey rfl (by decide) lX7_118 rfl (Nat.le_of_ble_eq_true rfl) (Nat.le_of_ble_eq_true rfl) dX7_put_1 (by omega) (by omega) (z_room (by omega) (Nat.le_refl _) (Nat.le_refl _) (w_needKey (d := 0) (hno := zk_no hno)  (fun ep => ⟨rfl, ?_⟩) (fun ep => ⟨rfl, ?_⟩)))
  · obtain ⟨key, -, hkey, rfl, hkx⟩ := iO_yes 0 9999 (by decide) (by decide) ep
    refine z_iload_n (j := 2) dX7_put_4 rfl ?_
    refine z_kS [.int q] 0 0 kc ks yoX7_needValue ysX7_needValue rfl (by decide) lX7_121 rfl (Nat.le_of_ble_eq_true rfl) (Nat.le_of_ble_eq_true rfl) dX7_put_5 (by omega) (by omega) (z_room (by omega) (Nat.le_refl _) (Nat.le_refl _) (w_needValue (d := 0) (hno := zk_no hno)  (fun eq => ⟨rfl, ?_⟩) (fun eq => ⟨rfl, ?_⟩)))
    · obtain ⟨v, -, hv, rfl, hvx⟩ := iO_yes 0 999 (by decide) (by decide) eq
      refine z_aload_n (j := 0) dX7_put_8 rfl ?_
      refine z_get (v := .ref 13) (by omega) gW_0 fX7_28 rfl dX7_put_9 ?_
      refine z_aload_n (j := 0) dX7_put_12 rfl ?_
      refine z_get (v := .ref 13) (by omega) gW_0 fX7_28 rfl dX7_put_13 ?_
      refine z_iload_n (j := 1) dX7_put_16 rfl ?_
      refine z_kV [.int ((nI key))] 0 0 kc ks yoX6_bucketWith yvX6_bucketWith rfl (by decide) lX7_124 (by omega) gW_13T rfl rfl (Nat.le_of_ble_eq_true rfl) (Nat.le_of_ble_eq_true rfl) dX7_put_17 (by omega) (by omega) (z_room (by omega) (Nat.le_refl _) (Nat.le_refl _) (g_find (d := 0) (t := 1) (S := (B, H, T, K, V, c)) (by decide) rfl (by omega) hT hkey (fun hf => ⟨rfl, ?_⟩) (fun b1 hf hb1 hK1 => ⟨rfl, ?_⟩)))
      · refine z_kV [.int ((-1))] 0 0 kc ks yoX6_valueIn yvX6_valueIn rfl (by decide) lX7_137 (by omega) gW_13T rfl rfl (Nat.le_of_ble_eq_true rfl) (Nat.le_of_ble_eq_true rfl) dX7_put_20 (by omega) (by omega) (z_room (by omega) (Nat.le_refl _) (Nat.le_refl _) (g_valueInN (d := 0) (t := 1) (by decide) rfl (by omega) ⟨rfl, ?_⟩))
        refine z_istore_n [1, 2, 3, 0] [(0, .ref 0), (1, .int ((nI key))), (2, .int ((nI v))), (3, .int ((-1)))] dX7_put_23 (by decide) rfl ?_
        refine z_aload_n (j := 0) dX7_put_24 rfl ?_
        refine z_get (v := .ref 31) (by omega) gW_0 fX7_45 rfl dX7_put_25 ?_
        refine z_aload_n (j := 0) dX7_put_28 rfl ?_
        refine z_get (v := .ref 13) (by omega) gW_0 fX7_28 rfl dX7_put_29 ?_
        refine z_kV [.ref 13] 0 0 kc ks yoX2_mark yvX2_mark rfl (by decide) lX7_102 (by omega) gW_31 rfl rfl (Nat.le_of_ble_eq_true rfl) (Nat.le_of_ble_eq_true rfl) dX7_put_32 (by omega) (by omega) (z_room (by omega) (Nat.le_refl _) (Nat.le_refl _) (w_mark (d := 0) hnx (by omega) ho31 hT (fun s1 a1 hT1 => ⟨rfl, ?_⟩)))
        have hTn : cT (B, H, T, K, V, c) ((va_up s (4 + nx) s1) 1) ((va_up a (4 + nx) a1) 1) := by
          rw [up_ne (show (1 : Nat) ≠ 4 + nx by omega), up_ne (show (1 : Nat) ≠ 4 + nx by omega)]
          exact hT
        refine z_aload_n (j := 0) dX7_put_35 rfl ?_
        refine z_get (v := .ref 13) (by omega) gW_0 fX7_28 rfl dX7_put_36 ?_
        refine z_iload_n (j := 1) dX7_put_39 rfl ?_
        refine z_iload_n (j := 2) dX7_put_40 rfl ?_
        refine z_kV [.int ((nI key)), .int ((nI v))] 0 0 kc ks yoX6_store yvX6_store rfl (by decide) lX7_140 (by omega) gW_13T rfl rfl (Nat.le_of_ble_eq_true rfl) (Nat.le_of_ble_eq_true rfl) dX7_put_41 (by omega) (by omega) (z_room (by omega) (Nat.le_refl _) (Nat.le_refl _) (g_store (d := 0) (t := 1) (by decide) rfl (by omega) hTn hkey hv (fun s2 a2 ea => ⟨rfl, ?_⟩) (fun z S' s2 a2 ea hT2 => ⟨rfl, ?_⟩)))
        · refine z_if_ne (tgt := 68) dX7_put_44 (by decide) (fun czq44 => absurd rfl czq44) (fun czq44 => ?_)
          refine z_aload_n (j := 0) dX7_put_47 rfl ?_
          refine z_get (v := .ref 31) (by omega) gW_0 fX7_45 rfl dX7_put_48 ?_
          refine z_aload_n (j := 0) dX7_put_51 rfl ?_
          refine z_get (v := .ref 13) (by omega) gW_0 fX7_28 rfl dX7_put_52 ?_
          refine z_kV [.ref 13] 0 0 kc ks yoX2_takeBack yvX2_takeBack rfl (by decide) lX7_132 (by omega) gW_31 rfl rfl (Nat.le_of_ble_eq_true rfl) (Nat.le_of_ble_eq_true rfl) dX7_put_55 (by omega) (by omega) (z_room (by omega) (Nat.le_refl _) (Nat.le_refl _) (w_takeBack (d := 0) (S := (B, H, T, K, V, c)) hnx (by omega) ho31 (by rw [up_ne (show 4 + nx ≠ 1 by omega), up_ne (show 4 + nx ≠ 1 by omega), up_eq, up_eq]; exact hT1) (fun s3 a3 hT3 => ⟨rfl, ?_⟩)))
          exact z_thr hno (hq 2 0 _ _ _ _ _ _ (by unfold f_put; rw [if_pos ⟨ep, eq⟩, hkx, hvx]; simp only [ea] <;> rfl) (hC.back hnx ho31 (by rw [up_eq, up_eq]; exact hT3) (fun t h1 h2 => by rw [up_ne h1, up_ne h1, up_ne h2]) (fun t h1 h2 => by rw [up_ne h1, up_ne h1, up_ne h2])))
        · have hz : (-1 : Int32) = z := by
            have := ea
            unfold sPut at this
            rw [hf] at this
            simp only at this
            cases hsa : sAdd (B, H, T, K, V, c) key v with
            | none => rw [hsa] at this; cases this
            | some r =>
              rw [hsa] at this
              cases this
              rfl
          refine z_if_ne (tgt := 68) dX7_put_44 (by decide) (fun czq44 => ?_) (fun czq44 => absurd czq44 (by decide))
          refine z_aload_n (j := 0) dX7_put_68 rfl ?_
          refine z_get (v := .ref 31) (by omega) gW_0 fX7_45 rfl dX7_put_69 ?_
          refine z_kV [] 0 0 kc ks yoX2_keep yvX2_keep rfl (by decide) lX7_112 (by omega) gW_31 rfl rfl (Nat.le_of_ble_eq_true rfl) (Nat.le_of_ble_eq_true rfl) dX7_put_72 (by omega) (by omega) (z_room (by omega) (Nat.le_refl _) (Nat.le_refl _) (w_keep (d := 0) hk8 hnx (by omega) ho31 ho32 (fun o1 k31 k32 ko => ⟨rfl, ?_⟩)))
          refine z_iload_n (j := 3) dX7_put_75 rfl ?_
          exact z_iret rfl dX7_put_76 (by
              rw [hz]
              exact hq 0 _ _ _ _ _ _ _ (by unfold f_put; rw [if_pos ⟨ep, eq⟩, hkx, hvx]; simp only [ea] <;> rfl) (hC.push hnx ho31 (by rw [up_eq, up_eq]; exact hT2) (by rw [up_ne (show 4 + nx ≠ 1 by omega), up_ne (show 4 + nx ≠ 1 by omega), up_eq, up_eq]; exact hT1) (fun t h1 h2 => by rw [up_ne h1, up_ne h2]) (fun t h1 h2 => by rw [up_ne h1, up_ne h2]) k31 k32 ko))
      · have hb1 : b1 < B := hb1
        have hK1 : K b1 = key + 1 := hK1
        refine z_kV [.int ((nI b1))] 0 0 kc ks yoX6_valueIn yvX6_valueIn rfl (by decide) lX7_137 (by omega) gW_13T rfl rfl (Nat.le_of_ble_eq_true rfl) (Nat.le_of_ble_eq_true rfl) dX7_put_20 (by omega) (by omega) (z_room (by omega) (Nat.le_refl _) (Nat.le_refl _) (g_valueIn (d := 0) (t := 1) (by decide) rfl (by omega) hR hb1 ⟨rfl, ?_⟩))
        refine z_istore_n [1, 2, 3, 0] [(0, .ref 0), (1, .int ((nI key))), (2, .int ((nI v))), (3, .int ((tval (K b1) (V b1))))] dX7_put_23 (by decide) rfl ?_
        refine z_aload_n (j := 0) dX7_put_24 rfl ?_
        refine z_get (v := .ref 31) (by omega) gW_0 fX7_45 rfl dX7_put_25 ?_
        refine z_aload_n (j := 0) dX7_put_28 rfl ?_
        refine z_get (v := .ref 13) (by omega) gW_0 fX7_28 rfl dX7_put_29 ?_
        refine z_kV [.ref 13] 0 0 kc ks yoX2_mark yvX2_mark rfl (by decide) lX7_102 (by omega) gW_31 rfl rfl (Nat.le_of_ble_eq_true rfl) (Nat.le_of_ble_eq_true rfl) dX7_put_32 (by omega) (by omega) (z_room (by omega) (Nat.le_refl _) (Nat.le_refl _) (w_mark (d := 0) hnx (by omega) ho31 hT (fun s1 a1 hT1 => ⟨rfl, ?_⟩)))
        have hTn : cT (B, H, T, K, V, c) ((va_up s (4 + nx) s1) 1) ((va_up a (4 + nx) a1) 1) := by
          rw [up_ne (show (1 : Nat) ≠ 4 + nx by omega), up_ne (show (1 : Nat) ≠ 4 + nx by omega)]
          exact hT
        refine z_aload_n (j := 0) dX7_put_35 rfl ?_
        refine z_get (v := .ref 13) (by omega) gW_0 fX7_28 rfl dX7_put_36 ?_
        refine z_iload_n (j := 1) dX7_put_39 rfl ?_
        refine z_iload_n (j := 2) dX7_put_40 rfl ?_
        refine z_kV [.int ((nI key)), .int ((nI v))] 0 0 kc ks yoX6_store yvX6_store rfl (by decide) lX7_140 (by omega) gW_13T rfl rfl (Nat.le_of_ble_eq_true rfl) (Nat.le_of_ble_eq_true rfl) dX7_put_41 (by omega) (by omega) (z_room (by omega) (Nat.le_refl _) (Nat.le_refl _) (g_store (d := 0) (t := 1) (by decide) rfl (by omega) hTn hkey hv (fun s2 a2 ea => ⟨rfl, ?_⟩) (fun z S' s2 a2 ea hT2 => ⟨rfl, ?_⟩)))
        · refine z_if_ne (tgt := 68) dX7_put_44 (by decide) (fun czq44 => absurd rfl czq44) (fun czq44 => ?_)
          refine z_aload_n (j := 0) dX7_put_47 rfl ?_
          refine z_get (v := .ref 31) (by omega) gW_0 fX7_45 rfl dX7_put_48 ?_
          refine z_aload_n (j := 0) dX7_put_51 rfl ?_
          refine z_get (v := .ref 13) (by omega) gW_0 fX7_28 rfl dX7_put_52 ?_
          refine z_kV [.ref 13] 0 0 kc ks yoX2_takeBack yvX2_takeBack rfl (by decide) lX7_132 (by omega) gW_31 rfl rfl (Nat.le_of_ble_eq_true rfl) (Nat.le_of_ble_eq_true rfl) dX7_put_55 (by omega) (by omega) (z_room (by omega) (Nat.le_refl _) (Nat.le_refl _) (w_takeBack (d := 0) (S := (B, H, T, K, V, c)) hnx (by omega) ho31 (by rw [up_ne (show 4 + nx ≠ 1 by omega), up_ne (show 4 + nx ≠ 1 by omega), up_eq, up_eq]; exact hT1) (fun s3 a3 hT3 => ⟨rfl, ?_⟩)))
          exact z_thr hno (hq 2 0 _ _ _ _ _ _ (by unfold f_put; rw [if_pos ⟨ep, eq⟩, hkx, hvx]; simp only [ea] <;> rfl) (hC.back hnx ho31 (by rw [up_eq, up_eq]; exact hT3) (fun t h1 h2 => by rw [up_ne h1, up_ne h1, up_ne h2]) (fun t h1 h2 => by rw [up_ne h1, up_ne h1, up_ne h2])))
        · have hz : tval (K b1) (V b1) = z := by
            have := ea
            unfold sPut at this
            rw [hf] at this
            simp only at this
            cases this
            rw [tval, if_neg (show ¬ K b1 = 0 by omega)]
          refine z_if_ne (tgt := 68) dX7_put_44 (by decide) (fun czq44 => ?_) (fun czq44 => absurd czq44 (by decide))
          refine z_aload_n (j := 0) dX7_put_68 rfl ?_
          refine z_get (v := .ref 31) (by omega) gW_0 fX7_45 rfl dX7_put_69 ?_
          refine z_kV [] 0 0 kc ks yoX2_keep yvX2_keep rfl (by decide) lX7_112 (by omega) gW_31 rfl rfl (Nat.le_of_ble_eq_true rfl) (Nat.le_of_ble_eq_true rfl) dX7_put_72 (by omega) (by omega) (z_room (by omega) (Nat.le_refl _) (Nat.le_refl _) (w_keep (d := 0) hk8 hnx (by omega) ho31 ho32 (fun o1 k31 k32 ko => ⟨rfl, ?_⟩)))
          refine z_iload_n (j := 3) dX7_put_75 rfl ?_
          exact z_iret rfl dX7_put_76 (by
              rw [hz]
              exact hq 0 _ _ _ _ _ _ _ (by unfold f_put; rw [if_pos ⟨ep, eq⟩, hkx, hvx]; simp only [ea] <;> rfl) (hC.push hnx ho31 (by rw [up_eq, up_eq]; exact hT2) (by rw [up_ne (show 4 + nx ≠ 1 by omega), up_ne (show 4 + nx ≠ 1 by omega), up_eq, up_eq]; exact hT1) (fun t h1 h2 => by rw [up_ne h1, up_ne h2]) (fun t h1 h2 => by rw [up_ne h1, up_ne h2]) k31 k32 ko))
    · exact hq 1 0 _ _ _ _ _ _ (by unfold f_put; exact if_neg (fun z => eq z.2)) hC
  · exact hq 1 0 _ _ _ _ _ _ (by unfold f_put; exact if_neg (fun z => ep z.1)) hC

set_option maxHeartbeats 4000000 in
set_option maxRecDepth 100000 in
theorem K_setNeighbourhood {l : zL} {d kc ks n : Nat} {h : Nat → va_E} {cm : Value} {o u : Nat → Nat → Int32} {s : Nat → Nat → Int32} {a : Nat → Nat → Nat → Int32} {g : zGs} {Q : zQ} {p : Int32} (hn : 89 ≤ n) (hno : ∀ E n' h', ¬ Q (.inr E) n' h') (hC : cI g o u s a) (hq : ∀ t v g' cm' o' u' s' a', f_setNeighbourhood g p = (t, v, g') → cI g' o' u' s' a' → Q (oc IAE ISE t v) n (gW h cm' o' u' s' a')) : Zj l mX7_setNeighbourhood (d + 8) kc ks 0 [(0, .ref 0), (1, .int p)] [] n (gW h cm o u s a) Q := by
  obtain ⟨⟨B, H, T, K, V, c⟩, sv, Sn, k, hi, L, x, ek, eo, rl, rb⟩ := g
  obtain ⟨hT, ho05, hsv, hsn, hk8, ho32, ⟨nx, hnx, ho31, hhi⟩, hL, ho11, hu0, hx256, ho210, ho211, hrl, ho41, hu4, hrb⟩ := id hC
  obtain ⟨hR, ⟨hI, hd3, h3⟩, e9, e10, e11, e12, e13, e14, e15⟩ := id hT
  obtain ⟨okb, h2H, hH6, h1T, hT99, e6, e7, e8, ek_, ev_, eh_, ekv, ez⟩ := id hR
  have hle := okb.le
  refine z_iload_n (j := 1) dX7_setNeighbourhood_0 rfl ?_
  refine z_kS [.int p] 0 0 kc ks yoX7_isNear ysX7_isNear rfl (by decide) lX7_168 rfl (Nat.le_of_ble_eq_true rfl) (Nat.le_of_ble_eq_true rfl) dX7_setNeighbourhood_1 (by omega) (by omega) (z_room (by omega) (Nat.le_refl _) (Nat.le_refl _) (w_isNear (d := 0)  ⟨rfl, ?_⟩))
  refine z_if_ne (tgt := 17) dX7_setNeighbourhood_4 (by decide) (fun czq4 => ?_) (fun czq4 => ?_)
  · have ep := bI_n.mp czq4
    obtain ⟨y, hy1, hy2, rfl, hkx⟩ := iO_yes 2 6 (by decide) (by decide) ep
    refine z_aload_n (j := 0) dX7_setNeighbourhood_17 rfl ?_
    refine z_get (v := .ref 31) (by omega) gW_0 fX7_45 rfl dX7_setNeighbourhood_18 ?_
    refine z_aload_n (j := 0) dX7_setNeighbourhood_21 rfl ?_
    refine z_get (v := .ref 13) (by omega) gW_0 fX7_28 rfl dX7_setNeighbourhood_22 ?_
    refine z_kV [.ref 13] 0 0 kc ks yoX2_mark yvX2_mark rfl (by decide) lX7_102 (by omega) gW_31 rfl rfl (Nat.le_of_ble_eq_true rfl) (Nat.le_of_ble_eq_true rfl) dX7_setNeighbourhood_25 (by omega) (by omega) (z_room (by omega) (Nat.le_refl _) (Nat.le_refl _) (w_mark (d := 0) hnx (by omega) ho31 hT (fun s1 a1 hT1 => ⟨rfl, ?_⟩)))
    have hTn : cT (B, H, T, K, V, c) ((va_up s (4 + nx) s1) 1) ((va_up a (4 + nx) a1) 1) := by
      rw [up_ne (show (1 : Nat) ≠ 4 + nx by omega), up_ne (show (1 : Nat) ≠ 4 + nx by omega)]
      exact hT
    refine z_aload_n (j := 0) dX7_setNeighbourhood_28 rfl ?_
    refine z_get (v := .ref 13) (by omega) gW_0 fX7_28 rfl dX7_setNeighbourhood_29 ?_
    refine z_iload_n (j := 1) dX7_setNeighbourhood_32 rfl ?_
    refine z_kV [.int ((nI y))] 0 0 kc ks yoX6_changeNear yvX6_changeNear rfl (by decide) lX7_173 (by omega) gW_13T rfl rfl (Nat.le_of_ble_eq_true rfl) (Nat.le_of_ble_eq_true rfl) dX7_setNeighbourhood_33 (by omega) (by omega) (z_room (by omega) (Nat.le_refl _) (Nat.le_refl _) (g_near (d := 0) (t := 1) (by decide) rfl (by omega) hTn hy1 hy2 (fun s2 a2 ea => ⟨rfl, ?_⟩) (fun S' s2 a2 ea hT2 => ⟨rfl, ?_⟩)))
    · refine z_if_ne (tgt := 60) dX7_setNeighbourhood_36 (by decide) (fun czq36 => absurd rfl czq36) (fun czq36 => ?_)
      refine z_aload_n (j := 0) dX7_setNeighbourhood_39 rfl ?_
      refine z_get (v := .ref 31) (by omega) gW_0 fX7_45 rfl dX7_setNeighbourhood_40 ?_
      refine z_aload_n (j := 0) dX7_setNeighbourhood_43 rfl ?_
      refine z_get (v := .ref 13) (by omega) gW_0 fX7_28 rfl dX7_setNeighbourhood_44 ?_
      refine z_kV [.ref 13] 0 0 kc ks yoX2_takeBack yvX2_takeBack rfl (by decide) lX7_132 (by omega) gW_31 rfl rfl (Nat.le_of_ble_eq_true rfl) (Nat.le_of_ble_eq_true rfl) dX7_setNeighbourhood_47 (by omega) (by omega) (z_room (by omega) (Nat.le_refl _) (Nat.le_refl _) (w_takeBack (d := 0) (S := (B, H, T, K, V, c)) hnx (by omega) ho31 (by rw [up_ne (show 4 + nx ≠ 1 by omega), up_ne (show 4 + nx ≠ 1 by omega), up_eq, up_eq]; exact hT1) (fun s3 a3 hT3 => ⟨rfl, ?_⟩)))
      exact z_thr hno (hq 2 0 _ _ _ _ _ _ (by unfold f_setNeighbourhood; rw [if_pos ep, hkx]; simp only [ea] <;> rfl) (hC.back hnx ho31 (by rw [up_eq, up_eq]; exact hT3) (fun t h1 h2 => by rw [up_ne h1, up_ne h1, up_ne h2]) (fun t h1 h2 => by rw [up_ne h1, up_ne h1, up_ne h2])))
    · refine z_if_ne (tgt := 60) dX7_setNeighbourhood_36 (by decide) (fun czq36 => ?_) (fun czq36 => absurd czq36 (by decide))
      refine z_aload_n (j := 0) dX7_setNeighbourhood_60 rfl ?_
      refine z_get (v := .ref 31) (by omega) gW_0 fX7_45 rfl dX7_setNeighbourhood_61 ?_
      refine z_kV [] 0 0 kc ks yoX2_keep yvX2_keep rfl (by decide) lX7_112 (by omega) gW_31 rfl rfl (Nat.le_of_ble_eq_true rfl) (Nat.le_of_ble_eq_true rfl) dX7_setNeighbourhood_64 (by omega) (by omega) (z_room (by omega) (Nat.le_refl _) (Nat.le_refl _) (w_keep (d := 0) hk8 hnx (by omega) ho31 ho32 (fun o1 k31 k32 ko => ⟨rfl, ?_⟩)))
      refine z_aload_n (j := 0) dX7_setNeighbourhood_67 rfl ?_
      refine z_get (v := .ref 13) (by omega) gW_0 fX7_28 rfl dX7_setNeighbourhood_68 ?_
      refine z_get (v := .int ((va_up (va_up s (4 + nx) s1) 1 s2) 1 6)) (by omega) gW_13T fX7_178 rfl dX7_setNeighbourhood_71 ?_
      exact z_iret rfl dX7_setNeighbourhood_74 (by
          rw [show (va_up (va_up s (4 + nx) s1) 1 s2) 1 6 = nI S'.1 from by rw [up_eq]; exact hT2.six]
          exact hq 0 _ _ _ _ _ _ _ (by unfold f_setNeighbourhood; rw [if_pos ep, hkx]; simp only [ea] <;> rfl) (hC.push hnx ho31 (by rw [up_eq, up_eq]; exact hT2) (by rw [up_ne (show 4 + nx ≠ 1 by omega), up_ne (show 4 + nx ≠ 1 by omega), up_eq, up_eq]; exact hT1) (fun t h1 h2 => by rw [up_ne h1, up_ne h2]) (fun t h1 h2 => by rw [up_ne h1, up_ne h2]) k31 k32 ko))
  · exact z_thr hno (hq 1 0 _ _ _ _ _ _ (by unfold f_setNeighbourhood; exact if_neg (bI_0.mp czq4)) hC)

set_option maxHeartbeats 4000000 in
set_option maxRecDepth 100000 in
theorem K_setMultiplier {l : zL} {d kc ks n : Nat} {h : Nat → va_E} {cm : Value} {o u : Nat → Nat → Int32} {s : Nat → Nat → Int32} {a : Nat → Nat → Nat → Int32} {g : zGs} {Q : zQ} {p : Int32} (hn : 89 ≤ n) (hno : ∀ E n' h', ¬ Q (.inr E) n' h') (hC : cI g o u s a) (hq : ∀ t v g' cm' o' u' s' a', f_setMultiplier g p = (t, v, g') → cI g' o' u' s' a' → Q (oc IAE ISE t v) n (gW h cm' o' u' s' a')) : Zj l mX7_setMultiplier (d + 8) kc ks 0 [(0, .ref 0), (1, .int p)] [] n (gW h cm o u s a) Q := by
  obtain ⟨⟨B, H, T, K, V, c⟩, sv, Sn, k, hi, L, x, ek, eo, rl, rb⟩ := g
  obtain ⟨hT, ho05, hsv, hsn, hk8, ho32, ⟨nx, hnx, ho31, hhi⟩, hL, ho11, hu0, hx256, ho210, ho211, hrl, ho41, hu4, hrb⟩ := id hC
  obtain ⟨hR, ⟨hI, hd3, h3⟩, e9, e10, e11, e12, e13, e14, e15⟩ := id hT
  obtain ⟨okb, h2H, hH6, h1T, hT99, e6, e7, e8, ek_, ev_, eh_, ekv, ez⟩ := id hR
  have hle := okb.le
  refine z_iload_n (j := 1) dX7_setMultiplier_0 rfl ?_
  refine z_kS [.int p] 0 0 kc ks yoX7_isTimes ysX7_isTimes rfl (by decide) lX7_181 rfl (Nat.le_of_ble_eq_true rfl) (Nat.le_of_ble_eq_true rfl) dX7_setMultiplier_1 (by omega) (by omega) (z_room (by omega) (Nat.le_refl _) (Nat.le_refl _) (w_isTimes (d := 0)  ⟨rfl, ?_⟩))
  refine z_if_ne (tgt := 17) dX7_setMultiplier_4 (by decide) (fun czq4 => ?_) (fun czq4 => ?_)
  · have ep := bI_n.mp czq4
    obtain ⟨y, hy1, hy2, rfl, hkx⟩ := iO_yes 1 99 (by decide) (by decide) ep
    refine z_aload_n (j := 0) dX7_setMultiplier_17 rfl ?_
    refine z_get (v := .ref 31) (by omega) gW_0 fX7_45 rfl dX7_setMultiplier_18 ?_
    refine z_aload_n (j := 0) dX7_setMultiplier_21 rfl ?_
    refine z_get (v := .ref 13) (by omega) gW_0 fX7_28 rfl dX7_setMultiplier_22 ?_
    refine z_kV [.ref 13] 0 0 kc ks yoX2_mark yvX2_mark rfl (by decide) lX7_102 (by omega) gW_31 rfl rfl (Nat.le_of_ble_eq_true rfl) (Nat.le_of_ble_eq_true rfl) dX7_setMultiplier_25 (by omega) (by omega) (z_room (by omega) (Nat.le_refl _) (Nat.le_refl _) (w_mark (d := 0) hnx (by omega) ho31 hT (fun s1 a1 hT1 => ⟨rfl, ?_⟩)))
    have hTn : cT (B, H, T, K, V, c) ((va_up s (4 + nx) s1) 1) ((va_up a (4 + nx) a1) 1) := by
      rw [up_ne (show (1 : Nat) ≠ 4 + nx by omega), up_ne (show (1 : Nat) ≠ 4 + nx by omega)]
      exact hT
    refine z_aload_n (j := 0) dX7_setMultiplier_28 rfl ?_
    refine z_get (v := .ref 13) (by omega) gW_0 fX7_28 rfl dX7_setMultiplier_29 ?_
    refine z_iload_n (j := 1) dX7_setMultiplier_32 rfl ?_
    refine z_kV [.int ((nI y))] 0 0 kc ks yoX6_changeTimes yvX6_changeTimes rfl (by decide) lX7_186 (by omega) gW_13T rfl rfl (Nat.le_of_ble_eq_true rfl) (Nat.le_of_ble_eq_true rfl) dX7_setMultiplier_33 (by omega) (by omega) (z_room (by omega) (Nat.le_refl _) (Nat.le_refl _) (g_times (d := 0) (t := 1) (by decide) rfl (by omega) hTn hy1 hy2 (fun s2 a2 ea => ⟨rfl, ?_⟩) (fun S' s2 a2 ea hT2 => ⟨rfl, ?_⟩)))
    · refine z_if_ne (tgt := 60) dX7_setMultiplier_36 (by decide) (fun czq36 => absurd rfl czq36) (fun czq36 => ?_)
      refine z_aload_n (j := 0) dX7_setMultiplier_39 rfl ?_
      refine z_get (v := .ref 31) (by omega) gW_0 fX7_45 rfl dX7_setMultiplier_40 ?_
      refine z_aload_n (j := 0) dX7_setMultiplier_43 rfl ?_
      refine z_get (v := .ref 13) (by omega) gW_0 fX7_28 rfl dX7_setMultiplier_44 ?_
      refine z_kV [.ref 13] 0 0 kc ks yoX2_takeBack yvX2_takeBack rfl (by decide) lX7_132 (by omega) gW_31 rfl rfl (Nat.le_of_ble_eq_true rfl) (Nat.le_of_ble_eq_true rfl) dX7_setMultiplier_47 (by omega) (by omega) (z_room (by omega) (Nat.le_refl _) (Nat.le_refl _) (w_takeBack (d := 0) (S := (B, H, T, K, V, c)) hnx (by omega) ho31 (by rw [up_ne (show 4 + nx ≠ 1 by omega), up_ne (show 4 + nx ≠ 1 by omega), up_eq, up_eq]; exact hT1) (fun s3 a3 hT3 => ⟨rfl, ?_⟩)))
      exact z_thr hno (hq 2 0 _ _ _ _ _ _ (by unfold f_setMultiplier; rw [if_pos ep, hkx]; simp only [ea] <;> rfl) (hC.back hnx ho31 (by rw [up_eq, up_eq]; exact hT3) (fun t h1 h2 => by rw [up_ne h1, up_ne h1, up_ne h2]) (fun t h1 h2 => by rw [up_ne h1, up_ne h1, up_ne h2])))
    · refine z_if_ne (tgt := 60) dX7_setMultiplier_36 (by decide) (fun czq36 => ?_) (fun czq36 => absurd czq36 (by decide))
      refine z_aload_n (j := 0) dX7_setMultiplier_60 rfl ?_
      refine z_get (v := .ref 31) (by omega) gW_0 fX7_45 rfl dX7_setMultiplier_61 ?_
      refine z_kV [] 0 0 kc ks yoX2_keep yvX2_keep rfl (by decide) lX7_112 (by omega) gW_31 rfl rfl (Nat.le_of_ble_eq_true rfl) (Nat.le_of_ble_eq_true rfl) dX7_setMultiplier_64 (by omega) (by omega) (z_room (by omega) (Nat.le_refl _) (Nat.le_refl _) (w_keep (d := 0) hk8 hnx (by omega) ho31 ho32 (fun o1 k31 k32 ko => ⟨rfl, ?_⟩)))
      refine z_aload_n (j := 0) dX7_setMultiplier_67 rfl ?_
      refine z_get (v := .ref 13) (by omega) gW_0 fX7_28 rfl dX7_setMultiplier_68 ?_
      refine z_get (v := .int ((va_up (va_up s (4 + nx) s1) 1 s2) 1 6)) (by omega) gW_13T fX7_178 rfl dX7_setMultiplier_71 ?_
      exact z_iret rfl dX7_setMultiplier_74 (by
          rw [show (va_up (va_up s (4 + nx) s1) 1 s2) 1 6 = nI S'.1 from by rw [up_eq]; exact hT2.six]
          exact hq 0 _ _ _ _ _ _ _ (by unfold f_setMultiplier; rw [if_pos ep, hkx]; simp only [ea] <;> rfl) (hC.push hnx ho31 (by rw [up_eq, up_eq]; exact hT2) (by rw [up_ne (show 4 + nx ≠ 1 by omega), up_ne (show 4 + nx ≠ 1 by omega), up_eq, up_eq]; exact hT1) (fun t h1 h2 => by rw [up_ne h1, up_ne h2]) (fun t h1 h2 => by rw [up_ne h1, up_ne h2]) k31 k32 ko))
  · exact z_thr hno (hq 1 0 _ _ _ _ _ _ (by unfold f_setMultiplier; exact if_neg (bI_0.mp czq4)) hC)

set_option maxHeartbeats 4000000 in
set_option maxRecDepth 100000 in
theorem K_grow {l : zL} {d kc ks n : Nat} {h : Nat → va_E} {cm : Value} {o u : Nat → Nat → Int32} {s : Nat → Nat → Int32} {a : Nat → Nat → Nat → Int32} {g : zGs} {Q : zQ} (hn : 89 ≤ n) (hno : ∀ E n' h', ¬ Q (.inr E) n' h') (hC : cI g o u s a) (hq : ∀ t v g' cm' o' u' s' a', f_grow g = (t, v, g') → cI g' o' u' s' a' → Q (oc ISE ISE t v) n (gW h cm' o' u' s' a')) : Zj l mX7_grow (d + 8) kc ks 0 [(0, .ref 0)] [] n (gW h cm o u s a) Q := by
  obtain ⟨⟨B, H, T, K, V, c⟩, sv, Sn, k, hi, L, x, ek, eo, rl, rb⟩ := g
  obtain ⟨hT, ho05, hsv, hsn, hk8, ho32, ⟨nx, hnx, ho31, hhi⟩, hL, ho11, hu0, hx256, ho210, ho211, hrl, ho41, hu4, hrb⟩ := id hC
  obtain ⟨hR, ⟨hI, hd3, h3⟩, e9, e10, e11, e12, e13, e14, e15⟩ := id hT
  obtain ⟨okb, h2H, hH6, h1T, hT99, e6, e7, e8, ek_, ev_, eh_, ekv, ez⟩ := id hR
  have hle := okb.le
  refine z_aload_n (j := 0) dX7_grow_0 rfl ?_
  refine z_get (v := .ref 31) (by omega) gW_0 fX7_45 rfl dX7_grow_1 ?_
  refine z_aload_n (j := 0) dX7_grow_4 rfl ?_
  refine z_get (v := .ref 13) (by omega) gW_0 fX7_28 rfl dX7_grow_5 ?_
  refine z_kV [.ref 13] 0 0 kc ks yoX2_mark yvX2_mark rfl (by decide) lX7_102 (by omega) gW_31 rfl rfl (Nat.le_of_ble_eq_true rfl) (Nat.le_of_ble_eq_true rfl) dX7_grow_8 (by omega) (by omega) (z_room (by omega) (Nat.le_refl _) (Nat.le_refl _) (w_mark (d := 0) hnx (by omega) ho31 hT (fun s1 a1 hT1 => ⟨rfl, ?_⟩)))
  have hTn : cT (B, H, T, K, V, c) ((va_up s (4 + nx) s1) 1) ((va_up a (4 + nx) a1) 1) := by
    rw [up_ne (show (1 : Nat) ≠ 4 + nx by omega), up_ne (show (1 : Nat) ≠ 4 + nx by omega)]
    exact hT
  refine z_aload_n (j := 0) dX7_grow_11 rfl ?_
  refine z_get (v := .ref 13) (by omega) gW_0 fX7_28 rfl dX7_grow_12 ?_
  refine z_iconst (v := 2) dX7_grow_15 (by decide) ?_
  refine z_aload_n (j := 0) dX7_grow_16 rfl ?_
  refine z_get (v := .ref 13) (by omega) gW_0 fX7_28 rfl dX7_grow_17 ?_
  refine z_get (v := .int ((va_up s (4 + nx) s1) 1 6)) (by omega) gW_13T fX7_178 rfl dX7_grow_20 ?_
  refine z_imul dX7_grow_23 ?_
  rw [show (2 * ((va_up s (4 + nx) s1) 1 6)) = nI (2 * B) from by rw [hTn.six, show (2 : Int32) = nI 2 from rfl, pk_mul]]
  refine z_kV [.int ((nI (2 * B)))] 0 0 kc ks yoX6_buildAnew yvX6_buildAnew rfl (by decide) lX7_189 (by omega) gW_13T rfl rfl (Nat.le_of_ble_eq_true rfl) (Nat.le_of_ble_eq_true rfl) dX7_grow_24 (by omega) (by omega) (z_room (by omega) (Nat.le_refl _) (Nat.le_refl _) (g_grow (d := 0) (t := 1) (S := (B, H, T, K, V, c)) (by decide) rfl (by omega) hTn (fun s2 a2 ea => ⟨rfl, ?_⟩) (fun S' s2 a2 ea hT2 => ⟨rfl, ?_⟩)))
  · refine z_if_ne (tgt := 51) dX7_grow_27 (by decide) (fun czq27 => absurd rfl czq27) (fun czq27 => ?_)
    refine z_aload_n (j := 0) dX7_grow_30 rfl ?_
    refine z_get (v := .ref 31) (by omega) gW_0 fX7_45 rfl dX7_grow_31 ?_
    refine z_aload_n (j := 0) dX7_grow_34 rfl ?_
    refine z_get (v := .ref 13) (by omega) gW_0 fX7_28 rfl dX7_grow_35 ?_
    refine z_kV [.ref 13] 0 0 kc ks yoX2_takeBack yvX2_takeBack rfl (by decide) lX7_132 (by omega) gW_31 rfl rfl (Nat.le_of_ble_eq_true rfl) (Nat.le_of_ble_eq_true rfl) dX7_grow_38 (by omega) (by omega) (z_room (by omega) (Nat.le_refl _) (Nat.le_refl _) (w_takeBack (d := 0) (S := (B, H, T, K, V, c)) hnx (by omega) ho31 (by rw [up_ne (show 4 + nx ≠ 1 by omega), up_ne (show 4 + nx ≠ 1 by omega), up_eq, up_eq]; exact hT1) (fun s3 a3 hT3 => ⟨rfl, ?_⟩)))
    exact z_thr hno (hq 1 0 _ _ _ _ _ _ (by unfold f_grow; simp only [ea] <;> rfl) (hC.back hnx ho31 (by rw [up_eq, up_eq]; exact hT3) (fun t h1 h2 => by rw [up_ne h1, up_ne h1, up_ne h2]) (fun t h1 h2 => by rw [up_ne h1, up_ne h1, up_ne h2])))
  · refine z_if_ne (tgt := 51) dX7_grow_27 (by decide) (fun czq27 => ?_) (fun czq27 => absurd czq27 (by decide))
    refine z_aload_n (j := 0) dX7_grow_51 rfl ?_
    refine z_get (v := .ref 31) (by omega) gW_0 fX7_45 rfl dX7_grow_52 ?_
    refine z_kV [] 0 0 kc ks yoX2_keep yvX2_keep rfl (by decide) lX7_112 (by omega) gW_31 rfl rfl (Nat.le_of_ble_eq_true rfl) (Nat.le_of_ble_eq_true rfl) dX7_grow_55 (by omega) (by omega) (z_room (by omega) (Nat.le_refl _) (Nat.le_refl _) (w_keep (d := 0) hk8 hnx (by omega) ho31 ho32 (fun o1 k31 k32 ko => ⟨rfl, ?_⟩)))
    refine z_aload_n (j := 0) dX7_grow_58 rfl ?_
    refine z_get (v := .ref 13) (by omega) gW_0 fX7_28 rfl dX7_grow_59 ?_
    refine z_get (v := .int ((va_up (va_up s (4 + nx) s1) 1 s2) 1 6)) (by omega) gW_13T fX7_178 rfl dX7_grow_62 ?_
    exact z_iret rfl dX7_grow_65 (by
        rw [show (va_up (va_up s (4 + nx) s1) 1 s2) 1 6 = nI S'.1 from by rw [up_eq]; exact hT2.six]
        exact hq 0 _ _ _ _ _ _ _ (by unfold f_grow; simp only [ea] <;> rfl) (hC.push hnx ho31 (by rw [up_eq, up_eq]; exact hT2) (by rw [up_ne (show 4 + nx ≠ 1 by omega), up_ne (show 4 + nx ≠ 1 by omega), up_eq, up_eq]; exact hT1) (fun t h1 h2 => by rw [up_ne h1, up_ne h2]) (fun t h1 h2 => by rw [up_ne h1, up_ne h2]) k31 k32 ko))

set_option maxHeartbeats 4000000 in
set_option maxRecDepth 100000 in
theorem K_clear {l : zL} {d kc ks n : Nat} {h : Nat → va_E} {cm : Value} {o u : Nat → Nat → Int32} {s : Nat → Nat → Int32} {a : Nat → Nat → Nat → Int32} {g : zGs} {Q : zQ} (hn : 89 ≤ n) (hC : cI g o u s a) (hq : ∀ t v g' cm' o' u' s' a', f_clear g = (t, v, g') → cI g' o' u' s' a' → Q (oc IAE ISE t v) n (gW h cm' o' u' s' a')) : Zj l mX7_clear (d + 8) kc ks 0 [(0, .ref 0)] [] n (gW h cm o u s a) Q := by
  obtain ⟨⟨B, H, T, K, V, c⟩, sv, Sn, k, hi, L, x, ek, eo, rl, rb⟩ := g
  obtain ⟨hT, ho05, hsv, hsn, hk8, ho32, ⟨nx, hnx, ho31, hhi⟩, hL, ho11, hu0, hx256, ho210, ho211, hrl, ho41, hu4, hrb⟩ := id hC
  obtain ⟨hR, ⟨hI, hd3, h3⟩, e9, e10, e11, e12, e13, e14, e15⟩ := id hT
  obtain ⟨okb, h2H, hH6, h1T, hT99, e6, e7, e8, ek_, ev_, eh_, ekv, ez⟩ := id hR
  have hle := okb.le
  refine z_aload_n (j := 0) dX7_clear_0 rfl ?_
  refine z_get (v := .ref 31) (by omega) gW_0 fX7_45 rfl dX7_clear_1 ?_
  refine z_aload_n (j := 0) dX7_clear_4 rfl ?_
  refine z_get (v := .ref 13) (by omega) gW_0 fX7_28 rfl dX7_clear_5 ?_
  refine z_kV [.ref 13] 0 0 kc ks yoX2_mark yvX2_mark rfl (by decide) lX7_102 (by omega) gW_31 rfl rfl (Nat.le_of_ble_eq_true rfl) (Nat.le_of_ble_eq_true rfl) dX7_clear_8 (by omega) (by omega) (z_room (by omega) (Nat.le_refl _) (Nat.le_refl _) (w_mark (d := 0) hnx (by omega) ho31 hT (fun s1 a1 hT1 => ⟨rfl, ?_⟩)))
  have hTn : cT (B, H, T, K, V, c) ((va_up s (4 + nx) s1) 1) ((va_up a (4 + nx) a1) 1) := by
    rw [up_ne (show (1 : Nat) ≠ 4 + nx by omega), up_ne (show (1 : Nat) ≠ 4 + nx by omega)]
    exact hT
  refine z_aload_n (j := 0) dX7_clear_11 rfl ?_
  refine z_get (v := .ref 13) (by omega) gW_0 fX7_28 rfl dX7_clear_12 ?_
  refine z_kV [] 0 0 kc ks yoX6_dropAll yvX6_dropAll rfl (by decide) lX7_192 (by omega) gW_13T rfl rfl (Nat.le_of_ble_eq_true rfl) (Nat.le_of_ble_eq_true rfl) dX7_clear_15 (by omega) (by omega) (z_room (by omega) (Nat.le_refl _) (Nat.le_refl _) (g_dropAll (d := 0) (t := 1) (S := (B, H, T, K, V, c)) (by decide) rfl (by omega) hTn (fun s2 a2 hT2 => ⟨rfl, ?_⟩)))
  refine z_istore_n [1, 0] [(0, .ref 0), (1, .int ((nI (cnt K B))))] dX7_clear_18 (by decide) rfl ?_
  refine z_aload_n (j := 0) dX7_clear_19 rfl ?_
  refine z_get (v := .ref 31) (by omega) gW_0 fX7_45 rfl dX7_clear_20 ?_
  refine z_kV [] 0 0 kc ks yoX2_keep yvX2_keep rfl (by decide) lX7_112 (by omega) gW_31 rfl rfl (Nat.le_of_ble_eq_true rfl) (Nat.le_of_ble_eq_true rfl) dX7_clear_23 (by omega) (by omega) (z_room (by omega) (Nat.le_refl _) (Nat.le_refl _) (w_keep (d := 0) hk8 hnx (by omega) ho31 ho32 (fun o1 k31 k32 ko => ⟨rfl, ?_⟩)))
  refine z_iload_n (j := 1) dX7_clear_26 rfl ?_
  exact z_iret rfl dX7_clear_27 (by
      exact hq 0 _ _ _ _ _ _ _ rfl (hC.push hnx ho31 (by rw [up_eq, up_eq]; exact hT2) (by rw [up_ne (show 4 + nx ≠ 1 by omega), up_ne (show 4 + nx ≠ 1 by omega), up_eq, up_eq]; exact hT1) (fun t h1 h2 => by rw [up_ne h1, up_ne h2]) (fun t h1 h2 => by rw [up_ne h1, up_ne h2]) k31 k32 ko))

set_option maxHeartbeats 4000000 in
set_option maxRecDepth 100000 in
theorem K_setPulling {l : zL} {d kc ks n : Nat} {h : Nat → va_E} {cm : Value} {o u : Nat → Nat → Int32} {s : Nat → Nat → Int32} {a : Nat → Nat → Nat → Int32} {g : zGs} {Q : zQ} {p : Int32} (hp : p = 0 ∨ p = 1) (hn : 89 ≤ n) (hC : cI g o u s a) (hq : ∀ t v g' cm' o' u' s' a', f_setPulling g p = (t, v, g') → cI g' o' u' s' a' → Q (oc IAE ISE t v) n (gW h cm' o' u' s' a')) : Zj l mX7_setPulling (d + 8) kc ks 0 [(0, .ref 0), (1, .int p)] [] n (gW h cm o u s a) Q := by
  obtain ⟨⟨B, H, T, K, V, c⟩, sv, Sn, k, hi, L, x, ek, eo, rl, rb⟩ := g
  obtain ⟨hT, ho05, hsv, hsn, hk8, ho32, ⟨nx, hnx, ho31, hhi⟩, hL, ho11, hu0, hx256, ho210, ho211, hrl, ho41, hu4, hrb⟩ := id hC
  obtain ⟨hR, ⟨hI, hd3, h3⟩, e9, e10, e11, e12, e13, e14, e15⟩ := id hT
  obtain ⟨okb, h2H, hH6, h1T, hT99, e6, e7, e8, ek_, ev_, eh_, ekv, ez⟩ := id hR
  have hle := okb.le
  refine z_aload_n (j := 0) dX7_setPulling_0 rfl ?_
  refine z_get (v := .ref 13) (by omega) gW_0 fX7_28 rfl dX7_setPulling_1 ?_
  refine z_get (v := .int (s 1 9)) (by omega) gW_13T fX7_64 rfl dX7_setPulling_4 ?_
  refine z_istore_n [1, 2, 0] [(0, .ref 0), (1, .int p), (2, .int ((s 1 9)))] dX7_setPulling_7 (by decide) rfl ?_
  refine z_aload_n (j := 0) dX7_setPulling_8 rfl ?_
  refine z_get (v := .ref 31) (by omega) gW_0 fX7_45 rfl dX7_setPulling_9 ?_
  refine z_aload_n (j := 0) dX7_setPulling_12 rfl ?_
  refine z_get (v := .ref 13) (by omega) gW_0 fX7_28 rfl dX7_setPulling_13 ?_
  refine z_kV [.ref 13] 0 0 kc ks yoX2_mark yvX2_mark rfl (by decide) lX7_102 (by omega) gW_31 rfl rfl (Nat.le_of_ble_eq_true rfl) (Nat.le_of_ble_eq_true rfl) dX7_setPulling_16 (by omega) (by omega) (z_room (by omega) (Nat.le_refl _) (Nat.le_refl _) (w_mark (d := 0) hnx (by omega) ho31 hT (fun s1 a1 hT1 => ⟨rfl, ?_⟩)))
  have hTn : cT (B, H, T, K, V, c) ((va_up s (4 + nx) s1) 1) ((va_up a (4 + nx) a1) 1) := by
    rw [up_ne (show (1 : Nat) ≠ 4 + nx by omega), up_ne (show (1 : Nat) ≠ 4 + nx by omega)]
    exact hT
  refine z_aload_n (j := 0) dX7_setPulling_19 rfl ?_
  refine z_get (v := .ref 13) (by omega) gW_0 fX7_28 rfl dX7_setPulling_20 ?_
  refine z_iload_n (j := 1) dX7_setPulling_23 rfl ?_
  have hT2 : cT (sPull (B, H, T, K, V, c) p) (va_up ((va_up s (4 + nx) s1) 1) 9 p) ((va_up a (4 + nx) a1) 1) := hTn.pull hp
  refine g_tput 1 (by decide) rfl hp (by omega) fX7_64 dX7_setPulling_24 ?_
  refine z_aload_n (j := 0) dX7_setPulling_27 rfl ?_
  refine z_get (v := .ref 31) (by omega) gW_0 fX7_45 rfl dX7_setPulling_28 ?_
  refine z_kV [] 0 0 kc ks yoX2_keep yvX2_keep rfl (by decide) lX7_112 (by omega) gW_31 rfl rfl (Nat.le_of_ble_eq_true rfl) (Nat.le_of_ble_eq_true rfl) dX7_setPulling_31 (by omega) (by omega) (z_room (by omega) (Nat.le_refl _) (Nat.le_refl _) (w_keep (d := 0) hk8 hnx (by omega) ho31 ho32 (fun o1 k31 k32 ko => ⟨rfl, ?_⟩)))
  refine z_iload_n (j := 2) dX7_setPulling_34 rfl ?_
  exact z_zret rfl (by rcases h3 with h | h <;> rw [e9, h] <;> rfl) dX7_setPulling_35 (by
      rw [e9]
      exact hq 0 _ _ _ _ _ _ _ rfl (hC.push hnx ho31 (by rw [up_eq]; exact hT2) (by rw [up_ne (show 4 + nx ≠ 1 by omega), up_eq, up_eq]; exact hT1) (fun t h1 h2 => by rw [up_ne h1, up_ne h2]) (fun t h1 h2 => by rw [up_ne h2]) k31 k32 ko))

set_option maxHeartbeats 4000000 in
set_option maxRecDepth 100000 in
theorem K_remove {l : zL} {d kc ks n : Nat} {h : Nat → va_E} {cm : Value} {o u : Nat → Nat → Int32} {s : Nat → Nat → Int32} {a : Nat → Nat → Nat → Int32} {g : zGs} {Q : zQ} {p : Int32} (hn : 89 ≤ n) (hno : ∀ E n' h', ¬ Q (.inr E) n' h') (hC : cI g o u s a) (hq : ∀ t v g' cm' o' u' s' a', f_remove g p = (t, v, g') → cI g' o' u' s' a' → Q (oc NSE ISE t v) n (gW h cm' o' u' s' a')) : Zj l mX7_remove (d + 8) kc ks 0 [(0, .ref 0), (1, .int p)] [] n (gW h cm o u s a) Q := by
  obtain ⟨⟨B, H, T, K, V, c⟩, sv, Sn, k, hi, L, x, ek, eo, rl, rb⟩ := g
  obtain ⟨hT, ho05, hsv, hsn, hk8, ho32, ⟨nx, hnx, ho31, hhi⟩, hL, ho11, hu0, hx256, ho210, ho211, hrl, ho41, hu4, hrb⟩ := id hC
  obtain ⟨hR, ⟨hI, hd3, h3⟩, e9, e10, e11, e12, e13, e14, e15⟩ := id hT
  obtain ⟨okb, h2H, hH6, h1T, hT99, e6, e7, e8, ek_, ev_, eh_, ekv, ez⟩ := id hR
  have hle := okb.le
  refine z_iload_n (j := 1) dX7_remove_0 rfl ?_
  refine z_kS [.int p] 0 0 kc ks yoX7_isKey ysX7_isKey rfl (by decide) lX7_144 rfl (Nat.le_of_ble_eq_true rfl) (Nat.le_of_ble_eq_true rfl) dX7_remove_1 (by omega) (by omega) (z_room (by omega) (Nat.le_refl _) (Nat.le_refl _) (w_isKey (d := 0)  ⟨rfl, ?_⟩))
  refine z_if_eq (tgt := 19) dX7_remove_4 (by decide) (fun czq4 => ?_) (fun czq4 => ?_)
  · exact z_thr hno (hq 1 0 _ _ _ _ _ _ (by unfold f_remove; exact if_neg (bI_0.mp czq4)) hC)
  · have ep := bI_n.mp czq4
    obtain ⟨key, -, hkey, rfl, hkx⟩ := iO_yes 0 9999 (by decide) (by decide) ep
    refine z_aload_n (j := 0) dX7_remove_7 rfl ?_
    refine z_get (v := .ref 13) (by omega) gW_0 fX7_28 rfl dX7_remove_8 ?_
    refine z_iload_n (j := 1) dX7_remove_11 rfl ?_
    refine z_kV [.int ((nI key))] 0 0 kc ks yoX6_bucketWith yvX6_bucketWith rfl (by decide) lX7_124 (by omega) gW_13T rfl rfl (Nat.le_of_ble_eq_true rfl) (Nat.le_of_ble_eq_true rfl) dX7_remove_12 (by omega) (by omega) (z_room (by omega) (Nat.le_refl _) (Nat.le_refl _) (g_find (d := 0) (t := 1) (S := (B, H, T, K, V, c)) (by decide) rfl (by omega) hT hkey (fun hf => ⟨rfl, ?_⟩) (fun b1 hf hb1 hK1 => ⟨rfl, ?_⟩)))
    · refine z_iconst (v := (-1)) dX7_remove_15 (by decide) ?_
      refine z_icmp_ne (tgt := 29) dX7_remove_16 (by decide) (fun czq16 => absurd rfl czq16) (fun czq16 => ?_)
      exact z_thr hno (hq 1 0 _ _ _ _ _ _ (by unfold f_remove; rw [if_pos ep, hkx]; simp only [hf] <;> rfl) hC)
    · have hb1 : b1 < B := hb1
      refine z_iconst (v := (-1)) dX7_remove_15 (by decide) ?_
      refine z_icmp_ne (tgt := 29) dX7_remove_16 (by decide) (fun czq16 => ?_) (fun czq16 => absurd czq16 (nI_neg1 (by omega)))
      refine z_aload_n (j := 0) dX7_remove_29 rfl ?_
      refine z_get (v := .ref 31) (by omega) gW_0 fX7_45 rfl dX7_remove_30 ?_
      refine z_aload_n (j := 0) dX7_remove_33 rfl ?_
      refine z_get (v := .ref 13) (by omega) gW_0 fX7_28 rfl dX7_remove_34 ?_
      refine z_kV [.ref 13] 0 0 kc ks yoX2_mark yvX2_mark rfl (by decide) lX7_102 (by omega) gW_31 rfl rfl (Nat.le_of_ble_eq_true rfl) (Nat.le_of_ble_eq_true rfl) dX7_remove_37 (by omega) (by omega) (z_room (by omega) (Nat.le_refl _) (Nat.le_refl _) (w_mark (d := 0) hnx (by omega) ho31 hT (fun s1 a1 hT1 => ⟨rfl, ?_⟩)))
      have hTn : cT (B, H, T, K, V, c) ((va_up s (4 + nx) s1) 1) ((va_up a (4 + nx) a1) 1) := by
        rw [up_ne (show (1 : Nat) ≠ 4 + nx by omega), up_ne (show (1 : Nat) ≠ 4 + nx by omega)]
        exact hT
      refine z_aload_n (j := 0) dX7_remove_40 rfl ?_
      refine z_get (v := .ref 13) (by omega) gW_0 fX7_28 rfl dX7_remove_41 ?_
      refine z_iload_n (j := 1) dX7_remove_44 rfl ?_
      refine z_kV [.int ((nI key))] 0 0 kc ks yoX6_take yvX6_take rfl (by decide) lX7_67 (by omega) gW_13T rfl rfl (Nat.le_of_ble_eq_true rfl) (Nat.le_of_ble_eq_true rfl) dX7_remove_45 (by omega) (by omega) (z_room (by omega) (Nat.le_refl _) (Nat.le_refl _) (g_take (d := 0) (t := 1) (S := (B, H, T, K, V, c)) (by decide) rfl (by omega) hTn hkey hf (fun s2 a2 hT2 => ⟨rfl, ?_⟩)))
      refine z_istore_n [1, 2, 0] [(0, .ref 0), (1, .int ((nI key))), (2, .int ((nI (V b1))))] dX7_remove_48 (by decide) rfl ?_
      refine z_aload_n (j := 0) dX7_remove_49 rfl ?_
      refine z_get (v := .ref 31) (by omega) gW_0 fX7_45 rfl dX7_remove_50 ?_
      refine z_kV [] 0 0 kc ks yoX2_keep yvX2_keep rfl (by decide) lX7_112 (by omega) gW_31 rfl rfl (Nat.le_of_ble_eq_true rfl) (Nat.le_of_ble_eq_true rfl) dX7_remove_53 (by omega) (by omega) (z_room (by omega) (Nat.le_refl _) (Nat.le_refl _) (w_keep (d := 0) hk8 hnx (by omega) ho31 ho32 (fun o1 k31 k32 ko => ⟨rfl, ?_⟩)))
      refine z_iload_n (j := 2) dX7_remove_56 rfl ?_
      exact z_iret rfl dX7_remove_57 (by
          exact hq 0 _ _ _ _ _ _ _ (by unfold f_remove; rw [if_pos ep, hkx]; simp only [hf] <;> rfl) (hC.push hnx ho31 (by rw [up_eq, up_eq]; exact hT2) (by rw [up_ne (show 4 + nx ≠ 1 by omega), up_ne (show 4 + nx ≠ 1 by omega), up_eq, up_eq]; exact hT1) (fun t h1 h2 => by rw [up_ne h1, up_ne h2]) (fun t h1 h2 => by rw [up_ne h1, up_ne h2]) k31 k32 ko))
