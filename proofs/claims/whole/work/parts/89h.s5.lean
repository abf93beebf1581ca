/-! THE CLASS'S SCRIPT: a command performed -/

set_option maxHeartbeats 4000000 in
set_option maxRecDepth 100000 in
theorem w_perfN {l : zL} {d kc ks n : Nat} {h : Nat → va_E} {o u : Nat → Nat → Int32} {s : Nat → Nat → Int32} {a : Nat → Nat → Nat → Int32} {Q : zQ} (hn : 89 ≤ n) (hq : Q (.inl none) n (gW h .null o u s a)) : Zj l mX5_perform (d + 8) kc ks 0 [(0, .ref 3)] [] n (gW h .null o u s a) Q := by
  refine z_aload_n (j := 0) dX5_perform_0 rfl ?_
  refine z_get (v := .null) (by omega) gW_3 fX5_57 rfl dX5_perform_1 ?_
  refine z_ifnullN (tgt := 14) dX5_perform_4 (by decide) ?_
  exact z_vret rfl dX5_perform_14 (hq)

set_option maxHeartbeats 4000000 in
set_option maxRecDepth 100000 in
theorem w_perfE {l : zL} {d kc ks n : Nat} {h : Nat → va_E} {o u : Nat → Nat → Int32} {s : Nat → Nat → Int32} {a : Nat → Nat → Nat → Int32} {q : Nat} {Q : zQ} (hn : 89 ≤ n) (he : ¬ o 2 10 = 0) (hq : Q (.inl none) n (gW h (.ref q) o u s a)) : Zj l mX5_perform (d + 8) kc ks 0 [(0, .ref 3)] [] n (gW h (.ref q) o u s a) Q := by
  refine z_aload_n (j := 0) dX5_perform_0 rfl ?_
  refine z_get (v := (.ref q)) (by omega) gW_3 fX5_57 rfl dX5_perform_1 ?_
  refine z_ifnull dX5_perform_4 ?_
  refine z_aload_n (j := 0) dX5_perform_7 rfl ?_
  refine z_get (v := .int (o 2 10)) (by omega) gW_3 fX5_54 rfl dX5_perform_8 ?_
  refine z_if_eq (tgt := 15) dX5_perform_11 (by decide) (fun czq11 => absurd czq11 he) (fun czq11 => ?_)
  exact z_vret rfl dX5_perform_14 (hq)

set_option maxHeartbeats 4000000 in
set_option maxRecDepth 100000 in
theorem w_perf0 {l : zL} {d kc ks n : Nat} {h : Nat → va_E} {o u : Nat → Nat → Int32} {s : Nat → Nat → Int32} {a : Nat → Nat → Nat → Int32} {ex off : Nat} {S : zS} {v0 v1 : Nat} {Q : zQ} (hn : 89 ≤ n) (h10 : o 2 10 = 0) (h6 : o 2 6 = nI ex) (h13 : o 1 3 = nI off) (hT : cT S (s 0) (a 0)) (hv0 : u 1 0 = nI v0) (hv1 : u 1 1 = nI v1) (h90 : v0 ≤ 9999) (h91 : v1 ≤ 999) (hqY : ∀ S', (oAdd S v0 v1) = some S' → ∀ o' s' a', o' 2 6 = nI (ex + 1) → (∀ c, c ≠ 2 → o' c = o c) → (∀ j, j ≠ 6 → o' 2 j = o 2 j) → cT S' (s' 0) (a' 0) → (∀ t, t ≠ 0 → s' t = s t) → (∀ t, t ≠ 0 → a' t = a t) → Q (.inl none) n (gW h (.ref (zB + 200 + 0)) o' u s' a')) (hqN : (oAdd S v0 v1) = none → ∀ o' s' a', er o o' 3 off → (∀ t, t ≠ 0 → s' t = s t) → (∀ t, t ≠ 0 → a' t = a t) → Q (.inl none) n (gW h (.ref (zB + 200 + 0)) o' u s' a')) : Zj l mX5_perform (d + 8) kc ks 0 [(0, .ref 3)] [] n (gW h (.ref (zB + 200 + 0)) o u s a) Q := by
  refine z_aload_n (j := 0) dX5_perform_0 rfl ?_
  refine z_get (v := (.ref (zB + 200 + 0))) (by omega) gW_3 fX5_57 rfl dX5_perform_1 ?_
  refine z_ifnull dX5_perform_4 ?_
  refine z_aload_n (j := 0) dX5_perform_7 rfl ?_
  refine z_get (v := .int (o 2 10)) (by omega) gW_3 fX5_54 rfl dX5_perform_8 ?_
  refine z_if_eq (tgt := 15) dX5_perform_11 (by decide) (fun czq11 => ?_) (fun czq11 => absurd h10 czq11)
  refine z_aload_n (j := 0) dX5_perform_15 rfl ?_
  refine z_dup rfl dX5_perform_16 ?_
  refine z_get (v := .int (o 2 6)) (by omega) gW_3 fX5_44 rfl dX5_perform_17 ?_
  refine z_iconst (v := 1) dX5_perform_20 (by decide) ?_
  refine z_iadd dX5_perform_21 ?_
  rw [show ((o 2 6) + 1) = nI (ex + 1) from by rw [h6, nI_1]]
  refine g_put 2 (by decide) (by omega) (by decide) rfl rfl fX5_44 gg5 rfl fin5_6 (by show 6 < 12; decide) dX5_perform_22 ?_
  refine z_aload_n (j := 0) dX5_perform_25 rfl ?_
  refine z_get (v := .ref 10) (by omega) gW_3 fX5_18 rfl dX5_perform_26 ?_
  refine z_iconst (v := 0) dX5_perform_29 (by decide) ?_
  refine g_ald 1 (by decide) rfl (by omega) (show vp_in (nI 0) 3 from vp_in_nI (by decide) (by decide)) dX5_perform_30 ?_
  rw [show (u 1 (0 : Int32).toNatClampNeg) = nI v0 from hv0]
  refine z_istore_n [1, 0] [(0, .ref 3), (1, .int ((nI v0)))] dX5_perform_31 (by decide) rfl ?_
  refine z_aload_n (j := 0) dX5_perform_32 rfl ?_
  refine z_get (v := .ref 10) (by omega) gW_3 fX5_18 rfl dX5_perform_33 ?_
  refine z_iconst (v := 1) dX5_perform_36 (by decide) ?_
  refine g_ald 1 (by decide) rfl (by omega) (show vp_in (nI 1) 3 from vp_in_nI (by decide) (by decide)) dX5_perform_37 ?_
  rw [show (u 1 (1 : Int32).toNatClampNeg) = nI v1 from hv1]
  refine z_istore_n [1, 2, 0] [(0, .ref 3), (1, .int ((nI v0))), (2, .int ((nI v1)))] dX5_perform_38 (by decide) rfl ?_
  refine z_iconst (v := 1) dX5_perform_39 (by decide) ?_
  refine z_istore_n [1, 2, 3, 0] [(0, .ref 3), (1, .int ((nI v0))), (2, .int ((nI v1))), (3, .int 1)] dX5_perform_40 (by decide) rfl ?_
  refine z_gets (v := .ref (zB + 301)) kZ_sw fX5_85 dX5_perform_41 ?_
  refine z_aload_n (j := 0) dX5_perform_44 rfl ?_
  refine z_get (v := (.ref (zB + 200 + 0))) (by omega) gW_3 fX5_57 rfl dX5_perform_45 ?_
  refine z_ord (w := 0) (by decide) (by decide) lX5_90 dX5_perform_48 (by decide) ?_
  refine z_ialdC kT_sw (vp_in_nI (by decide) (by decide)) dX5_perform_51 ?_
  rw [show (swm.getD (nI 0).toNatClampNeg 0) = 1 from rfl]
  refine z_tableIn 48 100 dX5_perform_52 (by decide) (by decide) rfl (by decide) ?_
  refine z_aload_n (j := 0) dX5_perform_100 rfl ?_
  refine z_get (v := .ref 4) (by omega) gW_3 fX5_12 rfl dX5_perform_101 ?_
  refine z_iload_n (j := 1) dX5_perform_104 rfl ?_
  refine z_kV [.int ((nI v0))] 0 0 kc ks yoX6_bucketWith yvX6_bucketWith rfl (by decide) lX5_96 (by omega) gW_4T rfl rfl (Nat.le_of_ble_eq_true rfl) (Nat.le_of_ble_eq_true rfl) dX5_perform_105 (by omega) (by omega) (z_room (by omega) (Nat.le_refl _) (Nat.le_refl _) (g_find (d := 0) (t := 0) (S := S) (by decide) rfl (by omega) hT h90 (fun hf => ⟨rfl, ?_⟩) (fun bk hf hbk hKb => ⟨rfl, ?_⟩)))
  · refine z_iconst (v := (-1)) dX5_perform_108 (by decide) ?_
    refine z_icmp_ne (tgt := 129) dX5_perform_109 (by decide) (fun czq109 => absurd rfl czq109) (fun czq109 => ?_)
    refine z_aload_n (j := 0) dX5_perform_112 rfl ?_
    refine z_get (v := .ref 4) (by omega) gW_3 fX5_12 rfl dX5_perform_113 ?_
    refine z_iload_n (j := 1) dX5_perform_116 rfl ?_
    refine z_iload_n (j := 2) dX5_perform_117 rfl ?_
    refine z_kV [.int ((nI v0)), .int ((nI v1))] 0 0 kc ks yoX6_insert yvX6_insert rfl (by decide) lX5_100 (by omega) gW_4T rfl rfl (Nat.le_of_ble_eq_true rfl) (Nat.le_of_ble_eq_true rfl) dX5_perform_118 (by omega) (by omega) (z_room (by omega) (Nat.le_refl _) (Nat.le_refl _) (g_insert (d := 0) (t := 0) (S := S) (by decide) rfl (by omega) hT h90 h91 hf (fun s1 a1 ea => ⟨rfl, ?_⟩) (fun bk S' s1 a1 ea hT1 hbk => ⟨rfl, ?_⟩)))
    · refine z_iconst (v := (-1)) dX5_perform_121 (by decide) ?_
      refine z_icmp_eq (tgt := 129) dX5_perform_122 (by decide) (fun czq122 => ?_) (fun czq122 => absurd rfl czq122)
      refine z_iconst (v := 0) dX5_perform_129 (by decide) ?_
      refine z_istore_n [1, 2, 3, 0] [(0, .ref 3), (1, .int ((nI v0))), (2, .int ((nI v1))), (3, .int 0)] dX5_perform_130 (by decide) rfl ?_
      refine z_goto (tgt := 264) dX5_perform_131 (by decide) ?_
      refine z_iload_n (j := 3) dX5_perform_264 rfl ?_
      refine z_if_ne (tgt := 273) dX5_perform_265 (by decide) (fun czq265 => absurd czq265 (fun z => z rfl)) (fun czq265 => ?_)
      refine z_aload_n (j := 0) dX5_perform_268 rfl ?_
      refine z_iconst (v := 3) dX5_perform_269 (by decide) ?_
      refine z_kV [.int 3] 0 0 kc ks yoX5_fail yvX5_fail rfl (by decide) lX5_137 (by omega) gW_3 rfl rfl (Nat.le_of_ble_eq_true rfl) (Nat.le_of_ble_eq_true rfl) dX5_perform_270 (by omega) (by omega) (z_room (by omega) (Nat.le_refl _) (Nat.le_refl _) (w_fail (d := 0) (k := 3) (st := off) hn (by rw [up_ne (by decide)]; exact h13) (fun o9 he => ⟨rfl, ?_⟩)))
      exact z_vret rfl dX5_perform_273 (by
          exact hqN (by
            unfold oAdd
            simp only [hf, ea] <;> rfl) _ _ _ (he.of (fun c g1 g2 => up_ne g2) (by rw [up_ne (by decide)])) (fun t ht => up_ne ht) (fun t ht => up_ne ht))
    · have hle2 := hT1.okb.le
      refine z_iconst (v := (-1)) dX5_perform_121 (by decide) ?_
      refine z_icmp_eq (tgt := 129) dX5_perform_122 (by decide) (fun czq122 => absurd czq122 (nI_neg1 (by omega))) (fun czq122 => ?_)
      refine z_iconst (v := 1) dX5_perform_125 (by decide) ?_
      refine z_goto (tgt := 130) dX5_perform_126 (by decide) ?_
      refine z_istore_n [1, 2, 3, 0] [(0, .ref 3), (1, .int ((nI v0))), (2, .int ((nI v1))), (3, .int 1)] dX5_perform_130 (by decide) rfl ?_
      refine z_goto (tgt := 264) dX5_perform_131 (by decide) ?_
      refine z_iload_n (j := 3) dX5_perform_264 rfl ?_
      refine z_if_ne (tgt := 273) dX5_perform_265 (by decide) (fun czq265 => ?_) (fun czq265 => absurd czq265 (by decide))
      exact z_vret rfl dX5_perform_273 (by
          exact hqY _ (by
            unfold oAdd
            simp only [hf, ea] <;> rfl) _ _ _ (by rw [up_eq, up_eq]) (fun c g2 => up_ne g2) (fun j hj => by rw [up_eq, up_ne hj]) (by rw [up_eq, up_eq]; exact hT1) (fun t ht => up_ne ht) (fun t ht => up_ne ht))
  · have okb := hT.okb
    have hle := okb.le
    refine z_iconst (v := (-1)) dX5_perform_108 (by decide) ?_
    refine z_icmp_ne (tgt := 129) dX5_perform_109 (by decide) (fun czq109 => ?_) (fun czq109 => absurd czq109 (nI_neg1 (by omega)))
    refine z_iconst (v := 0) dX5_perform_129 (by decide) ?_
    refine z_istore_n [1, 2, 3, 0] [(0, .ref 3), (1, .int ((nI v0))), (2, .int ((nI v1))), (3, .int 0)] dX5_perform_130 (by decide) rfl ?_
    refine z_goto (tgt := 264) dX5_perform_131 (by decide) ?_
    refine z_iload_n (j := 3) dX5_perform_264 rfl ?_
    refine z_if_ne (tgt := 273) dX5_perform_265 (by decide) (fun czq265 => absurd czq265 (fun z => z rfl)) (fun czq265 => ?_)
    refine z_aload_n (j := 0) dX5_perform_268 rfl ?_
    refine z_iconst (v := 3) dX5_perform_269 (by decide) ?_
    refine z_kV [.int 3] 0 0 kc ks yoX5_fail yvX5_fail rfl (by decide) lX5_137 (by omega) gW_3 rfl rfl (Nat.le_of_ble_eq_true rfl) (Nat.le_of_ble_eq_true rfl) dX5_perform_270 (by omega) (by omega) (z_room (by omega) (Nat.le_refl _) (Nat.le_refl _) (w_fail (d := 0) (k := 3) (st := off) hn (by rw [up_ne (by decide)]; exact h13) (fun o9 he => ⟨rfl, ?_⟩)))
    exact z_vret rfl dX5_perform_273 (by
        exact hqN (by
          unfold oAdd
          simp only [hf] <;> rfl) _ _ _ (he.of (fun c g1 g2 => up_ne g2) (by rw [up_ne (by decide)])) (fun _ _ => rfl) (fun _ _ => rfl))

set_option maxHeartbeats 4000000 in
set_option maxRecDepth 100000 in
theorem w_perf1 {l : zL} {d kc ks n : Nat} {h : Nat → va_E} {o u : Nat → Nat → Int32} {s : Nat → Nat → Int32} {a : Nat → Nat → Nat → Int32} {ex off : Nat} {S : zS} {v0 v1 : Nat} {Q : zQ} (hn : 89 ≤ n) (h10 : o 2 10 = 0) (h6 : o 2 6 = nI ex) (h13 : o 1 3 = nI off) (hT : cT S (s 0) (a 0)) (hv0 : u 1 0 = nI v0) (hv1 : u 1 1 = nI v1) (h90 : v0 ≤ 9999) (h91 : v1 ≤ 999) (hqY : ∀ S', ((sPut S v0 v1).map (·.2)) = some S' → ∀ o' s' a', o' 2 6 = nI (ex + 1) → (∀ c, c ≠ 2 → o' c = o c) → (∀ j, j ≠ 6 → o' 2 j = o 2 j) → cT S' (s' 0) (a' 0) → (∀ t, t ≠ 0 → s' t = s t) → (∀ t, t ≠ 0 → a' t = a t) → Q (.inl none) n (gW h (.ref (zB + 200 + 1)) o' u s' a')) (hqN : ((sPut S v0 v1).map (·.2)) = none → ∀ o' s' a', er o o' 3 off → (∀ t, t ≠ 0 → s' t = s t) → (∀ t, t ≠ 0 → a' t = a t) → Q (.inl none) n (gW h (.ref (zB + 200 + 1)) o' u s' a')) : Zj l mX5_perform (d + 8) kc ks 0 [(0, .ref 3)] [] n (gW h (.ref (zB + 200 + 1)) o u s a) Q := by
  refine z_aload_n (j := 0) dX5_perform_0 rfl ?_
  refine z_get (v := (.ref (zB + 200 + 1))) (by omega) gW_3 fX5_57 rfl dX5_perform_1 ?_
  refine z_ifnull dX5_perform_4 ?_
  refine z_aload_n (j := 0) dX5_perform_7 rfl ?_
  refine z_get (v := .int (o 2 10)) (by omega) gW_3 fX5_54 rfl dX5_perform_8 ?_
  refine z_if_eq (tgt := 15) dX5_perform_11 (by decide) (fun czq11 => ?_) (fun czq11 => absurd h10 czq11)
  refine z_aload_n (j := 0) dX5_perform_15 rfl ?_
  refine z_dup rfl dX5_perform_16 ?_
  refine z_get (v := .int (o 2 6)) (by omega) gW_3 fX5_44 rfl dX5_perform_17 ?_
  refine z_iconst (v := 1) dX5_perform_20 (by decide) ?_
  refine z_iadd dX5_perform_21 ?_
  rw [show ((o 2 6) + 1) = nI (ex + 1) from by rw [h6, nI_1]]
  refine g_put 2 (by decide) (by omega) (by decide) rfl rfl fX5_44 gg5 rfl fin5_6 (by show 6 < 12; decide) dX5_perform_22 ?_
  refine z_aload_n (j := 0) dX5_perform_25 rfl ?_
  refine z_get (v := .ref 10) (by omega) gW_3 fX5_18 rfl dX5_perform_26 ?_
  refine z_iconst (v := 0) dX5_perform_29 (by decide) ?_
  refine g_ald 1 (by decide) rfl (by omega) (show vp_in (nI 0) 3 from vp_in_nI (by decide) (by decide)) dX5_perform_30 ?_
  rw [show (u 1 (0 : Int32).toNatClampNeg) = nI v0 from hv0]
  refine z_istore_n [1, 0] [(0, .ref 3), (1, .int ((nI v0)))] dX5_perform_31 (by decide) rfl ?_
  refine z_aload_n (j := 0) dX5_perform_32 rfl ?_
  refine z_get (v := .ref 10) (by omega) gW_3 fX5_18 rfl dX5_perform_33 ?_
  refine z_iconst (v := 1) dX5_perform_36 (by decide) ?_
  refine g_ald 1 (by decide) rfl (by omega) (show vp_in (nI 1) 3 from vp_in_nI (by decide) (by decide)) dX5_perform_37 ?_
  rw [show (u 1 (1 : Int32).toNatClampNeg) = nI v1 from hv1]
  refine z_istore_n [1, 2, 0] [(0, .ref 3), (1, .int ((nI v0))), (2, .int ((nI v1)))] dX5_perform_38 (by decide) rfl ?_
  refine z_iconst (v := 1) dX5_perform_39 (by decide) ?_
  refine z_istore_n [1, 2, 3, 0] [(0, .ref 3), (1, .int ((nI v0))), (2, .int ((nI v1))), (3, .int 1)] dX5_perform_40 (by decide) rfl ?_
  refine z_gets (v := .ref (zB + 301)) kZ_sw fX5_85 dX5_perform_41 ?_
  refine z_aload_n (j := 0) dX5_perform_44 rfl ?_
  refine z_get (v := (.ref (zB + 200 + 1))) (by omega) gW_3 fX5_57 rfl dX5_perform_45 ?_
  refine z_ord (w := 1) (by decide) (by decide) lX5_90 dX5_perform_48 (by decide) ?_
  refine z_ialdC kT_sw (vp_in_nI (by decide) (by decide)) dX5_perform_51 ?_
  rw [show (swm.getD (nI 1).toNatClampNeg 0) = 2 from rfl]
  refine z_tableIn 82 134 dX5_perform_52 (by decide) (by decide) rfl (by decide) ?_
  refine z_aload_n (j := 0) dX5_perform_134 rfl ?_
  refine z_get (v := .ref 4) (by omega) gW_3 fX5_12 rfl dX5_perform_135 ?_
  refine z_iload_n (j := 1) dX5_perform_138 rfl ?_
  refine z_iload_n (j := 2) dX5_perform_139 rfl ?_
  refine z_kV [.int ((nI v0)), .int ((nI v1))] 0 0 kc ks yoX6_store yvX6_store rfl (by decide) lX5_104 (by omega) gW_4T rfl rfl (Nat.le_of_ble_eq_true rfl) (Nat.le_of_ble_eq_true rfl) dX5_perform_140 (by omega) (by omega) (z_room (by omega) (Nat.le_refl _) (Nat.le_refl _) (g_store (d := 0) (t := 0) (S := S) (by decide) rfl (by omega) hT h90 h91 (fun s1 a1 ea => ⟨rfl, ?_⟩) (fun z S' s1 a1 ea hT1 => ⟨rfl, ?_⟩)))
  · refine z_istore_n [1, 2, 3, 0] [(0, .ref 3), (1, .int ((nI v0))), (2, .int ((nI v1))), (3, .int 0)] dX5_perform_143 (by decide) rfl ?_
    refine z_goto (tgt := 264) dX5_perform_144 (by decide) ?_
    refine z_iload_n (j := 3) dX5_perform_264 rfl ?_
    refine z_if_ne (tgt := 273) dX5_perform_265 (by decide) (fun czq265 => absurd czq265 (fun z => z rfl)) (fun czq265 => ?_)
    refine z_aload_n (j := 0) dX5_perform_268 rfl ?_
    refine z_iconst (v := 3) dX5_perform_269 (by decide) ?_
    refine z_kV [.int 3] 0 0 kc ks yoX5_fail yvX5_fail rfl (by decide) lX5_137 (by omega) gW_3 rfl rfl (Nat.le_of_ble_eq_true rfl) (Nat.le_of_ble_eq_true rfl) dX5_perform_270 (by omega) (by omega) (z_room (by omega) (Nat.le_refl _) (Nat.le_refl _) (w_fail (d := 0) (k := 3) (st := off) hn (by rw [up_ne (by decide)]; exact h13) (fun o9 he => ⟨rfl, ?_⟩)))
    exact z_vret rfl dX5_perform_273 (by
        exact hqN (by rw [ea]; rfl) _ _ _ (he.of (fun c g1 g2 => up_ne g2) (by rw [up_ne (by decide)])) (fun t ht => up_ne ht) (fun t ht => up_ne ht))
  · refine z_istore_n [1, 2, 3, 0] [(0, .ref 3), (1, .int ((nI v0))), (2, .int ((nI v1))), (3, .int 1)] dX5_perform_143 (by decide) rfl ?_
    refine z_goto (tgt := 264) dX5_perform_144 (by decide) ?_
    refine z_iload_n (j := 3) dX5_perform_264 rfl ?_
    refine z_if_ne (tgt := 273) dX5_perform_265 (by decide) (fun czq265 => ?_) (fun czq265 => absurd czq265 (by decide))
    exact z_vret rfl dX5_perform_273 (by
        exact hqY _ (by rw [ea]; rfl) _ _ _ (by rw [up_eq, up_eq]) (fun c g2 => up_ne g2) (fun j hj => by rw [up_eq, up_ne hj]) (by rw [up_eq, up_eq]; exact hT1) (fun t ht => up_ne ht) (fun t ht => up_ne ht))

set_option maxHeartbeats 4000000 in
set_option maxRecDepth 100000 in
theorem w_perf2 {l : zL} {d kc ks n : Nat} {h : Nat → va_E} {o u : Nat → Nat → Int32} {s : Nat → Nat → Int32} {a : Nat → Nat → Nat → Int32} {ex off : Nat} {S : zS} {v0 v1 v2 : Nat} {Q : zQ} (hn : 89 ≤ n) (h10 : o 2 10 = 0) (h6 : o 2 6 = nI ex) (h13 : o 1 3 = nI off) (hT : cT S (s 0) (a 0)) (hv0 : u 1 0 = nI v0) (hv1 : u 1 1 = nI v1) (hv2 : u 1 2 = nI v2) (hks : ∀ i, i < v2 → v0 + i * v1 ≤ 9999) (hct : v2 ≤ 20) (hqY : ∀ S', ((sRow S v0 v1 v2).map (·.2)) = some S' → ∀ o' s' a', o' 2 6 = nI (ex + 1) → (∀ c, c ≠ 2 → o' c = o c) → (∀ j, j ≠ 6 → o' 2 j = o 2 j) → cT S' (s' 0) (a' 0) → (∀ t, t ≠ 0 → s' t = s t) → (∀ t, t ≠ 0 → a' t = a t) → Q (.inl none) n (gW h (.ref (zB + 200 + 2)) o' u s' a')) (hqN : ((sRow S v0 v1 v2).map (·.2)) = none → ∀ o' s' a', er o o' 3 off → (∀ t, t ≠ 0 → s' t = s t) → (∀ t, t ≠ 0 → a' t = a t) → Q (.inl none) n (gW h (.ref (zB + 200 + 2)) o' u s' a')) : Zj l mX5_perform (d + 8) kc ks 0 [(0, .ref 3)] [] n (gW h (.ref (zB + 200 + 2)) o u s a) Q := by
  refine z_aload_n (j := 0) dX5_perform_0 rfl ?_
  refine z_get (v := (.ref (zB + 200 + 2))) (by omega) gW_3 fX5_57 rfl dX5_perform_1 ?_
  refine z_ifnull dX5_perform_4 ?_
  refine z_aload_n (j := 0) dX5_perform_7 rfl ?_
  refine z_get (v := .int (o 2 10)) (by omega) gW_3 fX5_54 rfl dX5_perform_8 ?_
  refine z_if_eq (tgt := 15) dX5_perform_11 (by decide) (fun czq11 => ?_) (fun czq11 => absurd h10 czq11)
  refine z_aload_n (j := 0) dX5_perform_15 rfl ?_
  refine z_dup rfl dX5_perform_16 ?_
  refine z_get (v := .int (o 2 6)) (by omega) gW_3 fX5_44 rfl dX5_perform_17 ?_
  refine z_iconst (v := 1) dX5_perform_20 (by decide) ?_
  refine z_iadd dX5_perform_21 ?_
  rw [show ((o 2 6) + 1) = nI (ex + 1) from by rw [h6, nI_1]]
  refine g_put 2 (by decide) (by omega) (by decide) rfl rfl fX5_44 gg5 rfl fin5_6 (by show 6 < 12; decide) dX5_perform_22 ?_
  refine z_aload_n (j := 0) dX5_perform_25 rfl ?_
  refine z_get (v := .ref 10) (by omega) gW_3 fX5_18 rfl dX5_perform_26 ?_
  refine z_iconst (v := 0) dX5_perform_29 (by decide) ?_
  refine g_ald 1 (by decide) rfl (by omega) (show vp_in (nI 0) 3 from vp_in_nI (by decide) (by decide)) dX5_perform_30 ?_
  rw [show (u 1 (0 : Int32).toNatClampNeg) = nI v0 from hv0]
  refine z_istore_n [1, 0] [(0, .ref 3), (1, .int ((nI v0)))] dX5_perform_31 (by decide) rfl ?_
  refine z_aload_n (j := 0) dX5_perform_32 rfl ?_
  refine z_get (v := .ref 10) (by omega) gW_3 fX5_18 rfl dX5_perform_33 ?_
  refine z_iconst (v := 1) dX5_perform_36 (by decide) ?_
  refine g_ald 1 (by decide) rfl (by omega) (show vp_in (nI 1) 3 from vp_in_nI (by decide) (by decide)) dX5_perform_37 ?_
  rw [show (u 1 (1 : Int32).toNatClampNeg) = nI v1 from hv1]
  refine z_istore_n [1, 2, 0] [(0, .ref 3), (1, .int ((nI v0))), (2, .int ((nI v1)))] dX5_perform_38 (by decide) rfl ?_
  refine z_iconst (v := 1) dX5_perform_39 (by decide) ?_
  refine z_istore_n [1, 2, 3, 0] [(0, .ref 3), (1, .int ((nI v0))), (2, .int ((nI v1))), (3, .int 1)] dX5_perform_40 (by decide) rfl ?_
  refine z_gets (v := .ref (zB + 301)) kZ_sw fX5_85 dX5_perform_41 ?_
  refine z_aload_n (j := 0) dX5_perform_44 rfl ?_
  refine z_get (v := (.ref (zB + 200 + 2))) (by omega) gW_3 fX5_57 rfl dX5_perform_45 ?_
  refine z_ord (w := 2) (by decide) (by decide) lX5_90 dX5_perform_48 (by decide) ?_
  refine z_ialdC kT_sw (vp_in_nI (by decide) (by decide)) dX5_perform_51 ?_
  rw [show (swm.getD (nI 2).toNatClampNeg 0) = 3 from rfl]
  refine z_tableIn 95 147 dX5_perform_52 (by decide) (by decide) rfl (by decide) ?_
  refine z_aload_n (j := 0) dX5_perform_147 rfl ?_
  refine z_get (v := .ref 4) (by omega) gW_3 fX5_12 rfl dX5_perform_148 ?_
  refine z_iload_n (j := 1) dX5_perform_151 rfl ?_
  refine z_iload_n (j := 2) dX5_perform_152 rfl ?_
  refine z_aload_n (j := 0) dX5_perform_153 rfl ?_
  refine z_get (v := .ref 10) (by omega) gW_3 fX5_18 rfl dX5_perform_154 ?_
  refine z_iconst (v := 2) dX5_perform_157 (by decide) ?_
  refine g_ald 1 (by decide) rfl (by omega) (show vp_in (nI 2) 3 from vp_in_nI (by decide) (by decide)) dX5_perform_158 ?_
  rw [show (u 1 (2 : Int32).toNatClampNeg) = nI v2 from hv2]
  refine z_kV [.int ((nI v0)), .int ((nI v1)), .int ((nI v2))] 0 0 kc ks yoX6_insertRow yvX6_insertRow rfl (by decide) lX5_108 (by omega) gW_4T rfl rfl (Nat.le_of_ble_eq_true rfl) (Nat.le_of_ble_eq_true rfl) dX5_perform_159 (by omega) (by omega) (z_room (by omega) (Nat.le_refl _) (Nat.le_refl _) (g_insertRow (d := 0) (t := 0) (S := S) (by decide) rfl (by omega) hT hks hct (fun s1 a1 ea => ⟨rfl, ?_⟩) (fun j S' s1 a1 ea hT1 => ⟨rfl, ?_⟩)))
  · refine z_iconst (v := (-1)) dX5_perform_162 (by decide) ?_
    refine z_icmp_eq (tgt := 170) dX5_perform_163 (by decide) (fun czq163 => ?_) (fun czq163 => absurd rfl czq163)
    refine z_iconst (v := 0) dX5_perform_170 (by decide) ?_
    refine z_istore_n [1, 2, 3, 0] [(0, .ref 3), (1, .int ((nI v0))), (2, .int ((nI v1))), (3, .int 0)] dX5_perform_171 (by decide) rfl ?_
    refine z_goto (tgt := 264) dX5_perform_172 (by decide) ?_
    refine z_iload_n (j := 3) dX5_perform_264 rfl ?_
    refine z_if_ne (tgt := 273) dX5_perform_265 (by decide) (fun czq265 => absurd czq265 (fun z => z rfl)) (fun czq265 => ?_)
    refine z_aload_n (j := 0) dX5_perform_268 rfl ?_
    refine z_iconst (v := 3) dX5_perform_269 (by decide) ?_
    refine z_kV [.int 3] 0 0 kc ks yoX5_fail yvX5_fail rfl (by decide) lX5_137 (by omega) gW_3 rfl rfl (Nat.le_of_ble_eq_true rfl) (Nat.le_of_ble_eq_true rfl) dX5_perform_270 (by omega) (by omega) (z_room (by omega) (Nat.le_refl _) (Nat.le_refl _) (w_fail (d := 0) (k := 3) (st := off) hn (by rw [up_ne (by decide)]; exact h13) (fun o9 he => ⟨rfl, ?_⟩)))
    exact z_vret rfl dX5_perform_273 (by
        exact hqN (by rw [ea]; rfl) _ _ _ (he.of (fun c g1 g2 => up_ne g2) (by rw [up_ne (by decide)])) (fun t ht => up_ne ht) (fun t ht => up_ne ht))
  · have hj20 := sRow_j ea
    refine z_iconst (v := (-1)) dX5_perform_162 (by decide) ?_
    refine z_icmp_eq (tgt := 170) dX5_perform_163 (by decide) (fun czq163 => absurd czq163 (nI_neg1 (by omega))) (fun czq163 => ?_)
    refine z_iconst (v := 1) dX5_perform_166 (by decide) ?_
    refine z_goto (tgt := 171) dX5_perform_167 (by decide) ?_
    refine z_istore_n [1, 2, 3, 0] [(0, .ref 3), (1, .int ((nI v0))), (2, .int ((nI v1))), (3, .int 1)] dX5_perform_171 (by decide) rfl ?_
    refine z_goto (tgt := 264) dX5_perform_172 (by decide) ?_
    refine z_iload_n (j := 3) dX5_perform_264 rfl ?_
    refine z_if_ne (tgt := 273) dX5_perform_265 (by decide) (fun czq265 => ?_) (fun czq265 => absurd czq265 (by decide))
    exact z_vret rfl dX5_perform_273 (by
        exact hqY _ (by rw [ea]; rfl) _ _ _ (by rw [up_eq, up_eq]) (fun c g2 => up_ne g2) (fun j hj => by rw [up_eq, up_ne hj]) (by rw [up_eq, up_eq]; exact hT1) (fun t ht => up_ne ht) (fun t ht => up_ne ht))

set_option maxHeartbeats 4000000 in
set_option maxRecDepth 100000 in
theorem w_perf3 {l : zL} {d kc ks n : Nat} {h : Nat → va_E} {o u : Nat → Nat → Int32} {s : Nat → Nat → Int32} {a : Nat → Nat → Nat → Int32} {ex off : Nat} {S : zS} {v0 : Nat} {Q : zQ} (hn : 89 ≤ n) (h10 : o 2 10 = 0) (h6 : o 2 6 = nI ex) (h13 : o 1 3 = nI off) (hT : cT S (s 0) (a 0)) (hv0 : u 1 0 = nI v0) (h90 : v0 ≤ 9999) (hk0 : (sFind S v0).isSome = true) (hqY : ∀ S', (oRem S v0) = some S' → ∀ o' s' a', o' 2 6 = nI (ex + 1) → (∀ c, c ≠ 2 → o' c = o c) → (∀ j, j ≠ 6 → o' 2 j = o 2 j) → cT S' (s' 0) (a' 0) → (∀ t, t ≠ 0 → s' t = s t) → (∀ t, t ≠ 0 → a' t = a t) → Q (.inl none) n (gW h (.ref (zB + 200 + 3)) o' u s' a')) (hqN : (oRem S v0) = none → ∀ o' s' a', er o o' 3 off → (∀ t, t ≠ 0 → s' t = s t) → (∀ t, t ≠ 0 → a' t = a t) → Q (.inl none) n (gW h (.ref (zB + 200 + 3)) o' u s' a')) : Zj l mX5_perform (d + 8) kc ks 0 [(0, .ref 3)] [] n (gW h (.ref (zB + 200 + 3)) o u s a) Q := by
  refine z_aload_n (j := 0) dX5_perform_0 rfl ?_
  refine z_get (v := (.ref (zB + 200 + 3))) (by omega) gW_3 fX5_57 rfl dX5_perform_1 ?_
  refine z_ifnull dX5_perform_4 ?_
  refine z_aload_n (j := 0) dX5_perform_7 rfl ?_
  refine z_get (v := .int (o 2 10)) (by omega) gW_3 fX5_54 rfl dX5_perform_8 ?_
  refine z_if_eq (tgt := 15) dX5_perform_11 (by decide) (fun czq11 => ?_) (fun czq11 => absurd h10 czq11)
  refine z_aload_n (j := 0) dX5_perform_15 rfl ?_
  refine z_dup rfl dX5_perform_16 ?_
  refine z_get (v := .int (o 2 6)) (by omega) gW_3 fX5_44 rfl dX5_perform_17 ?_
  refine z_iconst (v := 1) dX5_perform_20 (by decide) ?_
  refine z_iadd dX5_perform_21 ?_
  rw [show ((o 2 6) + 1) = nI (ex + 1) from by rw [h6, nI_1]]
  refine g_put 2 (by decide) (by omega) (by decide) rfl rfl fX5_44 gg5 rfl fin5_6 (by show 6 < 12; decide) dX5_perform_22 ?_
  refine z_aload_n (j := 0) dX5_perform_25 rfl ?_
  refine z_get (v := .ref 10) (by omega) gW_3 fX5_18 rfl dX5_perform_26 ?_
  refine z_iconst (v := 0) dX5_perform_29 (by decide) ?_
  refine g_ald 1 (by decide) rfl (by omega) (show vp_in (nI 0) 3 from vp_in_nI (by decide) (by decide)) dX5_perform_30 ?_
  rw [show (u 1 (0 : Int32).toNatClampNeg) = nI v0 from hv0]
  refine z_istore_n [1, 0] [(0, .ref 3), (1, .int ((nI v0)))] dX5_perform_31 (by decide) rfl ?_
  refine z_aload_n (j := 0) dX5_perform_32 rfl ?_
  refine z_get (v := .ref 10) (by omega) gW_3 fX5_18 rfl dX5_perform_33 ?_
  refine z_iconst (v := 1) dX5_perform_36 (by decide) ?_
  refine g_ald 1 (by decide) rfl (by omega) (show vp_in (nI 1) 3 from vp_in_nI (by decide) (by decide)) dX5_perform_37 ?_
  skip
  refine z_istore_n [1, 2, 0] [(0, .ref 3), (1, .int ((nI v0))), (2, .int ((u 1 (1 : Int32).toNatClampNeg)))] dX5_perform_38 (by decide) rfl ?_
  refine z_iconst (v := 1) dX5_perform_39 (by decide) ?_
  refine z_istore_n [1, 2, 3, 0] [(0, .ref 3), (1, .int ((nI v0))), (2, .int ((u 1 (1 : Int32).toNatClampNeg))), (3, .int 1)] dX5_perform_40 (by decide) rfl ?_
  refine z_gets (v := .ref (zB + 301)) kZ_sw fX5_85 dX5_perform_41 ?_
  refine z_aload_n (j := 0) dX5_perform_44 rfl ?_
  refine z_get (v := (.ref (zB + 200 + 3))) (by omega) gW_3 fX5_57 rfl dX5_perform_45 ?_
  refine z_ord (w := 3) (by decide) (by decide) lX5_90 dX5_perform_48 (by decide) ?_
  refine z_ialdC kT_sw (vp_in_nI (by decide) (by decide)) dX5_perform_51 ?_
  rw [show (swm.getD (nI 3).toNatClampNeg 0) = 4 from rfl]
  refine z_tableIn 123 175 dX5_perform_52 (by decide) (by decide) rfl (by decide) ?_
  obtain ⟨bk, hf⟩ := Option.isSome_iff_exists.mp hk0
  refine z_aload_n (j := 0) dX5_perform_175 rfl ?_
  refine z_get (v := .ref 4) (by omega) gW_3 fX5_12 rfl dX5_perform_176 ?_
  refine z_iload_n (j := 1) dX5_perform_179 rfl ?_
  refine z_kV [.int ((nI v0))] 0 0 kc ks yoX6_take yvX6_take rfl (by decide) lX5_112 (by omega) gW_4T rfl rfl (Nat.le_of_ble_eq_true rfl) (Nat.le_of_ble_eq_true rfl) dX5_perform_180 (by omega) (by omega) (z_room (by omega) (Nat.le_refl _) (Nat.le_refl _) (g_take (d := 0) (t := 0) (S := S) (by decide) rfl (by omega) hT h90 hf (fun s1 a1 hT1 => ⟨rfl, ?_⟩)))
  refine z_pop rfl dX5_perform_183 ?_
  refine z_goto (tgt := 264) dX5_perform_184 (by decide) ?_
  refine z_iload_n (j := 3) dX5_perform_264 rfl ?_
  refine z_if_ne (tgt := 273) dX5_perform_265 (by decide) (fun czq265 => ?_) (fun czq265 => absurd czq265 (by decide))
  exact z_vret rfl dX5_perform_273 (by
      exact hqY _ (by unfold oRem; rw [hf]; rfl) _ _ _ (by rw [up_eq, up_eq]) (fun c g2 => up_ne g2) (fun j hj => by rw [up_eq, up_ne hj]) (by rw [up_eq, up_eq]; exact hT1) (fun t ht => up_ne ht) (fun t ht => up_ne ht))

set_option maxHeartbeats 4000000 in
set_option maxRecDepth 100000 in
theorem w_perf4 {l : zL} {d kc ks n : Nat} {h : Nat → va_E} {o u : Nat → Nat → Int32} {s : Nat → Nat → Int32} {a : Nat → Nat → Nat → Int32} {ex off : Nat} {S : zS} {v0 : Nat} {Q : zQ} (hn : 89 ≤ n) (h10 : o 2 10 = 0) (h6 : o 2 6 = nI ex) (h13 : o 1 3 = nI off) (hT : cT S (s 0) (a 0)) (hv0 : u 1 0 = nI v0) (hr1 : 2 ≤ v0) (hr2 : v0 ≤ 6) (hqY : ∀ S', (sNear S v0) = some S' → ∀ o' s' a', o' 2 6 = nI (ex + 1) → (∀ c, c ≠ 2 → o' c = o c) → (∀ j, j ≠ 6 → o' 2 j = o 2 j) → cT S' (s' 0) (a' 0) → (∀ t, t ≠ 0 → s' t = s t) → (∀ t, t ≠ 0 → a' t = a t) → Q (.inl none) n (gW h (.ref (zB + 200 + 4)) o' u s' a')) (hqN : (sNear S v0) = none → ∀ o' s' a', er o o' 3 off → (∀ t, t ≠ 0 → s' t = s t) → (∀ t, t ≠ 0 → a' t = a t) → Q (.inl none) n (gW h (.ref (zB + 200 + 4)) o' u s' a')) : Zj l mX5_perform (d + 8) kc ks 0 [(0, .ref 3)] [] n (gW h (.ref (zB + 200 + 4)) o u s a) Q := by
  refine z_aload_n (j := 0) dX5_perform_0 rfl ?_
  refine z_get (v := (.ref (zB + 200 + 4))) (by omega) gW_3 fX5_57 rfl dX5_perform_1 ?_
  refine z_ifnull dX5_perform_4 ?_
  refine z_aload_n (j := 0) dX5_perform_7 rfl ?_
  refine z_get (v := .int (o 2 10)) (by omega) gW_3 fX5_54 rfl dX5_perform_8 ?_
  refine z_if_eq (tgt := 15) dX5_perform_11 (by decide) (fun czq11 => ?_) (fun czq11 => absurd h10 czq11)
  refine z_aload_n (j := 0) dX5_perform_15 rfl ?_
  refine z_dup rfl dX5_perform_16 ?_
  refine z_get (v := .int (o 2 6)) (by omega) gW_3 fX5_44 rfl dX5_perform_17 ?_
  refine z_iconst (v := 1) dX5_perform_20 (by decide) ?_
  refine z_iadd dX5_perform_21 ?_
  rw [show ((o 2 6) + 1) = nI (ex + 1) from by rw [h6, nI_1]]
  refine g_put 2 (by decide) (by omega) (by decide) rfl rfl fX5_44 gg5 rfl fin5_6 (by show 6 < 12; decide) dX5_perform_22 ?_
  refine z_aload_n (j := 0) dX5_perform_25 rfl ?_
  refine z_get (v := .ref 10) (by omega) gW_3 fX5_18 rfl dX5_perform_26 ?_
  refine z_iconst (v := 0) dX5_perform_29 (by decide) ?_
  refine g_ald 1 (by decide) rfl (by omega) (show vp_in (nI 0) 3 from vp_in_nI (by decide) (by decide)) dX5_perform_30 ?_
  rw [show (u 1 (0 : Int32).toNatClampNeg) = nI v0 from hv0]
  refine z_istore_n [1, 0] [(0, .ref 3), (1, .int ((nI v0)))] dX5_perform_31 (by decide) rfl ?_
  refine z_aload_n (j := 0) dX5_perform_32 rfl ?_
  refine z_get (v := .ref 10) (by omega) gW_3 fX5_18 rfl dX5_perform_33 ?_
  refine z_iconst (v := 1) dX5_perform_36 (by decide) ?_
  refine g_ald 1 (by decide) rfl (by omega) (show vp_in (nI 1) 3 from vp_in_nI (by decide) (by decide)) dX5_perform_37 ?_
  skip
  refine z_istore_n [1, 2, 0] [(0, .ref 3), (1, .int ((nI v0))), (2, .int ((u 1 (1 : Int32).toNatClampNeg)))] dX5_perform_38 (by decide) rfl ?_
  refine z_iconst (v := 1) dX5_perform_39 (by decide) ?_
  refine z_istore_n [1, 2, 3, 0] [(0, .ref 3), (1, .int ((nI v0))), (2, .int ((u 1 (1 : Int32).toNatClampNeg))), (3, .int 1)] dX5_perform_40 (by decide) rfl ?_
  refine z_gets (v := .ref (zB + 301)) kZ_sw fX5_85 dX5_perform_41 ?_
  refine z_aload_n (j := 0) dX5_perform_44 rfl ?_
  refine z_get (v := (.ref (zB + 200 + 4))) (by omega) gW_3 fX5_57 rfl dX5_perform_45 ?_
  refine z_ord (w := 4) (by decide) (by decide) lX5_90 dX5_perform_48 (by decide) ?_
  refine z_ialdC kT_sw (vp_in_nI (by decide) (by decide)) dX5_perform_51 ?_
  rw [show (swm.getD (nI 4).toNatClampNeg 0) = 5 from rfl]
  refine z_tableIn 135 187 dX5_perform_52 (by decide) (by decide) rfl (by decide) ?_
  refine z_aload_n (j := 0) dX5_perform_187 rfl ?_
  refine z_get (v := .ref 4) (by omega) gW_3 fX5_12 rfl dX5_perform_188 ?_
  refine z_iload_n (j := 1) dX5_perform_191 rfl ?_
  refine z_kV [.int ((nI v0))] 0 0 kc ks yoX6_changeNear yvX6_changeNear rfl (by decide) lX5_115 (by omega) gW_4T rfl rfl (Nat.le_of_ble_eq_true rfl) (Nat.le_of_ble_eq_true rfl) dX5_perform_192 (by omega) (by omega) (z_room (by omega) (Nat.le_refl _) (Nat.le_refl _) (g_near (d := 0) (t := 0) (S := S) (by decide) rfl (by omega) hT hr1 hr2 (fun s1 a1 ea => ⟨rfl, ?_⟩) (fun S' s1 a1 ea hT1 => ⟨rfl, ?_⟩)))
  · refine z_istore_n [1, 2, 3, 0] [(0, .ref 3), (1, .int ((nI v0))), (2, .int ((u 1 (1 : Int32).toNatClampNeg))), (3, .int 0)] dX5_perform_195 (by decide) rfl ?_
    refine z_goto (tgt := 264) dX5_perform_196 (by decide) ?_
    refine z_iload_n (j := 3) dX5_perform_264 rfl ?_
    refine z_if_ne (tgt := 273) dX5_perform_265 (by decide) (fun czq265 => absurd czq265 (fun z => z rfl)) (fun czq265 => ?_)
    refine z_aload_n (j := 0) dX5_perform_268 rfl ?_
    refine z_iconst (v := 3) dX5_perform_269 (by decide) ?_
    refine z_kV [.int 3] 0 0 kc ks yoX5_fail yvX5_fail rfl (by decide) lX5_137 (by omega) gW_3 rfl rfl (Nat.le_of_ble_eq_true rfl) (Nat.le_of_ble_eq_true rfl) dX5_perform_270 (by omega) (by omega) (z_room (by omega) (Nat.le_refl _) (Nat.le_refl _) (w_fail (d := 0) (k := 3) (st := off) hn (by rw [up_ne (by decide)]; exact h13) (fun o9 he => ⟨rfl, ?_⟩)))
    exact z_vret rfl dX5_perform_273 (by
        exact hqN (ea) _ _ _ (he.of (fun c g1 g2 => up_ne g2) (by rw [up_ne (by decide)])) (fun t ht => up_ne ht) (fun t ht => up_ne ht))
  · refine z_istore_n [1, 2, 3, 0] [(0, .ref 3), (1, .int ((nI v0))), (2, .int ((u 1 (1 : Int32).toNatClampNeg))), (3, .int 1)] dX5_perform_195 (by decide) rfl ?_
    refine z_goto (tgt := 264) dX5_perform_196 (by decide) ?_
    refine z_iload_n (j := 3) dX5_perform_264 rfl ?_
    refine z_if_ne (tgt := 273) dX5_perform_265 (by decide) (fun czq265 => ?_) (fun czq265 => absurd czq265 (by decide))
    exact z_vret rfl dX5_perform_273 (by
        exact hqY _ (ea) _ _ _ (by rw [up_eq, up_eq]) (fun c g2 => up_ne g2) (fun j hj => by rw [up_eq, up_ne hj]) (by rw [up_eq, up_eq]; exact hT1) (fun t ht => up_ne ht) (fun t ht => up_ne ht))

set_option maxHeartbeats 4000000 in
set_option maxRecDepth 100000 in
theorem w_perf5 {l : zL} {d kc ks n : Nat} {h : Nat → va_E} {o u : Nat → Nat → Int32} {s : Nat → Nat → Int32} {a : Nat → Nat → Nat → Int32} {ex off : Nat} {S : zS} {v0 : Nat} {Q : zQ} (hn : 89 ≤ n) (h10 : o 2 10 = 0) (h6 : o 2 6 = nI ex) (h13 : o 1 3 = nI off) (hT : cT S (s 0) (a 0)) (hv0 : u 1 0 = nI v0) (hr1 : 1 ≤ v0) (hr2 : v0 ≤ 99) (hqY : ∀ S', (sTimes S v0) = some S' → ∀ o' s' a', o' 2 6 = nI (ex + 1) → (∀ c, c ≠ 2 → o' c = o c) → (∀ j, j ≠ 6 → o' 2 j = o 2 j) → cT S' (s' 0) (a' 0) → (∀ t, t ≠ 0 → s' t = s t) → (∀ t, t ≠ 0 → a' t = a t) → Q (.inl none) n (gW h (.ref (zB + 200 + 5)) o' u s' a')) (hqN : (sTimes S v0) = none → ∀ o' s' a', er o o' 3 off → (∀ t, t ≠ 0 → s' t = s t) → (∀ t, t ≠ 0 → a' t = a t) → Q (.inl none) n (gW h (.ref (zB + 200 + 5)) o' u s' a')) : Zj l mX5_perform (d + 8) kc ks 0 [(0, .ref 3)] [] n (gW h (.ref (zB + 200 + 5)) o u s a) Q := by
  refine z_aload_n (j := 0) dX5_perform_0 rfl ?_
  refine z_get (v := (.ref (zB + 200 + 5))) (by omega) gW_3 fX5_57 rfl dX5_perform_1 ?_
  refine z_ifnull dX5_perform_4 ?_
  refine z_aload_n (j := 0) dX5_perform_7 rfl ?_
  refine z_get (v := .int (o 2 10)) (by omega) gW_3 fX5_54 rfl dX5_perform_8 ?_
  refine z_if_eq (tgt := 15) dX5_perform_11 (by decide) (fun czq11 => ?_) (fun czq11 => absurd h10 czq11)
  refine z_aload_n (j := 0) dX5_perform_15 rfl ?_
  refine z_dup rfl dX5_perform_16 ?_
  refine z_get (v := .int (o 2 6)) (by omega) gW_3 fX5_44 rfl dX5_perform_17 ?_
  refine z_iconst (v := 1) dX5_perform_20 (by decide) ?_
  refine z_iadd dX5_perform_21 ?_
  rw [show ((o 2 6) + 1) = nI (ex + 1) from by rw [h6, nI_1]]
  refine g_put 2 (by decide) (by omega) (by decide) rfl rfl fX5_44 gg5 rfl fin5_6 (by show 6 < 12; decide) dX5_perform_22 ?_
  refine z_aload_n (j := 0) dX5_perform_25 rfl ?_
  refine z_get (v := .ref 10) (by omega) gW_3 fX5_18 rfl dX5_perform_26 ?_
  refine z_iconst (v := 0) dX5_perform_29 (by decide) ?_
  refine g_ald 1 (by decide) rfl (by omega) (show vp_in (nI 0) 3 from vp_in_nI (by decide) (by decide)) dX5_perform_30 ?_
  rw [show (u 1 (0 : Int32).toNatClampNeg) = nI v0 from hv0]
  refine z_istore_n [1, 0] [(0, .ref 3), (1, .int ((nI v0)))] dX5_perform_31 (by decide) rfl ?_
  refine z_aload_n (j := 0) dX5_perform_32 rfl ?_
  refine z_get (v := .ref 10) (by omega) gW_3 fX5_18 rfl dX5_perform_33 ?_
  refine z_iconst (v := 1) dX5_perform_36 (by decide) ?_
  refine g_ald 1 (by decide) rfl (by omega) (show vp_in (nI 1) 3 from vp_in_nI (by decide) (by decide)) dX5_perform_37 ?_
  skip
  refine z_istore_n [1, 2, 0] [(0, .ref 3), (1, .int ((nI v0))), (2, .int ((u 1 (1 : Int32).toNatClampNeg)))] dX5_perform_38 (by decide) rfl ?_
  refine z_iconst (v := 1) dX5_perform_39 (by decide) ?_
  refine z_istore_n [1, 2, 3, 0] [(0, .ref 3), (1, .int ((nI v0))), (2, .int ((u 1 (1 : Int32).toNatClampNeg))), (3, .int 1)] dX5_perform_40 (by decide) rfl ?_
  refine z_gets (v := .ref (zB + 301)) kZ_sw fX5_85 dX5_perform_41 ?_
  refine z_aload_n (j := 0) dX5_perform_44 rfl ?_
  refine z_get (v := (.ref (zB + 200 + 5))) (by omega) gW_3 fX5_57 rfl dX5_perform_45 ?_
  refine z_ord (w := 5) (by decide) (by decide) lX5_90 dX5_perform_48 (by decide) ?_
  refine z_ialdC kT_sw (vp_in_nI (by decide) (by decide)) dX5_perform_51 ?_
  rw [show (swm.getD (nI 5).toNatClampNeg 0) = 6 from rfl]
  refine z_tableIn 147 199 dX5_perform_52 (by decide) (by decide) rfl (by decide) ?_
  refine z_aload_n (j := 0) dX5_perform_199 rfl ?_
  refine z_get (v := .ref 4) (by omega) gW_3 fX5_12 rfl dX5_perform_200 ?_
  refine z_iload_n (j := 1) dX5_perform_203 rfl ?_
  refine z_kV [.int ((nI v0))] 0 0 kc ks yoX6_changeTimes yvX6_changeTimes rfl (by decide) lX5_119 (by omega) gW_4T rfl rfl (Nat.le_of_ble_eq_true rfl) (Nat.le_of_ble_eq_true rfl) dX5_perform_204 (by omega) (by omega) (z_room (by omega) (Nat.le_refl _) (Nat.le_refl _) (g_times (d := 0) (t := 0) (S := S) (by decide) rfl (by omega) hT hr1 hr2 (fun s1 a1 ea => ⟨rfl, ?_⟩) (fun S' s1 a1 ea hT1 => ⟨rfl, ?_⟩)))
  · refine z_istore_n [1, 2, 3, 0] [(0, .ref 3), (1, .int ((nI v0))), (2, .int ((u 1 (1 : Int32).toNatClampNeg))), (3, .int 0)] dX5_perform_207 (by decide) rfl ?_
    refine z_goto (tgt := 264) dX5_perform_208 (by decide) ?_
    refine z_iload_n (j := 3) dX5_perform_264 rfl ?_
    refine z_if_ne (tgt := 273) dX5_perform_265 (by decide) (fun czq265 => absurd czq265 (fun z => z rfl)) (fun czq265 => ?_)
    refine z_aload_n (j := 0) dX5_perform_268 rfl ?_
    refine z_iconst (v := 3) dX5_perform_269 (by decide) ?_
    refine z_kV [.int 3] 0 0 kc ks yoX5_fail yvX5_fail rfl (by decide) lX5_137 (by omega) gW_3 rfl rfl (Nat.le_of_ble_eq_true rfl) (Nat.le_of_ble_eq_true rfl) dX5_perform_270 (by omega) (by omega) (z_room (by omega) (Nat.le_refl _) (Nat.le_refl _) (w_fail (d := 0) (k := 3) (st := off) hn (by rw [up_ne (by decide)]; exact h13) (fun o9 he => ⟨rfl, ?_⟩)))
    exact z_vret rfl dX5_perform_273 (by
        exact hqN (ea) _ _ _ (he.of (fun c g1 g2 => up_ne g2) (by rw [up_ne (by decide)])) (fun t ht => up_ne ht) (fun t ht => up_ne ht))
  · refine z_istore_n [1, 2, 3, 0] [(0, .ref 3), (1, .int ((nI v0))), (2, .int ((u 1 (1 : Int32).toNatClampNeg))), (3, .int 1)] dX5_perform_207 (by decide) rfl ?_
    refine z_goto (tgt := 264) dX5_perform_208 (by decide) ?_
    refine z_iload_n (j := 3) dX5_perform_264 rfl ?_
    refine z_if_ne (tgt := 273) dX5_perform_265 (by decide) (fun czq265 => ?_) (fun czq265 => absurd czq265 (by decide))
    exact z_vret rfl dX5_perform_273 (by
        exact hqY _ (ea) _ _ _ (by rw [up_eq, up_eq]) (fun c g2 => up_ne g2) (fun j hj => by rw [up_eq, up_ne hj]) (by rw [up_eq, up_eq]; exact hT1) (fun t ht => up_ne ht) (fun t ht => up_ne ht))

set_option maxHeartbeats 4000000 in
set_option maxRecDepth 100000 in
theorem w_perf6 {l : zL} {d kc ks n : Nat} {h : Nat → va_E} {o u : Nat → Nat → Int32} {s : Nat → Nat → Int32} {a : Nat → Nat → Nat → Int32} {ex off : Nat} {S : zS} {Q : zQ} (hn : 89 ≤ n) (h10 : o 2 10 = 0) (h6 : o 2 6 = nI ex) (h13 : o 1 3 = nI off) (hT : cT S (s 0) (a 0))   (hqY : ∀ S', (some (sPull S 1)) = some S' → ∀ o' s' a', o' 2 6 = nI (ex + 1) → (∀ c, c ≠ 2 → o' c = o c) → (∀ j, j ≠ 6 → o' 2 j = o 2 j) → cT S' (s' 0) (a' 0) → (∀ t, t ≠ 0 → s' t = s t) → (∀ t, t ≠ 0 → a' t = a t) → Q (.inl none) n (gW h (.ref (zB + 200 + 6)) o' u s' a')) (hqN : (some (sPull S 1)) = none → ∀ o' s' a', er o o' 3 off → (∀ t, t ≠ 0 → s' t = s t) → (∀ t, t ≠ 0 → a' t = a t) → Q (.inl none) n (gW h (.ref (zB + 200 + 6)) o' u s' a')) : Zj l mX5_perform (d + 8) kc ks 0 [(0, .ref 3)] [] n (gW h (.ref (zB + 200 + 6)) o u s a) Q := by
  refine z_aload_n (j := 0) dX5_perform_0 rfl ?_
  refine z_get (v := (.ref (zB + 200 + 6))) (by omega) gW_3 fX5_57 rfl dX5_perform_1 ?_
  refine z_ifnull dX5_perform_4 ?_
  refine z_aload_n (j := 0) dX5_perform_7 rfl ?_
  refine z_get (v := .int (o 2 10)) (by omega) gW_3 fX5_54 rfl dX5_perform_8 ?_
  refine z_if_eq (tgt := 15) dX5_perform_11 (by decide) (fun czq11 => ?_) (fun czq11 => absurd h10 czq11)
  refine z_aload_n (j := 0) dX5_perform_15 rfl ?_
  refine z_dup rfl dX5_perform_16 ?_
  refine z_get (v := .int (o 2 6)) (by omega) gW_3 fX5_44 rfl dX5_perform_17 ?_
  refine z_iconst (v := 1) dX5_perform_20 (by decide) ?_
  refine z_iadd dX5_perform_21 ?_
  rw [show ((o 2 6) + 1) = nI (ex + 1) from by rw [h6, nI_1]]
  refine g_put 2 (by decide) (by omega) (by decide) rfl rfl fX5_44 gg5 rfl fin5_6 (by show 6 < 12; decide) dX5_perform_22 ?_
  refine z_aload_n (j := 0) dX5_perform_25 rfl ?_
  refine z_get (v := .ref 10) (by omega) gW_3 fX5_18 rfl dX5_perform_26 ?_
  refine z_iconst (v := 0) dX5_perform_29 (by decide) ?_
  refine g_ald 1 (by decide) rfl (by omega) (show vp_in (nI 0) 3 from vp_in_nI (by decide) (by decide)) dX5_perform_30 ?_
  skip
  refine z_istore_n [1, 0] [(0, .ref 3), (1, .int ((u 1 (0 : Int32).toNatClampNeg)))] dX5_perform_31 (by decide) rfl ?_
  refine z_aload_n (j := 0) dX5_perform_32 rfl ?_
  refine z_get (v := .ref 10) (by omega) gW_3 fX5_18 rfl dX5_perform_33 ?_
  refine z_iconst (v := 1) dX5_perform_36 (by decide) ?_
  refine g_ald 1 (by decide) rfl (by omega) (show vp_in (nI 1) 3 from vp_in_nI (by decide) (by decide)) dX5_perform_37 ?_
  skip
  refine z_istore_n [1, 2, 0] [(0, .ref 3), (1, .int ((u 1 (0 : Int32).toNatClampNeg))), (2, .int ((u 1 (1 : Int32).toNatClampNeg)))] dX5_perform_38 (by decide) rfl ?_
  refine z_iconst (v := 1) dX5_perform_39 (by decide) ?_
  refine z_istore_n [1, 2, 3, 0] [(0, .ref 3), (1, .int ((u 1 (0 : Int32).toNatClampNeg))), (2, .int ((u 1 (1 : Int32).toNatClampNeg))), (3, .int 1)] dX5_perform_40 (by decide) rfl ?_
  refine z_gets (v := .ref (zB + 301)) kZ_sw fX5_85 dX5_perform_41 ?_
  refine z_aload_n (j := 0) dX5_perform_44 rfl ?_
  refine z_get (v := (.ref (zB + 200 + 6))) (by omega) gW_3 fX5_57 rfl dX5_perform_45 ?_
  refine z_ord (w := 6) (by decide) (by decide) lX5_90 dX5_perform_48 (by decide) ?_
  refine z_ialdC kT_sw (vp_in_nI (by decide) (by decide)) dX5_perform_51 ?_
  rw [show (swm.getD (nI 6).toNatClampNeg 0) = 0 from rfl]
  refine z_tableOut 242 dX5_perform_52 (by decide) (by decide) ?_
  refine z_aload_n (j := 0) dX5_perform_242 rfl ?_
  refine z_get (v := .ref 4) (by omega) gW_3 fX5_12 rfl dX5_perform_243 ?_
  refine z_aload_n (j := 0) dX5_perform_246 rfl ?_
  refine z_get (v := (.ref (zB + 200 + 6))) (by omega) gW_3 fX5_57 rfl dX5_perform_247 ?_
  refine z_gets (v := .ref (zB + 206)) kZ_pl fX5_131 dX5_perform_250 ?_
  refine z_acmp_ne (x := zB + 200 + 6) (y := zB + 206) (tgt := 260) (by decide +kernel) (by decide +kernel) dX5_perform_253 (by decide) (fun z => absurd rfl z) (fun _ => ?_)
  refine z_iconst (v := 1) dX5_perform_256 (by decide) ?_
  refine z_goto (tgt := 261) dX5_perform_257 (by decide) ?_
  refine g_tput 0 (by decide) rfl (Or.inr rfl) (by omega) fX5_134 dX5_perform_261 ?_
  refine z_iload_n (j := 3) dX5_perform_264 rfl ?_
  refine z_if_ne (tgt := 273) dX5_perform_265 (by decide) (fun czq265 => ?_) (fun czq265 => absurd czq265 (by decide))
  exact z_vret rfl dX5_perform_273 (by
      exact hqY _ rfl _ _ _ (by rw [up_eq, up_eq]) (fun c g2 => up_ne g2) (fun j hj => by rw [up_eq, up_ne hj]) (by rw [up_eq]; exact hT.pull (Or.inr rfl)) (fun t ht => up_ne ht) (fun t ht => rfl))

set_option maxHeartbeats 4000000 in
set_option maxRecDepth 100000 in
theorem w_perf7 {l : zL} {d kc ks n : Nat} {h : Nat → va_E} {o u : Nat → Nat → Int32} {s : Nat → Nat → Int32} {a : Nat → Nat → Nat → Int32} {ex off : Nat} {S : zS} {Q : zQ} (hn : 89 ≤ n) (h10 : o 2 10 = 0) (h6 : o 2 6 = nI ex) (h13 : o 1 3 = nI off) (hT : cT S (s 0) (a 0))   (hqY : ∀ S', (some (sPull S 0)) = some S' → ∀ o' s' a', o' 2 6 = nI (ex + 1) → (∀ c, c ≠ 2 → o' c = o c) → (∀ j, j ≠ 6 → o' 2 j = o 2 j) → cT S' (s' 0) (a' 0) → (∀ t, t ≠ 0 → s' t = s t) → (∀ t, t ≠ 0 → a' t = a t) → Q (.inl none) n (gW h (.ref (zB + 200 + 7)) o' u s' a')) (hqN : (some (sPull S 0)) = none → ∀ o' s' a', er o o' 3 off → (∀ t, t ≠ 0 → s' t = s t) → (∀ t, t ≠ 0 → a' t = a t) → Q (.inl none) n (gW h (.ref (zB + 200 + 7)) o' u s' a')) : Zj l mX5_perform (d + 8) kc ks 0 [(0, .ref 3)] [] n (gW h (.ref (zB + 200 + 7)) o u s a) Q := by
  refine z_aload_n (j := 0) dX5_perform_0 rfl ?_
  refine z_get (v := (.ref (zB + 200 + 7))) (by omega) gW_3 fX5_57 rfl dX5_perform_1 ?_
  refine z_ifnull dX5_perform_4 ?_
  refine z_aload_n (j := 0) dX5_perform_7 rfl ?_
  refine z_get (v := .int (o 2 10)) (by omega) gW_3 fX5_54 rfl dX5_perform_8 ?_
  refine z_if_eq (tgt := 15) dX5_perform_11 (by decide) (fun czq11 => ?_) (fun czq11 => absurd h10 czq11)
  refine z_aload_n (j := 0) dX5_perform_15 rfl ?_
  refine z_dup rfl dX5_perform_16 ?_
  refine z_get (v := .int (o 2 6)) (by omega) gW_3 fX5_44 rfl dX5_perform_17 ?_
  refine z_iconst (v := 1) dX5_perform_20 (by decide) ?_
  refine z_iadd dX5_perform_21 ?_
  rw [show ((o 2 6) + 1) = nI (ex + 1) from by rw [h6, nI_1]]
  refine g_put 2 (by decide) (by omega) (by decide) rfl rfl fX5_44 gg5 rfl fin5_6 (by show 6 < 12; decide) dX5_perform_22 ?_
  refine z_aload_n (j := 0) dX5_perform_25 rfl ?_
  refine z_get (v := .ref 10) (by omega) gW_3 fX5_18 rfl dX5_perform_26 ?_
  refine z_iconst (v := 0) dX5_perform_29 (by decide) ?_
  refine g_ald 1 (by decide) rfl (by omega) (show vp_in (nI 0) 3 from vp_in_nI (by decide) (by decide)) dX5_perform_30 ?_
  skip
  refine z_istore_n [1, 0] [(0, .ref 3), (1, .int ((u 1 (0 : Int32).toNatClampNeg)))] dX5_perform_31 (by decide) rfl ?_
  refine z_aload_n (j := 0) dX5_perform_32 rfl ?_
  refine z_get (v := .ref 10) (by omega) gW_3 fX5_18 rfl dX5_perform_33 ?_
  refine z_iconst (v := 1) dX5_perform_36 (by decide) ?_
  refine g_ald 1 (by decide) rfl (by omega) (show vp_in (nI 1) 3 from vp_in_nI (by decide) (by decide)) dX5_perform_37 ?_
  skip
  refine z_istore_n [1, 2, 0] [(0, .ref 3), (1, .int ((u 1 (0 : Int32).toNatClampNeg))), (2, .int ((u 1 (1 : Int32).toNatClampNeg)))] dX5_perform_38 (by decide) rfl ?_
  refine z_iconst (v := 1) dX5_perform_39 (by decide) ?_
  refine z_istore_n [1, 2, 3, 0] [(0, .ref 3), (1, .int ((u 1 (0 : Int32).toNatClampNeg))), (2, .int ((u 1 (1 : Int32).toNatClampNeg))), (3, .int 1)] dX5_perform_40 (by decide) rfl ?_
  refine z_gets (v := .ref (zB + 301)) kZ_sw fX5_85 dX5_perform_41 ?_
  refine z_aload_n (j := 0) dX5_perform_44 rfl ?_
  refine z_get (v := (.ref (zB + 200 + 7))) (by omega) gW_3 fX5_57 rfl dX5_perform_45 ?_
  refine z_ord (w := 7) (by decide) (by decide) lX5_90 dX5_perform_48 (by decide) ?_
  refine z_ialdC kT_sw (vp_in_nI (by decide) (by decide)) dX5_perform_51 ?_
  rw [show (swm.getD (nI 7).toNatClampNeg 0) = 0 from rfl]
  refine z_tableOut 242 dX5_perform_52 (by decide) (by decide) ?_
  refine z_aload_n (j := 0) dX5_perform_242 rfl ?_
  refine z_get (v := .ref 4) (by omega) gW_3 fX5_12 rfl dX5_perform_243 ?_
  refine z_aload_n (j := 0) dX5_perform_246 rfl ?_
  refine z_get (v := (.ref (zB + 200 + 7))) (by omega) gW_3 fX5_57 rfl dX5_perform_247 ?_
  refine z_gets (v := .ref (zB + 206)) kZ_pl fX5_131 dX5_perform_250 ?_
  refine z_acmp_ne (x := zB + 200 + 7) (y := zB + 206) (tgt := 260) (by decide +kernel) (by decide +kernel) dX5_perform_253 (by decide) (fun _ => ?_) (fun z => absurd z (by decide))
  refine z_iconst (v := 0) dX5_perform_260 (by decide) ?_
  refine g_tput 0 (by decide) rfl (Or.inl rfl) (by omega) fX5_134 dX5_perform_261 ?_
  refine z_iload_n (j := 3) dX5_perform_264 rfl ?_
  refine z_if_ne (tgt := 273) dX5_perform_265 (by decide) (fun czq265 => ?_) (fun czq265 => absurd czq265 (by decide))
  exact z_vret rfl dX5_perform_273 (by
      exact hqY _ rfl _ _ _ (by rw [up_eq, up_eq]) (fun c g2 => up_ne g2) (fun j hj => by rw [up_eq, up_ne hj]) (by rw [up_eq]; exact hT.pull (Or.inl rfl)) (fun t ht => up_ne ht) (fun t ht => rfl))

set_option maxHeartbeats 4000000 in
set_option maxRecDepth 100000 in
theorem w_perf8 {l : zL} {d kc ks n : Nat} {h : Nat → va_E} {o u : Nat → Nat → Int32} {s : Nat → Nat → Int32} {a : Nat → Nat → Nat → Int32} {ex off : Nat} {S : zS} {Q : zQ} (hn : 89 ≤ n) (h10 : o 2 10 = 0) (h6 : o 2 6 = nI ex) (h13 : o 1 3 = nI off) (hT : cT S (s 0) (a 0))   (hqY : ∀ S', (sGrow S) = some S' → ∀ o' s' a', o' 2 6 = nI (ex + 1) → (∀ c, c ≠ 2 → o' c = o c) → (∀ j, j ≠ 6 → o' 2 j = o 2 j) → cT S' (s' 0) (a' 0) → (∀ t, t ≠ 0 → s' t = s t) → (∀ t, t ≠ 0 → a' t = a t) → Q (.inl none) n (gW h (.ref (zB + 200 + 8)) o' u s' a')) (hqN : (sGrow S) = none → ∀ o' s' a', er o o' 3 off → (∀ t, t ≠ 0 → s' t = s t) → (∀ t, t ≠ 0 → a' t = a t) → Q (.inl none) n (gW h (.ref (zB + 200 + 8)) o' u s' a')) : Zj l mX5_perform (d + 8) kc ks 0 [(0, .ref 3)] [] n (gW h (.ref (zB + 200 + 8)) o u s a) Q := by
  refine z_aload_n (j := 0) dX5_perform_0 rfl ?_
  refine z_get (v := (.ref (zB + 200 + 8))) (by omega) gW_3 fX5_57 rfl dX5_perform_1 ?_
  refine z_ifnull dX5_perform_4 ?_
  refine z_aload_n (j := 0) dX5_perform_7 rfl ?_
  refine z_get (v := .int (o 2 10)) (by omega) gW_3 fX5_54 rfl dX5_perform_8 ?_
  refine z_if_eq (tgt := 15) dX5_perform_11 (by decide) (fun czq11 => ?_) (fun czq11 => absurd h10 czq11)
  refine z_aload_n (j := 0) dX5_perform_15 rfl ?_
  refine z_dup rfl dX5_perform_16 ?_
  refine z_get (v := .int (o 2 6)) (by omega) gW_3 fX5_44 rfl dX5_perform_17 ?_
  refine z_iconst (v := 1) dX5_perform_20 (by decide) ?_
  refine z_iadd dX5_perform_21 ?_
  rw [show ((o 2 6) + 1) = nI (ex + 1) from by rw [h6, nI_1]]
  refine g_put 2 (by decide) (by omega) (by decide) rfl rfl fX5_44 gg5 rfl fin5_6 (by show 6 < 12; decide) dX5_perform_22 ?_
  refine z_aload_n (j := 0) dX5_perform_25 rfl ?_
  refine z_get (v := .ref 10) (by omega) gW_3 fX5_18 rfl dX5_perform_26 ?_
  refine z_iconst (v := 0) dX5_perform_29 (by decide) ?_
  refine g_ald 1 (by decide) rfl (by omega) (show vp_in (nI 0) 3 from vp_in_nI (by decide) (by decide)) dX5_perform_30 ?_
  skip
  refine z_istore_n [1, 0] [(0, .ref 3), (1, .int ((u 1 (0 : Int32).toNatClampNeg)))] dX5_perform_31 (by decide) rfl ?_
  refine z_aload_n (j := 0) dX5_perform_32 rfl ?_
  refine z_get (v := .ref 10) (by omega) gW_3 fX5_18 rfl dX5_perform_33 ?_
  refine z_iconst (v := 1) dX5_perform_36 (by decide) ?_
  refine g_ald 1 (by decide) rfl (by omega) (show vp_in (nI 1) 3 from vp_in_nI (by decide) (by decide)) dX5_perform_37 ?_
  skip
  refine z_istore_n [1, 2, 0] [(0, .ref 3), (1, .int ((u 1 (0 : Int32).toNatClampNeg))), (2, .int ((u 1 (1 : Int32).toNatClampNeg)))] dX5_perform_38 (by decide) rfl ?_
  refine z_iconst (v := 1) dX5_perform_39 (by decide) ?_
  refine z_istore_n [1, 2, 3, 0] [(0, .ref 3), (1, .int ((u 1 (0 : Int32).toNatClampNeg))), (2, .int ((u 1 (1 : Int32).toNatClampNeg))), (3, .int 1)] dX5_perform_40 (by decide) rfl ?_
  refine z_gets (v := .ref (zB + 301)) kZ_sw fX5_85 dX5_perform_41 ?_
  refine z_aload_n (j := 0) dX5_perform_44 rfl ?_
  refine z_get (v := (.ref (zB + 200 + 8))) (by omega) gW_3 fX5_57 rfl dX5_perform_45 ?_
  refine z_ord (w := 8) (by decide) (by decide) lX5_90 dX5_perform_48 (by decide) ?_
  refine z_ialdC kT_sw (vp_in_nI (by decide) (by decide)) dX5_perform_51 ?_
  rw [show (swm.getD (nI 8).toNatClampNeg 0) = 7 from rfl]
  refine z_tableIn 159 211 dX5_perform_52 (by decide) (by decide) rfl (by decide) ?_
  refine z_aload_n (j := 0) dX5_perform_211 rfl ?_
  refine z_get (v := .ref 4) (by omega) gW_3 fX5_12 rfl dX5_perform_212 ?_
  refine z_iconst (v := 2) dX5_perform_215 (by decide) ?_
  refine z_aload_n (j := 0) dX5_perform_216 rfl ?_
  refine z_get (v := .ref 4) (by omega) gW_3 fX5_12 rfl dX5_perform_217 ?_
  refine z_get (v := .int (s 0 6)) (by omega) gW_4T fX5_122 rfl dX5_perform_220 ?_
  refine z_imul dX5_perform_223 ?_
  rw [show (2 * (s 0 6)) = nI (2 * S.1) from by rw [hT.six, show (2 : Int32) = nI 2 from rfl, pk_mul]]
  refine z_kV [.int ((nI (2 * S.1)))] 0 0 kc ks yoX6_buildAnew yvX6_buildAnew rfl (by decide) lX5_125 (by omega) gW_4T rfl rfl (Nat.le_of_ble_eq_true rfl) (Nat.le_of_ble_eq_true rfl) dX5_perform_224 (by omega) (by omega) (z_room (by omega) (Nat.le_refl _) (Nat.le_refl _) (g_grow (d := 0) (t := 0) (S := S) (by decide) rfl (by omega) hT (fun s1 a1 ea => ⟨rfl, ?_⟩) (fun S' s1 a1 ea hT1 => ⟨rfl, ?_⟩)))
  · refine z_istore_n [1, 2, 3, 0] [(0, .ref 3), (1, .int ((u 1 (0 : Int32).toNatClampNeg))), (2, .int ((u 1 (1 : Int32).toNatClampNeg))), (3, .int 0)] dX5_perform_227 (by decide) rfl ?_
    refine z_goto (tgt := 264) dX5_perform_228 (by decide) ?_
    refine z_iload_n (j := 3) dX5_perform_264 rfl ?_
    refine z_if_ne (tgt := 273) dX5_perform_265 (by decide) (fun czq265 => absurd czq265 (fun z => z rfl)) (fun czq265 => ?_)
    refine z_aload_n (j := 0) dX5_perform_268 rfl ?_
    refine z_iconst (v := 3) dX5_perform_269 (by decide) ?_
    refine z_kV [.int 3] 0 0 kc ks yoX5_fail yvX5_fail rfl (by decide) lX5_137 (by omega) gW_3 rfl rfl (Nat.le_of_ble_eq_true rfl) (Nat.le_of_ble_eq_true rfl) dX5_perform_270 (by omega) (by omega) (z_room (by omega) (Nat.le_refl _) (Nat.le_refl _) (w_fail (d := 0) (k := 3) (st := off) hn (by rw [up_ne (by decide)]; exact h13) (fun o9 he => ⟨rfl, ?_⟩)))
    exact z_vret rfl dX5_perform_273 (by
        exact hqN (ea) _ _ _ (he.of (fun c g1 g2 => up_ne g2) (by rw [up_ne (by decide)])) (fun t ht => up_ne ht) (fun t ht => up_ne ht))
  · refine z_istore_n [1, 2, 3, 0] [(0, .ref 3), (1, .int ((u 1 (0 : Int32).toNatClampNeg))), (2, .int ((u 1 (1 : Int32).toNatClampNeg))), (3, .int 1)] dX5_perform_227 (by decide) rfl ?_
    refine z_goto (tgt := 264) dX5_perform_228 (by decide) ?_
    refine z_iload_n (j := 3) dX5_perform_264 rfl ?_
    refine z_if_ne (tgt := 273) dX5_perform_265 (by decide) (fun czq265 => ?_) (fun czq265 => absurd czq265 (by decide))
    exact z_vret rfl dX5_perform_273 (by
        exact hqY _ (ea) _ _ _ (by rw [up_eq, up_eq]) (fun c g2 => up_ne g2) (fun j hj => by rw [up_eq, up_ne hj]) (by rw [up_eq, up_eq]; exact hT1) (fun t ht => up_ne ht) (fun t ht => up_ne ht))

set_option maxHeartbeats 4000000 in
set_option maxRecDepth 100000 in
theorem w_perf9 {l : zL} {d kc ks n : Nat} {h : Nat → va_E} {o u : Nat → Nat → Int32} {s : Nat → Nat → Int32} {a : Nat → Nat → Nat → Int32} {ex off : Nat} {S : zS} {Q : zQ} (hn : 89 ≤ n) (h10 : o 2 10 = 0) (h6 : o 2 6 = nI ex) (h13 : o 1 3 = nI off) (hT : cT S (s 0) (a 0))   (hqY : ∀ S', (some (sClear S)) = some S' → ∀ o' s' a', o' 2 6 = nI (ex + 1) → (∀ c, c ≠ 2 → o' c = o c) → (∀ j, j ≠ 6 → o' 2 j = o 2 j) → cT S' (s' 0) (a' 0) → (∀ t, t ≠ 0 → s' t = s t) → (∀ t, t ≠ 0 → a' t = a t) → Q (.inl none) n (gW h (.ref (zB + 200 + 9)) o' u s' a')) (hqN : (some (sClear S)) = none → ∀ o' s' a', er o o' 3 off → (∀ t, t ≠ 0 → s' t = s t) → (∀ t, t ≠ 0 → a' t = a t) → Q (.inl none) n (gW h (.ref (zB + 200 + 9)) o' u s' a')) : Zj l mX5_perform (d + 8) kc ks 0 [(0, .ref 3)] [] n (gW h (.ref (zB + 200 + 9)) o u s a) Q := by
  refine z_aload_n (j := 0) dX5_perform_0 rfl ?_
  refine z_get (v := (.ref (zB + 200 + 9))) (by omega) gW_3 fX5_57 rfl dX5_perform_1 ?_
  refine z_ifnull dX5_perform_4 ?_
  refine z_aload_n (j := 0) dX5_perform_7 rfl ?_
  refine z_get (v := .int (o 2 10)) (by omega) gW_3 fX5_54 rfl dX5_perform_8 ?_
  refine z_if_eq (tgt := 15) dX5_perform_11 (by decide) (fun czq11 => ?_) (fun czq11 => absurd h10 czq11)
  refine z_aload_n (j := 0) dX5_perform_15 rfl ?_
  refine z_dup rfl dX5_perform_16 ?_
  refine z_get (v := .int (o 2 6)) (by omega) gW_3 fX5_44 rfl dX5_perform_17 ?_
  refine z_iconst (v := 1) dX5_perform_20 (by decide) ?_
  refine z_iadd dX5_perform_21 ?_
  rw [show ((o 2 6) + 1) = nI (ex + 1) from by rw [h6, nI_1]]
  refine g_put 2 (by decide) (by omega) (by decide) rfl rfl fX5_44 gg5 rfl fin5_6 (by show 6 < 12; decide) dX5_perform_22 ?_
  refine z_aload_n (j := 0) dX5_perform_25 rfl ?_
  refine z_get (v := .ref 10) (by omega) gW_3 fX5_18 rfl dX5_perform_26 ?_
  refine z_iconst (v := 0) dX5_perform_29 (by decide) ?_
  refine g_ald 1 (by decide) rfl (by omega) (show vp_in (nI 0) 3 from vp_in_nI (by decide) (by decide)) dX5_perform_30 ?_
  skip
  refine z_istore_n [1, 0] [(0, .ref 3), (1, .int ((u 1 (0 : Int32).toNatClampNeg)))] dX5_perform_31 (by decide) rfl ?_
  refine z_aload_n (j := 0) dX5_perform_32 rfl ?_
  refine z_get (v := .ref 10) (by omega) gW_3 fX5_18 rfl dX5_perform_33 ?_
  refine z_iconst (v := 1) dX5_perform_36 (by decide) ?_
  refine g_ald 1 (by decide) rfl (by omega) (show vp_in (nI 1) 3 from vp_in_nI (by decide) (by decide)) dX5_perform_37 ?_
  skip
  refine z_istore_n [1, 2, 0] [(0, .ref 3), (1, .int ((u 1 (0 : Int32).toNatClampNeg))), (2, .int ((u 1 (1 : Int32).toNatClampNeg)))] dX5_perform_38 (by decide) rfl ?_
  refine z_iconst (v := 1) dX5_perform_39 (by decide) ?_
  refine z_istore_n [1, 2, 3, 0] [(0, .ref 3), (1, .int ((u 1 (0 : Int32).toNatClampNeg))), (2, .int ((u 1 (1 : Int32).toNatClampNeg))), (3, .int 1)] dX5_perform_40 (by decide) rfl ?_
  refine z_gets (v := .ref (zB + 301)) kZ_sw fX5_85 dX5_perform_41 ?_
  refine z_aload_n (j := 0) dX5_perform_44 rfl ?_
  refine z_get (v := (.ref (zB + 200 + 9))) (by omega) gW_3 fX5_57 rfl dX5_perform_45 ?_
  refine z_ord (w := 9) (by decide) (by decide) lX5_90 dX5_perform_48 (by decide) ?_
  refine z_ialdC kT_sw (vp_in_nI (by decide) (by decide)) dX5_perform_51 ?_
  rw [show (swm.getD (nI 9).toNatClampNeg 0) = 8 from rfl]
  refine z_tableIn 179 231 dX5_perform_52 (by decide) (by decide) rfl (by decide) ?_
  refine z_aload_n (j := 0) dX5_perform_231 rfl ?_
  refine z_get (v := .ref 4) (by omega) gW_3 fX5_12 rfl dX5_perform_232 ?_
  refine z_kV [] 0 0 kc ks yoX6_dropAll yvX6_dropAll rfl (by decide) lX5_128 (by omega) gW_4T rfl rfl (Nat.le_of_ble_eq_true rfl) (Nat.le_of_ble_eq_true rfl) dX5_perform_235 (by omega) (by omega) (z_room (by omega) (Nat.le_refl _) (Nat.le_refl _) (g_dropAll (d := 0) (t := 0) (S := S) (by decide) rfl (by omega) hT (fun s1 a1 hT1 => ⟨rfl, ?_⟩)))
  refine z_pop rfl dX5_perform_238 ?_
  refine z_goto (tgt := 264) dX5_perform_239 (by decide) ?_
  refine z_iload_n (j := 3) dX5_perform_264 rfl ?_
  refine z_if_ne (tgt := 273) dX5_perform_265 (by decide) (fun czq265 => ?_) (fun czq265 => absurd czq265 (by decide))
  exact z_vret rfl dX5_perform_273 (by
      exact hqY _ (rfl) _ _ _ (by rw [up_eq, up_eq]) (fun c g2 => up_ne g2) (fun j hj => by rw [up_eq, up_ne hj]) (by rw [up_eq, up_eq]; exact hT1) (fun t ht => up_ne ht) (fun t ht => up_ne ht))
