/-! THE CLASS'S OWN METHODS, fifth part: input and report -/
theorem by_u24 (p : Int32) : zushr p 24 &&& 255 = nI (by4 p 0) := by
  rw [pk_and _ 8 (by decide)]
  unfold zushr by4
  rw [pk_ushr p 24 24 (by decide)]
theorem by_u16 (p : Int32) : zushr p 16 &&& 255 = nI (by4 p 1) := by
  rw [pk_and _ 8 (by decide)]
  unfold zushr by4
  rw [pk_ushr p 16 16 (by decide)]
theorem by_u8 (p : Int32) : zushr p 8 &&& 255 = nI (by4 p 2) := by
  rw [pk_and _ 8 (by decide)]
  unfold zushr by4
  rw [pk_ushr p 8 8 (by decide)]
theorem by_u0 (p : Int32) : zushr p 0 &&& 255 = nI (by4 p 3) := by
  rw [pk_and _ 8 (by decide)]
  unfold zushr by4
  rw [pk_ushr p 0 0 (by decide)]
theorem by_lt {p : Int32} {j : Nat} : by4 p j < 256 := Nat.mod_lt _ (by decide)
/-- the input's length and bytes -/
def inp (L : Nat) (x : Nat → Nat) (o u : Nat → Nat → Int32) : Prop := o 1 1 = nI L ∧ ∀ i, i < L → u 0 i = nI (x i)
def fr1 (o u o' u' : Nat → Nat → Int32) : Prop := (∀ c, c ≠ 1 → o' c = o c) ∧ ∀ j, j ≠ 0 → u' j = u j
def rep (l : List Nat) (o u : Nat → Nat → Int32) : Prop := o 4 1 = nI l.length ∧ ∀ i, i < l.length → u 4 i = nI (lG l i)
def fr4 (o u o' u' : Nat → Nat → Int32) : Prop := (∀ c, c ≠ 4 → o' c = o c) ∧ ∀ j, j ≠ 4 → u' j = u j
theorem fr4.tr {o u o1 u1 o2 u2 : Nat → Nat → Int32} (h1 : fr4 o u o1 u1) (h2 : fr4 o1 u1 o2 u2) : fr4 o u o2 u2 := ⟨fun c h => (h2.1 c h).trans (h1.1 c h), fun j h => (h2.2 j h).trans (h1.2 j h)⟩
theorem fr1.tr {o u o1 u1 o2 u2 : Nat → Nat → Int32} (h1 : fr1 o u o1 u1) (h2 : fr1 o1 u1 o2 u2) : fr1 o u o2 u2 := ⟨fun c h => (h2.1 c h).trans (h1.1 c h), fun j h => (h2.2 j h).trans (h1.2 j h)⟩
theorem lG_app {l : List Nat} {c i : Nat} (h : i < l.length) : lG (l ++ [c]) i = lG l i := by
  unfold lG
  rw [List.getElem?_append_left h]
theorem lG_last {l : List Nat} {c : Nat} : lG (l ++ [c]) l.length = c := by
  unfold lG
  rw [List.getElem?_append_right (Nat.le_refl _), Nat.sub_self]
  rfl
theorem rep_app {l : List Nat} {c : Nat} {o u : Nat → Nat → Int32} (h : rep l o u) (hl : l.length < 448) : rep (l ++ [c]) (va_up o 4 (va_up (o 4) 1 (o 4 1 + 1))) (va_up u 4 (va_up (u 4) (o 4 1).toNatClampNeg (nI c))) := by
  obtain ⟨h1, h2⟩ := h
  refine ⟨?_, fun i hi => ?_⟩
  · rw [up_eq, up_eq, h1, nI_1, List.length_append]
    rfl
  · rw [List.length_append] at hi
    rw [up_eq, h1, nI_clamp (by omega)]
    by_cases hil : i = l.length
    · subst hil
      rw [up_eq, lG_last]
    · have hi2 : i < l.length := by
        have : ([c] : List Nat).length = 1 := rfl
        omega
      rw [up_ne hil, lG_app hi2]
      exact h2 i hi2
theorem fr4_app {o u : Nat → Nat → Int32} {x : Nat → Int32} {y : Nat → Int32} : fr4 o u (va_up o 4 x) (va_up u 4 y) := ⟨fun c h => by rw [up_ne h], fun j h => by rw [up_ne h]⟩

set_option maxHeartbeats 4000000 in
set_option maxRecDepth 100000 in
theorem w_signAt {l : zL} {d kc ks n : Nat} {h : Nat → va_E} {cm : Value} {o u : Nat → Nat → Int32} {s : Nat → Nat → Int32} {a : Nat → Nat → Nat → Int32} {Q : zQ} {rl : Nat} {rb : Nat → Nat} {p : Int32} (hn : 89 ≤ n) (h41 : o 4 1 = nI rl) (hrl : rl ≤ 447) (hu4 : ∀ i, i < rl → u 4 i = nI (rb i)) (hq : Q (.inl (some (.int (if 0 ≤ p ∧ p < nI rl then nI (rb (xN p)) else -1)))) n (gW h cm o u s a)) : Zj l mX4_signAt d kc ks 0 [(0, .ref 87), (1, .int p)] [] n (gW h cm o u s a) Q := by
  refine z_iload_n (j := 1) dX4_signAt_0 rfl ?_
  refine z_if_lt (tgt := 30) dX4_signAt_1 (by decide) (fun czq1 => ?_) (fun czq1 => ?_)
  · refine z_iconst (v := (-1)) dX4_signAt_30 (by decide) ?_
    exact z_iret rfl dX4_signAt_31 (by
        rw [if_neg (fun q => Int32.not_lt.mpr q.1 czq1)] at hq
        exact hq)
  · refine z_iload_n (j := 1) dX4_signAt_4 rfl ?_
    refine z_aload_n (j := 0) dX4_signAt_5 rfl ?_
    refine z_get (v := .int (o 4 1)) (by omega) gW_87 fX4_15 rfl dX4_signAt_6 ?_
    refine z_icmp_ge (tgt := 30) dX4_signAt_9 (by decide) (fun czq9 => ?_) (fun czq9 => ?_)
    · refine z_iconst (v := (-1)) dX4_signAt_30 (by decide) ?_
      exact z_iret rfl dX4_signAt_31 (by
          rw [h41] at czq9
          rw [if_neg (fun q => Int32.not_lt.mpr czq9 q.2)] at hq
          exact hq)
    · refine z_iload_n (j := 1) dX4_signAt_12 rfl ?_
      refine z_aload_n (j := 0) dX4_signAt_13 rfl ?_
      refine z_get (v := .ref 88) (by omega) gW_87 fX4_9 rfl dX4_signAt_14 ?_
      refine z_alen (by omega) gW_88 (by decide) rfl dX4_signAt_17 ?_
      refine z_icmp_ge (tgt := 30) dX4_signAt_18 (by decide) (fun czq18 => ?_) (fun czq18 => ?_)
      · refine z_iconst (v := (-1)) dX4_signAt_30 (by decide) ?_
        exact z_iret rfl dX4_signAt_31 (by
            rw [h41] at czq9
            exact absurd (Int32.lt_of_lt_of_le (Int32.not_le.mp czq9) (nI_le (show rl ≤ 448 by omega) (by decide))) (Int32.not_lt.mpr czq18))
      · refine z_aload_n (j := 0) dX4_signAt_21 rfl ?_
        refine z_get (v := .ref 88) (by omega) gW_87 fX4_9 rfl dX4_signAt_22 ?_
        refine z_iload_n (j := 1) dX4_signAt_25 rfl ?_
        refine g_ald 4 (by decide) rfl (by omega) (by
            rw [h41] at czq9
            obtain ⟨z, hz, rfl⟩ := nI_of czq1
            have hzl := (nI_ltI hz (by omega)).mp (Int32.not_le.mp czq9)
            exact vp_in_nI (by omega) (by decide)) dX4_signAt_26 ?_
        refine z_goto (tgt := 31) dX4_signAt_27 (by decide) ?_
        exact z_iret rfl dX4_signAt_31 (by
            rw [h41] at czq9
            rw [if_pos ⟨Int32.not_lt.mp czq1, Int32.not_le.mp czq9⟩] at hq
            obtain ⟨z, hz, rfl⟩ := nI_of czq1
            have hzl := (nI_ltI hz (by omega)).mp (Int32.not_le.mp czq9)
            rw [xN_nI hz, ← hu4 z hzl] at hq
            rw [nI_clamp hz]
            exact hq)

set_option maxHeartbeats 4000000 in
set_option maxRecDepth 100000 in
theorem K_reportByte {l : zL} {d kc ks n : Nat} {h : Nat → va_E} {cm : Value} {o u : Nat → Nat → Int32} {s : Nat → Nat → Int32} {a : Nat → Nat → Nat → Int32} {g : zGs} {Q : zQ} {p : Int32} (hn : 104 ≤ n) (hC : cI g o u s a) (hq : ∀ t v g' cm' o' u' s' a', f_reportByte g p = (t, v, g') → cI g' o' u' s' a' → Q (oc IAE ISE t v) n (gW h cm' o' u' s' a')) : Zj l mX7_reportByte (d + 12) (kc + 3) (ks + 18) 0 [(0, .ref 0), (1, .int p)] [] n (gW h cm o u s a) Q := by
  obtain ⟨⟨B, H, T, K, V, c⟩, sv, Sn, k, hi, L, x, ek, eo, rl, rb⟩ := g
  obtain ⟨hT, ho05, hsv, hsn, hk8, ho32, ⟨nx, hnx, ho31, hhi⟩, hL, ho11, hu0, hx256, ho210, ho211, hrl, ho41, hu4, hrb⟩ := id hC
  obtain ⟨hR, ⟨hI, hd3, h3⟩, e9, e10, e11, e12, e13, e14, e15⟩ := id hT
  obtain ⟨okb, h2H, hH6, h1T, hT99, e6, e7, e8, ek_, ev_, eh_, ekv, ez⟩ := id hR
  have hle := okb.le
  refine z_aload_n (j := 0) dX7_reportByte_0 rfl ?_
  refine z_get (v := .ref 87) (by omega) gW_0 fX7_52 rfl dX7_reportByte_1 ?_
  refine z_iload_n (j := 1) dX7_reportByte_4 rfl ?_
  refine z_kV [.int p] 0 0 (kc + 3) (ks + 18) yoX4_signAt yvX4_signAt rfl (by decide) lX7_296 (by omega) gW_87 rfl rfl (Nat.le_of_ble_eq_true rfl) (Nat.le_of_ble_eq_true rfl) dX7_reportByte_5 (by omega) (by omega) (z_room (by omega) (Nat.le_refl _) (Nat.le_refl _) (w_signAt (d := 0) (by omega) ho41 hrl hu4 ⟨rfl, ?_⟩))
  exact z_iret rfl dX7_reportByte_8 (hq 0 _ _ _ _ _ _ _ rfl hC)

set_option maxHeartbeats 4000000 in
set_option maxRecDepth 100000 in
theorem w_addSign {l : zL} {d kc ks n : Nat} {h : Nat → va_E} {cm : Value} {o u : Nat → Nat → Int32} {s : Nat → Nat → Int32} {a : Nat → Nat → Nat → Int32} {Q : zQ} {l0 : List Nat} {c : Nat} (hn : 89 ≤ n) (hr : rep l0 o u) (hl : l0.length < 448) (hq : ∀ o' u', rep (l0 ++ [c]) o' u' → fr4 o u o' u' → Q (.inl none) n (gW h cm o' u' s a)) : Zj l mX4_addSign d kc ks 0 [(0, .ref 87), (1, .int ((nI c)))] [] n (gW h cm o u s a) Q := by
  refine z_aload_n (j := 0) dX4_addSign_0 rfl ?_
  refine z_get (v := .int (o 4 1)) (by omega) gW_87 fX4_15 rfl dX4_addSign_1 ?_
  refine z_if_lt (tgt := 39) dX4_addSign_4 (by decide) (fun czq4 => absurd czq4 (by rw [hr.1]; exact nI_pos (by omega))) (fun czq4 => ?_)
  refine z_aload_n (j := 0) dX4_addSign_7 rfl ?_
  refine z_get (v := .int (o 4 1)) (by omega) gW_87 fX4_15 rfl dX4_addSign_8 ?_
  refine z_aload_n (j := 0) dX4_addSign_11 rfl ?_
  refine z_get (v := .ref 88) (by omega) gW_87 fX4_9 rfl dX4_addSign_12 ?_
  refine z_alen (by omega) gW_88 (by decide) rfl dX4_addSign_15 ?_
  refine z_icmp_ge (tgt := 39) dX4_addSign_16 (by decide) (fun czq16 => absurd czq16 (by rw [hr.1]; exact nI_ge (by omega) (by decide))) (fun czq16 => ?_)
  refine z_aload_n (j := 0) dX4_addSign_19 rfl ?_
  refine z_get (v := .ref 88) (by omega) gW_87 fX4_9 rfl dX4_addSign_20 ?_
  refine z_aload_n (j := 0) dX4_addSign_23 rfl ?_
  refine z_get (v := .int (o 4 1)) (by omega) gW_87 fX4_15 rfl dX4_addSign_24 ?_
  refine z_iload_n (j := 1) dX4_addSign_27 rfl ?_
  refine g_ast 4 (by decide) rfl (by omega) (by rw [hr.1]; exact vp_in_nI hl (by decide)) dX4_addSign_28 ?_
  refine z_aload_n (j := 0) dX4_addSign_29 rfl ?_
  refine z_dup rfl dX4_addSign_30 ?_
  refine z_get (v := .int (o 4 1)) (by omega) gW_87 fX4_15 rfl dX4_addSign_31 ?_
  refine z_iconst (v := 1) dX4_addSign_34 (by decide) ?_
  refine z_iadd dX4_addSign_35 ?_
  refine g_put 4 (by decide) (by omega) (by decide) rfl rfl fX4_15 gg4 rfl fin4_1 (by show 1 < 2; decide) dX4_addSign_36 ?_
  exact z_vret rfl dX4_addSign_39 (hq _ _ (rep_app hr hl) fr4_app)

theorem dg_of {v u : Nat} (hv : v ≤ 9999) (h0 : 0 < u) (hu : u ≤ 1000) : (48 : Int32) + (nI v / nI u - nI v / nI u / 10 * 10) = nI (48 + v / u % 10) := by
  have h1 : v / u ≤ 9999 := Nat.le_trans (Nat.div_le_self v u) hv
  rw [pk_div (by omega) h0 (by omega), show (10 : Int32) = nI 10 from rfl, pk_rem (by omega) (by decide) (by decide), show (48 : Int32) = nI 48 from rfl, nI_add]
theorem dgs_len {v : Nat} : (dgs v).length ≤ 4 := by
  unfold dgs
  split
  · simp
  · split
    · simp
    · split <;> simp

set_option maxHeartbeats 4000000 in
set_option maxRecDepth 100000 in
theorem w_addNumber0 {l : zL} {d kc ks n : Nat} {h : Nat → va_E} {cm : Value} {o u : Nat → Nat → Int32} {s : Nat → Nat → Int32} {a : Nat → Nat → Nat → Int32} {Q : zQ} {l0 : List Nat} {v : Nat} (hn : 89 ≤ n) (hr : rep l0 o u) (hl : l0.length + 4 ≤ 448) (hlo : 1000 ≤ v) (hhi : v ≤ 9999) (hq : ∀ o' u', rep (l0 ++ dgs v) o' u' → fr4 o u o' u' → Q (.inl none) n (gW h cm o' u' s a)) : Zj l mX4_addNumber (d + 1) kc ks 0 [(0, .ref 87), (1, .int ((nI v)))] [] n (gW h cm o u s a) Q := by
  refine z_sipush (v := 1000) dX4_addNumber_0 (by decide) ?_
  refine z_istore_n [1, 2, 0] [(0, .ref 87), (1, .int ((nI v))), (2, .int 1000)] dX4_addNumber_3 (by decide) rfl ?_
  refine z_iload_n (j := 2) dX4_addNumber_4 rfl ?_
  refine z_iconst (v := 1) dX4_addNumber_5 (by decide) ?_
  refine z_icmp_lt (tgt := 40) dX4_addNumber_6 (by decide) (fun czq6 => absurd czq6 (by decide)) (fun czq6 => ?_)
  refine z_iload_n (j := 1) dX4_addNumber_9 rfl ?_
  refine z_iload_n (j := 2) dX4_addNumber_10 rfl ?_
  refine z_icmp_ge (tgt := 19) dX4_addNumber_11 (by decide) (fun czq11 => ?_) (fun czq11 => absurd (nI_le (a := 1000) (by omega) (by omega)) czq11)
  refine z_aload_n (j := 0) dX4_addNumber_19 rfl ?_
  refine z_bipush (v := 48) dX4_addNumber_20 (by decide) ?_
  refine z_iload_n (j := 1) dX4_addNumber_22 rfl ?_
  refine z_iload_n (j := 2) dX4_addNumber_23 rfl ?_
  refine z_idiv (by decide) dX4_addNumber_24 ?_
  refine z_bipush (v := 10) dX4_addNumber_25 (by decide) ?_
  refine z_irem (by decide) dX4_addNumber_27 ?_
  refine z_iadd dX4_addNumber_28 ?_
  rw [show (48 + (((nI v) / 1000) - ((nI v) / 1000) / 10 * 10)) = nI (48 + v / 1000 % 10) from dg_of (u := 1000) (by omega) (by decide) (by decide)]
  refine z_kV [.int ((nI (48 + v / 1000 % 10)))] 0 0 kc ks yoX4_addSign yvX4_addSign rfl (by decide) lX4_19 (by omega) gW_87 rfl rfl (Nat.le_of_ble_eq_true rfl) (Nat.le_of_ble_eq_true rfl) dX4_addNumber_29 (by omega) (by omega) (z_room (by omega) (Nat.le_refl _) (Nat.le_refl _) (w_addSign (d := 0) (l0 := l0) (by omega) hr (by first | omega | (simp only [List.length_append, List.length_cons, List.length_nil]; omega)) (fun o1 u1 hr1 hf1 => ⟨rfl, ?_⟩)))
  refine z_iload_n (j := 2) dX4_addNumber_32 rfl ?_
  refine z_bipush (v := 10) dX4_addNumber_33 (by decide) ?_
  refine z_idiv (by decide) dX4_addNumber_35 ?_
  rw [show ((1000 / 10) : Int32) = 100 from by decide]
  refine z_istore_n [1, 2, 0] [(0, .ref 87), (1, .int ((nI v))), (2, .int 100)] dX4_addNumber_36 (by decide) rfl ?_
  refine z_goto (tgt := 4) dX4_addNumber_37 (by decide) ?_
  refine z_iload_n (j := 2) dX4_addNumber_4 rfl ?_
  refine z_iconst (v := 1) dX4_addNumber_5 (by decide) ?_
  refine z_icmp_lt (tgt := 40) dX4_addNumber_6 (by decide) (fun czq6 => absurd czq6 (by decide)) (fun czq6 => ?_)
  refine z_iload_n (j := 1) dX4_addNumber_9 rfl ?_
  refine z_iload_n (j := 2) dX4_addNumber_10 rfl ?_
  refine z_icmp_ge (tgt := 19) dX4_addNumber_11 (by decide) (fun czq11 => ?_) (fun czq11 => absurd (nI_le (a := 100) (by omega) (by omega)) czq11)
  refine z_aload_n (j := 0) dX4_addNumber_19 rfl ?_
  refine z_bipush (v := 48) dX4_addNumber_20 (by decide) ?_
  refine z_iload_n (j := 1) dX4_addNumber_22 rfl ?_
  refine z_iload_n (j := 2) dX4_addNumber_23 rfl ?_
  refine z_idiv (by decide) dX4_addNumber_24 ?_
  refine z_bipush (v := 10) dX4_addNumber_25 (by decide) ?_
  refine z_irem (by decide) dX4_addNumber_27 ?_
  refine z_iadd dX4_addNumber_28 ?_
  rw [show (48 + (((nI v) / 100) - ((nI v) / 100) / 10 * 10)) = nI (48 + v / 100 % 10) from dg_of (u := 100) (by omega) (by decide) (by decide)]
  refine z_kV [.int ((nI (48 + v / 100 % 10)))] 0 0 kc ks yoX4_addSign yvX4_addSign rfl (by decide) lX4_19 (by omega) gW_87 rfl rfl (Nat.le_of_ble_eq_true rfl) (Nat.le_of_ble_eq_true rfl) dX4_addNumber_29 (by omega) (by omega) (z_room (by omega) (Nat.le_refl _) (Nat.le_refl _) (w_addSign (d := 0) (l0 := l0 ++ [48 + v / 1000 % 10]) (by omega) hr1 (by first | omega | (simp only [List.length_append, List.length_cons, List.length_nil]; omega)) (fun o2 u2 hr2 hf2 => ⟨rfl, ?_⟩)))
  refine z_iload_n (j := 2) dX4_addNumber_32 rfl ?_
  refine z_bipush (v := 10) dX4_addNumber_33 (by decide) ?_
  refine z_idiv (by decide) dX4_addNumber_35 ?_
  rw [show ((100 / 10) : Int32) = 10 from by decide]
  refine z_istore_n [1, 2, 0] [(0, .ref 87), (1, .int ((nI v))), (2, .int 10)] dX4_addNumber_36 (by decide) rfl ?_
  refine z_goto (tgt := 4) dX4_addNumber_37 (by decide) ?_
  refine z_iload_n (j := 2) dX4_addNumber_4 rfl ?_
  refine z_iconst (v := 1) dX4_addNumber_5 (by decide) ?_
  refine z_icmp_lt (tgt := 40) dX4_addNumber_6 (by decide) (fun czq6 => absurd czq6 (by decide)) (fun czq6 => ?_)
  refine z_iload_n (j := 1) dX4_addNumber_9 rfl ?_
  refine z_iload_n (j := 2) dX4_addNumber_10 rfl ?_
  refine z_icmp_ge (tgt := 19) dX4_addNumber_11 (by decide) (fun czq11 => ?_) (fun czq11 => absurd (nI_le (a := 10) (by omega) (by omega)) czq11)
  refine z_aload_n (j := 0) dX4_addNumber_19 rfl ?_
  refine z_bipush (v := 48) dX4_addNumber_20 (by decide) ?_
  refine z_iload_n (j := 1) dX4_addNumber_22 rfl ?_
  refine z_iload_n (j := 2) dX4_addNumber_23 rfl ?_
  refine z_idiv (by decide) dX4_addNumber_24 ?_
  refine z_bipush (v := 10) dX4_addNumber_25 (by decide) ?_
  refine z_irem (by decide) dX4_addNumber_27 ?_
  refine z_iadd dX4_addNumber_28 ?_
  rw [show (48 + (((nI v) / 10) - ((nI v) / 10) / 10 * 10)) = nI (48 + v / 10 % 10) from dg_of (u := 10) (by omega) (by decide) (by decide)]
  refine z_kV [.int ((nI (48 + v / 10 % 10)))] 0 0 kc ks yoX4_addSign yvX4_addSign rfl (by decide) lX4_19 (by omega) gW_87 rfl rfl (Nat.le_of_ble_eq_true rfl) (Nat.le_of_ble_eq_true rfl) dX4_addNumber_29 (by omega) (by omega) (z_room (by omega) (Nat.le_refl _) (Nat.le_refl _) (w_addSign (d := 0) (l0 := l0 ++ [48 + v / 1000 % 10] ++ [48 + v / 100 % 10]) (by omega) hr2 (by first | omega | (simp only [List.length_append, List.length_cons, List.length_nil]; omega)) (fun o3 u3 hr3 hf3 => ⟨rfl, ?_⟩)))
  refine z_iload_n (j := 2) dX4_addNumber_32 rfl ?_
  refine z_bipush (v := 10) dX4_addNumber_33 (by decide) ?_
  refine z_idiv (by decide) dX4_addNumber_35 ?_
  rw [show ((10 / 10) : Int32) = 1 from by decide]
  refine z_istore_n [1, 2, 0] [(0, .ref 87), (1, .int ((nI v))), (2, .int 1)] dX4_addNumber_36 (by decide) rfl ?_
  refine z_goto (tgt := 4) dX4_addNumber_37 (by decide) ?_
  refine z_iload_n (j := 2) dX4_addNumber_4 rfl ?_
  refine z_iconst (v := 1) dX4_addNumber_5 (by decide) ?_
  refine z_icmp_lt (tgt := 40) dX4_addNumber_6 (by decide) (fun czq6 => absurd czq6 (by decide)) (fun czq6 => ?_)
  refine z_iload_n (j := 1) dX4_addNumber_9 rfl ?_
  refine z_iload_n (j := 2) dX4_addNumber_10 rfl ?_
  refine z_icmp_ge (tgt := 19) dX4_addNumber_11 (by decide) (fun czq11 => ?_) (fun czq11 => absurd (nI_le (a := 1) (by omega) (by omega)) czq11)
  refine z_aload_n (j := 0) dX4_addNumber_19 rfl ?_
  refine z_bipush (v := 48) dX4_addNumber_20 (by decide) ?_
  refine z_iload_n (j := 1) dX4_addNumber_22 rfl ?_
  refine z_iload_n (j := 2) dX4_addNumber_23 rfl ?_
  refine z_idiv (by decide) dX4_addNumber_24 ?_
  refine z_bipush (v := 10) dX4_addNumber_25 (by decide) ?_
  refine z_irem (by decide) dX4_addNumber_27 ?_
  refine z_iadd dX4_addNumber_28 ?_
  rw [show (48 + (((nI v) / 1) - ((nI v) / 1) / 10 * 10)) = nI (48 + v / 1 % 10) from dg_of (u := 1) (by omega) (by decide) (by decide)]
  refine z_kV [.int ((nI (48 + v / 1 % 10)))] 0 0 kc ks yoX4_addSign yvX4_addSign rfl (by decide) lX4_19 (by omega) gW_87 rfl rfl (Nat.le_of_ble_eq_true rfl) (Nat.le_of_ble_eq_true rfl) dX4_addNumber_29 (by omega) (by omega) (z_room (by omega) (Nat.le_refl _) (Nat.le_refl _) (w_addSign (d := 0) (l0 := l0 ++ [48 + v / 1000 % 10] ++ [48 + v / 100 % 10] ++ [48 + v / 10 % 10]) (by omega) hr3 (by first | omega | (simp only [List.length_append, List.length_cons, List.length_nil]; omega)) (fun o4 u4 hr4 hf4 => ⟨rfl, ?_⟩)))
  refine z_iload_n (j := 2) dX4_addNumber_32 rfl ?_
  refine z_bipush (v := 10) dX4_addNumber_33 (by decide) ?_
  refine z_idiv (by decide) dX4_addNumber_35 ?_
  rw [show ((1 / 10) : Int32) = 0 from by decide]
  refine z_istore_n [1, 2, 0] [(0, .ref 87), (1, .int ((nI v))), (2, .int 0)] dX4_addNumber_36 (by decide) rfl ?_
  refine z_goto (tgt := 4) dX4_addNumber_37 (by decide) ?_
  refine z_iload_n (j := 2) dX4_addNumber_4 rfl ?_
  refine z_iconst (v := 1) dX4_addNumber_5 (by decide) ?_
  refine z_icmp_lt (tgt := 40) dX4_addNumber_6 (by decide) (fun czq6 => ?_) (fun czq6 => absurd (by decide) czq6)
  exact z_vret rfl dX4_addNumber_40 (by
      have e : l0 ++ [48 + v / 1000 % 10] ++ [48 + v / 100 % 10] ++ [48 + v / 10 % 10] ++ [48 + v / 1 % 10] = l0 ++ dgs v := by
        unfold dgs
        rw [if_neg (show ¬ v < 10 by omega), if_neg (show ¬ v < 100 by omega), if_neg (show ¬ v < 1000 by omega)]
        rw [Nat.div_one, show v / 1000 % 10 = v / 1000 from by omega]
        try simp only [List.append_assoc, List.cons_append, List.nil_append]
      exact hq o4 u4 (e ▸ hr4) (((hf1.tr hf2).tr hf3).tr hf4))

set_option maxHeartbeats 4000000 in
set_option maxRecDepth 100000 in
theorem w_addNumber1 {l : zL} {d kc ks n : Nat} {h : Nat → va_E} {cm : Value} {o u : Nat → Nat → Int32} {s : Nat → Nat → Int32} {a : Nat → Nat → Nat → Int32} {Q : zQ} {l0 : List Nat} {v : Nat} (hn : 89 ≤ n) (hr : rep l0 o u) (hl : l0.length + 3 ≤ 448) (hlo : 100 ≤ v) (hhi : v ≤ 999) (hq : ∀ o' u', rep (l0 ++ dgs v) o' u' → fr4 o u o' u' → Q (.inl none) n (gW h cm o' u' s a)) : Zj l mX4_addNumber (d + 1) kc ks 0 [(0, .ref 87), (1, .int ((nI v)))] [] n (gW h cm o u s a) Q := by
  refine z_sipush (v := 1000) dX4_addNumber_0 (by decide) ?_
  refine z_istore_n [1, 2, 0] [(0, .ref 87), (1, .int ((nI v))), (2, .int 1000)] dX4_addNumber_3 (by decide) rfl ?_
  refine z_iload_n (j := 2) dX4_addNumber_4 rfl ?_
  refine z_iconst (v := 1) dX4_addNumber_5 (by decide) ?_
  refine z_icmp_lt (tgt := 40) dX4_addNumber_6 (by decide) (fun czq6 => absurd czq6 (by decide)) (fun czq6 => ?_)
  refine z_iload_n (j := 1) dX4_addNumber_9 rfl ?_
  refine z_iload_n (j := 2) dX4_addNumber_10 rfl ?_
  refine z_icmp_ge (tgt := 19) dX4_addNumber_11 (by decide) (fun czq11 => absurd czq11 (nI_ge (b := 1000) (by omega) (by decide))) (fun czq11 => ?_)
  refine z_iload_n (j := 2) dX4_addNumber_14 rfl ?_
  refine z_iconst (v := 1) dX4_addNumber_15 (by decide) ?_
  refine z_icmp_ne (tgt := 32) dX4_addNumber_16 (by decide) (fun czq16 => ?_) (fun czq16 => absurd czq16 (by decide))
  refine z_iload_n (j := 2) dX4_addNumber_32 rfl ?_
  refine z_bipush (v := 10) dX4_addNumber_33 (by decide) ?_
  refine z_idiv (by decide) dX4_addNumber_35 ?_
  rw [show ((1000 / 10) : Int32) = 100 from by decide]
  refine z_istore_n [1, 2, 0] [(0, .ref 87), (1, .int ((nI v))), (2, .int 100)] dX4_addNumber_36 (by decide) rfl ?_
  refine z_goto (tgt := 4) dX4_addNumber_37 (by decide) ?_
  refine z_iload_n (j := 2) dX4_addNumber_4 rfl ?_
  refine z_iconst (v := 1) dX4_addNumber_5 (by decide) ?_
  refine z_icmp_lt (tgt := 40) dX4_addNumber_6 (by decide) (fun czq6 => absurd czq6 (by decide)) (fun czq6 => ?_)
  refine z_iload_n (j := 1) dX4_addNumber_9 rfl ?_
  refine z_iload_n (j := 2) dX4_addNumber_10 rfl ?_
  refine z_icmp_ge (tgt := 19) dX4_addNumber_11 (by decide) (fun czq11 => ?_) (fun czq11 => absurd (nI_le (a := 100) (by omega) (by omega)) czq11)
  refine z_aload_n (j := 0) dX4_addNumber_19 rfl ?_
  refine z_bipush (v := 48) dX4_addNumber_20 (by decide) ?_
  refine z_iload_n (j := 1) dX4_addNumber_22 rfl ?_
  refine z_iload_n (j := 2) dX4_addNumber_23 rfl ?_
  refine z_idiv (by decide) dX4_addNumber_24 ?_
  refine z_bipush (v := 10) dX4_addNumber_25 (by decide) ?_
  refine z_irem (by decide) dX4_addNumber_27 ?_
  refine z_iadd dX4_addNumber_28 ?_
  rw [show (48 + (((nI v) / 100) - ((nI v) / 100) / 10 * 10)) = nI (48 + v / 100 % 10) from dg_of (u := 100) (by omega) (by decide) (by decide)]
  refine z_kV [.int ((nI (48 + v / 100 % 10)))] 0 0 kc ks yoX4_addSign yvX4_addSign rfl (by decide) lX4_19 (by omega) gW_87 rfl rfl (Nat.le_of_ble_eq_true rfl) (Nat.le_of_ble_eq_true rfl) dX4_addNumber_29 (by omega) (by omega) (z_room (by omega) (Nat.le_refl _) (Nat.le_refl _) (w_addSign (d := 0) (l0 := l0) (by omega) hr (by first | omega | (simp only [List.length_append, List.length_cons, List.length_nil]; omega)) (fun o1 u1 hr1 hf1 => ⟨rfl, ?_⟩)))
  refine z_iload_n (j := 2) dX4_addNumber_32 rfl ?_
  refine z_bipush (v := 10) dX4_addNumber_33 (by decide) ?_
  refine z_idiv (by decide) dX4_addNumber_35 ?_
  rw [show ((100 / 10) : Int32) = 10 from by decide]
  refine z_istore_n [1, 2, 0] [(0, .ref 87), (1, .int ((nI v))), (2, .int 10)] dX4_addNumber_36 (by decide) rfl ?_
  refine z_goto (tgt := 4) dX4_addNumber_37 (by decide) ?_
  refine z_iload_n (j := 2) dX4_addNumber_4 rfl ?_
  refine z_iconst (v := 1) dX4_addNumber_5 (by decide) ?_
  refine z_icmp_lt (tgt := 40) dX4_addNumber_6 (by decide) (fun czq6 => absurd czq6 (by decide)) (fun czq6 => ?_)
  refine z_iload_n (j := 1) dX4_addNumber_9 rfl ?_
  refine z_iload_n (j := 2) dX4_addNumber_10 rfl ?_
  refine z_icmp_ge (tgt := 19) dX4_addNumber_11 (by decide) (fun czq11 => ?_) (fun czq11 => absurd (nI_le (a := 10) (by omega) (by omega)) czq11)
  refine z_aload_n (j := 0) dX4_addNumber_19 rfl ?_
  refine z_bipush (v := 48) dX4_addNumber_20 (by decide) ?_
  refine z_iload_n (j := 1) dX4_addNumber_22 rfl ?_
  refine z_iload_n (j := 2) dX4_addNumber_23 rfl ?_
  refine z_idiv (by decide) dX4_addNumber_24 ?_
  refine z_bipush (v := 10) dX4_addNumber_25 (by decide) ?_
  refine z_irem (by decide) dX4_addNumber_27 ?_
  refine z_iadd dX4_addNumber_28 ?_
  rw [show (48 + (((nI v) / 10) - ((nI v) / 10) / 10 * 10)) = nI (48 + v / 10 % 10) from dg_of (u := 10) (by omega) (by decide) (by decide)]
  refine z_kV [.int ((nI (48 + v / 10 % 10)))] 0 0 kc ks yoX4_addSign yvX4_addSign rfl (by decide) lX4_19 (by omega) gW_87 rfl rfl (Nat.le_of_ble_eq_true rfl) (Nat.le_of_ble_eq_true rfl) dX4_addNumber_29 (by omega) (by omega) (z_room (by omega) (Nat.le_refl _) (Nat.le_refl _) (w_addSign (d := 0) (l0 := l0 ++ [48 + v / 100 % 10]) (by omega) hr1 (by first | omega | (simp only [List.length_append, List.length_cons, List.length_nil]; omega)) (fun o2 u2 hr2 hf2 => ⟨rfl, ?_⟩)))
  refine z_iload_n (j := 2) dX4_addNumber_32 rfl ?_
  refine z_bipush (v := 10) dX4_addNumber_33 (by decide) ?_
  refine z_idiv (by decide) dX4_addNumber_35 ?_
  rw [show ((10 / 10) : Int32) = 1 from by decide]
  refine z_istore_n [1, 2, 0] [(0, .ref 87), (1, .int ((nI v))), (2, .int 1)] dX4_addNumber_36 (by decide) rfl ?_
  refine z_goto (tgt := 4) dX4_addNumber_37 (by decide) ?_
  refine z_iload_n (j := 2) dX4_addNumber_4 rfl ?_
  refine z_iconst (v := 1) dX4_addNumber_5 (by decide) ?_
  refine z_icmp_lt (tgt := 40) dX4_addNumber_6 (by decide) (fun czq6 => absurd czq6 (by decide)) (fun czq6 => ?_)
  refine z_iload_n (j := 1) dX4_addNumber_9 rfl ?_
  refine z_iload_n (j := 2) dX4_addNumber_10 rfl ?_
  refine z_icmp_ge (tgt := 19) dX4_addNumber_11 (by decide) (fun czq11 => ?_) (fun czq11 => absurd (nI_le (a := 1) (by omega) (by omega)) czq11)
  refine z_aload_n (j := 0) dX4_addNumber_19 rfl ?_
  refine z_bipush (v := 48) dX4_addNumber_20 (by decide) ?_
  refine z_iload_n (j := 1) dX4_addNumber_22 rfl ?_
  refine z_iload_n (j := 2) dX4_addNumber_23 rfl ?_
  refine z_idiv (by decide) dX4_addNumber_24 ?_
  refine z_bipush (v := 10) dX4_addNumber_25 (by decide) ?_
  refine z_irem (by decide) dX4_addNumber_27 ?_
  refine z_iadd dX4_addNumber_28 ?_
  rw [show (48 + (((nI v) / 1) - ((nI v) / 1) / 10 * 10)) = nI (48 + v / 1 % 10) from dg_of (u := 1) (by omega) (by decide) (by decide)]
  refine z_kV [.int ((nI (48 + v / 1 % 10)))] 0 0 kc ks yoX4_addSign yvX4_addSign rfl (by decide) lX4_19 (by omega) gW_87 rfl rfl (Nat.le_of_ble_eq_true rfl) (Nat.le_of_ble_eq_true rfl) dX4_addNumber_29 (by omega) (by omega) (z_room (by omega) (Nat.le_refl _) (Nat.le_refl _) (w_addSign (d := 0) (l0 := l0 ++ [48 + v / 100 % 10] ++ [48 + v / 10 % 10]) (by omega) hr2 (by first | omega | (simp only [List.length_append, List.length_cons, List.length_nil]; omega)) (fun o3 u3 hr3 hf3 => ⟨rfl, ?_⟩)))
  refine z_iload_n (j := 2) dX4_addNumber_32 rfl ?_
  refine z_bipush (v := 10) dX4_addNumber_33 (by decide) ?_
  refine z_idiv (by decide) dX4_addNumber_35 ?_
  rw [show ((1 / 10) : Int32) = 0 from by decide]
  refine z_istore_n [1, 2, 0] [(0, .ref 87), (1, .int ((nI v))), (2, .int 0)] dX4_addNumber_36 (by decide) rfl ?_
  refine z_goto (tgt := 4) dX4_addNumber_37 (by decide) ?_
  refine z_iload_n (j := 2) dX4_addNumber_4 rfl ?_
  refine z_iconst (v := 1) dX4_addNumber_5 (by decide) ?_
  refine z_icmp_lt (tgt := 40) dX4_addNumber_6 (by decide) (fun czq6 => ?_) (fun czq6 => absurd (by decide) czq6)
  exact z_vret rfl dX4_addNumber_40 (by
      have e : l0 ++ [48 + v / 100 % 10] ++ [48 + v / 10 % 10] ++ [48 + v / 1 % 10] = l0 ++ dgs v := by
        unfold dgs
        rw [if_neg (show ¬ v < 10 by omega), if_neg (show ¬ v < 100 by omega), if_pos (show v < 1000 by omega)]
        rw [Nat.div_one, show v / 100 % 10 = v / 100 from by omega]
        try simp only [List.append_assoc, List.cons_append, List.nil_append]
      exact hq o3 u3 (e ▸ hr3) ((hf1.tr hf2).tr hf3))

set_option maxHeartbeats 4000000 in
set_option maxRecDepth 100000 in
theorem w_addNumber2 {l : zL} {d kc ks n : Nat} {h : Nat → va_E} {cm : Value} {o u : Nat → Nat → Int32} {s : Nat → Nat → Int32} {a : Nat → Nat → Nat → Int32} {Q : zQ} {l0 : List Nat} {v : Nat} (hn : 89 ≤ n) (hr : rep l0 o u) (hl : l0.length + 2 ≤ 448) (hlo : 10 ≤ v) (hhi : v ≤ 99) (hq : ∀ o' u', rep (l0 ++ dgs v) o' u' → fr4 o u o' u' → Q (.inl none) n (gW h cm o' u' s a)) : Zj l mX4_addNumber (d + 1) kc ks 0 [(0, .ref 87), (1, .int ((nI v)))] [] n (gW h cm o u s a) Q := by
  refine z_sipush (v := 1000) dX4_addNumber_0 (by decide) ?_
  refine z_istore_n [1, 2, 0] [(0, .ref 87), (1, .int ((nI v))), (2, .int 1000)] dX4_addNumber_3 (by decide) rfl ?_
  refine z_iload_n (j := 2) dX4_addNumber_4 rfl ?_
  refine z_iconst (v := 1) dX4_addNumber_5 (by decide) ?_
  refine z_icmp_lt (tgt := 40) dX4_addNumber_6 (by decide) (fun czq6 => absurd czq6 (by decide)) (fun czq6 => ?_)
  refine z_iload_n (j := 1) dX4_addNumber_9 rfl ?_
  refine z_iload_n (j := 2) dX4_addNumber_10 rfl ?_
  refine z_icmp_ge (tgt := 19) dX4_addNumber_11 (by decide) (fun czq11 => absurd czq11 (nI_ge (b := 1000) (by omega) (by decide))) (fun czq11 => ?_)
  refine z_iload_n (j := 2) dX4_addNumber_14 rfl ?_
  refine z_iconst (v := 1) dX4_addNumber_15 (by decide) ?_
  refine z_icmp_ne (tgt := 32) dX4_addNumber_16 (by decide) (fun czq16 => ?_) (fun czq16 => absurd czq16 (by decide))
  refine z_iload_n (j := 2) dX4_addNumber_32 rfl ?_
  refine z_bipush (v := 10) dX4_addNumber_33 (by decide) ?_
  refine z_idiv (by decide) dX4_addNumber_35 ?_
  rw [show ((1000 / 10) : Int32) = 100 from by decide]
  refine z_istore_n [1, 2, 0] [(0, .ref 87), (1, .int ((nI v))), (2, .int 100)] dX4_addNumber_36 (by decide) rfl ?_
  refine z_goto (tgt := 4) dX4_addNumber_37 (by decide) ?_
  refine z_iload_n (j := 2) dX4_addNumber_4 rfl ?_
  refine z_iconst (v := 1) dX4_addNumber_5 (by decide) ?_
  refine z_icmp_lt (tgt := 40) dX4_addNumber_6 (by decide) (fun czq6 => absurd czq6 (by decide)) (fun czq6 => ?_)
  refine z_iload_n (j := 1) dX4_addNumber_9 rfl ?_
  refine z_iload_n (j := 2) dX4_addNumber_10 rfl ?_
  refine z_icmp_ge (tgt := 19) dX4_addNumber_11 (by decide) (fun czq11 => absurd czq11 (nI_ge (b := 100) (by omega) (by decide))) (fun czq11 => ?_)
  refine z_iload_n (j := 2) dX4_addNumber_14 rfl ?_
  refine z_iconst (v := 1) dX4_addNumber_15 (by decide) ?_
  refine z_icmp_ne (tgt := 32) dX4_addNumber_16 (by decide) (fun czq16 => ?_) (fun czq16 => absurd czq16 (by decide))
  refine z_iload_n (j := 2) dX4_addNumber_32 rfl ?_
  refine z_bipush (v := 10) dX4_addNumber_33 (by decide) ?_
  refine z_idiv (by decide) dX4_addNumber_35 ?_
  rw [show ((100 / 10) : Int32) = 10 from by decide]
  refine z_istore_n [1, 2, 0] [(0, .ref 87), (1, .int ((nI v))), (2, .int 10)] dX4_addNumber_36 (by decide) rfl ?_
  refine z_goto (tgt := 4) dX4_addNumber_37 (by decide) ?_
  refine z_iload_n (j := 2) dX4_addNumber_4 rfl ?_
  refine z_iconst (v := 1) dX4_addNumber_5 (by decide) ?_
  refine z_icmp_lt (tgt := 40) dX4_addNumber_6 (by decide) (fun czq6 => absurd czq6 (by decide)) (fun czq6 => ?_)
  refine z_iload_n (j := 1) dX4_addNumber_9 rfl ?_
  refine z_iload_n (j := 2) dX4_addNumber_10 rfl ?_
  refine z_icmp_ge (tgt := 19) dX4_addNumber_11 (by decide) (fun czq11 => ?_) (fun czq11 => absurd (nI_le (a := 10) (by omega) (by omega)) czq11)
  refine z_aload_n (j := 0) dX4_addNumber_19 rfl ?_
  refine z_bipush (v := 48) dX4_addNumber_20 (by decide) ?_
  refine z_iload_n (j := 1) dX4_addNumber_22 rfl ?_
  refine z_iload_n (j := 2) dX4_addNumber_23 rfl ?_
  refine z_idiv (by decide) dX4_addNumber_24 ?_
  refine z_bipush (v := 10) dX4_addNumber_25 (by decide) ?_
  refine z_irem (by decide) dX4_addNumber_27 ?_
  refine z_iadd dX4_addNumber_28 ?_
  rw [show (48 + (((nI v) / 10) - ((nI v) / 10) / 10 * 10)) = nI (48 + v / 10 % 10) from dg_of (u := 10) (by omega) (by decide) (by decide)]
  refine z_kV [.int ((nI (48 + v / 10 % 10)))] 0 0 kc ks yoX4_addSign yvX4_addSign rfl (by decide) lX4_19 (by omega) gW_87 rfl rfl (Nat.le_of_ble_eq_true rfl) (Nat.le_of_ble_eq_true rfl) dX4_addNumber_29 (by omega) (by omega) (z_room (by omega) (Nat.le_refl _) (Nat.le_refl _) (w_addSign (d := 0) (l0 := l0) (by omega) hr (by first | omega | (simp only [List.length_append, List.length_cons, List.length_nil]; omega)) (fun o1 u1 hr1 hf1 => ⟨rfl, ?_⟩)))
  refine z_iload_n (j := 2) dX4_addNumber_32 rfl ?_
  refine z_bipush (v := 10) dX4_addNumber_33 (by decide) ?_
  refine z_idiv (by decide) dX4_addNumber_35 ?_
  rw [show ((10 / 10) : Int32) = 1 from by decide]
  refine z_istore_n [1, 2, 0] [(0, .ref 87), (1, .int ((nI v))), (2, .int 1)] dX4_addNumber_36 (by decide) rfl ?_
  refine z_goto (tgt := 4) dX4_addNumber_37 (by decide) ?_
  refine z_iload_n (j := 2) dX4_addNumber_4 rfl ?_
  refine z_iconst (v := 1) dX4_addNumber_5 (by decide) ?_
  refine z_icmp_lt (tgt := 40) dX4_addNumber_6 (by decide) (fun czq6 => absurd czq6 (by decide)) (fun czq6 => ?_)
  refine z_iload_n (j := 1) dX4_addNumber_9 rfl ?_
  refine z_iload_n (j := 2) dX4_addNumber_10 rfl ?_
  refine z_icmp_ge (tgt := 19) dX4_addNumber_11 (by decide) (fun czq11 => ?_) (fun czq11 => absurd (nI_le (a := 1) (by omega) (by omega)) czq11)
  refine z_aload_n (j := 0) dX4_addNumber_19 rfl ?_
  refine z_bipush (v := 48) dX4_addNumber_20 (by decide) ?_
  refine z_iload_n (j := 1) dX4_addNumber_22 rfl ?_
  refine z_iload_n (j := 2) dX4_addNumber_23 rfl ?_
  refine z_idiv (by decide) dX4_addNumber_24 ?_
  refine z_bipush (v := 10) dX4_addNumber_25 (by decide) ?_
  refine z_irem (by decide) dX4_addNumber_27 ?_
  refine z_iadd dX4_addNumber_28 ?_
  rw [show (48 + (((nI v) / 1) - ((nI v) / 1) / 10 * 10)) = nI (48 + v / 1 % 10) from dg_of (u := 1) (by omega) (by decide) (by decide)]
  refine z_kV [.int ((nI (48 + v / 1 % 10)))] 0 0 kc ks yoX4_addSign yvX4_addSign rfl (by decide) lX4_19 (by omega) gW_87 rfl rfl (Nat.le_of_ble_eq_true rfl) (Nat.le_of_ble_eq_true rfl) dX4_addNumber_29 (by omega) (by omega) (z_room (by omega) (Nat.le_refl _) (Nat.le_refl _) (w_addSign (d := 0) (l0 := l0 ++ [48 + v / 10 % 10]) (by omega) hr1 (by first | omega | (simp only [List.length_append, List.length_cons, List.length_nil]; omega)) (fun o2 u2 hr2 hf2 => ⟨rfl, ?_⟩)))
  refine z_iload_n (j := 2) dX4_addNumber_32 rfl ?_
  refine z_bipush (v := 10) dX4_addNumber_33 (by decide) ?_
  refine z_idiv (by decide) dX4_addNumber_35 ?_
  rw [show ((1 / 10) : Int32) = 0 from by decide]
  refine z_istore_n [1, 2, 0] [(0, .ref 87), (1, .int ((nI v))), (2, .int 0)] dX4_addNumber_36 (by decide) rfl ?_
  refine z_goto (tgt := 4) dX4_addNumber_37 (by decide) ?_
  refine z_iload_n (j := 2) dX4_addNumber_4 rfl ?_
  refine z_iconst (v := 1) dX4_addNumber_5 (by decide) ?_
  refine z_icmp_lt (tgt := 40) dX4_addNumber_6 (by decide) (fun czq6 => ?_) (fun czq6 => absurd (by decide) czq6)
  exact z_vret rfl dX4_addNumber_40 (by
      have e : l0 ++ [48 + v / 10 % 10] ++ [48 + v / 1 % 10] = l0 ++ dgs v := by
        unfold dgs
        rw [if_neg (show ¬ v < 10 by omega), if_pos (show v < 100 by omega)]
        rw [Nat.div_one, show v / 10 % 10 = v / 10 from by omega]
        try simp only [List.append_assoc, List.cons_append, List.nil_append]
      exact hq o2 u2 (e ▸ hr2) (hf1.tr hf2))

set_option maxHeartbeats 4000000 in
set_option maxRecDepth 100000 in
theorem w_addNumber3 {l : zL} {d kc ks n : Nat} {h : Nat → va_E} {cm : Value} {o u : Nat → Nat → Int32} {s : Nat → Nat → Int32} {a : Nat → Nat → Nat → Int32} {Q : zQ} {l0 : List Nat} {v : Nat} (hn : 89 ≤ n) (hr : rep l0 o u) (hl : l0.length + 1 ≤ 448) (hlo : 0 ≤ v) (hhi : v ≤ 9) (hq : ∀ o' u', rep (l0 ++ dgs v) o' u' → fr4 o u o' u' → Q (.inl none) n (gW h cm o' u' s a)) : Zj l mX4_addNumber (d + 1) kc ks 0 [(0, .ref 87), (1, .int ((nI v)))] [] n (gW h cm o u s a) Q := by
  refine z_sipush (v := 1000) dX4_addNumber_0 (by decide) ?_
  refine z_istore_n [1, 2, 0] [(0, .ref 87), (1, .int ((nI v))), (2, .int 1000)] dX4_addNumber_3 (by decide) rfl ?_
  refine z_iload_n (j := 2) dX4_addNumber_4 rfl ?_
  refine z_iconst (v := 1) dX4_addNumber_5 (by decide) ?_
  refine z_icmp_lt (tgt := 40) dX4_addNumber_6 (by decide) (fun czq6 => absurd czq6 (by decide)) (fun czq6 => ?_)
  refine z_iload_n (j := 1) dX4_addNumber_9 rfl ?_
  refine z_iload_n (j := 2) dX4_addNumber_10 rfl ?_
  refine z_icmp_ge (tgt := 19) dX4_addNumber_11 (by decide) (fun czq11 => absurd czq11 (nI_ge (b := 1000) (by omega) (by decide))) (fun czq11 => ?_)
  refine z_iload_n (j := 2) dX4_addNumber_14 rfl ?_
  refine z_iconst (v := 1) dX4_addNumber_15 (by decide) ?_
  refine z_icmp_ne (tgt := 32) dX4_addNumber_16 (by decide) (fun czq16 => ?_) (fun czq16 => absurd czq16 (by decide))
  refine z_iload_n (j := 2) dX4_addNumber_32 rfl ?_
  refine z_bipush (v := 10) dX4_addNumber_33 (by decide) ?_
  refine z_idiv (by decide) dX4_addNumber_35 ?_
  rw [show ((1000 / 10) : Int32) = 100 from by decide]
  refine z_istore_n [1, 2, 0] [(0, .ref 87), (1, .int ((nI v))), (2, .int 100)] dX4_addNumber_36 (by decide) rfl ?_
  refine z_goto (tgt := 4) dX4_addNumber_37 (by decide) ?_
  refine z_iload_n (j := 2) dX4_addNumber_4 rfl ?_
  refine z_iconst (v := 1) dX4_addNumber_5 (by decide) ?_
  refine z_icmp_lt (tgt := 40) dX4_addNumber_6 (by decide) (fun czq6 => absurd czq6 (by decide)) (fun czq6 => ?_)
  refine z_iload_n (j := 1) dX4_addNumber_9 rfl ?_
  refine z_iload_n (j := 2) dX4_addNumber_10 rfl ?_
  refine z_icmp_ge (tgt := 19) dX4_addNumber_11 (by decide) (fun czq11 => absurd czq11 (nI_ge (b := 100) (by omega) (by decide))) (fun czq11 => ?_)
  refine z_iload_n (j := 2) dX4_addNumber_14 rfl ?_
  refine z_iconst (v := 1) dX4_addNumber_15 (by decide) ?_
  refine z_icmp_ne (tgt := 32) dX4_addNumber_16 (by decide) (fun czq16 => ?_) (fun czq16 => absurd czq16 (by decide))
  refine z_iload_n (j := 2) dX4_addNumber_32 rfl ?_
  refine z_bipush (v := 10) dX4_addNumber_33 (by decide) ?_
  refine z_idiv (by decide) dX4_addNumber_35 ?_
  rw [show ((100 / 10) : Int32) = 10 from by decide]
  refine z_istore_n [1, 2, 0] [(0, .ref 87), (1, .int ((nI v))), (2, .int 10)] dX4_addNumber_36 (by decide) rfl ?_
  refine z_goto (tgt := 4) dX4_addNumber_37 (by decide) ?_
  refine z_iload_n (j := 2) dX4_addNumber_4 rfl ?_
  refine z_iconst (v := 1) dX4_addNumber_5 (by decide) ?_
  refine z_icmp_lt (tgt := 40) dX4_addNumber_6 (by decide) (fun czq6 => absurd czq6 (by decide)) (fun czq6 => ?_)
  refine z_iload_n (j := 1) dX4_addNumber_9 rfl ?_
  refine z_iload_n (j := 2) dX4_addNumber_10 rfl ?_
  refine z_icmp_ge (tgt := 19) dX4_addNumber_11 (by decide) (fun czq11 => absurd czq11 (nI_ge (b := 10) (by omega) (by decide))) (fun czq11 => ?_)
  refine z_iload_n (j := 2) dX4_addNumber_14 rfl ?_
  refine z_iconst (v := 1) dX4_addNumber_15 (by decide) ?_
  refine z_icmp_ne (tgt := 32) dX4_addNumber_16 (by decide) (fun czq16 => ?_) (fun czq16 => absurd czq16 (by decide))
  refine z_iload_n (j := 2) dX4_addNumber_32 rfl ?_
  refine z_bipush (v := 10) dX4_addNumber_33 (by decide) ?_
  refine z_idiv (by decide) dX4_addNumber_35 ?_
  rw [show ((10 / 10) : Int32) = 1 from by decide]
  refine z_istore_n [1, 2, 0] [(0, .ref 87), (1, .int ((nI v))), (2, .int 1)] dX4_addNumber_36 (by decide) rfl ?_
  refine z_goto (tgt := 4) dX4_addNumber_37 (by decide) ?_
  refine z_iload_n (j := 2) dX4_addNumber_4 rfl ?_
  refine z_iconst (v := 1) dX4_addNumber_5 (by decide) ?_
  refine z_icmp_lt (tgt := 40) dX4_addNumber_6 (by decide) (fun czq6 => absurd czq6 (by decide)) (fun czq6 => ?_)
  refine z_iload_n (j := 1) dX4_addNumber_9 rfl ?_
  refine z_iload_n (j := 2) dX4_addNumber_10 rfl ?_
  refine z_icmp_ge (tgt := 19) dX4_addNumber_11 (by decide) (fun czq11 => ?_) (fun czq11 => ?_)
  · refine z_aload_n (j := 0) dX4_addNumber_19 rfl ?_
    refine z_bipush (v := 48) dX4_addNumber_20 (by decide) ?_
    refine z_iload_n (j := 1) dX4_addNumber_22 rfl ?_
    refine z_iload_n (j := 2) dX4_addNumber_23 rfl ?_
    refine z_idiv (by decide) dX4_addNumber_24 ?_
    refine z_bipush (v := 10) dX4_addNumber_25 (by decide) ?_
    refine z_irem (by decide) dX4_addNumber_27 ?_
    refine z_iadd dX4_addNumber_28 ?_
    rw [show (48 + (((nI v) / 1) - ((nI v) / 1) / 10 * 10)) = nI (48 + v / 1 % 10) from dg_of (u := 1) (by omega) (by decide) (by decide)]
    refine z_kV [.int ((nI (48 + v / 1 % 10)))] 0 0 kc ks yoX4_addSign yvX4_addSign rfl (by decide) lX4_19 (by omega) gW_87 rfl rfl (Nat.le_of_ble_eq_true rfl) (Nat.le_of_ble_eq_true rfl) dX4_addNumber_29 (by omega) (by omega) (z_room (by omega) (Nat.le_refl _) (Nat.le_refl _) (w_addSign (d := 0) (l0 := l0) (by omega) hr (by first | omega | (simp only [List.length_append, List.length_cons, List.length_nil]; omega)) (fun o1 u1 hr1 hf1 => ⟨rfl, ?_⟩)))
    refine z_iload_n (j := 2) dX4_addNumber_32 rfl ?_
    refine z_bipush (v := 10) dX4_addNumber_33 (by decide) ?_
    refine z_idiv (by decide) dX4_addNumber_35 ?_
    rw [show ((1 / 10) : Int32) = 0 from by decide]
    refine z_istore_n [1, 2, 0] [(0, .ref 87), (1, .int ((nI v))), (2, .int 0)] dX4_addNumber_36 (by decide) rfl ?_
    refine z_goto (tgt := 4) dX4_addNumber_37 (by decide) ?_
    refine z_iload_n (j := 2) dX4_addNumber_4 rfl ?_
    refine z_iconst (v := 1) dX4_addNumber_5 (by decide) ?_
    refine z_icmp_lt (tgt := 40) dX4_addNumber_6 (by decide) (fun czq6 => ?_) (fun czq6 => absurd (by decide) czq6)
    exact z_vret rfl dX4_addNumber_40 (by
        have e : l0 ++ [48 + v / 1 % 10] = l0 ++ dgs v := by
          unfold dgs
          rw [if_pos (show v < 10 by omega)]
          rw [Nat.div_one, show v % 10 = v from by omega]
          try simp only [List.append_assoc, List.cons_append, List.nil_append]
        exact hq o1 u1 (e ▸ hr1) hf1)
  · refine z_iload_n (j := 2) dX4_addNumber_14 rfl ?_
    refine z_iconst (v := 1) dX4_addNumber_15 (by decide) ?_
    refine z_icmp_ne (tgt := 32) dX4_addNumber_16 (by decide) (fun czq16 => absurd rfl czq16) (fun czq16 => ?_)
    refine z_aload_n (j := 0) dX4_addNumber_19 rfl ?_
    refine z_bipush (v := 48) dX4_addNumber_20 (by decide) ?_
    refine z_iload_n (j := 1) dX4_addNumber_22 rfl ?_
    refine z_iload_n (j := 2) dX4_addNumber_23 rfl ?_
    refine z_idiv (by decide) dX4_addNumber_24 ?_
    refine z_bipush (v := 10) dX4_addNumber_25 (by decide) ?_
    refine z_irem (by decide) dX4_addNumber_27 ?_
    refine z_iadd dX4_addNumber_28 ?_
    rw [show (48 + (((nI v) / 1) - ((nI v) / 1) / 10 * 10)) = nI (48 + v / 1 % 10) from dg_of (u := 1) (by omega) (by decide) (by decide)]
    refine z_kV [.int ((nI (48 + v / 1 % 10)))] 0 0 kc ks yoX4_addSign yvX4_addSign rfl (by decide) lX4_19 (by omega) gW_87 rfl rfl (Nat.le_of_ble_eq_true rfl) (Nat.le_of_ble_eq_true rfl) dX4_addNumber_29 (by omega) (by omega) (z_room (by omega) (Nat.le_refl _) (Nat.le_refl _) (w_addSign (d := 0) (l0 := l0) (by omega) hr (by first | omega | (simp only [List.length_append, List.length_cons, List.length_nil]; omega)) (fun o1 u1 hr1 hf1 => ⟨rfl, ?_⟩)))
    refine z_iload_n (j := 2) dX4_addNumber_32 rfl ?_
    refine z_bipush (v := 10) dX4_addNumber_33 (by decide) ?_
    refine z_idiv (by decide) dX4_addNumber_35 ?_
    rw [show ((1 / 10) : Int32) = 0 from by decide]
    refine z_istore_n [1, 2, 0] [(0, .ref 87), (1, .int ((nI v))), (2, .int 0)] dX4_addNumber_36 (by decide) rfl ?_
    refine z_goto (tgt := 4) dX4_addNumber_37 (by decide) ?_
    refine z_iload_n (j := 2) dX4_addNumber_4 rfl ?_
    refine z_iconst (v := 1) dX4_addNumber_5 (by decide) ?_
    refine z_icmp_lt (tgt := 40) dX4_addNumber_6 (by decide) (fun czq6 => ?_) (fun czq6 => absurd (by decide) czq6)
    exact z_vret rfl dX4_addNumber_40 (by
        have e : l0 ++ [48 + v / 1 % 10] = l0 ++ dgs v := by
          unfold dgs
          rw [if_pos (show v < 10 by omega)]
          rw [Nat.div_one, show v % 10 = v from by omega]
          try simp only [List.append_assoc, List.cons_append, List.nil_append]
        exact hq o1 u1 (e ▸ hr1) hf1)

theorem w_addNumber {l : zL} {d kc ks n : Nat} {h : Nat → va_E} {cm : Value} {o u : Nat → Nat → Int32} {s : Nat → Nat → Int32} {a : Nat → Nat → Nat → Int32} {Q : zQ} {l0 : List Nat} {v : Nat} (hn : 89 ≤ n) (hr : rep l0 o u) (hl : l0.length + 4 ≤ 448) (hv : v ≤ 9999) (hq : ∀ o' u', rep (l0 ++ dgs v) o' u' → fr4 o u o' u' → Q (.inl none) n (gW h cm o' u' s a)) : Zj l mX4_addNumber (d + 1) kc ks 0 [(0, .ref 87), (1, .int (nI v))] [] n (gW h cm o u s a) Q := by
  rcases (show 1000 ≤ v ∨ 100 ≤ v ∧ v ≤ 999 ∨ 10 ≤ v ∧ v ≤ 99 ∨ v ≤ 9 by omega) with h | h | h | h
  · exact w_addNumber0 hn hr (by omega) h hv hq
  · exact w_addNumber1 hn hr (by omega) h.1 h.2 hq
  · exact w_addNumber2 hn hr (by omega) h.1 h.2 hq
  · exact w_addNumber3 hn hr (by omega) (Nat.zero_le _) h hq
