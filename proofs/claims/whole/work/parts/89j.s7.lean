/-! THE CLASS'S SCRIPT: statements, and the loop over them -/

set_option maxHeartbeats 4000000 in
set_option maxRecDepth 100000 in
theorem w_rs_open {l : zL} {d kc ks n : Nat} {h : Nat → va_E} {cm : Value} {o u : Nat → Nat → Int32} {s : Nat → Nat → Int32} {a : Nat → Nat → Nat → Int32} {L : Nat} {x : Nat → Nat} {p : Nat} {P : (Value → (Nat → Nat → Int32) → (Nat → Nat → Int32) → (Nat → Nat → Int32) → (Nat → Nat → Nat → Int32) → Prop)} {Q : zQ} (hn : 89 ≤ n) (hL : L ≤ 600) (h11 : o 1 1 = nI L) (hu : ∀ i, i < L → u 0 i = nI (x i)) (hx : ∀ i, x i < 256) (hp : p ≤ L) (h12 : o 1 2 = nI p) (h8 : o 2 8 = 0) (hcall : ∀ {Q' : zQ} {o1 : Nat → Nat → Int32}, o1 1 2 = nI (nx L x p) → o1 1 3 = nI (tS L x p) → o1 1 4 = nI (tKd L x (tS L x p)) → fp (fun j => 2 ≤ j) o o1 → (∀ cm' o' u' s' a', P cm' o' u' s' a' → Q' (.inl none) n (gW h cm' o' u' s' a')) → Zj l mX5_readOpening (d + 5) 0 0 0 [(0, .ref 3)] [] n (gW h .null o1 u s a) Q') (hq : ∀ cm' o' u' s' a', P cm' o' u' s' a' → Q (.inl none) n (gW h cm' o' u' s' a')) : Zj l mX5_readStatement (d + 6) kc ks 0 [(0, .ref 3)] [] n (gW h cm o u s a) Q := by
  refine z_aload_n (j := 0) dX5_readStatement_0 rfl ?_
  refine z_null dX5_readStatement_1 ?_
  refine g_putcN  (by omega) fX5_57 dX5_readStatement_2 ?_
  refine z_aload_n (j := 0) dX5_readStatement_5 rfl ?_
  refine z_get (v := .ref 1) (by omega) gW_3 fX5_32 rfl dX5_readStatement_6 ?_
  refine z_kV [] 0 0 kc ks yoX3_nextToken yvX3_nextToken rfl (by decide) lX5_61 (by omega) gW_1 rfl rfl (Nat.le_of_ble_eq_true rfl) (Nat.le_of_ble_eq_true rfl) dX5_readStatement_9 (by omega) (by omega) (z_room (by omega) (Nat.le_refl _) (Nat.le_refl _) (w_nextToken (d := 0) hn hL h11 hu hx hp h12 (fun o1 q2 q3 q4 q5 hf => ⟨rfl, ?_⟩)))
  refine z_aload_n (j := 0) dX5_readStatement_12 rfl ?_
  refine z_get (v := .int (o1 2 8)) (by omega) gW_3 fX5_47 rfl dX5_readStatement_13 ?_
  rw [show (o1 2 8) = 0 from by rw [hf.1 2 (by decide)]; exact h8]
  refine z_if_ne (tgt := 26) dX5_readStatement_16 (by decide) (fun czq16 => absurd czq16 (fun z => z rfl)) (fun czq16 => ?_)
  refine z_aload_n (j := 0) dX5_readStatement_19 rfl ?_
  refine z_kV [] 0 0 kc ks yoX5_readOpening yvX5_readOpening rfl (by decide) lX5_64 (by omega) gW_3 rfl rfl (Nat.le_of_ble_eq_true rfl) (Nat.le_of_ble_eq_true rfl) dX5_readStatement_20 (by omega) (by omega) (z_room (d' := d + 5) (by omega) (Nat.le_refl _) (Nat.le_refl _) ?_)
  refine hcall q2 q3 q4 hf (fun cm' o' u' s' a' hP => ?_)
  refine ⟨rfl, ?_⟩
  refine z_goto (tgt := 99) dX5_readStatement_23 (by decide) ?_
  exact z_vret rfl dX5_readStatement_99 (hq cm' o' u' s' a' hP)

set_option maxHeartbeats 4000000 in
set_option maxRecDepth 100000 in
theorem w_rs_end {l : zL} {d kc ks n : Nat} {h : Nat → va_E} {cm : Value} {o u : Nat → Nat → Int32} {s : Nat → Nat → Int32} {a : Nat → Nat → Nat → Int32} {L : Nat} {x : Nat → Nat} {p : Nat} {Q : zQ} (hn : 89 ≤ n) (hL : L ≤ 600) (h11 : o 1 1 = nI L) (hu : ∀ i, i < L → u 0 i = nI (x i)) (hx : ∀ i, x i < 256) (hp : p ≤ L) (h12 : o 1 2 = nI p) (h8 : o 2 8 = 1) {dep : Nat} (h5 : o 2 5 = nI dep) (hd : dep = 0) (hk : tKd L x (tS L x p) = 0) (hq : ∀ o1, o1 1 2 = nI (nx L x p) → o1 1 3 = nI (tS L x p) → fp (fun j => 2 ≤ j) o o1 → Q (.inl none) n (gW h .null (va_up o1 2 (va_up (o1 2) 9 1)) u s a)) : Zj l mX5_readStatement (d + 6) kc ks 0 [(0, .ref 3)] [] n (gW h cm o u s a) Q := by
  refine z_aload_n (j := 0) dX5_readStatement_0 rfl ?_
  refine z_null dX5_readStatement_1 ?_
  refine g_putcN  (by omega) fX5_57 dX5_readStatement_2 ?_
  refine z_aload_n (j := 0) dX5_readStatement_5 rfl ?_
  refine z_get (v := .ref 1) (by omega) gW_3 fX5_32 rfl dX5_readStatement_6 ?_
  refine z_kV [] 0 0 kc ks yoX3_nextToken yvX3_nextToken rfl (by decide) lX5_61 (by omega) gW_1 rfl rfl (Nat.le_of_ble_eq_true rfl) (Nat.le_of_ble_eq_true rfl) dX5_readStatement_9 (by omega) (by omega) (z_room (by omega) (Nat.le_refl _) (Nat.le_refl _) (w_nextToken (d := 0) hn hL h11 hu hx hp h12 (fun o1 q2 q3 q4 q5 hf => ⟨rfl, ?_⟩)))
  refine z_aload_n (j := 0) dX5_readStatement_12 rfl ?_
  refine z_get (v := .int (o1 2 8)) (by omega) gW_3 fX5_47 rfl dX5_readStatement_13 ?_
  rw [show (o1 2 8) = 1 from by rw [hf.1 2 (by decide)]; exact h8]
  refine z_if_ne (tgt := 26) dX5_readStatement_16 (by decide) (fun czq16 => ?_) (fun czq16 => absurd czq16 (by decide))
  refine z_aload_n (j := 0) dX5_readStatement_26 rfl ?_
  refine z_get (v := .int (o1 2 5)) (by omega) gW_3 fX5_41 rfl dX5_readStatement_27 ?_
  rw [show (o1 2 5) = nI dep from by rw [hf.1 2 (by decide)]; exact h5]
  refine z_if_ne (tgt := 51) dX5_readStatement_30 (by decide) (fun czq30 => absurd czq30 (fun z => z (by rw [hd]; rfl))) (fun czq30 => ?_)
  refine z_aload_n (j := 0) dX5_readStatement_33 rfl ?_
  refine z_get (v := .ref 1) (by omega) gW_3 fX5_32 rfl dX5_readStatement_34 ?_
  refine z_get (v := .int (o1 1 4)) (by omega) gW_1 fX5_67 rfl dX5_readStatement_37 ?_
  rw [show (o1 1 4) = nI (tKd L x (tS L x p)) from q4]
  refine z_if_ne (tgt := 51) dX5_readStatement_40 (by decide) (fun czq40 => absurd czq40 (fun z => z (by rw [hk]; rfl))) (fun czq40 => ?_)
  refine z_aload_n (j := 0) dX5_readStatement_43 rfl ?_
  refine z_iconst (v := 1) dX5_readStatement_44 (by decide) ?_
  refine g_putz (Or.inr rfl) 2 (by decide) (by omega) (by decide) rfl rfl fX5_51 gg5 rfl fin5_9 (by show 9 < 12; decide) dX5_readStatement_45 ?_
  refine z_goto (tgt := 99) dX5_readStatement_48 (by decide) ?_
  exact z_vret rfl dX5_readStatement_99 (hq o1 q2 q3 hf)

set_option maxHeartbeats 4000000 in
set_option maxRecDepth 100000 in
theorem w_rs_close {l : zL} {d kc ks n : Nat} {h : Nat → va_E} {cm : Value} {o u : Nat → Nat → Int32} {s : Nat → Nat → Int32} {a : Nat → Nat → Nat → Int32} {L : Nat} {x : Nat → Nat} {p : Nat} {P : (Value → (Nat → Nat → Int32) → (Nat → Nat → Int32) → (Nat → Nat → Int32) → (Nat → Nat → Nat → Int32) → Prop)} {Q : zQ} (hn : 89 ≤ n) (hL : L ≤ 600) (h11 : o 1 1 = nI L) (hu : ∀ i, i < L → u 0 i = nI (x i)) (hx : ∀ i, x i < 256) (hp : p ≤ L) (h12 : o 1 2 = nI p) (h8 : o 2 8 = 1) {dep : Nat} (h5 : o 2 5 = nI dep) (hd : 0 < dep) (hd2 : dep ≤ 2) (hk : tKd L x (tS L x p) = 4) (hcall : ∀ {Q' : zQ} {o1 : Nat → Nat → Int32}, o1 1 2 = nI (nx L x p) → o1 1 3 = nI (tS L x p) → o1 1 4 = nI (tKd L x (tS L x p)) → fp (fun j => 2 ≤ j) o o1 → (∀ cm' o' u' s' a', P cm' o' u' s' a' → Q' (.inl none) n (gW h cm' o' u' s' a')) → Zj l mX5_endBody (d + 5) 0 0 0 [(0, .ref 3)] [] n (gW h .null o1 u s a) Q') (hq : ∀ cm' o' u' s' a', P cm' o' u' s' a' → Q (.inl none) n (gW h cm' o' u' s' a')) : Zj l mX5_readStatement (d + 6) kc ks 0 [(0, .ref 3)] [] n (gW h cm o u s a) Q := by
  refine z_aload_n (j := 0) dX5_readStatement_0 rfl ?_
  refine z_null dX5_readStatement_1 ?_
  refine g_putcN  (by omega) fX5_57 dX5_readStatement_2 ?_
  refine z_aload_n (j := 0) dX5_readStatement_5 rfl ?_
  refine z_get (v := .ref 1) (by omega) gW_3 fX5_32 rfl dX5_readStatement_6 ?_
  refine z_kV [] 0 0 kc ks yoX3_nextToken yvX3_nextToken rfl (by decide) lX5_61 (by omega) gW_1 rfl rfl (Nat.le_of_ble_eq_true rfl) (Nat.le_of_ble_eq_true rfl) dX5_readStatement_9 (by omega) (by omega) (z_room (by omega) (Nat.le_refl _) (Nat.le_refl _) (w_nextToken (d := 0) hn hL h11 hu hx hp h12 (fun o1 q2 q3 q4 q5 hf => ⟨rfl, ?_⟩)))
  refine z_aload_n (j := 0) dX5_readStatement_12 rfl ?_
  refine z_get (v := .int (o1 2 8)) (by omega) gW_3 fX5_47 rfl dX5_readStatement_13 ?_
  rw [show (o1 2 8) = 1 from by rw [hf.1 2 (by decide)]; exact h8]
  refine z_if_ne (tgt := 26) dX5_readStatement_16 (by decide) (fun czq16 => ?_) (fun czq16 => absurd czq16 (by decide))
  refine z_aload_n (j := 0) dX5_readStatement_26 rfl ?_
  refine z_get (v := .int (o1 2 5)) (by omega) gW_3 fX5_41 rfl dX5_readStatement_27 ?_
  rw [show (o1 2 5) = nI dep from by rw [hf.1 2 (by decide)]; exact h5]
  refine z_if_ne (tgt := 51) dX5_readStatement_30 (by decide) (fun czq30 => ?_) (fun czq30 => absurd czq30 (nI_ne0 (by omega) (by omega)))
  refine z_aload_n (j := 0) dX5_readStatement_51 rfl ?_
  refine z_get (v := .int (o1 2 5)) (by omega) gW_3 fX5_41 rfl dX5_readStatement_52 ?_
  rw [show (o1 2 5) = nI dep from by rw [hf.1 2 (by decide)]; exact h5]
  refine z_if_le (tgt := 76) dX5_readStatement_55 (by decide) (fun czq55 => absurd czq55 (nI_nle2 (b := 0) hd (by omega))) (fun czq55 => ?_)
  refine z_aload_n (j := 0) dX5_readStatement_58 rfl ?_
  refine z_get (v := .ref 1) (by omega) gW_3 fX5_32 rfl dX5_readStatement_59 ?_
  refine z_get (v := .int (o1 1 4)) (by omega) gW_1 fX5_67 rfl dX5_readStatement_62 ?_
  refine z_iconst (v := 4) dX5_readStatement_65 (by decide) ?_
  rw [show (o1 1 4) = nI (tKd L x (tS L x p)) from q4]
  refine z_icmp_ne (tgt := 76) dX5_readStatement_66 (by decide) (fun czq66 => absurd czq66 (fun z => z (by rw [hk]; rfl))) (fun czq66 => ?_)
  refine z_aload_n (j := 0) dX5_readStatement_69 rfl ?_
  refine z_kV [] 0 0 kc ks yoX5_endBody yvX5_endBody rfl (by decide) lX5_70 (by omega) gW_3 rfl rfl (Nat.le_of_ble_eq_true rfl) (Nat.le_of_ble_eq_true rfl) dX5_readStatement_70 (by omega) (by omega) (z_room (d' := d + 5) (by omega) (Nat.le_refl _) (Nat.le_refl _) ?_)
  refine hcall q2 q3 q4 hf (fun cm' o' u' s' a' hP => ?_)
  refine ⟨rfl, ?_⟩
  refine z_goto (tgt := 99) dX5_readStatement_73 (by decide) ?_
  exact z_vret rfl dX5_readStatement_99 (hq cm' o' u' s' a' hP)

set_option maxHeartbeats 4000000 in
set_option maxRecDepth 100000 in
theorem w_rs_rep {l : zL} {d kc ks n : Nat} {h : Nat → va_E} {cm : Value} {o u : Nat → Nat → Int32} {s : Nat → Nat → Int32} {a : Nat → Nat → Nat → Int32} {L : Nat} {x : Nat → Nat} {p : Nat} {P : (Value → (Nat → Nat → Int32) → (Nat → Nat → Int32) → (Nat → Nat → Int32) → (Nat → Nat → Nat → Int32) → Prop)} {Q : zQ} (hn : 89 ≤ n) (hL : L ≤ 600) (h11 : o 1 1 = nI L) (hu : ∀ i, i < L → u 0 i = nI (x i)) (hx : ∀ i, x i < 256) (hp : p ≤ L) (h12 : o 1 2 = nI p) (h8 : o 2 8 = 1) {dep : Nat} (h5 : o 2 5 = nI dep) (hd2 : dep ≤ 2) (hw : wIs L x (tS L x p) 10 = true) (hcall : ∀ {Q' : zQ} {o1 : Nat → Nat → Int32}, o1 1 2 = nI (nx L x p) → o1 1 3 = nI (tS L x p) → o1 1 4 = nI (tKd L x (tS L x p)) → fp (fun j => 2 ≤ j) o o1 → (∀ cm' o' u' s' a', P cm' o' u' s' a' → Q' (.inl none) n (gW h cm' o' u' s' a')) → Zj l mX5_readRepeat (d + 5) 0 0 0 [(0, .ref 3)] [] n (gW h .null o1 u s a) Q') (hq : ∀ cm' o' u' s' a', P cm' o' u' s' a' → Q (.inl none) n (gW h cm' o' u' s' a')) : Zj l mX5_readStatement (d + 6) kc ks 0 [(0, .ref 3)] [] n (gW h cm o u s a) Q := by
  have hk1 : tKd L x (tS L x p) = 1 := by
    have h9 := hw
    simp only [wIs, Bool.and_eq_true, decide_eq_true_eq] at h9
    exact h9.1
  refine z_aload_n (j := 0) dX5_readStatement_0 rfl ?_
  refine z_null dX5_readStatement_1 ?_
  refine g_putcN  (by omega) fX5_57 dX5_readStatement_2 ?_
  refine z_aload_n (j := 0) dX5_readStatement_5 rfl ?_
  refine z_get (v := .ref 1) (by omega) gW_3 fX5_32 rfl dX5_readStatement_6 ?_
  refine z_kV [] 0 0 kc ks yoX3_nextToken yvX3_nextToken rfl (by decide) lX5_61 (by omega) gW_1 rfl rfl (Nat.le_of_ble_eq_true rfl) (Nat.le_of_ble_eq_true rfl) dX5_readStatement_9 (by omega) (by omega) (z_room (by omega) (Nat.le_refl _) (Nat.le_refl _) (w_nextToken (d := 0) hn hL h11 hu hx hp h12 (fun o1 q2 q3 q4 q5 hf => ⟨rfl, ?_⟩)))
  refine z_aload_n (j := 0) dX5_readStatement_12 rfl ?_
  refine z_get (v := .int (o1 2 8)) (by omega) gW_3 fX5_47 rfl dX5_readStatement_13 ?_
  rw [show (o1 2 8) = 1 from by rw [hf.1 2 (by decide)]; exact h8]
  refine z_if_ne (tgt := 26) dX5_readStatement_16 (by decide) (fun czq16 => ?_) (fun czq16 => absurd czq16 (by decide))
  refine z_aload_n (j := 0) dX5_readStatement_26 rfl ?_
  refine z_get (v := .int (o1 2 5)) (by omega) gW_3 fX5_41 rfl dX5_readStatement_27 ?_
  rw [show (o1 2 5) = nI dep from by rw [hf.1 2 (by decide)]; exact h5]
  refine z_if_ne (tgt := 51) dX5_readStatement_30 (by decide) (fun czq30 => ?_) (fun czq30 => ?_)
  · refine z_aload_n (j := 0) dX5_readStatement_51 rfl ?_
    refine z_get (v := .int (o1 2 5)) (by omega) gW_3 fX5_41 rfl dX5_readStatement_52 ?_
    rw [show (o1 2 5) = nI dep from by rw [hf.1 2 (by decide)]; exact h5]
    refine z_if_le (tgt := 76) dX5_readStatement_55 (by decide) (fun czq55 => ?_) (fun czq55 => ?_)
    · refine z_aload_n (j := 0) dX5_readStatement_76 rfl ?_
      refine z_get (v := .ref 1) (by omega) gW_3 fX5_32 rfl dX5_readStatement_77 ?_
      refine z_ldcS (tx := "repeat") (a := zB + 14 + 10) (by decide +kernel) dX5_readStatement_80 ?_
      refine z_kV [.ref ((zB + 14 + 10))] 0 0 kc ks yoX3_isWord yvX3_isWord rfl (by decide) lX5_75 (by omega) gW_1 rfl rfl (Nat.le_of_ble_eq_true rfl) (Nat.le_of_ble_eq_true rfl) dX5_readStatement_82 (by omega) (by omega) (z_room (by omega) (Nat.le_refl _) (Nat.le_refl _) (w_isWord (d := 0) (w := 10) hn hL ((hf.2 1 (by decide)).trans h11) hu hx (by decide) q2 q3 q4 (tS_le hp).2 ⟨rfl, ?_⟩))
      refine z_if_eq (tgt := 95) dX5_readStatement_85 (by decide) (fun czq85 => absurd czq85 (fun z => bI_0.mp z hw)) (fun czq85 => ?_)
      refine z_aload_n (j := 0) dX5_readStatement_88 rfl ?_
      refine z_kV [] 0 0 kc ks yoX5_readRepeat yvX5_readRepeat rfl (by decide) lX5_79 (by omega) gW_3 rfl rfl (Nat.le_of_ble_eq_true rfl) (Nat.le_of_ble_eq_true rfl) dX5_readStatement_89 (by omega) (by omega) (z_room (d' := d + 5) (by omega) (Nat.le_refl _) (Nat.le_refl _) ?_)
      refine hcall q2 q3 q4 hf (fun cm' o' u' s' a' hP => ?_)
      refine ⟨rfl, ?_⟩
      refine z_goto (tgt := 99) dX5_readStatement_92 (by decide) ?_
      exact z_vret rfl dX5_readStatement_99 (hq cm' o' u' s' a' hP)
    · refine z_aload_n (j := 0) dX5_readStatement_58 rfl ?_
      refine z_get (v := .ref 1) (by omega) gW_3 fX5_32 rfl dX5_readStatement_59 ?_
      refine z_get (v := .int (o1 1 4)) (by omega) gW_1 fX5_67 rfl dX5_readStatement_62 ?_
      refine z_iconst (v := 4) dX5_readStatement_65 (by decide) ?_
      rw [show (o1 1 4) = nI (tKd L x (tS L x p)) from q4]
      refine z_icmp_ne (tgt := 76) dX5_readStatement_66 (by decide) (fun czq66 => ?_) (fun czq66 => absurd ((nI_eq (b := 4) (by have := tKd_le (L := L) (x := x) (st := tS L x p); omega) (by decide)).mp czq66) (by rw [hk1]; decide))
      refine z_aload_n (j := 0) dX5_readStatement_76 rfl ?_
      refine z_get (v := .ref 1) (by omega) gW_3 fX5_32 rfl dX5_readStatement_77 ?_
      refine z_ldcS (tx := "repeat") (a := zB + 14 + 10) (by decide +kernel) dX5_readStatement_80 ?_
      refine z_kV [.ref ((zB + 14 + 10))] 0 0 kc ks yoX3_isWord yvX3_isWord rfl (by decide) lX5_75 (by omega) gW_1 rfl rfl (Nat.le_of_ble_eq_true rfl) (Nat.le_of_ble_eq_true rfl) dX5_readStatement_82 (by omega) (by omega) (z_room (by omega) (Nat.le_refl _) (Nat.le_refl _) (w_isWord (d := 0) (w := 10) hn hL ((hf.2 1 (by decide)).trans h11) hu hx (by decide) q2 q3 q4 (tS_le hp).2 ⟨rfl, ?_⟩))
      refine z_if_eq (tgt := 95) dX5_readStatement_85 (by decide) (fun czq85 => absurd czq85 (fun z => bI_0.mp z hw)) (fun czq85 => ?_)
      refine z_aload_n (j := 0) dX5_readStatement_88 rfl ?_
      refine z_kV [] 0 0 kc ks yoX5_readRepeat yvX5_readRepeat rfl (by decide) lX5_79 (by omega) gW_3 rfl rfl (Nat.le_of_ble_eq_true rfl) (Nat.le_of_ble_eq_true rfl) dX5_readStatement_89 (by omega) (by omega) (z_room (d' := d + 5) (by omega) (Nat.le_refl _) (Nat.le_refl _) ?_)
      refine hcall q2 q3 q4 hf (fun cm' o' u' s' a' hP => ?_)
      refine ⟨rfl, ?_⟩
      refine z_goto (tgt := 99) dX5_readStatement_92 (by decide) ?_
      exact z_vret rfl dX5_readStatement_99 (hq cm' o' u' s' a' hP)
  · refine z_aload_n (j := 0) dX5_readStatement_33 rfl ?_
    refine z_get (v := .ref 1) (by omega) gW_3 fX5_32 rfl dX5_readStatement_34 ?_
    refine z_get (v := .int (o1 1 4)) (by omega) gW_1 fX5_67 rfl dX5_readStatement_37 ?_
    rw [show (o1 1 4) = nI (tKd L x (tS L x p)) from q4]
    refine z_if_ne (tgt := 51) dX5_readStatement_40 (by decide) (fun czq40 => ?_) (fun czq40 => absurd ((nI_eq (b := 0) (by have := tKd_le (L := L) (x := x) (st := tS L x p); omega) (by decide)).mp czq40) (by rw [hk1]; decide))
    refine z_aload_n (j := 0) dX5_readStatement_51 rfl ?_
    refine z_get (v := .int (o1 2 5)) (by omega) gW_3 fX5_41 rfl dX5_readStatement_52 ?_
    rw [show (o1 2 5) = nI dep from by rw [hf.1 2 (by decide)]; exact h5]
    refine z_if_le (tgt := 76) dX5_readStatement_55 (by decide) (fun czq55 => ?_) (fun czq55 => ?_)
    · refine z_aload_n (j := 0) dX5_readStatement_76 rfl ?_
      refine z_get (v := .ref 1) (by omega) gW_3 fX5_32 rfl dX5_readStatement_77 ?_
      refine z_ldcS (tx := "repeat") (a := zB + 14 + 10) (by decide +kernel) dX5_readStatement_80 ?_
      refine z_kV [.ref ((zB + 14 + 10))] 0 0 kc ks yoX3_isWord yvX3_isWord rfl (by decide) lX5_75 (by omega) gW_1 rfl rfl (Nat.le_of_ble_eq_true rfl) (Nat.le_of_ble_eq_true rfl) dX5_readStatement_82 (by omega) (by omega) (z_room (by omega) (Nat.le_refl _) (Nat.le_refl _) (w_isWord (d := 0) (w := 10) hn hL ((hf.2 1 (by decide)).trans h11) hu hx (by decide) q2 q3 q4 (tS_le hp).2 ⟨rfl, ?_⟩))
      refine z_if_eq (tgt := 95) dX5_readStatement_85 (by decide) (fun czq85 => absurd czq85 (fun z => bI_0.mp z hw)) (fun czq85 => ?_)
      refine z_aload_n (j := 0) dX5_readStatement_88 rfl ?_
      refine z_kV [] 0 0 kc ks yoX5_readRepeat yvX5_readRepeat rfl (by decide) lX5_79 (by omega) gW_3 rfl rfl (Nat.le_of_ble_eq_true rfl) (Nat.le_of_ble_eq_true rfl) dX5_readStatement_89 (by omega) (by omega) (z_room (d' := d + 5) (by omega) (Nat.le_refl _) (Nat.le_refl _) ?_)
      refine hcall q2 q3 q4 hf (fun cm' o' u' s' a' hP => ?_)
      refine ⟨rfl, ?_⟩
      refine z_goto (tgt := 99) dX5_readStatement_92 (by decide) ?_
      exact z_vret rfl dX5_readStatement_99 (hq cm' o' u' s' a' hP)
    · refine z_aload_n (j := 0) dX5_readStatement_58 rfl ?_
      refine z_get (v := .ref 1) (by omega) gW_3 fX5_32 rfl dX5_readStatement_59 ?_
      refine z_get (v := .int (o1 1 4)) (by omega) gW_1 fX5_67 rfl dX5_readStatement_62 ?_
      refine z_iconst (v := 4) dX5_readStatement_65 (by decide) ?_
      rw [show (o1 1 4) = nI (tKd L x (tS L x p)) from q4]
      refine z_icmp_ne (tgt := 76) dX5_readStatement_66 (by decide) (fun czq66 => ?_) (fun czq66 => absurd ((nI_eq (b := 4) (by have := tKd_le (L := L) (x := x) (st := tS L x p); omega) (by decide)).mp czq66) (by rw [hk1]; decide))
      refine z_aload_n (j := 0) dX5_readStatement_76 rfl ?_
      refine z_get (v := .ref 1) (by omega) gW_3 fX5_32 rfl dX5_readStatement_77 ?_
      refine z_ldcS (tx := "repeat") (a := zB + 14 + 10) (by decide +kernel) dX5_readStatement_80 ?_
      refine z_kV [.ref ((zB + 14 + 10))] 0 0 kc ks yoX3_isWord yvX3_isWord rfl (by decide) lX5_75 (by omega) gW_1 rfl rfl (Nat.le_of_ble_eq_true rfl) (Nat.le_of_ble_eq_true rfl) dX5_readStatement_82 (by omega) (by omega) (z_room (by omega) (Nat.le_refl _) (Nat.le_refl _) (w_isWord (d := 0) (w := 10) hn hL ((hf.2 1 (by decide)).trans h11) hu hx (by decide) q2 q3 q4 (tS_le hp).2 ⟨rfl, ?_⟩))
      refine z_if_eq (tgt := 95) dX5_readStatement_85 (by decide) (fun czq85 => absurd czq85 (fun z => bI_0.mp z hw)) (fun czq85 => ?_)
      refine z_aload_n (j := 0) dX5_readStatement_88 rfl ?_
      refine z_kV [] 0 0 kc ks yoX5_readRepeat yvX5_readRepeat rfl (by decide) lX5_79 (by omega) gW_3 rfl rfl (Nat.le_of_ble_eq_true rfl) (Nat.le_of_ble_eq_true rfl) dX5_readStatement_89 (by omega) (by omega) (z_room (d' := d + 5) (by omega) (Nat.le_refl _) (Nat.le_refl _) ?_)
      refine hcall q2 q3 q4 hf (fun cm' o' u' s' a' hP => ?_)
      refine ⟨rfl, ?_⟩
      refine z_goto (tgt := 99) dX5_readStatement_92 (by decide) ?_
      exact z_vret rfl dX5_readStatement_99 (hq cm' o' u' s' a' hP)

set_option maxHeartbeats 4000000 in
set_option maxRecDepth 100000 in
theorem w_rs_cmd {l : zL} {d kc ks n : Nat} {h : Nat → va_E} {cm : Value} {o u : Nat → Nat → Int32} {s : Nat → Nat → Int32} {a : Nat → Nat → Nat → Int32} {L : Nat} {x : Nat → Nat} {p : Nat} {P : (Value → (Nat → Nat → Int32) → (Nat → Nat → Int32) → (Nat → Nat → Int32) → (Nat → Nat → Nat → Int32) → Prop)} {Q : zQ} (hn : 89 ≤ n) (hL : L ≤ 600) (h11 : o 1 1 = nI L) (hu : ∀ i, i < L → u 0 i = nI (x i)) (hx : ∀ i, x i < 256) (hp : p ≤ L) (h12 : o 1 2 = nI p) (h8 : o 2 8 = 1) {dep : Nat} (h5 : o 2 5 = nI dep) (hd2 : dep ≤ 2) (h0 : dep = 0 → tKd L x (tS L x p) ≠ 0) (h4 : 0 < dep → tKd L x (tS L x p) ≠ 4) (hw : ¬ wIs L x (tS L x p) 10 = true) (hcall : ∀ {Q' : zQ} {o1 : Nat → Nat → Int32}, o1 1 2 = nI (nx L x p) → o1 1 3 = nI (tS L x p) → o1 1 4 = nI (tKd L x (tS L x p)) → fp (fun j => 2 ≤ j) o o1 → (∀ cm' o' u' s' a', P cm' o' u' s' a' → Q' (.inl none) n (gW h cm' o' u' s' a')) → Zj l mX5_readCommand (d + 5) 0 0 0 [(0, .ref 3)] [] n (gW h .null o1 u s a) Q') (hq : ∀ cm' o' u' s' a', P cm' o' u' s' a' → Q (.inl none) n (gW h cm' o' u' s' a')) : Zj l mX5_readStatement (d + 6) kc ks 0 [(0, .ref 3)] [] n (gW h cm o u s a) Q := by
  refine z_aload_n (j := 0) dX5_readStatement_0 rfl ?_
  refine z_null dX5_readStatement_1 ?_
  refine g_putcN  (by omega) fX5_57 dX5_readStatement_2 ?_
  refine z_aload_n (j := 0) dX5_readStatement_5 rfl ?_
  refine z_get (v := .ref 1) (by omega) gW_3 fX5_32 rfl dX5_readStatement_6 ?_
  refine z_kV [] 0 0 kc ks yoX3_nextToken yvX3_nextToken rfl (by decide) lX5_61 (by omega) gW_1 rfl rfl (Nat.le_of_ble_eq_true rfl) (Nat.le_of_ble_eq_true rfl) dX5_readStatement_9 (by omega) (by omega) (z_room (by omega) (Nat.le_refl _) (Nat.le_refl _) (w_nextToken (d := 0) hn hL h11 hu hx hp h12 (fun o1 q2 q3 q4 q5 hf => ⟨rfl, ?_⟩)))
  refine z_aload_n (j := 0) dX5_readStatement_12 rfl ?_
  refine z_get (v := .int (o1 2 8)) (by omega) gW_3 fX5_47 rfl dX5_readStatement_13 ?_
  rw [show (o1 2 8) = 1 from by rw [hf.1 2 (by decide)]; exact h8]
  refine z_if_ne (tgt := 26) dX5_readStatement_16 (by decide) (fun czq16 => ?_) (fun czq16 => absurd czq16 (by decide))
  refine z_aload_n (j := 0) dX5_readStatement_26 rfl ?_
  refine z_get (v := .int (o1 2 5)) (by omega) gW_3 fX5_41 rfl dX5_readStatement_27 ?_
  rw [show (o1 2 5) = nI dep from by rw [hf.1 2 (by decide)]; exact h5]
  refine z_if_ne (tgt := 51) dX5_readStatement_30 (by decide) (fun czq30 => ?_) (fun czq30 => ?_)
  · refine z_aload_n (j := 0) dX5_readStatement_51 rfl ?_
    refine z_get (v := .int (o1 2 5)) (by omega) gW_3 fX5_41 rfl dX5_readStatement_52 ?_
    rw [show (o1 2 5) = nI dep from by rw [hf.1 2 (by decide)]; exact h5]
    refine z_if_le (tgt := 76) dX5_readStatement_55 (by decide) (fun czq55 => ?_) (fun czq55 => ?_)
    · refine z_aload_n (j := 0) dX5_readStatement_76 rfl ?_
      refine z_get (v := .ref 1) (by omega) gW_3 fX5_32 rfl dX5_readStatement_77 ?_
      refine z_ldcS (tx := "repeat") (a := zB + 14 + 10) (by decide +kernel) dX5_readStatement_80 ?_
      refine z_kV [.ref ((zB + 14 + 10))] 0 0 kc ks yoX3_isWord yvX3_isWord rfl (by decide) lX5_75 (by omega) gW_1 rfl rfl (Nat.le_of_ble_eq_true rfl) (Nat.le_of_ble_eq_true rfl) dX5_readStatement_82 (by omega) (by omega) (z_room (by omega) (Nat.le_refl _) (Nat.le_refl _) (w_isWord (d := 0) (w := 10) hn hL ((hf.2 1 (by decide)).trans h11) hu hx (by decide) q2 q3 q4 (tS_le hp).2 ⟨rfl, ?_⟩))
      refine z_if_eq (tgt := 95) dX5_readStatement_85 (by decide) (fun czq85 => ?_) (fun czq85 => absurd (bI_f hw) czq85)
      refine z_aload_n (j := 0) dX5_readStatement_95 rfl ?_
      refine z_kV [] 0 0 kc ks yoX5_readCommand yvX5_readCommand rfl (by decide) lX5_82 (by omega) gW_3 rfl rfl (Nat.le_of_ble_eq_true rfl) (Nat.le_of_ble_eq_true rfl) dX5_readStatement_96 (by omega) (by omega) (z_room (d' := d + 5) (by omega) (Nat.le_refl _) (Nat.le_refl _) ?_)
      refine hcall q2 q3 q4 hf (fun cm' o' u' s' a' hP => ?_)
      refine ⟨rfl, ?_⟩
      exact z_vret rfl dX5_readStatement_99 (hq cm' o' u' s' a' hP)
    · refine z_aload_n (j := 0) dX5_readStatement_58 rfl ?_
      refine z_get (v := .ref 1) (by omega) gW_3 fX5_32 rfl dX5_readStatement_59 ?_
      refine z_get (v := .int (o1 1 4)) (by omega) gW_1 fX5_67 rfl dX5_readStatement_62 ?_
      refine z_iconst (v := 4) dX5_readStatement_65 (by decide) ?_
      rw [show (o1 1 4) = nI (tKd L x (tS L x p)) from q4]
      refine z_icmp_ne (tgt := 76) dX5_readStatement_66 (by decide) (fun czq66 => ?_) (fun czq66 => absurd ((nI_eq (b := 4) (by have := tKd_le (L := L) (x := x) (st := tS L x p); omega) (by decide)).mp czq66) (h4 (Nat.pos_of_ne_zero (fun z => czq55 (by rw [z]; decide)))))
      refine z_aload_n (j := 0) dX5_readStatement_76 rfl ?_
      refine z_get (v := .ref 1) (by omega) gW_3 fX5_32 rfl dX5_readStatement_77 ?_
      refine z_ldcS (tx := "repeat") (a := zB + 14 + 10) (by decide +kernel) dX5_readStatement_80 ?_
      refine z_kV [.ref ((zB + 14 + 10))] 0 0 kc ks yoX3_isWord yvX3_isWord rfl (by decide) lX5_75 (by omega) gW_1 rfl rfl (Nat.le_of_ble_eq_true rfl) (Nat.le_of_ble_eq_true rfl) dX5_readStatement_82 (by omega) (by omega) (z_room (by omega) (Nat.le_refl _) (Nat.le_refl _) (w_isWord (d := 0) (w := 10) hn hL ((hf.2 1 (by decide)).trans h11) hu hx (by decide) q2 q3 q4 (tS_le hp).2 ⟨rfl, ?_⟩))
      refine z_if_eq (tgt := 95) dX5_readStatement_85 (by decide) (fun czq85 => ?_) (fun czq85 => absurd (bI_f hw) czq85)
      refine z_aload_n (j := 0) dX5_readStatement_95 rfl ?_
      refine z_kV [] 0 0 kc ks yoX5_readCommand yvX5_readCommand rfl (by decide) lX5_82 (by omega) gW_3 rfl rfl (Nat.le_of_ble_eq_true rfl) (Nat.le_of_ble_eq_true rfl) dX5_readStatement_96 (by omega) (by omega) (z_room (d' := d + 5) (by omega) (Nat.le_refl _) (Nat.le_refl _) ?_)
      refine hcall q2 q3 q4 hf (fun cm' o' u' s' a' hP => ?_)
      refine ⟨rfl, ?_⟩
      exact z_vret rfl dX5_readStatement_99 (hq cm' o' u' s' a' hP)
  · refine z_aload_n (j := 0) dX5_readStatement_33 rfl ?_
    refine z_get (v := .ref 1) (by omega) gW_3 fX5_32 rfl dX5_readStatement_34 ?_
    refine z_get (v := .int (o1 1 4)) (by omega) gW_1 fX5_67 rfl dX5_readStatement_37 ?_
    rw [show (o1 1 4) = nI (tKd L x (tS L x p)) from q4]
    refine z_if_ne (tgt := 51) dX5_readStatement_40 (by decide) (fun czq40 => ?_) (fun czq40 => absurd ((nI_eq (b := 0) (by have := tKd_le (L := L) (x := x) (st := tS L x p); omega) (by decide)).mp czq40) (h0 ((nI_eq (b := 0) (by omega) (by decide)).mp czq30)))
    refine z_aload_n (j := 0) dX5_readStatement_51 rfl ?_
    refine z_get (v := .int (o1 2 5)) (by omega) gW_3 fX5_41 rfl dX5_readStatement_52 ?_
    rw [show (o1 2 5) = nI dep from by rw [hf.1 2 (by decide)]; exact h5]
    refine z_if_le (tgt := 76) dX5_readStatement_55 (by decide) (fun czq55 => ?_) (fun czq55 => ?_)
    · refine z_aload_n (j := 0) dX5_readStatement_76 rfl ?_
      refine z_get (v := .ref 1) (by omega) gW_3 fX5_32 rfl dX5_readStatement_77 ?_
      refine z_ldcS (tx := "repeat") (a := zB + 14 + 10) (by decide +kernel) dX5_readStatement_80 ?_
      refine z_kV [.ref ((zB + 14 + 10))] 0 0 kc ks yoX3_isWord yvX3_isWord rfl (by decide) lX5_75 (by omega) gW_1 rfl rfl (Nat.le_of_ble_eq_true rfl) (Nat.le_of_ble_eq_true rfl) dX5_readStatement_82 (by omega) (by omega) (z_room (by omega) (Nat.le_refl _) (Nat.le_refl _) (w_isWord (d := 0) (w := 10) hn hL ((hf.2 1 (by decide)).trans h11) hu hx (by decide) q2 q3 q4 (tS_le hp).2 ⟨rfl, ?_⟩))
      refine z_if_eq (tgt := 95) dX5_readStatement_85 (by decide) (fun czq85 => ?_) (fun czq85 => absurd (bI_f hw) czq85)
      refine z_aload_n (j := 0) dX5_readStatement_95 rfl ?_
      refine z_kV [] 0 0 kc ks yoX5_readCommand yvX5_readCommand rfl (by decide) lX5_82 (by omega) gW_3 rfl rfl (Nat.le_of_ble_eq_true rfl) (Nat.le_of_ble_eq_true rfl) dX5_readStatement_96 (by omega) (by omega) (z_room (d' := d + 5) (by omega) (Nat.le_refl _) (Nat.le_refl _) ?_)
      refine hcall q2 q3 q4 hf (fun cm' o' u' s' a' hP => ?_)
      refine ⟨rfl, ?_⟩
      exact z_vret rfl dX5_readStatement_99 (hq cm' o' u' s' a' hP)
    · refine z_aload_n (j := 0) dX5_readStatement_58 rfl ?_
      refine z_get (v := .ref 1) (by omega) gW_3 fX5_32 rfl dX5_readStatement_59 ?_
      refine z_get (v := .int (o1 1 4)) (by omega) gW_1 fX5_67 rfl dX5_readStatement_62 ?_
      refine z_iconst (v := 4) dX5_readStatement_65 (by decide) ?_
      rw [show (o1 1 4) = nI (tKd L x (tS L x p)) from q4]
      refine z_icmp_ne (tgt := 76) dX5_readStatement_66 (by decide) (fun czq66 => ?_) (fun czq66 => absurd ((nI_eq (b := 4) (by have := tKd_le (L := L) (x := x) (st := tS L x p); omega) (by decide)).mp czq66) (h4 (Nat.pos_of_ne_zero (fun z => czq55 (by rw [z]; decide)))))
      refine z_aload_n (j := 0) dX5_readStatement_76 rfl ?_
      refine z_get (v := .ref 1) (by omega) gW_3 fX5_32 rfl dX5_readStatement_77 ?_
      refine z_ldcS (tx := "repeat") (a := zB + 14 + 10) (by decide +kernel) dX5_readStatement_80 ?_
      refine z_kV [.ref ((zB + 14 + 10))] 0 0 kc ks yoX3_isWord yvX3_isWord rfl (by decide) lX5_75 (by omega) gW_1 rfl rfl (Nat.le_of_ble_eq_true rfl) (Nat.le_of_ble_eq_true rfl) dX5_readStatement_82 (by omega) (by omega) (z_room (by omega) (Nat.le_refl _) (Nat.le_refl _) (w_isWord (d := 0) (w := 10) hn hL ((hf.2 1 (by decide)).trans h11) hu hx (by decide) q2 q3 q4 (tS_le hp).2 ⟨rfl, ?_⟩))
      refine z_if_eq (tgt := 95) dX5_readStatement_85 (by decide) (fun czq85 => ?_) (fun czq85 => absurd (bI_f hw) czq85)
      refine z_aload_n (j := 0) dX5_readStatement_95 rfl ?_
      refine z_kV [] 0 0 kc ks yoX5_readCommand yvX5_readCommand rfl (by decide) lX5_82 (by omega) gW_3 rfl rfl (Nat.le_of_ble_eq_true rfl) (Nat.le_of_ble_eq_true rfl) dX5_readStatement_96 (by omega) (by omega) (z_room (d' := d + 5) (by omega) (Nat.le_refl _) (Nat.le_refl _) ?_)
      refine hcall q2 q3 q4 hf (fun cm' o' u' s' a' hP => ?_)
      refine ⟨rfl, ?_⟩
      exact z_vret rfl dX5_readStatement_99 (hq cm' o' u' s' a' hP)

set_option maxHeartbeats 4000000 in
set_option maxRecDepth 100000 in
theorem k_turn {l : zL} {d kc ks n : Nat} {h : Nat → va_E} {cm : Value} {o u : Nat → Nat → Int32} {s : Nat → Nat → Int32} {a : Nat → Nat → Nat → Int32} {i : Nat} {P1 P2 : (Value → (Nat → Nat → Int32) → (Nat → Nat → Int32) → (Nat → Nat → Int32) → (Nat → Nat → Nat → Int32) → Prop)} {Q : zQ} (hn : 104 ≤ n) (hi : i < 1000000) (h9 : o 2 9 = 0) (h10 : o 2 10 = 0) (hR : ∀ {Q' : zQ}, (∀ cm' o' u' s' a', P1 cm' o' u' s' a' → Q' (.inl none) n (gW h cm' o' u' s' a')) → Zj l mX5_readStatement (d + 8) 0 0 0 [(0, .ref 3)] [] n (gW h cm o u s a) Q') (hP : ∀ {cm1 o1 u1 s1 a1}, P1 cm1 o1 u1 s1 a1 → ∀ {Q' : zQ}, (∀ cm' o' u' s' a', P2 cm' o' u' s' a' → Q' (.inl none) n (gW h cm' o' u' s' a')) → Zj l mX5_perform (d + 8) 0 0 0 [(0, .ref 3)] [] n (gW h cm1 o1 u1 s1 a1) Q') (hk : ∀ {cm2 o2 u2 s2 a2}, P2 cm2 o2 u2 s2 a2 → Zj l mX7_runScript (d + 9) kc ks 9 [(0, .ref 0), (1, .int (nI (i + 1)))] [] n (gW h cm2 o2 u2 s2 a2) Q) : Zj l mX7_runScript (d + 9) kc ks 9 [(0, .ref 0), (1, .int ((nI i)))] [] n (gW h cm o u s a) Q := by
  refine z_iload_n (j := 1) dX7_runScript_9 rfl ?_
  refine z_ldc (v := 1000000) lX7_88 dX7_runScript_10 ?_
  refine z_icmp_ge (tgt := 45) dX7_runScript_12 (by decide) (fun czq12 => absurd czq12 (nI_ge (b := 1000000) hi (by decide))) (fun czq12 => ?_)
  refine z_aload_n (j := 0) dX7_runScript_15 rfl ?_
  refine z_get (v := .ref 3) (by omega) gW_0 fX7_21 rfl dX7_runScript_16 ?_
  refine z_kV [] 0 0 kc ks yoX5_goesOn yvX5_goesOn rfl (by decide) lX7_89 (by omega) gW_3 rfl rfl (Nat.le_of_ble_eq_true rfl) (Nat.le_of_ble_eq_true rfl) dX7_runScript_19 (by omega) (by omega) (z_room (by omega) (Nat.le_refl _) (Nat.le_refl _) (w_goesY (d := 0) (by omega) h9 h10 ⟨rfl, ?_⟩))
  refine z_if_eq (tgt := 45) dX7_runScript_22 (by decide) (fun czq22 => absurd czq22 (by decide)) (fun czq22 => ?_)
  refine z_aload_n (j := 0) dX7_runScript_25 rfl ?_
  refine z_get (v := .ref 3) (by omega) gW_0 fX7_21 rfl dX7_runScript_26 ?_
  refine z_kV [] 0 0 kc ks yoX5_readStatement yvX5_readStatement rfl (by decide) lX7_93 (by omega) gW_3 rfl rfl (Nat.le_of_ble_eq_true rfl) (Nat.le_of_ble_eq_true rfl) dX7_runScript_29 (by omega) (by omega) (z_room (d' := d + 8) (by omega) (Nat.le_refl _) (Nat.le_refl _) ?_)
  refine hR (fun cm1 o1 u1 s1 a1 hP1 => ?_)
  refine ⟨rfl, ?_⟩
  refine z_aload_n (j := 0) dX7_runScript_32 rfl ?_
  refine z_get (v := .ref 3) (by omega) gW_0 fX7_21 rfl dX7_runScript_33 ?_
  refine z_kV [] 0 0 kc ks yoX5_perform yvX5_perform rfl (by decide) lX7_96 (by omega) gW_3 rfl rfl (Nat.le_of_ble_eq_true rfl) (Nat.le_of_ble_eq_true rfl) dX7_runScript_36 (by omega) (by omega) (z_room (d' := d + 8) (by omega) (Nat.le_refl _) (Nat.le_refl _) ?_)
  refine hP hP1 (fun cm2 o2 u2 s2 a2 hP2 => ?_)
  refine ⟨rfl, ?_⟩
  skip
  refine z_iinc ((nI (i + 1))) [1, 0] [(0, .ref 0), (1, .int ((nI (i + 1))))] dX7_runScript_39 (j := 1) rfl (nI_1 i) (by decide) rfl ?_
  refine z_goto (tgt := 9) dX7_runScript_42 (by decide) ?_
  exact hk hP2

set_option maxHeartbeats 4000000 in
set_option maxRecDepth 100000 in
theorem k_err {l : zL} {d kc ks n : Nat} {h : Nat → va_E} {cm : Value} {o u : Nat → Nat → Int32} {s : Nat → Nat → Int32} {a : Nat → Nat → Nat → Int32} {i : Nat} {Q : zQ} (hn : 104 ≤ n) (hi : i < 1000000) (h10 : ¬ o 2 10 = 0) (hq : Q (.inl (some (.int (-1)))) n (gW h cm (va_up o 1 (va_up (o 1) 1 0)) u s a)) : Zj l mX7_runScript (d + 9) kc ks 9 [(0, .ref 0), (1, .int ((nI i)))] [] n (gW h cm o u s a) Q := by
  refine z_iload_n (j := 1) dX7_runScript_9 rfl ?_
  refine z_ldc (v := 1000000) lX7_88 dX7_runScript_10 ?_
  refine z_icmp_ge (tgt := 45) dX7_runScript_12 (by decide) (fun czq12 => absurd czq12 (nI_ge (b := 1000000) hi (by decide))) (fun czq12 => ?_)
  refine z_aload_n (j := 0) dX7_runScript_15 rfl ?_
  refine z_get (v := .ref 3) (by omega) gW_0 fX7_21 rfl dX7_runScript_16 ?_
  refine z_kV [] 0 0 kc ks yoX5_goesOn yvX5_goesOn rfl (by decide) lX7_89 (by omega) gW_3 rfl rfl (Nat.le_of_ble_eq_true rfl) (Nat.le_of_ble_eq_true rfl) dX7_runScript_19 (by omega) (by omega) (z_room (by omega) (Nat.le_refl _) (Nat.le_refl _) (w_goesX (d := 0) (by omega) h10 ⟨rfl, ?_⟩))
  refine z_if_eq (tgt := 45) dX7_runScript_22 (by decide) (fun czq22 => ?_) (fun czq22 => absurd rfl czq22)
  refine z_aload_n (j := 0) dX7_runScript_45 rfl ?_
  refine z_get (v := .ref 1) (by omega) gW_0 fX7_10 rfl dX7_runScript_46 ?_
  refine z_iconst (v := 0) dX7_runScript_49 (by decide) ?_
  refine g_put 1 (by decide) (by omega) (by decide) rfl rfl fX7_71 gg3 rfl fin3_1 (by show 1 < 6; decide) dX7_runScript_50 ?_
  refine z_aload_n (j := 0) dX7_runScript_53 rfl ?_
  refine z_get (v := .ref 3) (by omega) gW_0 fX7_21 rfl dX7_runScript_54 ?_
  refine z_get (v := .int ((va_up o 1 (va_up (o 1) 1 0)) 2 10)) (by omega) gW_3 fX7_99 rfl dX7_runScript_57 ?_
  refine z_if_eq (tgt := 65) dX7_runScript_60 (by decide) (fun czq60 => absurd czq60 (by rw [up_ne (by decide)]; exact h10)) (fun czq60 => ?_)
  refine z_iconst (v := (-1)) dX7_runScript_63 (by decide) ?_
  exact z_iret rfl dX7_runScript_64 (hq)

set_option maxHeartbeats 4000000 in
set_option maxRecDepth 100000 in
theorem k_end {l : zL} {d kc ks n : Nat} {h : Nat → va_E} {cm : Value} {o u : Nat → Nat → Int32} {s : Nat → Nat → Int32} {a : Nat → Nat → Nat → Int32} {i nx9 k : Nat} {S1 S2 : zS} {Q : zQ} (hn : 104 ≤ n) (hi : i < 1000000) (h9 : o 2 9 = 1) (h10 : o 2 10 = 0) (hnx : nx9 < 9) (h31 : o 3 1 = nI nx9) (hk8 : k ≤ 8) (h32 : o 3 2 = nI k) (hT1 : cT S1 (s 1) (a 1)) (hT0 : cT S2 (s 0) (a 0)) (hq : ∀ o2 s1 a1 s2 a2, cT S1 s1 a1 → cT S2 s2 a2 → o2 3 1 = nI (if nx9 + 1 < 9 then nx9 + 1 else 0) → o2 3 2 = nI (if k < 8 then k + 1 else 8) → (∀ c, c ≠ 3 → o2 c = (va_up o 1 (va_up (o 1) 1 0)) c) → Q (.inl (some (.int (nI (sCnt S2))))) n (gW h cm o2 u (va_up (va_up s (4 + nx9) s1) 1 s2) (va_up (va_up a (4 + nx9) a1) 1 a2))) : Zj l mX7_runScript (d + 9) kc ks 9 [(0, .ref 0), (1, .int ((nI i)))] [] n (gW h cm o u s a) Q := by
  refine z_iload_n (j := 1) dX7_runScript_9 rfl ?_
  refine z_ldc (v := 1000000) lX7_88 dX7_runScript_10 ?_
  refine z_icmp_ge (tgt := 45) dX7_runScript_12 (by decide) (fun czq12 => absurd czq12 (nI_ge (b := 1000000) hi (by decide))) (fun czq12 => ?_)
  refine z_aload_n (j := 0) dX7_runScript_15 rfl ?_
  refine z_get (v := .ref 3) (by omega) gW_0 fX7_21 rfl dX7_runScript_16 ?_
  refine z_kV [] 0 0 kc ks yoX5_goesOn yvX5_goesOn rfl (by decide) lX7_89 (by omega) gW_3 rfl rfl (Nat.le_of_ble_eq_true rfl) (Nat.le_of_ble_eq_true rfl) dX7_runScript_19 (by omega) (by omega) (z_room (by omega) (Nat.le_refl _) (Nat.le_refl _) (w_goesE (d := 0) (by omega) h9 ⟨rfl, ?_⟩))
  refine z_if_eq (tgt := 45) dX7_runScript_22 (by decide) (fun czq22 => ?_) (fun czq22 => absurd rfl czq22)
  refine z_aload_n (j := 0) dX7_runScript_45 rfl ?_
  refine z_get (v := .ref 1) (by omega) gW_0 fX7_10 rfl dX7_runScript_46 ?_
  refine z_iconst (v := 0) dX7_runScript_49 (by decide) ?_
  refine g_put 1 (by decide) (by omega) (by decide) rfl rfl fX7_71 gg3 rfl fin3_1 (by show 1 < 6; decide) dX7_runScript_50 ?_
  refine z_aload_n (j := 0) dX7_runScript_53 rfl ?_
  refine z_get (v := .ref 3) (by omega) gW_0 fX7_21 rfl dX7_runScript_54 ?_
  refine z_get (v := .int ((va_up o 1 (va_up (o 1) 1 0)) 2 10)) (by omega) gW_3 fX7_99 rfl dX7_runScript_57 ?_
  refine z_if_eq (tgt := 65) dX7_runScript_60 (by decide) (fun czq60 => ?_) (fun czq60 => absurd (by rw [up_ne (by decide)]; exact h10) czq60)
  refine z_aload_n (j := 0) dX7_runScript_65 rfl ?_
  refine z_get (v := .ref 31) (by omega) gW_0 fX7_45 rfl dX7_runScript_66 ?_
  refine z_aload_n (j := 0) dX7_runScript_69 rfl ?_
  refine z_get (v := .ref 13) (by omega) gW_0 fX7_28 rfl dX7_runScript_70 ?_
  refine z_kV [.ref 13] 0 0 kc ks yoX2_mark yvX2_mark rfl (by decide) lX7_102 (by omega) gW_31 rfl rfl (Nat.le_of_ble_eq_true rfl) (Nat.le_of_ble_eq_true rfl) dX7_runScript_73 (by omega) (by omega) (z_room (by omega) (Nat.le_refl _) (Nat.le_refl _) (w_mark (d := 0) (nx := nx9) hnx (by omega) (by rw [up_ne (by decide)]; exact h31) hT1 (fun s1 a1 hM1 => ⟨rfl, ?_⟩)))
  refine z_aload_n (j := 0) dX7_runScript_76 rfl ?_
  refine z_get (v := .ref 13) (by omega) gW_0 fX7_28 rfl dX7_runScript_77 ?_
  refine z_aload_n (j := 0) dX7_runScript_80 rfl ?_
  refine z_get (v := .ref 3) (by omega) gW_0 fX7_21 rfl dX7_runScript_81 ?_
  refine z_get (v := .ref 4) (by omega) gW_3 fX7_106 rfl dX7_runScript_84 ?_
  refine z_kV [.ref 4] 0 0 kc ks yoX6_copyFrom yvX6_copyFrom rfl (by decide) lX7_109 (by omega) gW_13T rfl rfl (Nat.le_of_ble_eq_true rfl) (Nat.le_of_ble_eq_true rfl) dX7_runScript_87 (by omega) (by omega) (z_room (by omega) (Nat.le_refl _) (Nat.le_refl _) (g_copy (d := 0) (t := 1) (t2 := 0) (S := S2) (by decide) (by decide) (by decide) rfl rfl (by omega) (by rw [up_ne (by omega), up_ne (by omega)]; exact hT0) (fun s2 a2 hT2 => ⟨rfl, ?_⟩)))
  refine z_aload_n (j := 0) dX7_runScript_90 rfl ?_
  refine z_get (v := .ref 31) (by omega) gW_0 fX7_45 rfl dX7_runScript_91 ?_
  refine z_kV [] 0 0 kc ks yoX2_keep yvX2_keep rfl (by decide) lX7_112 (by omega) gW_31 rfl rfl (Nat.le_of_ble_eq_true rfl) (Nat.le_of_ble_eq_true rfl) dX7_runScript_94 (by omega) (by omega) (z_room (by omega) (Nat.le_refl _) (Nat.le_refl _) (w_keep (d := 0) (k := k) hk8 hnx (by omega) (by rw [up_ne (by decide)]; exact h31) (by rw [up_ne (by decide)]; exact h32) (fun o2 k31 k32 ko => ⟨rfl, ?_⟩)))
  refine z_aload_n (j := 0) dX7_runScript_97 rfl ?_
  refine z_get (v := .ref 13) (by omega) gW_0 fX7_28 rfl dX7_runScript_98 ?_
  refine z_get (v := .int ((va_up (va_up s (4 + nx9) s1) 1 s2) 1 10)) (by omega) gW_13T fX7_115 rfl dX7_runScript_101 ?_
  exact z_iret rfl dX7_runScript_104 (by
      rw [show (va_up (va_up s (4 + nx9) s1) 1 s2) 1 10 = nI (sCnt S2) from by rw [up_eq]; exact hT2.ten]
      exact hq o2 s1 a1 s2 a2 hM1 hT2 k31 k32 (fun c hc => (ko c hc).trans rfl))
