/-! THE CLASS'S SCRIPT: errors, what is expected -/
theorem g_putc {l : zL} {Y : zM} {d kc ks pc n idx q : Nat} {lv : List (Nat × Value)} {rest : List Value} {h : Nat → va_E} {cm : Value} {o u : Nat → Nat → Int32} {s : Nat → Nat → Int32} {a : Nat → Nat → Nat → Int32} {Q : zQ} (hq : zB ≤ q) (hn : 89 ≤ n) (hf : zF Y.1.cls idx 3 7) (hd : decode Y.2.1 pc = .ok (.putfield idx, 3)) (kk : Zj l Y d kc ks (pc + 3) lv rest n (gW h (.ref q) o u s a) Q) : Zj l Y d kc ks pc lv (.ref q :: .ref 3 :: rest) n (gW h cm o u s a) Q := by
  refine z_putr (C := "NeighbourHash$Command") (by omega) gW_3 hf gg5 rfl fin5_7 (Or.inr hq) (by show 7 < 12; decide) hd ?_
  have e : va_up (gW h cm o u s a) 3 (.inr (3, gS (.ref q) (o 2))) = gW h (.ref q) o u s a := by rw [gW_put3, up_self]
  rw [← e] at kk
  exact kk
theorem g_putcN {l : zL} {Y : zM} {d kc ks pc n idx : Nat} {lv : List (Nat × Value)} {rest : List Value} {h : Nat → va_E} {cm : Value} {o u : Nat → Nat → Int32} {s : Nat → Nat → Int32} {a : Nat → Nat → Nat → Int32} {Q : zQ} (hn : 89 ≤ n) (hf : zF Y.1.cls idx 3 7) (hd : decode Y.2.1 pc = .ok (.putfield idx, 3)) (kk : Zj l Y d kc ks (pc + 3) lv rest n (gW h .null o u s a) Q) : Zj l Y d kc ks pc lv (.null :: .ref 3 :: rest) n (gW h cm o u s a) Q := by
  refine z_putN (C := "NeighbourHash$Command") (by omega) gW_3 hf gg5 rfl fin5_7 (by show 7 < 12; decide) hd ?_
  have e : va_up (gW h cm o u s a) 3 (.inr (3, gS .null (o 2))) = gW h .null o u s a := by rw [gW_put3, up_self]
  rw [← e] at kk
  exact kk
/-- an error was found: k at off -/
def er (o o' : Nat → Nat → Int32) (k off : Nat) : Prop := (∀ c, c ≠ 1 → c ≠ 2 → o' c = o c) ∧ o' 1 1 = o 1 1 ∧ o' 2 10 = nI k ∧ o' 2 11 = nI off
theorem er.of {o o1 o' : Nat → Nat → Int32} {k off : Nat} (h : er o1 o' k off) (hc : ∀ c, c ≠ 1 → c ≠ 2 → o1 c = o c) (h1 : o1 1 1 = o 1 1) : er o o' k off := ⟨fun c g1 g2 => (h.1 c g1 g2).trans (hc c g1 g2), h.2.1.trans h1, h.2.2⟩
theorem er.fp {o o1 o' : Nat → Nat → Int32} {k off : Nat} (h : er o1 o' k off) (hf : fp (fun j => 2 ≤ j) o o1) : er o o' k off := h.of (fun c h1 _ => hf.1 c h1) (hf.2 1 (by decide))
theorem er.up2 {o o' : Nat → Nat → Int32} {k off j : Nat} {v : Int32} (h : er o o' k off) (h10 : j ≠ 10) (h11 : j ≠ 11) : er o (va_up o' 2 (va_up (o' 2) j v)) k off := ⟨fun c g1 g2 => by rw [up_ne g2]; exact h.1 c g1 g2, by rw [up_ne (by decide)]; exact h.2.1, by rw [up_eq, up_ne (Ne.symm h10)]; exact h.2.2.1, by rw [up_eq, up_ne (Ne.symm h11)]; exact h.2.2.2⟩
theorem er.ne {o o' : Nat → Nat → Int32} {k off : Nat} (h : er o o' k off) (h0 : k ≠ 0) (hk : k < 10) : ¬ o' 2 10 = 0 := by
  rw [h.2.2.1]
  exact nI_ne0 (by omega) (by omega)

set_option maxHeartbeats 4000000 in
set_option maxRecDepth 100000 in
theorem w_fail {l : zL} {d kc ks n : Nat} {h : Nat → va_E} {cm : Value} {o u : Nat → Nat → Int32} {s : Nat → Nat → Int32} {a : Nat → Nat → Nat → Int32} {k st : Nat} {Q : zQ} (hn : 89 ≤ n) (h13 : o 1 3 = nI st) (hq : ∀ o', er o o' k st → Q (.inl none) n (gW h cm o' u s a)) : Zj l mX5_fail d kc ks 0 [(0, .ref 3), (1, .int ((nI k)))] [] n (gW h cm o u s a) Q := by
  refine z_aload_n (j := 0) dX5_fail_0 rfl ?_
  refine z_iload_n (j := 1) dX5_fail_1 rfl ?_
  refine g_put 2 (by decide) (by omega) (by decide) rfl rfl fX5_54 gg5 rfl fin5_10 (by show 10 < 12; decide) dX5_fail_2 ?_
  refine z_aload_n (j := 0) dX5_fail_5 rfl ?_
  refine z_aload_n (j := 0) dX5_fail_6 rfl ?_
  refine z_get (v := .ref 1) (by omega) gW_3 fX5_32 rfl dX5_fail_7 ?_
  refine z_get (v := .int ((va_up o 2 (va_up (o 2) 10 (nI k))) 1 3)) (by omega) gW_1 fX5_194 rfl dX5_fail_10 ?_
  refine g_put 2 (by decide) (by omega) (by decide) rfl rfl fX5_28 gg5 rfl fin5_11 (by show 11 < 12; decide) dX5_fail_13 ?_
  exact z_vret rfl dX5_fail_16 (hq _ ⟨fun c g1 g2 => by rw [up_ne g2, up_ne g2], by rw [up_ne (by decide), up_ne (by decide)], by rw [up_eq, up_ne (by decide), up_eq, up_eq], by rw [up_eq, up_eq]; first | exact h13 | (rw [up_ne (by decide)]; exact h13)⟩)

set_option maxHeartbeats 4000000 in
set_option maxRecDepth 100000 in
theorem w_expectE {l : zL} {d kc ks n : Nat} {h : Nat → va_E} {cm : Value} {o u : Nat → Nat → Int32} {s : Nat → Nat → Int32} {a : Nat → Nat → Nat → Int32} {v : Int32} {Q : zQ} (hn : 89 ≤ n) (he : ¬ o 2 10 = 0) (hq : Q (.inl none) n (gW h cm o u s a)) : Zj l mX5_expect d kc ks 0 [(0, .ref 3), (1, .int v)] [] n (gW h cm o u s a) Q := by
  refine z_aload_n (j := 0) dX5_expect_0 rfl ?_
  refine z_get (v := .int (o 2 10)) (by omega) gW_3 fX5_54 rfl dX5_expect_1 ?_
  refine z_if_eq (tgt := 8) dX5_expect_4 (by decide) (fun czq4 => absurd czq4 he) (fun czq4 => ?_)
  exact z_vret rfl dX5_expect_7 (hq)

set_option maxHeartbeats 4000000 in
set_option maxRecDepth 100000 in
theorem w_expect {l : zL} {d kc ks n : Nat} {h : Nat → va_E} {cm : Value} {o u : Nat → Nat → Int32} {s : Nat → Nat → Int32} {a : Nat → Nat → Nat → Int32} {L : Nat} {x : Nat → Nat} {k p : Nat} {Q : zQ} (hn : 89 ≤ n) (hL : L ≤ 600) (h11 : o 1 1 = nI L) (hu : ∀ i, i < L → u 0 i = nI (x i)) (hx : ∀ i, x i < 256) (hp : p ≤ L) (h12 : o 1 2 = nI p) (h10 : o 2 10 = 0) (hk : k ≤ 6) (hqY : tKd L x (tS L x p) = k → ∀ o', o' 1 2 = nI (nx L x p) → o' 1 3 = nI (tS L x p) → (k = 2 → o' 1 5 = nI (tV L x (tS L x p))) → fp (fun j => 2 ≤ j) o o' → Q (.inl none) n (gW h cm o' u s a)) (hqN : ¬ tKd L x (tS L x p) = k → ∀ o', er o o' 1 (tS L x p) → Q (.inl none) n (gW h cm o' u s a)) : Zj l mX5_expect (d + 3) kc ks 0 [(0, .ref 3), (1, .int ((nI k)))] [] n (gW h cm o u s a) Q := by
  refine z_aload_n (j := 0) dX5_expect_0 rfl ?_
  refine z_get (v := .int (o 2 10)) (by omega) gW_3 fX5_54 rfl dX5_expect_1 ?_
  refine z_if_eq (tgt := 8) dX5_expect_4 (by decide) (fun czq4 => ?_) (fun czq4 => absurd h10 czq4)
  refine z_aload_n (j := 0) dX5_expect_8 rfl ?_
  refine z_get (v := .ref 1) (by omega) gW_3 fX5_32 rfl dX5_expect_9 ?_
  refine z_kV [] 0 0 kc ks yoX3_nextToken yvX3_nextToken rfl (by decide) lX5_61 (by omega) gW_1 rfl rfl (Nat.le_of_ble_eq_true rfl) (Nat.le_of_ble_eq_true rfl) dX5_expect_12 (by omega) (by omega) (z_room (by omega) (Nat.le_refl _) (Nat.le_refl _) (w_nextToken (d := 0) hn hL h11 hu hx hp h12 (fun o1 q2 q3 q4 q5 hf => ⟨rfl, ?_⟩)))
  refine z_aload_n (j := 0) dX5_expect_15 rfl ?_
  refine z_get (v := .ref 1) (by omega) gW_3 fX5_32 rfl dX5_expect_16 ?_
  refine z_get (v := .int (o1 1 4)) (by omega) gW_1 fX5_67 rfl dX5_expect_19 ?_
  refine z_iload_n (j := 1) dX5_expect_22 rfl ?_
  rw [show (o1 1 4) = nI (tKd L x (tS L x p)) from q4]
  refine z_icmp_eq (tgt := 31) dX5_expect_23 (by decide) (fun czq23 => ?_) (fun czq23 => ?_)
  · exact z_vret rfl dX5_expect_31 (hqY ((nI_eq (by have := tKd_le (L := L) (x := x) (st := tS L x p); omega) (by omega)).mp czq23) o1 q2 q3 (fun e => q5 (((nI_eq (by have := tKd_le (L := L) (x := x) (st := tS L x p); omega) (by omega)).mp czq23).trans e)) hf)
  · refine z_aload_n (j := 0) dX5_expect_26 rfl ?_
    refine z_iconst (v := 1) dX5_expect_27 (by decide) ?_
    skip
    refine z_kV [.int ((nI 1))] 0 0 kc ks yoX5_fail yvX5_fail rfl (by decide) lX5_137 (by omega) gW_3 rfl rfl (Nat.le_of_ble_eq_true rfl) (Nat.le_of_ble_eq_true rfl) dX5_expect_28 (by omega) (by omega) (z_room (by omega) (Nat.le_refl _) (Nat.le_refl _) (w_fail (d := 0) (k := 1) hn q3 (fun o2 he => ⟨rfl, ?_⟩)))
    exact z_vret rfl dX5_expect_31 (hqN (fun e => czq23 (by rw [e])) o2 (he.fp hf))

set_option maxHeartbeats 4000000 in
set_option maxRecDepth 100000 in
theorem w_readNumber {l : zL} {d kc ks n : Nat} {h : Nat → va_E} {cm : Value} {o u : Nat → Nat → Int32} {s : Nat → Nat → Int32} {a : Nat → Nat → Nat → Int32} {L : Nat} {x : Nat → Nat} {p : Nat} {Q : zQ} (hn : 89 ≤ n) (hL : L ≤ 600) (h11 : o 1 1 = nI L) (hu : ∀ i, i < L → u 0 i = nI (x i)) (hx : ∀ i, x i < 256) (hp : p ≤ L) (h12 : o 1 2 = nI p) (h10 : o 2 10 = 0) (hqY : tKd L x (tS L x p) = 2 → ∀ o', o' 1 2 = nI (nx L x p) → o' 1 3 = nI (tS L x p) → fp (fun j => 2 ≤ j) o o' → Q (.inl (some (.int (nI (tV L x (tS L x p)))))) n (gW h cm o' u s a)) (hqN : ¬ tKd L x (tS L x p) = 2 → ∀ o', er o o' 1 (tS L x p) → Q (.inl (some (.int (o' 1 5)))) n (gW h cm o' u s a)) : Zj l mX5_readNumber (d + 4) kc ks 0 [(0, .ref 3)] [] n (gW h cm o u s a) Q := by
  refine z_aload_n (j := 0) dX5_readNumber_0 rfl ?_
  refine z_iconst (v := 2) dX5_readNumber_1 (by decide) ?_
  skip
  refine z_kV [.int ((nI 2))] 0 0 kc ks yoX5_expect yvX5_expect rfl (by decide) lX5_148 (by omega) gW_3 rfl rfl (Nat.le_of_ble_eq_true rfl) (Nat.le_of_ble_eq_true rfl) dX5_readNumber_2 (by omega) (by omega) (z_room (by omega) (Nat.le_refl _) (Nat.le_refl _) (w_expect (d := 0) (k := 2) hn hL h11 hu hx hp h12 h10 (by decide) (fun hk o1 q2 q3 q5 hf => ⟨rfl, ?_⟩) (fun hk o1 he => ⟨rfl, ?_⟩)))
  · refine z_aload_n (j := 0) dX5_readNumber_5 rfl ?_
    refine z_get (v := .ref 1) (by omega) gW_3 fX5_32 rfl dX5_readNumber_6 ?_
    refine z_get (v := .int (o1 1 5)) (by omega) gW_1 fX5_191 rfl dX5_readNumber_9 ?_
    exact z_iret rfl dX5_readNumber_12 (by
        rw [q5 rfl]
        exact hqY hk o1 q2 q3 hf)
  · refine z_aload_n (j := 0) dX5_readNumber_5 rfl ?_
    refine z_get (v := .ref 1) (by omega) gW_3 fX5_32 rfl dX5_readNumber_6 ?_
    refine z_get (v := .int (o1 1 5)) (by omega) gW_1 fX5_191 rfl dX5_readNumber_9 ?_
    exact z_iret rfl dX5_readNumber_12 (hqN hk o1 he)
