/-! NEW OBJECTS -/
/-- a constructor's call whose end goes on -/
def zkI (Y : zM) (l : zL) (d k2 s2 pc : Nat) (lv : List (Nat × Value)) (rest : List Value) (Q : zQ) : zQ := fun q n' g => match q with
  | .inl r => r = none ∧ Zj l Y (d + 1) k2 s2 (pc + 3) lv rest n' g Q
  | .inr _ => False
theorem z_kI {l : zL} {Y Y' : zM} {d kc ks pc n idx k : Nat} {lv : List (Nat × Value)} {rest : List Value} {h : Nat → va_E} {Q : zQ} {b : Nat} (As : List Value) (k1 s1 k2 s2 : Nat) (hY : zY Y' k) (hi : Cond.instanceMethod Y'.1 ∈ zTs) (hnm : Y'.1.name = "<init>") (hrn : Y'.2.2.2.1 = none) (hh : Y'.2.2.2.2 = []) (hnL : Y'.2.2.1 ≤ 20) (hlink : Cond.methodLink Y.1.cls idx Y'.1 ∈ zTs) (hlen : As.length = k) (hsl : (lg_sl (.ref b :: As)).length ≤ Y'.2.2.1) (hcat : (rest.map fun v => v.category).sum ≤ 8) (hd : decode Y.2.1 pc = .ok (.invokespecial idx, 3)) (hk : k1 + k2 ≤ kc) (hs : s1 + s2 ≤ ks) (hlv : ∀ q ∈ lv, zokv n q.2) (hrest : ∀ v ∈ rest, zokv n v)
    (body : Zj l Y' d k1 s1 0 (lv_args 0 (.ref b :: As)) [] n h (zkI Y l d k2 s2 pc lv rest Q)) : Zj l Y (d + 1) kc ks pc lv (As.reverse ++ .ref b :: rest) n h Q :=
  z_callI (zkI Y l d k2 s2 pc lv rest Q) hY hi hnm hrn hh hnL hlink hlen hsl hcat hd (fun _ _ _ hq => hq) body hk hs hlv hrest (fun _ _ _ hq => hq)
theorem z_kIN {l : zL} {Y Y' : zM} {d kc ks pc n idx k : Nat} {host : String} {lv : List (Nat × Value)} {rest : List Value} {h : Nat → va_E} {Q : zQ} {b : Nat} (As : List Value) (k1 s1 k2 s2 : Nat) (hY : zY Y' k) (hi : Cond.instanceMethod Y'.1 ∈ zTs) (hnm : Y'.1.name = "<init>") (hrn : Y'.2.2.2.1 = none) (hh : Y'.2.2.2.2 = []) (hnL : Y'.2.2.1 ≤ 20) (hlink : Cond.methodLinkNest Y.1.cls idx Y'.1 host ∈ kN) (hlen : As.length = k) (hsl : (lg_sl (.ref b :: As)).length ≤ Y'.2.2.1) (hcat : (rest.map fun v => v.category).sum ≤ 8) (hd : decode Y.2.1 pc = .ok (.invokespecial idx, 3)) (hk : k1 + k2 ≤ kc) (hs : s1 + s2 ≤ ks) (hlv : ∀ q ∈ lv, zokv n q.2) (hrest : ∀ v ∈ rest, zokv n v)
    (body : Zj l Y' d k1 s1 0 (lv_args 0 (.ref b :: As)) [] n h (zkI Y l d k2 s2 pc lv rest Q)) : Zj l Y (d + 1) kc ks pc lv (As.reverse ++ .ref b :: rest) n h Q :=
  z_callIN (zkI Y l d k2 s2 pc lv rest Q) hY hi hnm hrn hh hnL hlink hlen hsl hcat hd (fun _ _ _ hq => hq) body hk hs hlv hrest (fun _ _ _ hq => hq)
theorem zokr {n k : Nat} (h : k < n) : zokv n (.ref k) := Or.inl h
theorem zoki {n : Nat} {x : Int32} : zokv n (.int x) := True.intro
theorem eq_upto {f g : Nat → va_E} (m : Nat) (h : ∀ k, k < m → f k = g k) (e : f m = g m) : ∀ k, k < m + 1 → f k = g k := by
  intro k hk
  by_cases hm : k = m
  · subst hm; exact e
  · exact h k (by omega)

set_option maxHeartbeats 4000000 in
set_option maxRecDepth 100000 in
theorem w_T0 {l : zL} {d b : Nat} {h : Nat → va_E} {Q : zQ} (hB : b + 6 < zB) (h0 : h b = .inr (4, [.null, .null, .null, .null, .null, .int 0, .int 0, .int 0, .int 0, .int 0, .int 0, .int 0, .int 0, .int 0, .int 0, .int 0])) (hq : ∀ s a, Q (.inl none) (b + 6) (tW h b s a)) : Zj l mX6_init (d + 2) 5 320 0 [(0, .ref b)] [] (b + 1) h Q := by
  refine z_aload_n (j := 0) dX6_init_0 rfl ?_
  refine z_objInit lX6_3 ob1 ob2 (Nat.le_of_ble_eq_true rfl) dX6_init_1 ?_
  refine z_aload_n (j := 0) dX6_init_4 rfl ?_
  refine z_bipush (v := 64) dX6_init_5 (by decide) ?_
  refine z_newa0 (N' := 64) (k2 := 4) (s2 := 256) arr_int (by decide) (by decide) (by decide) (by omega) (by intro q hq9; simp only [List.mem_cons, List.not_mem_nil, or_false] at hq9; rcases hq9 with rfl <;> first | exact zokr (by omega) | exact zoki) (by intro q hq9; simp only [List.mem_cons, List.not_mem_nil, or_false] at hq9; rcases hq9 with rfl <;> first | exact zokr (by omega) | exact zoki) (by decide) (by decide) dX6_init_7 ?_
  refine z_putFr (fs := [.null, .null, .null, .null, .null, .int 0, .int 0, .int 0, .int 0, .int 0, .int 0, .int 0, .int 0, .int 0, .int 0, .int 0]) (q := (b + 1)) (by omega) ((up_ne (by omega)).trans h0) fX6_9 gg6 (Or.inr ⟨_, rfl⟩) fin6_0 dcl6_0 rfl (Or.inl (by omega)) (by show 0 < 16; decide) dX6_init_9 ?_
  refine z_aload_n (j := 0) dX6_init_12 rfl ?_
  refine z_bipush (v := 64) dX6_init_13 (by decide) ?_
  refine z_newa0 (N' := 64) (k2 := 3) (s2 := 192) arr_int (by decide) (by decide) (by decide) (by omega) (by intro q hq9; simp only [List.mem_cons, List.not_mem_nil, or_false] at hq9; rcases hq9 with rfl <;> first | exact zokr (by omega) | exact zoki) (by intro q hq9; simp only [List.mem_cons, List.not_mem_nil, or_false] at hq9; rcases hq9 with rfl <;> first | exact zokr (by omega) | exact zoki) (by decide) (by decide) dX6_init_15 ?_
  refine z_putFr (fs := [.ref (b + 1), .null, .null, .null, .null, .int 0, .int 0, .int 0, .int 0, .int 0, .int 0, .int 0, .int 0, .int 0, .int 0, .int 0]) (q := (b + 2)) (by omega) ((up_ne (by omega)).trans up_eq) fX6_15 gg6 (Or.inr ⟨_, rfl⟩) fin6_1 dcl6_1 rfl (Or.inl (by omega)) (by show 1 < 16; decide) dX6_init_17 ?_
  refine z_aload_n (j := 0) dX6_init_20 rfl ?_
  refine z_bipush (v := 64) dX6_init_21 (by decide) ?_
  refine z_newa0 (N' := 64) (k2 := 2) (s2 := 128) arr_int (by decide) (by decide) (by decide) (by omega) (by intro q hq9; simp only [List.mem_cons, List.not_mem_nil, or_false] at hq9; rcases hq9 with rfl <;> first | exact zokr (by omega) | exact zoki) (by intro q hq9; simp only [List.mem_cons, List.not_mem_nil, or_false] at hq9; rcases hq9 with rfl <;> first | exact zokr (by omega) | exact zoki) (by decide) (by decide) dX6_init_23 ?_
  refine z_putFr (fs := [.ref (b + 1), .ref (b + 2), .null, .null, .null, .int 0, .int 0, .int 0, .int 0, .int 0, .int 0, .int 0, .int 0, .int 0, .int 0, .int 0]) (q := (b + 3)) (by omega) ((up_ne (by omega)).trans up_eq) fX6_18 gg6 (Or.inr ⟨_, rfl⟩) fin6_2 dcl6_2 rfl (Or.inl (by omega)) (by show 2 < 16; decide) dX6_init_25 ?_
  refine z_aload_n (j := 0) dX6_init_28 rfl ?_
  refine z_bipush (v := 64) dX6_init_29 (by decide) ?_
  refine z_newa0 (N' := 64) (k2 := 1) (s2 := 64) arr_int (by decide) (by decide) (by decide) (by omega) (by intro q hq9; simp only [List.mem_cons, List.not_mem_nil, or_false] at hq9; rcases hq9 with rfl <;> first | exact zokr (by omega) | exact zoki) (by intro q hq9; simp only [List.mem_cons, List.not_mem_nil, or_false] at hq9; rcases hq9 with rfl <;> first | exact zokr (by omega) | exact zoki) (by decide) (by decide) dX6_init_31 ?_
  refine z_putFr (fs := [.ref (b + 1), .ref (b + 2), .ref (b + 3), .null, .null, .int 0, .int 0, .int 0, .int 0, .int 0, .int 0, .int 0, .int 0, .int 0, .int 0, .int 0]) (q := (b + 4)) (by omega) ((up_ne (by omega)).trans up_eq) fX6_21 gg6 (Or.inr ⟨_, rfl⟩) fin6_3 dcl6_3 rfl (Or.inl (by omega)) (by show 3 < 16; decide) dX6_init_33 ?_
  refine z_aload_n (j := 0) dX6_init_36 rfl ?_
  refine z_bipush (v := 64) dX6_init_37 (by decide) ?_
  refine z_newa0 (N' := 64) (k2 := 0) (s2 := 0) arr_int (by decide) (by decide) (by decide) (by omega) (by intro q hq9; simp only [List.mem_cons, List.not_mem_nil, or_false] at hq9; rcases hq9 with rfl <;> first | exact zokr (by omega) | exact zoki) (by intro q hq9; simp only [List.mem_cons, List.not_mem_nil, or_false] at hq9; rcases hq9 with rfl <;> first | exact zokr (by omega) | exact zoki) (by decide) (by decide) dX6_init_39 ?_
  refine z_putFr (fs := [.ref (b + 1), .ref (b + 2), .ref (b + 3), .ref (b + 4), .null, .int 0, .int 0, .int 0, .int 0, .int 0, .int 0, .int 0, .int 0, .int 0, .int 0, .int 0]) (q := (b + 5)) (by omega) ((up_ne (by omega)).trans up_eq) fX6_24 gg6 (Or.inr ⟨_, rfl⟩) fin6_4 dcl6_4 rfl (Or.inl (by omega)) (by show 4 < 16; decide) dX6_init_41 ?_
  refine z_world (h' := tW h b (fun _ => 0) (fun _ _ => 0)) ?_ ?_
  · intro q hq9
    by_cases g0 : q = b
    · rw [g0]
      refine up_eq.trans ?_
      rw [tW_obj]
      rfl
    · by_cases g1 : b < q ∧ q ≤ b + 5
      · rcases (show q = b + 1 ∨ q = b + 2 ∨ q = b + 3 ∨ q = b + 4 ∨ q = b + 5 by omega) with g | g | g | g | g <;> rw [g]
        · refine Eq.trans ?_ (tW_arr 0 (by decide)).symm
          repeat (first | exact up_eq | rw [up_ne (by omega)])
        · refine Eq.trans ?_ (tW_arr 1 (by decide)).symm
          repeat (first | exact up_eq | rw [up_ne (by omega)])
        · refine Eq.trans ?_ (tW_arr 2 (by decide)).symm
          repeat (first | exact up_eq | rw [up_ne (by omega)])
        · refine Eq.trans ?_ (tW_arr 3 (by decide)).symm
          repeat (first | exact up_eq | rw [up_ne (by omega)])
        · refine Eq.trans ?_ (tW_arr 4 (by decide)).symm
          repeat (first | exact up_eq | rw [up_ne (by omega)])
      · rw [tW_off (by omega)]
        repeat rw [up_ne (by omega)]
  · refine z_aload_n (j := 0) dX6_init_44 rfl ?_
    refine z_bipush (v := 8) dX6_init_45 (by decide) ?_
    refine z_iconst (v := 2) dX6_init_47 (by decide) ?_
    refine z_iconst (v := 1) dX6_init_48 (by decide) ?_
    refine z_kV [.int 8, .int 2, .int 1] 0 0 0 0 yoX6_begin yvX6_begin rfl (by decide) lX6_27 (by omega) tW_obj rfl rfl (Nat.le_of_ble_eq_true rfl) (Nat.le_of_ble_eq_true rfl) dX6_init_49 (by omega) (by omega) (z_room (by omega) (Nat.le_refl _) (Nat.le_refl _) (c_begin (d := 0) (B := 8) (H := 2) (T := 1) (by omega) (Or.inl rfl) (by decide) (by decide) (by decide) (by decide) (fun s a _ => ⟨rfl, ?_⟩)))
    exact z_vret rfl dX6_init_52 (hq s a)

set_option maxHeartbeats 4000000 in
set_option maxRecDepth 100000 in
theorem w_I0 {l : zL} {d : Nat} {h : Nat → va_E} {Q : zQ} (h0 : h 1 = .inr (1, [.null, .int 0, .int 0, .int 0, .int 0, .int 0])) (hq : Q (.inl none) 3 (va_up (va_up h 2 (.inl (0, 600, .inl (fun _ => 0)))) 1 (.inr (1, [.ref 2, .int 0, .int 0, .int 0, .int 0, .int 0])))) : Zj l mX3_init d 1 600 0 [(0, .ref 1)] [] 2 h Q := by
  refine z_aload_n (j := 0) dX3_init_0 rfl ?_
  refine z_objInit lX3_3 ob1 ob2 (Nat.le_of_ble_eq_true rfl) dX3_init_1 ?_
  refine z_aload_n (j := 0) dX3_init_4 rfl ?_
  refine z_sipush (v := 600) dX3_init_5 (by decide) ?_
  refine z_newa0 (N' := 600) (k2 := 0) (s2 := 0) arr_int (by decide) (by decide) (by decide) (by decide) (by intro q hq9; simp only [List.mem_cons, List.not_mem_nil, or_false] at hq9; rcases hq9 with rfl <;> first | exact zokr (by omega) | exact zoki) (by intro q hq9; simp only [List.mem_cons, List.not_mem_nil, or_false] at hq9; rcases hq9 with rfl <;> first | exact zokr (by omega) | exact zoki) (by decide) (by decide) dX3_init_8 ?_
  refine z_putFr (fs := [.null, .int 0, .int 0, .int 0, .int 0, .int 0]) (q := 2) (by decide) h0 fX3_11 gg3 (Or.inr ⟨_, rfl⟩) fin3_0 dcl3_0 rfl (Or.inl (by omega)) (by show 0 < 6; decide) dX3_init_10 ?_
  exact z_vret rfl dX3_init_13 (hq)

set_option maxHeartbeats 4000000 in
set_option maxRecDepth 100000 in
theorem w_P0 {l : zL} {d : Nat} {h : Nat → va_E} {Q : zQ} (h0 : h 87 = .inr (2, [.null, .int 0])) (hq : Q (.inl none) 89 (va_up (va_up h 88 (.inl (0, 448, .inl (fun _ => 0)))) 87 (.inr (2, [.ref 88, .int 0])))) : Zj l mX4_init d 1 448 0 [(0, .ref 87)] [] 88 h Q := by
  refine z_aload_n (j := 0) dX4_init_0 rfl ?_
  refine z_objInit lX4_3 ob1 ob2 (Nat.le_of_ble_eq_true rfl) dX4_init_1 ?_
  refine z_aload_n (j := 0) dX4_init_4 rfl ?_
  refine z_sipush (v := 448) dX4_init_5 (by decide) ?_
  refine z_newa0 (N' := 448) (k2 := 0) (s2 := 0) arr_int (by decide) (by decide) (by decide) (by decide) (by intro q hq9; simp only [List.mem_cons, List.not_mem_nil, or_false] at hq9; rcases hq9 with rfl <;> first | exact zokr (by omega) | exact zoki) (by intro q hq9; simp only [List.mem_cons, List.not_mem_nil, or_false] at hq9; rcases hq9 with rfl <;> first | exact zokr (by omega) | exact zoki) (by decide) (by decide) dX4_init_8 ?_
  refine z_putFr (fs := [.null, .int 0]) (q := 88) (by decide) h0 fX4_9 gg4 (Or.inr ⟨_, rfl⟩) fin4_0 dcl4_0 rfl (Or.inl (by omega)) (by show 0 < 2; decide) dX4_init_10 ?_
  exact z_vret rfl dX4_init_13 (hq)

set_option maxHeartbeats 4000000 in
set_option maxRecDepth 100000 in
theorem w_S0 {l : zL} {d : Nat} {h : Nat → va_E} {Q : zQ} (h0 : h 3 = .inr (3, [.null, .null, .null, .null, .null, .int 0, .int 0, .null, .int 0, .int 0, .int 0, .int 0])) (hq : ∀ s0 a0, Q (.inl none) 13 (va_up (va_up (va_up (va_up (va_up (va_up (va_up (va_up (va_up (tW (va_up h 4 (.inr (4, [.null, .null, .null, .null, .null, .int 0, .int 0, .int 0, .int 0, .int 0, .int 0, .int 0, .int 0, .int 0, .int 0, .int 0]))) 4 s0 a0) 3 (.inr (3, [.null, .ref 4, .null, .null, .null, .int 0, .int 0, .null, .int 0, .int 0, .int 0, .int 0]))) 10 (.inl (0, 3, .inl (fun _ => 0)))) 3 (.inr (3, [.null, .ref 4, .ref 10, .null, .null, .int 0, .int 0, .null, .int 0, .int 0, .int 0, .int 0]))) 11 (.inl (0, 2, .inl (fun _ => 0)))) 3 (.inr (3, [.null, .ref 4, .ref 10, .ref 11, .null, .int 0, .int 0, .null, .int 0, .int 0, .int 0, .int 0]))) 12 (.inl (0, 2, .inl (fun _ => 0)))) 3 (.inr (3, [.null, .ref 4, .ref 10, .ref 11, .ref 12, .int 0, .int 0, .null, .int 0, .int 0, .int 0, .int 0]))) 3 (.inr (3, [.null, .ref 4, .ref 10, .ref 11, .ref 12, .int 0, .int 0, .null, .int 0, .int 0, .int 0, .int (-1)]))) 3 (.inr (3, [.ref 1, .ref 4, .ref 10, .ref 11, .ref 12, .int 0, .int 0, .null, .int 0, .int 0, .int 0, .int (-1)])))) : Zj l mX5_init (d + 3) 9 343 0 [(0, .ref 3), (1, .ref 1)] [] 4 h Q := by
  refine z_aload_n (j := 0) dX5_init_0 rfl ?_
  refine z_objInit lX5_3 ob1 ob2 (Nat.le_of_ble_eq_true rfl) dX5_init_1 ?_
  refine z_aload_n (j := 0) dX5_init_4 rfl ?_
  refine z_new (k2 := 8) (s2 := 327) nwX5_9 (by decide) (by intro q hq9; simp only [List.mem_cons, List.not_mem_nil, or_false] at hq9; rcases hq9 with rfl | rfl <;> first | exact zokr (by omega) | exact zoki) (by intro q hq9; simp only [List.mem_cons, List.not_mem_nil, or_false] at hq9; rcases hq9 with rfl <;> first | exact zokr (by omega) | exact zoki) (by decide) (by decide) dX5_init_5 ?_
  refine z_dup rfl dX5_init_8 ?_
  refine z_kI [] 5 320 3 7 yoX6_init yiX6_init rfl rfl rfl (by decide) lX5_11 rfl (Nat.le_of_ble_eq_true rfl) (Nat.le_of_ble_eq_true rfl) dX5_init_9 (by decide) (by decide) (by intro q hq9; simp only [List.mem_cons, List.not_mem_nil, or_false] at hq9; rcases hq9 with rfl | rfl <;> first | exact zokr (by omega) | exact zoki) (by intro q hq9; simp only [List.mem_cons, List.not_mem_nil, or_false] at hq9; rcases hq9 with rfl | rfl <;> first | exact zokr (by omega) | exact zoki) (z_room (by omega) (Nat.le_refl _) (Nat.le_refl _) (w_T0 (d := 0) (by decide) rfl (fun s0 a0 => ⟨rfl, ?_⟩)))
  refine z_putFr (fs := [.null, .null, .null, .null, .null, .int 0, .int 0, .null, .int 0, .int 0, .int 0, .int 0]) (q := 4) (by decide) h0 fX5_12 gg5 (Or.inl ⟨_, rfl⟩) fin5_1 dcl5_1 rfl (Or.inl (by omega)) (by show 1 < 12; decide) dX5_init_12 ?_
  refine z_aload_n (j := 0) dX5_init_15 rfl ?_
  refine z_iconst (v := 3) dX5_init_16 (by decide) ?_
  refine z_newa0 (N' := 3) (k2 := 2) (s2 := 4) arr_int (by decide) (by decide) (by decide) (by decide) (by intro q hq9; simp only [List.mem_cons, List.not_mem_nil, or_false] at hq9; rcases hq9 with rfl | rfl <;> first | exact zokr (by omega) | exact zoki) (by intro q hq9; simp only [List.mem_cons, List.not_mem_nil, or_false] at hq9; rcases hq9 with rfl <;> first | exact zokr (by omega) | exact zoki) (by decide) (by decide) dX5_init_17 ?_
  refine z_putFr (fs := [.null, .ref 4, .null, .null, .null, .int 0, .int 0, .null, .int 0, .int 0, .int 0, .int 0]) (q := 10) (by decide) rfl fX5_18 gg5 (Or.inr ⟨_, rfl⟩) fin5_2 dcl5_2 rfl (Or.inl (by omega)) (by show 2 < 12; decide) dX5_init_19 ?_
  refine z_aload_n (j := 0) dX5_init_22 rfl ?_
  refine z_iconst (v := 2) dX5_init_23 (by decide) ?_
  refine z_newa0 (N' := 2) (k2 := 1) (s2 := 2) arr_int (by decide) (by decide) (by decide) (by decide) (by intro q hq9; simp only [List.mem_cons, List.not_mem_nil, or_false] at hq9; rcases hq9 with rfl | rfl <;> first | exact zokr (by omega) | exact zoki) (by intro q hq9; simp only [List.mem_cons, List.not_mem_nil, or_false] at hq9; rcases hq9 with rfl <;> first | exact zokr (by omega) | exact zoki) (by decide) (by decide) dX5_init_24 ?_
  refine z_putFr (fs := [.null, .ref 4, .ref 10, .null, .null, .int 0, .int 0, .null, .int 0, .int 0, .int 0, .int 0]) (q := 11) (by decide) rfl fX5_22 gg5 (Or.inr ⟨_, rfl⟩) fin5_3 dcl5_3 rfl (Or.inl (by omega)) (by show 3 < 12; decide) dX5_init_26 ?_
  refine z_aload_n (j := 0) dX5_init_29 rfl ?_
  refine z_iconst (v := 2) dX5_init_30 (by decide) ?_
  refine z_newa0 (N' := 2) (k2 := 0) (s2 := 0) arr_int (by decide) (by decide) (by decide) (by decide) (by intro q hq9; simp only [List.mem_cons, List.not_mem_nil, or_false] at hq9; rcases hq9 with rfl | rfl <;> first | exact zokr (by omega) | exact zoki) (by intro q hq9; simp only [List.mem_cons, List.not_mem_nil, or_false] at hq9; rcases hq9 with rfl <;> first | exact zokr (by omega) | exact zoki) (by decide) (by decide) dX5_init_31 ?_
  refine z_putFr (fs := [.null, .ref 4, .ref 10, .ref 11, .null, .int 0, .int 0, .null, .int 0, .int 0, .int 0, .int 0]) (q := 12) (by decide) rfl fX5_25 gg5 (Or.inr ⟨_, rfl⟩) fin5_4 dcl5_4 rfl (Or.inl (by omega)) (by show 4 < 12; decide) dX5_init_33 ?_
  refine z_aload_n (j := 0) dX5_init_36 rfl ?_
  refine z_iconst (v := (-1)) dX5_init_37 (by decide) ?_
  refine z_puti (fs := [.null, .ref 4, .ref 10, .ref 11, .ref 12, .int 0, .int 0, .null, .int 0, .int 0, .int 0, .int 0]) (x := (-1)) (by decide) rfl fX5_28 gg5 rfl fin5_11 (by show 11 < 12; decide) dX5_init_38 ?_
  refine z_aload_n (j := 0) dX5_init_41 rfl ?_
  refine z_aload_n (j := 1) dX5_init_42 rfl ?_
  refine z_putFr (fs := [.null, .ref 4, .ref 10, .ref 11, .ref 12, .int 0, .int 0, .null, .int 0, .int 0, .int 0, .int (-1)]) (q := 1) (by decide) rfl fX5_32 gg5 (Or.inl ⟨_, rfl⟩) fin5_0 dcl5_0 rfl (Or.inl (by omega)) (by show 0 < 12; decide) dX5_init_43 ?_
  exact z_vret rfl dX5_init_46 (hq s0 a0)

set_option maxHeartbeats 4000000 in
set_option maxRecDepth 100000 in
theorem w_H0 {l : zL} {d : Nat} {h : Nat → va_E} {Q : zQ} (h0 : h 31 = .inr (0, [.null, .int 0, .int 0])) (hq : ∀ r0 q0 r1 q1 r2 q2 r3 q3 r4 q4 r5 q5 r6 q6 r7 q7 r8 q8, Q (.inl none) 87 (va_up (tW (va_up (va_up (tW (va_up (va_up (tW (va_up (va_up (tW (va_up (va_up (tW (va_up (va_up (tW (va_up (va_up (tW (va_up (va_up (tW (va_up (va_up (tW (va_up (va_up (va_up h 32 (.inl (3, 9, .inr (.inr (.inr (.inr (fun _ => none))))))) 31 (.inr (0, [.ref 32, .int 0, .int 0]))) 33 (.inr (4, [.null, .null, .null, .null, .null, .int 0, .int 0, .int 0, .int 0, .int 0, .int 0, .int 0, .int 0, .int 0, .int 0, .int 0]))) 33 r0 q0) 32 (.inl (3, 9, .inr (.inr (.inr (.inr (va_up (fun _ => none) (0 : Int32).toNatClampNeg (some 33)))))))) 39 (.inr (4, [.null, .null, .null, .null, .null, .int 0, .int 0, .int 0, .int 0, .int 0, .int 0, .int 0, .int 0, .int 0, .int 0, .int 0]))) 39 r1 q1) 32 (.inl (3, 9, .inr (.inr (.inr (.inr (va_up (va_up (fun _ => none) (0 : Int32).toNatClampNeg (some 33)) (1 : Int32).toNatClampNeg (some 39)))))))) 45 (.inr (4, [.null, .null, .null, .null, .null, .int 0, .int 0, .int 0, .int 0, .int 0, .int 0, .int 0, .int 0, .int 0, .int 0, .int 0]))) 45 r2 q2) 32 (.inl (3, 9, .inr (.inr (.inr (.inr (va_up (va_up (va_up (fun _ => none) (0 : Int32).toNatClampNeg (some 33)) (1 : Int32).toNatClampNeg (some 39)) (2 : Int32).toNatClampNeg (some 45)))))))) 51 (.inr (4, [.null, .null, .null, .null, .null, .int 0, .int 0, .int 0, .int 0, .int 0, .int 0, .int 0, .int 0, .int 0, .int 0, .int 0]))) 51 r3 q3) 32 (.inl (3, 9, .inr (.inr (.inr (.inr (va_up (va_up (va_up (va_up (fun _ => none) (0 : Int32).toNatClampNeg (some 33)) (1 : Int32).toNatClampNeg (some 39)) (2 : Int32).toNatClampNeg (some 45)) (3 : Int32).toNatClampNeg (some 51)))))))) 57 (.inr (4, [.null, .null, .null, .null, .null, .int 0, .int 0, .int 0, .int 0, .int 0, .int 0, .int 0, .int 0, .int 0, .int 0, .int 0]))) 57 r4 q4) 32 (.inl (3, 9, .inr (.inr (.inr (.inr (va_up (va_up (va_up (va_up (va_up (fun _ => none) (0 : Int32).toNatClampNeg (some 33)) (1 : Int32).toNatClampNeg (some 39)) (2 : Int32).toNatClampNeg (some 45)) (3 : Int32).toNatClampNeg (some 51)) (4 : Int32).toNatClampNeg (some 57)))))))) 63 (.inr (4, [.null, .null, .null, .null, .null, .int 0, .int 0, .int 0, .int 0, .int 0, .int 0, .int 0, .int 0, .int 0, .int 0, .int 0]))) 63 r5 q5) 32 (.inl (3, 9, .inr (.inr (.inr (.inr (va_up (va_up (va_up (va_up (va_up (va_up (fun _ => none) (0 : Int32).toNatClampNeg (some 33)) (1 : Int32).toNatClampNeg (some 39)) (2 : Int32).toNatClampNeg (some 45)) (3 : Int32).toNatClampNeg (some 51)) (4 : Int32).toNatClampNeg (some 57)) (5 : Int32).toNatClampNeg (some 63)))))))) 69 (.inr (4, [.null, .null, .null, .null, .null, .int 0, .int 0, .int 0, .int 0, .int 0, .int 0, .int 0, .int 0, .int 0, .int 0, .int 0]))) 69 r6 q6) 32 (.inl (3, 9, .inr (.inr (.inr (.inr (va_up (va_up (va_up (va_up (va_up (va_up (va_up (fun _ => none) (0 : Int32).toNatClampNeg (some 33)) (1 : Int32).toNatClampNeg (some 39)) (2 : Int32).toNatClampNeg (some 45)) (3 : Int32).toNatClampNeg (some 51)) (4 : Int32).toNatClampNeg (some 57)) (5 : Int32).toNatClampNeg (some 63)) (6 : Int32).toNatClampNeg (some 69)))))))) 75 (.inr (4, [.null, .null, .null, .null, .null, .int 0, .int 0, .int 0, .int 0, .int 0, .int 0, .int 0, .int 0, .int 0, .int 0, .int 0]))) 75 r7 q7) 32 (.inl (3, 9, .inr (.inr (.inr (.inr (va_up (va_up (va_up (va_up (va_up (va_up (va_up (va_up (fun _ => none) (0 : Int32).toNatClampNeg (some 33)) (1 : Int32).toNatClampNeg (some 39)) (2 : Int32).toNatClampNeg (some 45)) (3 : Int32).toNatClampNeg (some 51)) (4 : Int32).toNatClampNeg (some 57)) (5 : Int32).toNatClampNeg (some 63)) (6 : Int32).toNatClampNeg (some 69)) (7 : Int32).toNatClampNeg (some 75)))))))) 81 (.inr (4, [.null, .null, .null, .null, .null, .int 0, .int 0, .int 0, .int 0, .int 0, .int 0, .int 0, .int 0, .int 0, .int 0, .int 0]))) 81 r8 q8) 32 (.inl (3, 9, .inr (.inr (.inr (.inr (va_up (va_up (va_up (va_up (va_up (va_up (va_up (va_up (va_up (fun _ => none) (0 : Int32).toNatClampNeg (some 33)) (1 : Int32).toNatClampNeg (some 39)) (2 : Int32).toNatClampNeg (some 45)) (3 : Int32).toNatClampNeg (some 51)) (4 : Int32).toNatClampNeg (some 57)) (5 : Int32).toNatClampNeg (some 63)) (6 : Int32).toNatClampNeg (some 69)) (7 : Int32).toNatClampNeg (some 75)) (8 : Int32).toNatClampNeg (some 81))))))))) : Zj l mX2_init (d + 3) 55 3033 0 [(0, .ref 31)] [] 32 h Q := by
  refine z_aload_n (j := 0) dX2_init_0 rfl ?_
  refine z_objInit lX2_3 ob1 ob2 (Nat.le_of_ble_eq_true rfl) dX2_init_1 ?_
  refine z_aload_n (j := 0) dX2_init_4 rfl ?_
  refine z_bipush (v := 9) dX2_init_5 (by decide) ?_
  refine z_newq (N' := 9) (k2 := 54) (s2 := 3024) lX2_9 (by decide) (by decide) (by decide) (by decide) (by intro q hq9; simp only [List.mem_cons, List.not_mem_nil, or_false] at hq9; rcases hq9 with rfl <;> first | exact zokr (by omega) | exact zoki) (by intro q hq9; simp only [List.mem_cons, List.not_mem_nil, or_false] at hq9; rcases hq9 with rfl <;> first | exact zokr (by omega) | exact zoki) (by decide) (by decide) dX2_init_7 ?_
  refine z_putFr (fs := [.null, .int 0, .int 0]) (q := 32) (by decide) h0 fX2_11 gg2 (Or.inr ⟨_, rfl⟩) fin2_0 dcl2_0 rfl (Or.inl (by omega)) (by show 0 < 3; decide) dX2_init_10 ?_
  refine z_iconst (v := 0) dX2_init_13 (by decide) ?_
  refine z_istore_n [1, 0] [(0, .ref 31), (1, .int 0)] dX2_init_14 (by decide) rfl ?_
  refine z_iload_n (j := 1) dX2_init_15 rfl ?_
  refine z_bipush (v := 9) dX2_init_16 (by decide) ?_
  refine z_icmp_ge (tgt := 40) dX2_init_18 (by decide) (fun czq18 => absurd czq18 (by decide)) (fun czq18 => ?_)
  refine z_aload_n (j := 0) dX2_init_21 rfl ?_
  refine z_get (v := .ref 32) (by decide) rfl fX2_11 rfl dX2_init_22 ?_
  refine z_iload_n (j := 1) dX2_init_25 rfl ?_
  refine z_new (k2 := 53) (s2 := 3008) nwX2_9 (by decide) (by intro q hq9; simp only [List.mem_cons, List.not_mem_nil, or_false] at hq9; rcases hq9 with rfl | rfl <;> first | exact zokr (by omega) | exact zoki) (by intro q hq9; simp only [List.mem_cons, List.not_mem_nil, or_false] at hq9; rcases hq9 with rfl | rfl <;> first | exact zokr (by omega) | exact zoki) (by decide) (by decide) dX2_init_26 ?_
  refine z_dup rfl dX2_init_29 ?_
  refine z_kI [] 5 320 48 2688 yoX6_init yiX6_init rfl rfl rfl (by decide) lX2_15 rfl (Nat.le_of_ble_eq_true rfl) (Nat.le_of_ble_eq_true rfl) dX2_init_30 (by decide) (by decide) (by intro q hq9; simp only [List.mem_cons, List.not_mem_nil, or_false] at hq9; rcases hq9 with rfl | rfl <;> first | exact zokr (by omega) | exact zoki) (by intro q hq9; simp only [List.mem_cons, List.not_mem_nil, or_false] at hq9; rcases hq9 with rfl | rfl | rfl <;> first | exact zokr (by omega) | exact zoki) (z_room (by omega) (Nat.le_refl _) (Nat.le_refl _) (w_T0 (d := 0) (by decide) rfl (fun r0 q0 => ⟨rfl, ?_⟩)))
  refine z_aast (N := 9) (f := (fun _ => none)) (vs := tF 33 r0) (by decide) rfl (by decide) rfl (show vp_in (nI 0) 9 from vp_in_nI (by decide) (by decide)) dX2_init_33 ?_
  refine z_iinc (1) [1, 0] [(0, .ref 31), (1, .int 1)] dX2_init_34 (j := 1) rfl (by decide) (by decide) rfl ?_
  refine z_goto (tgt := 15) dX2_init_37 (by decide) ?_
  refine z_iload_n (j := 1) dX2_init_15 rfl ?_
  refine z_bipush (v := 9) dX2_init_16 (by decide) ?_
  refine z_icmp_ge (tgt := 40) dX2_init_18 (by decide) (fun czq18 => absurd czq18 (by decide)) (fun czq18 => ?_)
  refine z_aload_n (j := 0) dX2_init_21 rfl ?_
  refine z_get (v := .ref 32) (by decide) rfl fX2_11 rfl dX2_init_22 ?_
  refine z_iload_n (j := 1) dX2_init_25 rfl ?_
  refine z_new (k2 := 47) (s2 := 2672) nwX2_9 (by decide) (by intro q hq9; simp only [List.mem_cons, List.not_mem_nil, or_false] at hq9; rcases hq9 with rfl | rfl <;> first | exact zokr (by omega) | exact zoki) (by intro q hq9; simp only [List.mem_cons, List.not_mem_nil, or_false] at hq9; rcases hq9 with rfl | rfl <;> first | exact zokr (by omega) | exact zoki) (by decide) (by decide) dX2_init_26 ?_
  refine z_dup rfl dX2_init_29 ?_
  refine z_kI [] 5 320 42 2352 yoX6_init yiX6_init rfl rfl rfl (by decide) lX2_15 rfl (Nat.le_of_ble_eq_true rfl) (Nat.le_of_ble_eq_true rfl) dX2_init_30 (by decide) (by decide) (by intro q hq9; simp only [List.mem_cons, List.not_mem_nil, or_false] at hq9; rcases hq9 with rfl | rfl <;> first | exact zokr (by omega) | exact zoki) (by intro q hq9; simp only [List.mem_cons, List.not_mem_nil, or_false] at hq9; rcases hq9 with rfl | rfl | rfl <;> first | exact zokr (by omega) | exact zoki) (z_room (by omega) (Nat.le_refl _) (Nat.le_refl _) (w_T0 (d := 0) (by decide) rfl (fun r1 q1 => ⟨rfl, ?_⟩)))
  refine z_aast (N := 9) (f := (va_up (fun _ => none) (0 : Int32).toNatClampNeg (some 33))) (vs := tF 39 r1) (by decide) rfl (by decide) rfl (show vp_in (nI 1) 9 from vp_in_nI (by decide) (by decide)) dX2_init_33 ?_
  refine z_iinc (2) [1, 0] [(0, .ref 31), (1, .int 2)] dX2_init_34 (j := 1) rfl (by decide) (by decide) rfl ?_
  refine z_goto (tgt := 15) dX2_init_37 (by decide) ?_
  refine z_iload_n (j := 1) dX2_init_15 rfl ?_
  refine z_bipush (v := 9) dX2_init_16 (by decide) ?_
  refine z_icmp_ge (tgt := 40) dX2_init_18 (by decide) (fun czq18 => absurd czq18 (by decide)) (fun czq18 => ?_)
  refine z_aload_n (j := 0) dX2_init_21 rfl ?_
  refine z_get (v := .ref 32) (by decide) rfl fX2_11 rfl dX2_init_22 ?_
  refine z_iload_n (j := 1) dX2_init_25 rfl ?_
  refine z_new (k2 := 41) (s2 := 2336) nwX2_9 (by decide) (by intro q hq9; simp only [List.mem_cons, List.not_mem_nil, or_false] at hq9; rcases hq9 with rfl | rfl <;> first | exact zokr (by omega) | exact zoki) (by intro q hq9; simp only [List.mem_cons, List.not_mem_nil, or_false] at hq9; rcases hq9 with rfl | rfl <;> first | exact zokr (by omega) | exact zoki) (by decide) (by decide) dX2_init_26 ?_
  refine z_dup rfl dX2_init_29 ?_
  refine z_kI [] 5 320 36 2016 yoX6_init yiX6_init rfl rfl rfl (by decide) lX2_15 rfl (Nat.le_of_ble_eq_true rfl) (Nat.le_of_ble_eq_true rfl) dX2_init_30 (by decide) (by decide) (by intro q hq9; simp only [List.mem_cons, List.not_mem_nil, or_false] at hq9; rcases hq9 with rfl | rfl <;> first | exact zokr (by omega) | exact zoki) (by intro q hq9; simp only [List.mem_cons, List.not_mem_nil, or_false] at hq9; rcases hq9 with rfl | rfl | rfl <;> first | exact zokr (by omega) | exact zoki) (z_room (by omega) (Nat.le_refl _) (Nat.le_refl _) (w_T0 (d := 0) (by decide) rfl (fun r2 q2 => ⟨rfl, ?_⟩)))
  refine z_aast (N := 9) (f := (va_up (va_up (fun _ => none) (0 : Int32).toNatClampNeg (some 33)) (1 : Int32).toNatClampNeg (some 39))) (vs := tF 45 r2) (by decide) rfl (by decide) rfl (show vp_in (nI 2) 9 from vp_in_nI (by decide) (by decide)) dX2_init_33 ?_
  refine z_iinc (3) [1, 0] [(0, .ref 31), (1, .int 3)] dX2_init_34 (j := 1) rfl (by decide) (by decide) rfl ?_
  refine z_goto (tgt := 15) dX2_init_37 (by decide) ?_
  refine z_iload_n (j := 1) dX2_init_15 rfl ?_
  refine z_bipush (v := 9) dX2_init_16 (by decide) ?_
  refine z_icmp_ge (tgt := 40) dX2_init_18 (by decide) (fun czq18 => absurd czq18 (by decide)) (fun czq18 => ?_)
  refine z_aload_n (j := 0) dX2_init_21 rfl ?_
  refine z_get (v := .ref 32) (by decide) rfl fX2_11 rfl dX2_init_22 ?_
  refine z_iload_n (j := 1) dX2_init_25 rfl ?_
  refine z_new (k2 := 35) (s2 := 2000) nwX2_9 (by decide) (by intro q hq9; simp only [List.mem_cons, List.not_mem_nil, or_false] at hq9; rcases hq9 with rfl | rfl <;> first | exact zokr (by omega) | exact zoki) (by intro q hq9; simp only [List.mem_cons, List.not_mem_nil, or_false] at hq9; rcases hq9 with rfl | rfl <;> first | exact zokr (by omega) | exact zoki) (by decide) (by decide) dX2_init_26 ?_
  refine z_dup rfl dX2_init_29 ?_
  refine z_kI [] 5 320 30 1680 yoX6_init yiX6_init rfl rfl rfl (by decide) lX2_15 rfl (Nat.le_of_ble_eq_true rfl) (Nat.le_of_ble_eq_true rfl) dX2_init_30 (by decide) (by decide) (by intro q hq9; simp only [List.mem_cons, List.not_mem_nil, or_false] at hq9; rcases hq9 with rfl | rfl <;> first | exact zokr (by omega) | exact zoki) (by intro q hq9; simp only [List.mem_cons, List.not_mem_nil, or_false] at hq9; rcases hq9 with rfl | rfl | rfl <;> first | exact zokr (by omega) | exact zoki) (z_room (by omega) (Nat.le_refl _) (Nat.le_refl _) (w_T0 (d := 0) (by decide) rfl (fun r3 q3 => ⟨rfl, ?_⟩)))
  refine z_aast (N := 9) (f := (va_up (va_up (va_up (fun _ => none) (0 : Int32).toNatClampNeg (some 33)) (1 : Int32).toNatClampNeg (some 39)) (2 : Int32).toNatClampNeg (some 45))) (vs := tF 51 r3) (by decide) rfl (by decide) rfl (show vp_in (nI 3) 9 from vp_in_nI (by decide) (by decide)) dX2_init_33 ?_
  refine z_iinc (4) [1, 0] [(0, .ref 31), (1, .int 4)] dX2_init_34 (j := 1) rfl (by decide) (by decide) rfl ?_
  refine z_goto (tgt := 15) dX2_init_37 (by decide) ?_
  refine z_iload_n (j := 1) dX2_init_15 rfl ?_
  refine z_bipush (v := 9) dX2_init_16 (by decide) ?_
  refine z_icmp_ge (tgt := 40) dX2_init_18 (by decide) (fun czq18 => absurd czq18 (by decide)) (fun czq18 => ?_)
  refine z_aload_n (j := 0) dX2_init_21 rfl ?_
  refine z_get (v := .ref 32) (by decide) rfl fX2_11 rfl dX2_init_22 ?_
  refine z_iload_n (j := 1) dX2_init_25 rfl ?_
  refine z_new (k2 := 29) (s2 := 1664) nwX2_9 (by decide) (by intro q hq9; simp only [List.mem_cons, List.not_mem_nil, or_false] at hq9; rcases hq9 with rfl | rfl <;> first | exact zokr (by omega) | exact zoki) (by intro q hq9; simp only [List.mem_cons, List.not_mem_nil, or_false] at hq9; rcases hq9 with rfl | rfl <;> first | exact zokr (by omega) | exact zoki) (by decide) (by decide) dX2_init_26 ?_
  refine z_dup rfl dX2_init_29 ?_
  refine z_kI [] 5 320 24 1344 yoX6_init yiX6_init rfl rfl rfl (by decide) lX2_15 rfl (Nat.le_of_ble_eq_true rfl) (Nat.le_of_ble_eq_true rfl) dX2_init_30 (by decide) (by decide) (by intro q hq9; simp only [List.mem_cons, List.not_mem_nil, or_false] at hq9; rcases hq9 with rfl | rfl <;> first | exact zokr (by omega) | exact zoki) (by intro q hq9; simp only [List.mem_cons, List.not_mem_nil, or_false] at hq9; rcases hq9 with rfl | rfl | rfl <;> first | exact zokr (by omega) | exact zoki) (z_room (by omega) (Nat.le_refl _) (Nat.le_refl _) (w_T0 (d := 0) (by decide) rfl (fun r4 q4 => ⟨rfl, ?_⟩)))
  refine z_aast (N := 9) (f := (va_up (va_up (va_up (va_up (fun _ => none) (0 : Int32).toNatClampNeg (some 33)) (1 : Int32).toNatClampNeg (some 39)) (2 : Int32).toNatClampNeg (some 45)) (3 : Int32).toNatClampNeg (some 51))) (vs := tF 57 r4) (by decide) rfl (by decide) rfl (show vp_in (nI 4) 9 from vp_in_nI (by decide) (by decide)) dX2_init_33 ?_
  refine z_iinc (5) [1, 0] [(0, .ref 31), (1, .int 5)] dX2_init_34 (j := 1) rfl (by decide) (by decide) rfl ?_
  refine z_goto (tgt := 15) dX2_init_37 (by decide) ?_
  refine z_iload_n (j := 1) dX2_init_15 rfl ?_
  refine z_bipush (v := 9) dX2_init_16 (by decide) ?_
  refine z_icmp_ge (tgt := 40) dX2_init_18 (by decide) (fun czq18 => absurd czq18 (by decide)) (fun czq18 => ?_)
  refine z_aload_n (j := 0) dX2_init_21 rfl ?_
  refine z_get (v := .ref 32) (by decide) rfl fX2_11 rfl dX2_init_22 ?_
  refine z_iload_n (j := 1) dX2_init_25 rfl ?_
  refine z_new (k2 := 23) (s2 := 1328) nwX2_9 (by decide) (by intro q hq9; simp only [List.mem_cons, List.not_mem_nil, or_false] at hq9; rcases hq9 with rfl | rfl <;> first | exact zokr (by omega) | exact zoki) (by intro q hq9; simp only [List.mem_cons, List.not_mem_nil, or_false] at hq9; rcases hq9 with rfl | rfl <;> first | exact zokr (by omega) | exact zoki) (by decide) (by decide) dX2_init_26 ?_
  refine z_dup rfl dX2_init_29 ?_
  refine z_kI [] 5 320 18 1008 yoX6_init yiX6_init rfl rfl rfl (by decide) lX2_15 rfl (Nat.le_of_ble_eq_true rfl) (Nat.le_of_ble_eq_true rfl) dX2_init_30 (by decide) (by decide) (by intro q hq9; simp only [List.mem_cons, List.not_mem_nil, or_false] at hq9; rcases hq9 with rfl | rfl <;> first | exact zokr (by omega) | exact zoki) (by intro q hq9; simp only [List.mem_cons, List.not_mem_nil, or_false] at hq9; rcases hq9 with rfl | rfl | rfl <;> first | exact zokr (by omega) | exact zoki) (z_room (by omega) (Nat.le_refl _) (Nat.le_refl _) (w_T0 (d := 0) (by decide) rfl (fun r5 q5 => ⟨rfl, ?_⟩)))
  refine z_aast (N := 9) (f := (va_up (va_up (va_up (va_up (va_up (fun _ => none) (0 : Int32).toNatClampNeg (some 33)) (1 : Int32).toNatClampNeg (some 39)) (2 : Int32).toNatClampNeg (some 45)) (3 : Int32).toNatClampNeg (some 51)) (4 : Int32).toNatClampNeg (some 57))) (vs := tF 63 r5) (by decide) rfl (by decide) rfl (show vp_in (nI 5) 9 from vp_in_nI (by decide) (by decide)) dX2_init_33 ?_
  refine z_iinc (6) [1, 0] [(0, .ref 31), (1, .int 6)] dX2_init_34 (j := 1) rfl (by decide) (by decide) rfl ?_
  refine z_goto (tgt := 15) dX2_init_37 (by decide) ?_
  refine z_iload_n (j := 1) dX2_init_15 rfl ?_
  refine z_bipush (v := 9) dX2_init_16 (by decide) ?_
  refine z_icmp_ge (tgt := 40) dX2_init_18 (by decide) (fun czq18 => absurd czq18 (by decide)) (fun czq18 => ?_)
  refine z_aload_n (j := 0) dX2_init_21 rfl ?_
  refine z_get (v := .ref 32) (by decide) rfl fX2_11 rfl dX2_init_22 ?_
  refine z_iload_n (j := 1) dX2_init_25 rfl ?_
  refine z_new (k2 := 17) (s2 := 992) nwX2_9 (by decide) (by intro q hq9; simp only [List.mem_cons, List.not_mem_nil, or_false] at hq9; rcases hq9 with rfl | rfl <;> first | exact zokr (by omega) | exact zoki) (by intro q hq9; simp only [List.mem_cons, List.not_mem_nil, or_false] at hq9; rcases hq9 with rfl | rfl <;> first | exact zokr (by omega) | exact zoki) (by decide) (by decide) dX2_init_26 ?_
  refine z_dup rfl dX2_init_29 ?_
  refine z_kI [] 5 320 12 672 yoX6_init yiX6_init rfl rfl rfl (by decide) lX2_15 rfl (Nat.le_of_ble_eq_true rfl) (Nat.le_of_ble_eq_true rfl) dX2_init_30 (by decide) (by decide) (by intro q hq9; simp only [List.mem_cons, List.not_mem_nil, or_false] at hq9; rcases hq9 with rfl | rfl <;> first | exact zokr (by omega) | exact zoki) (by intro q hq9; simp only [List.mem_cons, List.not_mem_nil, or_false] at hq9; rcases hq9 with rfl | rfl | rfl <;> first | exact zokr (by omega) | exact zoki) (z_room (by omega) (Nat.le_refl _) (Nat.le_refl _) (w_T0 (d := 0) (by decide) rfl (fun r6 q6 => ⟨rfl, ?_⟩)))
  refine z_aast (N := 9) (f := (va_up (va_up (va_up (va_up (va_up (va_up (fun _ => none) (0 : Int32).toNatClampNeg (some 33)) (1 : Int32).toNatClampNeg (some 39)) (2 : Int32).toNatClampNeg (some 45)) (3 : Int32).toNatClampNeg (some 51)) (4 : Int32).toNatClampNeg (some 57)) (5 : Int32).toNatClampNeg (some 63))) (vs := tF 69 r6) (by decide) rfl (by decide) rfl (show vp_in (nI 6) 9 from vp_in_nI (by decide) (by decide)) dX2_init_33 ?_
  refine z_iinc (7) [1, 0] [(0, .ref 31), (1, .int 7)] dX2_init_34 (j := 1) rfl (by decide) (by decide) rfl ?_
  refine z_goto (tgt := 15) dX2_init_37 (by decide) ?_
  refine z_iload_n (j := 1) dX2_init_15 rfl ?_
  refine z_bipush (v := 9) dX2_init_16 (by decide) ?_
  refine z_icmp_ge (tgt := 40) dX2_init_18 (by decide) (fun czq18 => absurd czq18 (by decide)) (fun czq18 => ?_)
  refine z_aload_n (j := 0) dX2_init_21 rfl ?_
  refine z_get (v := .ref 32) (by decide) rfl fX2_11 rfl dX2_init_22 ?_
  refine z_iload_n (j := 1) dX2_init_25 rfl ?_
  refine z_new (k2 := 11) (s2 := 656) nwX2_9 (by decide) (by intro q hq9; simp only [List.mem_cons, List.not_mem_nil, or_false] at hq9; rcases hq9 with rfl | rfl <;> first | exact zokr (by omega) | exact zoki) (by intro q hq9; simp only [List.mem_cons, List.not_mem_nil, or_false] at hq9; rcases hq9 with rfl | rfl <;> first | exact zokr (by omega) | exact zoki) (by decide) (by decide) dX2_init_26 ?_
  refine z_dup rfl dX2_init_29 ?_
  refine z_kI [] 5 320 6 336 yoX6_init yiX6_init rfl rfl rfl (by decide) lX2_15 rfl (Nat.le_of_ble_eq_true rfl) (Nat.le_of_ble_eq_true rfl) dX2_init_30 (by decide) (by decide) (by intro q hq9; simp only [List.mem_cons, List.not_mem_nil, or_false] at hq9; rcases hq9 with rfl | rfl <;> first | exact zokr (by omega) | exact zoki) (by intro q hq9; simp only [List.mem_cons, List.not_mem_nil, or_false] at hq9; rcases hq9 with rfl | rfl | rfl <;> first | exact zokr (by omega) | exact zoki) (z_room (by omega) (Nat.le_refl _) (Nat.le_refl _) (w_T0 (d := 0) (by decide) rfl (fun r7 q7 => ⟨rfl, ?_⟩)))
  refine z_aast (N := 9) (f := (va_up (va_up (va_up (va_up (va_up (va_up (va_up (fun _ => none) (0 : Int32).toNatClampNeg (some 33)) (1 : Int32).toNatClampNeg (some 39)) (2 : Int32).toNatClampNeg (some 45)) (3 : Int32).toNatClampNeg (some 51)) (4 : Int32).toNatClampNeg (some 57)) (5 : Int32).toNatClampNeg (some 63)) (6 : Int32).toNatClampNeg (some 69))) (vs := tF 75 r7) (by decide) rfl (by decide) rfl (show vp_in (nI 7) 9 from vp_in_nI (by decide) (by decide)) dX2_init_33 ?_
  refine z_iinc (8) [1, 0] [(0, .ref 31), (1, .int 8)] dX2_init_34 (j := 1) rfl (by decide) (by decide) rfl ?_
  refine z_goto (tgt := 15) dX2_init_37 (by decide) ?_
  refine z_iload_n (j := 1) dX2_init_15 rfl ?_
  refine z_bipush (v := 9) dX2_init_16 (by decide) ?_
  refine z_icmp_ge (tgt := 40) dX2_init_18 (by decide) (fun czq18 => absurd czq18 (by decide)) (fun czq18 => ?_)
  refine z_aload_n (j := 0) dX2_init_21 rfl ?_
  refine z_get (v := .ref 32) (by decide) rfl fX2_11 rfl dX2_init_22 ?_
  refine z_iload_n (j := 1) dX2_init_25 rfl ?_
  refine z_new (k2 := 5) (s2 := 320) nwX2_9 (by decide) (by intro q hq9; simp only [List.mem_cons, List.not_mem_nil, or_false] at hq9; rcases hq9 with rfl | rfl <;> first | exact zokr (by omega) | exact zoki) (by intro q hq9; simp only [List.mem_cons, List.not_mem_nil, or_false] at hq9; rcases hq9 with rfl | rfl <;> first | exact zokr (by omega) | exact zoki) (by decide) (by decide) dX2_init_26 ?_
  refine z_dup rfl dX2_init_29 ?_
  refine z_kI [] 5 320 0 0 yoX6_init yiX6_init rfl rfl rfl (by decide) lX2_15 rfl (Nat.le_of_ble_eq_true rfl) (Nat.le_of_ble_eq_true rfl) dX2_init_30 (by decide) (by decide) (by intro q hq9; simp only [List.mem_cons, List.not_mem_nil, or_false] at hq9; rcases hq9 with rfl | rfl <;> first | exact zokr (by omega) | exact zoki) (by intro q hq9; simp only [List.mem_cons, List.not_mem_nil, or_false] at hq9; rcases hq9 with rfl | rfl | rfl <;> first | exact zokr (by omega) | exact zoki) (z_room (by omega) (Nat.le_refl _) (Nat.le_refl _) (w_T0 (d := 0) (by decide) rfl (fun r8 q8 => ⟨rfl, ?_⟩)))
  refine z_aast (N := 9) (f := (va_up (va_up (va_up (va_up (va_up (va_up (va_up (va_up (fun _ => none) (0 : Int32).toNatClampNeg (some 33)) (1 : Int32).toNatClampNeg (some 39)) (2 : Int32).toNatClampNeg (some 45)) (3 : Int32).toNatClampNeg (some 51)) (4 : Int32).toNatClampNeg (some 57)) (5 : Int32).toNatClampNeg (some 63)) (6 : Int32).toNatClampNeg (some 69)) (7 : Int32).toNatClampNeg (some 75))) (vs := tF 81 r8) (by decide) rfl (by decide) rfl (show vp_in (nI 8) 9 from vp_in_nI (by decide) (by decide)) dX2_init_33 ?_
  refine z_iinc (9) [1, 0] [(0, .ref 31), (1, .int 9)] dX2_init_34 (j := 1) rfl (by decide) (by decide) rfl ?_
  refine z_goto (tgt := 15) dX2_init_37 (by decide) ?_
  refine z_iload_n (j := 1) dX2_init_15 rfl ?_
  refine z_bipush (v := 9) dX2_init_16 (by decide) ?_
  refine z_icmp_ge (tgt := 40) dX2_init_18 (by decide) (fun czq18 => ?_) (fun czq18 => absurd (by decide) czq18)
  exact z_vret rfl dX2_init_40 (hq r0 q0 r1 q1 r2 q2 r3 q3 r4 q4 r5 q5 r6 q6 r7 q7 r8 q8)
