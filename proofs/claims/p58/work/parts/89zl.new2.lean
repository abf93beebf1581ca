/-! A NEW NeighbourHash -/

theorem ring_0 : (va_up (va_up (va_up (va_up (va_up (va_up (va_up (va_up (va_up (fun _ => none) (0 : Int32).toNatClampNeg (some 33)) (1 : Int32).toNatClampNeg (some 39)) (2 : Int32).toNatClampNeg (some 45)) (3 : Int32).toNatClampNeg (some 51)) (4 : Int32).toNatClampNeg (some 57)) (5 : Int32).toNatClampNeg (some 63)) (6 : Int32).toNatClampNeg (some 69)) (7 : Int32).toNatClampNeg (some 75)) (8 : Int32).toNatClampNeg (some 81)) = gR := by
  funext i
  by_cases h9 : i < 9
  · rcases (show i = 0 ∨ i = 1 ∨ i = 2 ∨ i = 3 ∨ i = 4 ∨ i = 5 ∨ i = 6 ∨ i = 7 ∨ i = 8 by omega) with g | g | g | g | g | g | g | g | g <;> subst g <;> rfl
  · rw [up_ne (show ¬ i = (8 : Int32).toNatClampNeg from fun e => h9 (by rw [e]; decide)), up_ne (show ¬ i = (7 : Int32).toNatClampNeg from fun e => h9 (by rw [e]; decide)), up_ne (show ¬ i = (6 : Int32).toNatClampNeg from fun e => h9 (by rw [e]; decide)), up_ne (show ¬ i = (5 : Int32).toNatClampNeg from fun e => h9 (by rw [e]; decide)), up_ne (show ¬ i = (4 : Int32).toNatClampNeg from fun e => h9 (by rw [e]; decide)), up_ne (show ¬ i = (3 : Int32).toNatClampNeg from fun e => h9 (by rw [e]; decide)), up_ne (show ¬ i = (2 : Int32).toNatClampNeg from fun e => h9 (by rw [e]; decide)), up_ne (show ¬ i = (1 : Int32).toNatClampNeg from fun e => h9 (by rw [e]; decide)), up_ne (show ¬ i = (0 : Int32).toNatClampNeg from fun e => h9 (by rw [e]; decide))]
    unfold gR
    rw [if_neg h9]

set_option maxHeartbeats 4000000 in
set_option maxRecDepth 100000 in
theorem w_N1 {l : zL} {d : Nat} {h : Nat → va_E} {Q : zQ} (h0 : h 0 = .inr (5, [.null, .null, .null, .null, .null, .int 0, .null, .null])) (hq : ∀ s a, Zj l mX7_init (d + 7) 0 0 90 [(0, .ref 0)] [] 89 (gW h .null (fun c k => if c = 2 ∧ k = 11 then -1 else 0) (fun _ _ => 0) s a) Q) : Zj l mX7_init (d + 7) 88 5455 0 [(0, .ref 0)] [] 1 h Q := by
  refine z_aload_n (j := 0) dX7_init_0 rfl ?_
  refine z_objInit lX7_1 ob1 ob2 (Nat.le_of_ble_eq_true rfl) dX7_init_1 ?_
  refine z_aload_n (j := 0) dX7_init_4 rfl ?_
  refine z_new (k2 := 87) (s2 := 5449) nwX7_7 (by decide) (by intro q hq9; simp only [List.mem_cons, List.not_mem_nil, or_false] at hq9; rcases hq9 with rfl <;> first | exact zokr (by omega) | exact zoki) (by intro q hq9; simp only [List.mem_cons, List.not_mem_nil, or_false] at hq9; rcases hq9 with rfl <;> first | exact zokr (by omega) | exact zoki) (by decide) (by decide) dX7_init_5 ?_
  refine z_dup rfl dX7_init_8 ?_
  refine z_kIN [] 1 600 86 4849 yoX3_init yiX3_init rfl rfl rfl (by decide) lnX7_9 rfl (Nat.le_of_ble_eq_true rfl) (Nat.le_of_ble_eq_true rfl) dX7_init_9 (by decide) (by decide) (by intro q hq9; simp only [List.mem_cons, List.not_mem_nil, or_false] at hq9; rcases hq9 with rfl <;> first | exact zokr (by omega) | exact zoki) (by intro q hq9; simp only [List.mem_cons, List.not_mem_nil, or_false] at hq9; rcases hq9 with rfl | rfl <;> first | exact zokr (by omega) | exact zoki) (z_room (by omega) (Nat.le_refl _) (Nat.le_refl _) (w_I0 (d := 0) rfl ⟨rfl, ?_⟩))
  refine z_putFr (fs := [.null, .null, .null, .null, .null, .int 0, .null, .null]) (q := 1) (by decide) h0 fX7_10 gg7 (Or.inl ⟨_, rfl⟩) fin7_0 dcl7_0 rfl (Or.inl (by omega)) (by show 0 < 8; decide) dX7_init_12 ?_
  refine z_aload_n (j := 0) dX7_init_15 rfl ?_
  refine z_new (k2 := 85) (s2 := 4837) nwX7_16 (by decide) (by intro q hq9; simp only [List.mem_cons, List.not_mem_nil, or_false] at hq9; rcases hq9 with rfl <;> first | exact zokr (by omega) | exact zoki) (by intro q hq9; simp only [List.mem_cons, List.not_mem_nil, or_false] at hq9; rcases hq9 with rfl <;> first | exact zokr (by omega) | exact zoki) (by decide) (by decide) dX7_init_16 ?_
  refine z_dup rfl dX7_init_19 ?_
  refine z_aload_n (j := 0) dX7_init_20 rfl ?_
  refine z_get (v := .ref 1) (by decide) rfl fX7_10 rfl dX7_init_21 ?_
  refine z_kI [.ref 1] 9 343 76 4494 yoX5_init yiX5_init rfl rfl rfl (by decide) lX7_18 rfl (Nat.le_of_ble_eq_true rfl) (Nat.le_of_ble_eq_true rfl) dX7_init_24 (by decide) (by decide) (by intro q hq9; simp only [List.mem_cons, List.not_mem_nil, or_false] at hq9; rcases hq9 with rfl <;> first | exact zokr (by omega) | exact zoki) (by intro q hq9; simp only [List.mem_cons, List.not_mem_nil, or_false] at hq9; rcases hq9 with rfl | rfl <;> first | exact zokr (by omega) | exact zoki) (z_room (by omega) (Nat.le_refl _) (Nat.le_refl _) (w_S0 (d := 0) rfl (fun t0 e0 => ⟨rfl, ?_⟩)))
  refine z_putFr (fs := [.ref 1, .null, .null, .null, .null, .int 0, .null, .null]) (q := 3) (by decide) rfl fX7_21 gg7 (Or.inl ⟨_, rfl⟩) fin7_1 dcl7_1 rfl (Or.inl (by omega)) (by show 1 < 8; decide) dX7_init_27 ?_
  refine z_aload_n (j := 0) dX7_init_30 rfl ?_
  refine z_new (k2 := 75) (s2 := 4478) nwX7_25 (by decide) (by intro q hq9; simp only [List.mem_cons, List.not_mem_nil, or_false] at hq9; rcases hq9 with rfl <;> first | exact zokr (by omega) | exact zoki) (by intro q hq9; simp only [List.mem_cons, List.not_mem_nil, or_false] at hq9; rcases hq9 with rfl <;> first | exact zokr (by omega) | exact zoki) (by decide) (by decide) dX7_init_31 ?_
  refine z_dup rfl dX7_init_34 ?_
  refine z_kI [] 5 320 70 4158 yoX6_init yiX6_init rfl rfl rfl (by decide) lX7_27 rfl (Nat.le_of_ble_eq_true rfl) (Nat.le_of_ble_eq_true rfl) dX7_init_35 (by decide) (by decide) (by intro q hq9; simp only [List.mem_cons, List.not_mem_nil, or_false] at hq9; rcases hq9 with rfl <;> first | exact zokr (by omega) | exact zoki) (by intro q hq9; simp only [List.mem_cons, List.not_mem_nil, or_false] at hq9; rcases hq9 with rfl | rfl <;> first | exact zokr (by omega) | exact zoki) (z_room (by omega) (Nat.le_refl _) (Nat.le_refl _) (w_T0 (d := 0) (by decide) rfl (fun t1 e1 => ⟨rfl, ?_⟩)))
  refine z_putFr (fs := [.ref 1, .ref 3, .null, .null, .null, .int 0, .null, .null]) (q := 13) (by decide) rfl fX7_28 gg7 (Or.inl ⟨_, rfl⟩) fin7_2 dcl7_2 rfl (Or.inl (by omega)) (by show 2 < 8; decide) dX7_init_38 ?_
  refine z_aload_n (j := 0) dX7_init_41 rfl ?_
  refine z_new (k2 := 69) (s2 := 4142) nwX7_25 (by decide) (by intro q hq9; simp only [List.mem_cons, List.not_mem_nil, or_false] at hq9; rcases hq9 with rfl <;> first | exact zokr (by omega) | exact zoki) (by intro q hq9; simp only [List.mem_cons, List.not_mem_nil, or_false] at hq9; rcases hq9 with rfl <;> first | exact zokr (by omega) | exact zoki) (by decide) (by decide) dX7_init_42 ?_
  refine z_dup rfl dX7_init_45 ?_
  refine z_kI [] 5 320 64 3822 yoX6_init yiX6_init rfl rfl rfl (by decide) lX7_27 rfl (Nat.le_of_ble_eq_true rfl) (Nat.le_of_ble_eq_true rfl) dX7_init_46 (by decide) (by decide) (by intro q hq9; simp only [List.mem_cons, List.not_mem_nil, or_false] at hq9; rcases hq9 with rfl <;> first | exact zokr (by omega) | exact zoki) (by intro q hq9; simp only [List.mem_cons, List.not_mem_nil, or_false] at hq9; rcases hq9 with rfl | rfl <;> first | exact zokr (by omega) | exact zoki) (z_room (by omega) (Nat.le_refl _) (Nat.le_refl _) (w_T0 (d := 0) (by decide) rfl (fun t2 e2 => ⟨rfl, ?_⟩)))
  refine z_putFr (fs := [.ref 1, .ref 3, .ref 13, .null, .null, .int 0, .null, .null]) (q := 19) (by decide) rfl fX7_32 gg7 (Or.inl ⟨_, rfl⟩) fin7_3 dcl7_3 rfl (Or.inl (by omega)) (by show 3 < 8; decide) dX7_init_49 ?_
  refine z_aload_n (j := 0) dX7_init_52 rfl ?_
  refine z_new (k2 := 63) (s2 := 3806) nwX7_25 (by decide) (by intro q hq9; simp only [List.mem_cons, List.not_mem_nil, or_false] at hq9; rcases hq9 with rfl <;> first | exact zokr (by omega) | exact zoki) (by intro q hq9; simp only [List.mem_cons, List.not_mem_nil, or_false] at hq9; rcases hq9 with rfl <;> first | exact zokr (by omega) | exact zoki) (by decide) (by decide) dX7_init_53 ?_
  refine z_dup rfl dX7_init_56 ?_
  refine z_kI [] 5 320 58 3486 yoX6_init yiX6_init rfl rfl rfl (by decide) lX7_27 rfl (Nat.le_of_ble_eq_true rfl) (Nat.le_of_ble_eq_true rfl) dX7_init_57 (by decide) (by decide) (by intro q hq9; simp only [List.mem_cons, List.not_mem_nil, or_false] at hq9; rcases hq9 with rfl <;> first | exact zokr (by omega) | exact zoki) (by intro q hq9; simp only [List.mem_cons, List.not_mem_nil, or_false] at hq9; rcases hq9 with rfl | rfl <;> first | exact zokr (by omega) | exact zoki) (z_room (by omega) (Nat.le_refl _) (Nat.le_refl _) (w_T0 (d := 0) (by decide) rfl (fun t3 e3 => ⟨rfl, ?_⟩)))
  refine z_putFr (fs := [.ref 1, .ref 3, .ref 13, .ref 19, .null, .int 0, .null, .null]) (q := 25) (by decide) rfl fX7_35 gg7 (Or.inl ⟨_, rfl⟩) fin7_4 dcl7_4 rfl (Or.inl (by omega)) (by show 4 < 8; decide) dX7_init_60 ?_
  refine z_aload_n (j := 0) dX7_init_63 rfl ?_
  refine z_iconst (v := 0) dX7_init_64 (by decide) ?_
  refine z_putz (fs := [.ref 1, .ref 3, .ref 13, .ref 19, .ref 25, .int 0, .null, .null]) (Or.inl rfl) (by decide) rfl fX7_38 gg7 rfl fin7_5 (by show 5 < 8; decide) dX7_init_65 ?_
  refine z_aload_n (j := 0) dX7_init_68 rfl ?_
  refine z_new (k2 := 57) (s2 := 3483) nwX7_42 (by decide) (by intro q hq9; simp only [List.mem_cons, List.not_mem_nil, or_false] at hq9; rcases hq9 with rfl <;> first | exact zokr (by omega) | exact zoki) (by intro q hq9; simp only [List.mem_cons, List.not_mem_nil, or_false] at hq9; rcases hq9 with rfl <;> first | exact zokr (by omega) | exact zoki) (by decide) (by decide) dX7_init_69 ?_
  refine z_dup rfl dX7_init_72 ?_
  refine z_kI [] 55 3033 2 450 yoX2_init yiX2_init rfl rfl rfl (by decide) lX7_44 rfl (Nat.le_of_ble_eq_true rfl) (Nat.le_of_ble_eq_true rfl) dX7_init_73 (by decide) (by decide) (by intro q hq9; simp only [List.mem_cons, List.not_mem_nil, or_false] at hq9; rcases hq9 with rfl <;> first | exact zokr (by omega) | exact zoki) (by intro q hq9; simp only [List.mem_cons, List.not_mem_nil, or_false] at hq9; rcases hq9 with rfl | rfl <;> first | exact zokr (by omega) | exact zoki) (z_room (by omega) (Nat.le_refl _) (Nat.le_refl _) (w_H0 (d := 0) rfl (fun r0 q0 r1 q1 r2 q2 r3 q3 r4 q4 r5 q5 r6 q6 r7 q7 r8 q8 => ⟨rfl, ?_⟩)))
  refine z_putFr (fs := [.ref 1, .ref 3, .ref 13, .ref 19, .ref 25, .int 0, .null, .null]) (q := 31) (by decide) rfl fX7_45 gg7 (Or.inl ⟨_, rfl⟩) fin7_6 dcl7_6 rfl (Or.inl (by omega)) (by show 6 < 8; decide) dX7_init_76 ?_
  refine z_aload_n (j := 0) dX7_init_79 rfl ?_
  refine z_new (k2 := 1) (s2 := 448) nwX7_49 (by decide) (by intro q hq9; simp only [List.mem_cons, List.not_mem_nil, or_false] at hq9; rcases hq9 with rfl <;> first | exact zokr (by omega) | exact zoki) (by intro q hq9; simp only [List.mem_cons, List.not_mem_nil, or_false] at hq9; rcases hq9 with rfl <;> first | exact zokr (by omega) | exact zoki) (by decide) (by decide) dX7_init_80 ?_
  refine z_dup rfl dX7_init_83 ?_
  refine z_kIN [] 1 448 0 0 yoX4_init yiX4_init rfl rfl rfl (by decide) lnX7_51 rfl (Nat.le_of_ble_eq_true rfl) (Nat.le_of_ble_eq_true rfl) dX7_init_84 (by decide) (by decide) (by intro q hq9; simp only [List.mem_cons, List.not_mem_nil, or_false] at hq9; rcases hq9 with rfl <;> first | exact zokr (by omega) | exact zoki) (by intro q hq9; simp only [List.mem_cons, List.not_mem_nil, or_false] at hq9; rcases hq9 with rfl | rfl <;> first | exact zokr (by omega) | exact zoki) (z_room (by omega) (Nat.le_refl _) (Nat.le_refl _) (w_P0 (d := 0) rfl ⟨rfl, ?_⟩))
  refine z_putFr (fs := [.ref 1, .ref 3, .ref 13, .ref 19, .ref 25, .int 0, .ref 31, .null]) (q := 87) (by decide) rfl fX7_52 gg7 (Or.inl ⟨_, rfl⟩) fin7_7 dcl7_7 rfl (Or.inl (by omega)) (by show 7 < 8; decide) dX7_init_87 ?_
  exact z_world (h' := gW h .null (fun c k => if c = 2 ∧ k = 11 then -1 else 0) (fun _ _ => 0) (fun t => match t with
    | 0 => t0
    | 1 => t1
    | 2 => t2
    | 3 => t3
    | 4 => r0
    | 5 => r1
    | 6 => r2
    | 7 => r3
    | 8 => r4
    | 9 => r5
    | 10 => r6
    | 11 => r7
    | _ => r8) (fun t => match t with
    | 0 => e0
    | 1 => e1
    | 2 => e2
    | 3 => e3
    | 4 => q0
    | 5 => q1
    | 6 => q2
    | 7 => q3
    | 8 => q4
    | 9 => q5
    | 10 => q6
    | 11 => q7
    | _ => q8)) (eq_upto 88 (eq_upto 87 (eq_upto 86 (eq_upto 85 (eq_upto 84 (eq_upto 83 (eq_upto 82 (eq_upto 81 (eq_upto 80 (eq_upto 79 (eq_upto 78 (eq_upto 77 (eq_upto 76 (eq_upto 75 (eq_upto 74 (eq_upto 73 (eq_upto 72 (eq_upto 71 (eq_upto 70 (eq_upto 69 (eq_upto 68 (eq_upto 67 (eq_upto 66 (eq_upto 65 (eq_upto 64 (eq_upto 63 (eq_upto 62 (eq_upto 61 (eq_upto 60 (eq_upto 59 (eq_upto 58 (eq_upto 57 (eq_upto 56 (eq_upto 55 (eq_upto 54 (eq_upto 53 (eq_upto 52 (eq_upto 51 (eq_upto 50 (eq_upto 49 (eq_upto 48 (eq_upto 47 (eq_upto 46 (eq_upto 45 (eq_upto 44 (eq_upto 43 (eq_upto 42 (eq_upto 41 (eq_upto 40 (eq_upto 39 (eq_upto 38 (eq_upto 37 (eq_upto 36 (eq_upto 35 (eq_upto 34 (eq_upto 33 (eq_upto 32 (eq_upto 31 (eq_upto 30 (eq_upto 29 (eq_upto 28 (eq_upto 27 (eq_upto 26 (eq_upto 25 (eq_upto 24 (eq_upto 23 (eq_upto 22 (eq_upto 21 (eq_upto 20 (eq_upto 19 (eq_upto 18 (eq_upto 17 (eq_upto 16 (eq_upto 15 (eq_upto 14 (eq_upto 13 (eq_upto 12 (eq_upto 11 (eq_upto 10 (eq_upto 9 (eq_upto 8 (eq_upto 7 (eq_upto 6 (eq_upto 5 (eq_upto 4 (eq_upto 3 (eq_upto 2 (eq_upto 1 (eq_upto 0 (fun k hk => absurd hk (Nat.not_lt_zero k)) rfl) rfl) rfl) rfl) rfl) rfl) rfl) rfl) rfl) rfl) rfl) rfl) rfl) rfl) rfl) rfl) rfl) rfl) rfl) rfl) rfl) rfl) rfl) rfl) rfl) rfl) rfl) rfl) rfl) rfl) rfl) rfl) (congrArg (fun z => (.inl (3, 9, .inr (.inr (.inr (.inr z)))) : va_E)) ring_0)) rfl) rfl) rfl) rfl) rfl) rfl) rfl) rfl) rfl) rfl) rfl) rfl) rfl) rfl) rfl) rfl) rfl) rfl) rfl) rfl) rfl) rfl) rfl) rfl) rfl) rfl) rfl) rfl) rfl) rfl) rfl) rfl) rfl) rfl) rfl) rfl) rfl) rfl) rfl) rfl) rfl) rfl) rfl) rfl) rfl) rfl) rfl) rfl) rfl) rfl) rfl) rfl) rfl) rfl) rfl) rfl) (hq _ _)

set_option maxHeartbeats 4000000 in
set_option maxRecDepth 100000 in
theorem w_N2 {l : zL} {d kc ks n : Nat} {h : Nat → va_E} {cm : Value} {o u : Nat → Nat → Int32} {s : Nat → Nat → Int32} {a : Nat → Nat → Nat → Int32} {Q : zQ} (hn : 89 ≤ n) (hq : ∀ s' a', cT sX8 (s' 1) (a' 1) → Q (.inl none) n (gW h cm o u s' a')) : Zj l mX7_init (d + 7) kc ks 90 [(0, .ref 0)] [] n (gW h cm o u s a) Q := by
  refine z_aload_n (j := 0) dX7_init_90 rfl ?_
  refine z_get (v := .ref 13) (by omega) gW_0 fX7_28 rfl dX7_init_91 ?_
  refine z_bipush (v := 8) dX7_init_94 (by decide) ?_
  refine z_iconst (v := 3) dX7_init_96 (by decide) ?_
  refine z_iconst (v := 1) dX7_init_97 (by decide) ?_
  refine z_kV [.int 8, .int 3, .int 1] 0 0 kc ks yoX6_begin yvX6_begin rfl (by decide) lX7_56 (by omega) gW_13T rfl rfl (Nat.le_of_ble_eq_true rfl) (Nat.le_of_ble_eq_true rfl) dX7_init_98 (by omega) (by omega) (z_room (by omega) (Nat.le_refl _) (Nat.le_refl _) (g_begin (d := 0) (B := 8) (H := 3) (T := 1) (t := 1) (by decide) rfl hn (Or.inl rfl) (by decide) (by decide) (by decide) (by decide) (fun s0 a0 hT0 => ⟨rfl, ?_⟩)))
  refine z_aload_n (j := 0) dX7_init_101 rfl ?_
  refine z_get (v := .ref 13) (by omega) gW_0 fX7_28 rfl dX7_init_102 ?_
  refine z_iconst (v := 1) dX7_init_105 (by decide) ?_
  refine z_bipush (v := 10) dX7_init_106 (by decide) ?_
  refine z_kV [.int 1, .int 10] 0 0 kc ks yoX6_insert yvX6_insert rfl (by decide) lX7_60 (by omega) gW_13T rfl rfl (Nat.le_of_ble_eq_true rfl) (Nat.le_of_ble_eq_true rfl) dX7_init_108 (by omega) (by omega) (z_room (by omega) (Nat.le_refl _) (Nat.le_refl _) (g_insert (d := 0) (S := sX0) (key := 1) (v := 10) (t := 1) (by decide) rfl (by omega) hT0 (by decide) (by decide) (oAdd_two sX_1).1 (fun s1 a1 ea => ⟨rfl, ?_⟩) (fun bk1 S1 s1 a1 ea hT1 hb1 => ⟨rfl, ?_⟩)))
  · obtain ⟨-, bk9, e9⟩ := oAdd_two sX_1
    rw [e9] at ea
    cases ea
  · obtain ⟨-, bk9, e9⟩ := oAdd_two sX_1
    rw [e9] at ea
    obtain ⟨rfl, rfl⟩ : bk9 = bk1 ∧ sX1 = S1 := by cases ea; exact ⟨rfl, rfl⟩
    refine z_pop rfl dX7_init_111 ?_
    refine z_aload_n (j := 0) dX7_init_112 rfl ?_
    refine z_get (v := .ref 13) (by omega) gW_0 fX7_28 rfl dX7_init_113 ?_
    refine z_bipush (v := 9) dX7_init_116 (by decide) ?_
    refine z_bipush (v := 11) dX7_init_118 (by decide) ?_
    refine z_kV [.int 9, .int 11] 0 0 kc ks yoX6_insert yvX6_insert rfl (by decide) lX7_60 (by omega) gW_13T rfl rfl (Nat.le_of_ble_eq_true rfl) (Nat.le_of_ble_eq_true rfl) dX7_init_120 (by omega) (by omega) (z_room (by omega) (Nat.le_refl _) (Nat.le_refl _) (g_insert (d := 0) (S := sX1) (key := 9) (v := 11) (t := 1) (by decide) rfl (by omega) hT1 (by decide) (by decide) (oAdd_two sX_2).1 (fun s2 a2 ea => ⟨rfl, ?_⟩) (fun bk2 S2 s2 a2 ea hT2 hb2 => ⟨rfl, ?_⟩)))
    · obtain ⟨-, bk9, e9⟩ := oAdd_two sX_2
      rw [e9] at ea
      cases ea
    · obtain ⟨-, bk9, e9⟩ := oAdd_two sX_2
      rw [e9] at ea
      obtain ⟨rfl, rfl⟩ : bk9 = bk2 ∧ sX2 = S2 := by cases ea; exact ⟨rfl, rfl⟩
      refine z_pop rfl dX7_init_123 ?_
      refine z_aload_n (j := 0) dX7_init_124 rfl ?_
      refine z_get (v := .ref 13) (by omega) gW_0 fX7_28 rfl dX7_init_125 ?_
      refine z_iconst (v := 3) dX7_init_128 (by decide) ?_
      refine z_bipush (v := 12) dX7_init_129 (by decide) ?_
      refine z_kV [.int 3, .int 12] 0 0 kc ks yoX6_insert yvX6_insert rfl (by decide) lX7_60 (by omega) gW_13T rfl rfl (Nat.le_of_ble_eq_true rfl) (Nat.le_of_ble_eq_true rfl) dX7_init_131 (by omega) (by omega) (z_room (by omega) (Nat.le_refl _) (Nat.le_refl _) (g_insert (d := 0) (S := sX2) (key := 3) (v := 12) (t := 1) (by decide) rfl (by omega) hT2 (by decide) (by decide) (oAdd_two sX_3).1 (fun s3 a3 ea => ⟨rfl, ?_⟩) (fun bk3 S3 s3 a3 ea hT3 hb3 => ⟨rfl, ?_⟩)))
      · obtain ⟨-, bk9, e9⟩ := oAdd_two sX_3
        rw [e9] at ea
        cases ea
      · obtain ⟨-, bk9, e9⟩ := oAdd_two sX_3
        rw [e9] at ea
        obtain ⟨rfl, rfl⟩ : bk9 = bk3 ∧ sX3 = S3 := by cases ea; exact ⟨rfl, rfl⟩
        refine z_pop rfl dX7_init_134 ?_
        refine z_aload_n (j := 0) dX7_init_135 rfl ?_
        refine z_get (v := .ref 13) (by omega) gW_0 fX7_28 rfl dX7_init_136 ?_
        refine z_bipush (v := 17) dX7_init_139 (by decide) ?_
        refine z_bipush (v := 13) dX7_init_141 (by decide) ?_
        refine z_kV [.int 17, .int 13] 0 0 kc ks yoX6_insert yvX6_insert rfl (by decide) lX7_60 (by omega) gW_13T rfl rfl (Nat.le_of_ble_eq_true rfl) (Nat.le_of_ble_eq_true rfl) dX7_init_143 (by omega) (by omega) (z_room (by omega) (Nat.le_refl _) (Nat.le_refl _) (g_insert (d := 0) (S := sX3) (key := 17) (v := 13) (t := 1) (by decide) rfl (by omega) hT3 (by decide) (by decide) (oAdd_two sX_4).1 (fun s4 a4 ea => ⟨rfl, ?_⟩) (fun bk4 S4 s4 a4 ea hT4 hb4 => ⟨rfl, ?_⟩)))
        · obtain ⟨-, bk9, e9⟩ := oAdd_two sX_4
          rw [e9] at ea
          cases ea
        · obtain ⟨-, bk9, e9⟩ := oAdd_two sX_4
          rw [e9] at ea
          obtain ⟨rfl, rfl⟩ : bk9 = bk4 ∧ sX4 = S4 := by cases ea; exact ⟨rfl, rfl⟩
          refine z_pop rfl dX7_init_146 ?_
          refine z_aload_n (j := 0) dX7_init_147 rfl ?_
          refine z_get (v := .ref 13) (by omega) gW_0 fX7_28 rfl dX7_init_148 ?_
          refine z_iconst (v := 4) dX7_init_151 (by decide) ?_
          refine z_bipush (v := 14) dX7_init_152 (by decide) ?_
          refine z_kV [.int 4, .int 14] 0 0 kc ks yoX6_insert yvX6_insert rfl (by decide) lX7_60 (by omega) gW_13T rfl rfl (Nat.le_of_ble_eq_true rfl) (Nat.le_of_ble_eq_true rfl) dX7_init_154 (by omega) (by omega) (z_room (by omega) (Nat.le_refl _) (Nat.le_refl _) (g_insert (d := 0) (S := sX4) (key := 4) (v := 14) (t := 1) (by decide) rfl (by omega) hT4 (by decide) (by decide) (oAdd_two sX_5).1 (fun s5 a5 ea => ⟨rfl, ?_⟩) (fun bk5 S5 s5 a5 ea hT5 hb5 => ⟨rfl, ?_⟩)))
          · obtain ⟨-, bk9, e9⟩ := oAdd_two sX_5
            rw [e9] at ea
            cases ea
          · obtain ⟨-, bk9, e9⟩ := oAdd_two sX_5
            rw [e9] at ea
            obtain ⟨rfl, rfl⟩ : bk9 = bk5 ∧ sX5 = S5 := by cases ea; exact ⟨rfl, rfl⟩
            refine z_pop rfl dX7_init_157 ?_
            refine z_aload_n (j := 0) dX7_init_158 rfl ?_
            refine z_get (v := .ref 13) (by omega) gW_0 fX7_28 rfl dX7_init_159 ?_
            refine z_iconst (v := 1) dX7_init_162 (by decide) ?_
            refine g_tput 1 (by decide) rfl (Or.inr rfl) (by omega) fX7_64 dX7_init_163 ?_
            have hT6 : cT sX6 (va_up s5 9 1) a5 := hT5.pull (Or.inr rfl)
            refine z_aload_n (j := 0) dX7_init_166 rfl ?_
            refine z_get (v := .ref 13) (by omega) gW_0 fX7_28 rfl dX7_init_167 ?_
            refine z_bipush (v := 9) dX7_init_170 (by decide) ?_
            refine z_kV [.int 9] 0 0 kc ks yoX6_take yvX6_take rfl (by decide) lX7_67 (by omega) gW_13T rfl rfl (Nat.le_of_ble_eq_true rfl) (Nat.le_of_ble_eq_true rfl) dX7_init_172 (by omega) (by omega) (z_room (by omega) (Nat.le_refl _) (Nat.le_refl _) (g_take (d := 0) (S := sX6) (key := 9) (bk := sXb) (t := 1) (by decide) rfl hn hT6 (by decide) sX_b (fun s7 a7 hT7 => ⟨rfl, ?_⟩)))
            refine z_pop rfl dX7_init_175 ?_
            refine z_aload_n (j := 0) dX7_init_176 rfl ?_
            refine z_get (v := .ref 13) (by omega) gW_0 fX7_28 rfl dX7_init_177 ?_
            refine z_bipush (v := 12) dX7_init_180 (by decide) ?_
            refine z_bipush (v := 15) dX7_init_182 (by decide) ?_
            refine z_kV [.int 12, .int 15] 0 0 kc ks yoX6_insert yvX6_insert rfl (by decide) lX7_60 (by omega) gW_13T rfl rfl (Nat.le_of_ble_eq_true rfl) (Nat.le_of_ble_eq_true rfl) dX7_init_184 (by omega) (by omega) (z_room (by omega) (Nat.le_refl _) (Nat.le_refl _) (g_insert (d := 0) (S := sX7) (key := 12) (v := 15) (t := 1) (by decide) rfl (by omega) hT7 (by decide) (by decide) (oAdd_two sX_8).1 (fun s8 a8 ea => ⟨rfl, ?_⟩) (fun bk8 S8 s8 a8 ea hT8 hb8 => ⟨rfl, ?_⟩)))
            · obtain ⟨-, bk9, e9⟩ := oAdd_two sX_8
              rw [e9] at ea
              cases ea
            · obtain ⟨-, bk9, e9⟩ := oAdd_two sX_8
              rw [e9] at ea
              obtain ⟨rfl, rfl⟩ : bk9 = bk8 ∧ sX8 = S8 := by cases ea; exact ⟨rfl, rfl⟩
              refine z_pop rfl dX7_init_187 ?_
              exact z_vret rfl dX7_init_188 (hq _ _ hT8)

/-- a new object, on both sides -/
def g00 : zGs := (sX8, 0, sX8, 0, (fun _ => sX8), 0, tc, 0, -1, 0, tc)
theorem w_N0 {l : zL} {d : Nat} {h : Nat → va_E} {Q : zQ} (h0 : h 0 = .inr (5, [.null, .null, .null, .null, .null, .int 0, .null, .null])) (hq : ∀ o u s a, cI g00 o u s a → Q (.inl none) 89 (gW h .null o u s a)) : Zj l mX7_init (d + 7) 88 5455 0 [(0, .ref 0)] [] 1 h Q :=
  w_N1 h0 (fun s a => w_N2 (by decide) (fun s' a' hT => hq _ _ _ _ ⟨hT, rfl, Or.inl rfl, fun e => absurd e (by decide), by decide, rfl, ⟨0, by decide, rfl, fun j hj => absurd hj (Nat.not_lt_zero j)⟩, by decide, rfl, fun i hi => absurd hi (Nat.not_lt_zero i), tc_256, rfl, rfl, by decide, rfl, fun i hi => absurd hi (Nat.not_lt_zero i), tc_256⟩))
