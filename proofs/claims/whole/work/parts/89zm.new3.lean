/-! A NEW REFERENCE -/

set_option maxHeartbeats 4000000 in
set_option maxRecDepth 100000 in
theorem m_new1 {l : zL} {d b : Nat} {h : Nat → va_E} {Q : zQ} (hB : b + 14 < zB) (h0 : h b = .inr (6, [.null, .null, .null, .null, .null, .null, .null, .null, .null, .int 0, .int 0, .int 0, .null, .null, .int 0, .int 0, .int 0, .int 0, .null, .int 0, .int 0, .int 0, .int 0, .int 0, .int 0, .int 0, .null])) (hq : Zj l mX8_init (d + 18) 0 0 122 [(0, .ref b)] [] (b + 14) (mW h b (fun k => if k = 17 then -1 else 0) (fun _ _ => 0)) Q) : Zj l mX8_init (d + 18) 13 3769 0 [(0, .ref b)] [] (b + 1) h Q := by
  refine z_aload_n (j := 0) dX8_init_0 rfl ?_
  refine z_objInit lX8_1 ob1 ob2 (Nat.le_of_ble_eq_true rfl) dX8_init_1 ?_
  refine z_aload_n (j := 0) dX8_init_4 rfl ?_
  refine z_sipush (v := 137) dX8_init_5 (by decide) ?_
  refine z_newa0 (N' := 137) (k2 := 12) (s2 := 3632) arr_int (by decide) (by decide) (by decide) (by omega) (by intro q hq9; simp only [List.mem_cons, List.not_mem_nil, or_false] at hq9; rcases hq9 with rfl <;> first | exact zokr (by omega) | exact zoki) (by intro q hq9; simp only [List.mem_cons, List.not_mem_nil, or_false] at hq9; rcases hq9 with rfl <;> first | exact zokr (by omega) | exact zoki) (by decide) (by decide) dX8_init_8 ?_
  refine z_putFr (fs := [.null, .null, .null, .null, .null, .null, .null, .null, .null, .int 0, .int 0, .int 0, .null, .null, .int 0, .int 0, .int 0, .int 0, .null, .int 0, .int 0, .int 0, .int 0, .int 0, .int 0, .int 0, .null]) (q := (b + 1)) (by omega) ((up_ne (by omega)).trans h0) fX8_7 gg8 (Or.inr ⟨_, rfl⟩) fin8_0 dcl8_0 rfl (Or.inl (by omega)) (by show 0 < 27; decide) dX8_init_10 ?_
  refine z_aload_n (j := 0) dX8_init_13 rfl ?_
  refine z_sipush (v := 137) dX8_init_14 (by decide) ?_
  refine z_newa0 (N' := 137) (k2 := 11) (s2 := 3495) arr_int (by decide) (by decide) (by decide) (by omega) (by intro q hq9; simp only [List.mem_cons, List.not_mem_nil, or_false] at hq9; rcases hq9 with rfl <;> first | exact zokr (by omega) | exact zoki) (by intro q hq9; simp only [List.mem_cons, List.not_mem_nil, or_false] at hq9; rcases hq9 with rfl <;> first | exact zokr (by omega) | exact zoki) (by decide) (by decide) dX8_init_17 ?_
  refine z_putFr (fs := [.ref (b + 1), .null, .null, .null, .null, .null, .null, .null, .null, .int 0, .int 0, .int 0, .null, .null, .int 0, .int 0, .int 0, .int 0, .null, .int 0, .int 0, .int 0, .int 0, .int 0, .int 0, .int 0, .null]) (q := (b + 2)) (by omega) ((up_ne (by omega)).trans up_eq) fX8_13 gg8 (Or.inr ⟨_, rfl⟩) fin8_1 dcl8_1 rfl (Or.inl (by omega)) (by show 1 < 27; decide) dX8_init_19 ?_
  refine z_aload_n (j := 0) dX8_init_22 rfl ?_
  refine z_sipush (v := 137) dX8_init_23 (by decide) ?_
  refine z_newa0 (N' := 137) (k2 := 10) (s2 := 3358) arr_int (by decide) (by decide) (by decide) (by omega) (by intro q hq9; simp only [List.mem_cons, List.not_mem_nil, or_false] at hq9; rcases hq9 with rfl <;> first | exact zokr (by omega) | exact zoki) (by intro q hq9; simp only [List.mem_cons, List.not_mem_nil, or_false] at hq9; rcases hq9 with rfl <;> first | exact zokr (by omega) | exact zoki) (by decide) (by decide) dX8_init_26 ?_
  refine z_putFr (fs := [.ref (b + 1), .ref (b + 2), .null, .null, .null, .null, .null, .null, .null, .int 0, .int 0, .int 0, .null, .null, .int 0, .int 0, .int 0, .int 0, .null, .int 0, .int 0, .int 0, .int 0, .int 0, .int 0, .int 0, .null]) (q := (b + 3)) (by omega) ((up_ne (by omega)).trans up_eq) fX8_16 gg8 (Or.inr ⟨_, rfl⟩) fin8_2 dcl8_2 rfl (Or.inl (by omega)) (by show 2 < 27; decide) dX8_init_28 ?_
  refine z_aload_n (j := 0) dX8_init_31 rfl ?_
  refine z_sipush (v := 137) dX8_init_32 (by decide) ?_
  refine z_newa0 (N' := 137) (k2 := 9) (s2 := 3221) arr_int (by decide) (by decide) (by decide) (by omega) (by intro q hq9; simp only [List.mem_cons, List.not_mem_nil, or_false] at hq9; rcases hq9 with rfl <;> first | exact zokr (by omega) | exact zoki) (by intro q hq9; simp only [List.mem_cons, List.not_mem_nil, or_false] at hq9; rcases hq9 with rfl <;> first | exact zokr (by omega) | exact zoki) (by decide) (by decide) dX8_init_35 ?_
  refine z_putFr (fs := [.ref (b + 1), .ref (b + 2), .ref (b + 3), .null, .null, .null, .null, .null, .null, .int 0, .int 0, .int 0, .null, .null, .int 0, .int 0, .int 0, .int 0, .null, .int 0, .int 0, .int 0, .int 0, .int 0, .int 0, .int 0, .null]) (q := (b + 4)) (by omega) ((up_ne (by omega)).trans up_eq) fX8_19 gg8 (Or.inr ⟨_, rfl⟩) fin8_3 dcl8_3 rfl (Or.inl (by omega)) (by show 3 < 27; decide) dX8_init_37 ?_
  refine z_aload_n (j := 0) dX8_init_40 rfl ?_
  refine z_sipush (v := 137) dX8_init_41 (by decide) ?_
  refine z_newa0 (N' := 137) (k2 := 8) (s2 := 3084) arr_int (by decide) (by decide) (by decide) (by omega) (by intro q hq9; simp only [List.mem_cons, List.not_mem_nil, or_false] at hq9; rcases hq9 with rfl <;> first | exact zokr (by omega) | exact zoki) (by intro q hq9; simp only [List.mem_cons, List.not_mem_nil, or_false] at hq9; rcases hq9 with rfl <;> first | exact zokr (by omega) | exact zoki) (by decide) (by decide) dX8_init_44 ?_
  refine z_putFr (fs := [.ref (b + 1), .ref (b + 2), .ref (b + 3), .ref (b + 4), .null, .null, .null, .null, .null, .int 0, .int 0, .int 0, .null, .null, .int 0, .int 0, .int 0, .int 0, .null, .int 0, .int 0, .int 0, .int 0, .int 0, .int 0, .int 0, .null]) (q := (b + 5)) (by omega) ((up_ne (by omega)).trans up_eq) fX8_22 gg8 (Or.inr ⟨_, rfl⟩) fin8_4 dcl8_4 rfl (Or.inl (by omega)) (by show 4 < 27; decide) dX8_init_46 ?_
  refine z_aload_n (j := 0) dX8_init_49 rfl ?_
  refine z_sipush (v := 1096) dX8_init_50 (by decide) ?_
  refine z_newa0 (N' := 1096) (k2 := 7) (s2 := 1988) arr_int (by decide) (by decide) (by decide) (by omega) (by intro q hq9; simp only [List.mem_cons, List.not_mem_nil, or_false] at hq9; rcases hq9 with rfl <;> first | exact zokr (by omega) | exact zoki) (by intro q hq9; simp only [List.mem_cons, List.not_mem_nil, or_false] at hq9; rcases hq9 with rfl <;> first | exact zokr (by omega) | exact zoki) (by decide) (by decide) dX8_init_53 ?_
  refine z_putFr (fs := [.ref (b + 1), .ref (b + 2), .ref (b + 3), .ref (b + 4), .ref (b + 5), .null, .null, .null, .null, .int 0, .int 0, .int 0, .null, .null, .int 0, .int 0, .int 0, .int 0, .null, .int 0, .int 0, .int 0, .int 0, .int 0, .int 0, .int 0, .null]) (q := (b + 6)) (by omega) ((up_ne (by omega)).trans up_eq) fX8_25 gg8 (Or.inr ⟨_, rfl⟩) fin8_5 dcl8_5 rfl (Or.inl (by omega)) (by show 5 < 27; decide) dX8_init_55 ?_
  refine z_aload_n (j := 0) dX8_init_58 rfl ?_
  refine z_sipush (v := 137) dX8_init_59 (by decide) ?_
  refine z_newa0 (N' := 137) (k2 := 6) (s2 := 1851) arr_int (by decide) (by decide) (by decide) (by omega) (by intro q hq9; simp only [List.mem_cons, List.not_mem_nil, or_false] at hq9; rcases hq9 with rfl <;> first | exact zokr (by omega) | exact zoki) (by intro q hq9; simp only [List.mem_cons, List.not_mem_nil, or_false] at hq9; rcases hq9 with rfl <;> first | exact zokr (by omega) | exact zoki) (by decide) (by decide) dX8_init_62 ?_
  refine z_putFr (fs := [.ref (b + 1), .ref (b + 2), .ref (b + 3), .ref (b + 4), .ref (b + 5), .ref (b + 6), .null, .null, .null, .int 0, .int 0, .int 0, .null, .null, .int 0, .int 0, .int 0, .int 0, .null, .int 0, .int 0, .int 0, .int 0, .int 0, .int 0, .int 0, .null]) (q := (b + 7)) (by omega) ((up_ne (by omega)).trans up_eq) fX8_28 gg8 (Or.inr ⟨_, rfl⟩) fin8_6 dcl8_6 rfl (Or.inl (by omega)) (by show 6 < 27; decide) dX8_init_64 ?_
  refine z_aload_n (j := 0) dX8_init_67 rfl ?_
  refine z_bipush (v := 64) dX8_init_68 (by decide) ?_
  refine z_newa0 (N' := 64) (k2 := 5) (s2 := 1787) arr_int (by decide) (by decide) (by decide) (by omega) (by intro q hq9; simp only [List.mem_cons, List.not_mem_nil, or_false] at hq9; rcases hq9 with rfl <;> first | exact zokr (by omega) | exact zoki) (by intro q hq9; simp only [List.mem_cons, List.not_mem_nil, or_false] at hq9; rcases hq9 with rfl <;> first | exact zokr (by omega) | exact zoki) (by decide) (by decide) dX8_init_70 ?_
  refine z_putFr (fs := [.ref (b + 1), .ref (b + 2), .ref (b + 3), .ref (b + 4), .ref (b + 5), .ref (b + 6), .ref (b + 7), .null, .null, .int 0, .int 0, .int 0, .null, .null, .int 0, .int 0, .int 0, .int 0, .null, .int 0, .int 0, .int 0, .int 0, .int 0, .int 0, .int 0, .null]) (q := (b + 8)) (by omega) ((up_ne (by omega)).trans up_eq) fX8_31 gg8 (Or.inr ⟨_, rfl⟩) fin8_7 dcl8_7 rfl (Or.inl (by omega)) (by show 7 < 27; decide) dX8_init_72 ?_
  refine z_aload_n (j := 0) dX8_init_75 rfl ?_
  refine z_bipush (v := 64) dX8_init_76 (by decide) ?_
  refine z_newa0 (N' := 64) (k2 := 4) (s2 := 1723) arr_int (by decide) (by decide) (by decide) (by omega) (by intro q hq9; simp only [List.mem_cons, List.not_mem_nil, or_false] at hq9; rcases hq9 with rfl <;> first | exact zokr (by omega) | exact zoki) (by intro q hq9; simp only [List.mem_cons, List.not_mem_nil, or_false] at hq9; rcases hq9 with rfl <;> first | exact zokr (by omega) | exact zoki) (by decide) (by decide) dX8_init_78 ?_
  refine z_putFr (fs := [.ref (b + 1), .ref (b + 2), .ref (b + 3), .ref (b + 4), .ref (b + 5), .ref (b + 6), .ref (b + 7), .ref (b + 8), .null, .int 0, .int 0, .int 0, .null, .null, .int 0, .int 0, .int 0, .int 0, .null, .int 0, .int 0, .int 0, .int 0, .int 0, .int 0, .int 0, .null]) (q := (b + 9)) (by omega) ((up_ne (by omega)).trans up_eq) fX8_34 gg8 (Or.inr ⟨_, rfl⟩) fin8_8 dcl8_8 rfl (Or.inl (by omega)) (by show 8 < 27; decide) dX8_init_80 ?_
  refine z_aload_n (j := 0) dX8_init_83 rfl ?_
  refine z_sipush (v := 600) dX8_init_84 (by decide) ?_
  refine z_newa0 (N' := 600) (k2 := 3) (s2 := 1123) arr_int (by decide) (by decide) (by decide) (by omega) (by intro q hq9; simp only [List.mem_cons, List.not_mem_nil, or_false] at hq9; rcases hq9 with rfl <;> first | exact zokr (by omega) | exact zoki) (by intro q hq9; simp only [List.mem_cons, List.not_mem_nil, or_false] at hq9; rcases hq9 with rfl <;> first | exact zokr (by omega) | exact zoki) (by decide) (by decide) dX8_init_87 ?_
  refine z_putFr (fs := [.ref (b + 1), .ref (b + 2), .ref (b + 3), .ref (b + 4), .ref (b + 5), .ref (b + 6), .ref (b + 7), .ref (b + 8), .ref (b + 9), .int 0, .int 0, .int 0, .null, .null, .int 0, .int 0, .int 0, .int 0, .null, .int 0, .int 0, .int 0, .int 0, .int 0, .int 0, .int 0, .null]) (q := (b + 10)) (by omega) ((up_ne (by omega)).trans up_eq) fX8_37 gg8 (Or.inr ⟨_, rfl⟩) fin8_12 dcl8_12 rfl (Or.inl (by omega)) (by show 12 < 27; decide) dX8_init_89 ?_
  refine z_aload_n (j := 0) dX8_init_92 rfl ?_
  refine z_sipush (v := 600) dX8_init_93 (by decide) ?_
  refine z_newa0 (N' := 600) (k2 := 2) (s2 := 523) arr_int (by decide) (by decide) (by decide) (by omega) (by intro q hq9; simp only [List.mem_cons, List.not_mem_nil, or_false] at hq9; rcases hq9 with rfl <;> first | exact zokr (by omega) | exact zoki) (by intro q hq9; simp only [List.mem_cons, List.not_mem_nil, or_false] at hq9; rcases hq9 with rfl <;> first | exact zokr (by omega) | exact zoki) (by decide) (by decide) dX8_init_96 ?_
  refine z_putFr (fs := [.ref (b + 1), .ref (b + 2), .ref (b + 3), .ref (b + 4), .ref (b + 5), .ref (b + 6), .ref (b + 7), .ref (b + 8), .ref (b + 9), .int 0, .int 0, .int 0, .ref (b + 10), .null, .int 0, .int 0, .int 0, .int 0, .null, .int 0, .int 0, .int 0, .int 0, .int 0, .int 0, .int 0, .null]) (q := (b + 11)) (by omega) ((up_ne (by omega)).trans up_eq) fX8_40 gg8 (Or.inr ⟨_, rfl⟩) fin8_13 dcl8_13 rfl (Or.inl (by omega)) (by show 13 < 27; decide) dX8_init_98 ?_
  refine z_aload_n (j := 0) dX8_init_101 rfl ?_
  refine z_iconst (v := (-1)) dX8_init_102 (by decide) ?_
  refine z_puti (fs := [.ref (b + 1), .ref (b + 2), .ref (b + 3), .ref (b + 4), .ref (b + 5), .ref (b + 6), .ref (b + 7), .ref (b + 8), .ref (b + 9), .int 0, .int 0, .int 0, .ref (b + 10), .ref (b + 11), .int 0, .int 0, .int 0, .int 0, .null, .int 0, .int 0, .int 0, .int 0, .int 0, .int 0, .int 0, .null]) (x := (-1)) (by omega) up_eq fX8_43 gg8 rfl fin8_17 (by show 17 < 27; decide) dX8_init_103 ?_
  refine z_aload_n (j := 0) dX8_init_106 rfl ?_
  refine z_sipush (v := 520) dX8_init_107 (by decide) ?_
  refine z_newa1 (N' := 520) (k2 := 1) (s2 := 3) arr_char (by decide) (by decide) (by decide) (by omega) (by intro q hq9; simp only [List.mem_cons, List.not_mem_nil, or_false] at hq9; rcases hq9 with rfl <;> first | exact zokr (by omega) | exact zoki) (by intro q hq9; simp only [List.mem_cons, List.not_mem_nil, or_false] at hq9; rcases hq9 with rfl <;> first | exact zokr (by omega) | exact zoki) (by decide) (by decide) dX8_init_110 ?_
  refine z_putFr (fs := [.ref (b + 1), .ref (b + 2), .ref (b + 3), .ref (b + 4), .ref (b + 5), .ref (b + 6), .ref (b + 7), .ref (b + 8), .ref (b + 9), .int 0, .int 0, .int 0, .ref (b + 10), .ref (b + 11), .int 0, .int 0, .int 0, .int (-1), .null, .int 0, .int 0, .int 0, .int 0, .int 0, .int 0, .int 0, .null]) (q := (b + 12)) (by omega) ((up_ne (by omega)).trans up_eq) fX8_47 gg8 (Or.inr ⟨_, rfl⟩) fin8_18 dcl8_18 rfl (Or.inl (by omega)) (by show 18 < 27; decide) dX8_init_112 ?_
  refine z_aload_n (j := 0) dX8_init_115 rfl ?_
  refine z_iconst (v := 3) dX8_init_116 (by decide) ?_
  refine z_newa0 (N' := 3) (k2 := 0) (s2 := 0) arr_int (by decide) (by decide) (by decide) (by omega) (by intro q hq9; simp only [List.mem_cons, List.not_mem_nil, or_false] at hq9; rcases hq9 with rfl <;> first | exact zokr (by omega) | exact zoki) (by intro q hq9; simp only [List.mem_cons, List.not_mem_nil, or_false] at hq9; rcases hq9 with rfl <;> first | exact zokr (by omega) | exact zoki) (by decide) (by decide) dX8_init_117 ?_
  refine z_putFr (fs := [.ref (b + 1), .ref (b + 2), .ref (b + 3), .ref (b + 4), .ref (b + 5), .ref (b + 6), .ref (b + 7), .ref (b + 8), .ref (b + 9), .int 0, .int 0, .int 0, .ref (b + 10), .ref (b + 11), .int 0, .int 0, .int 0, .int (-1), .ref (b + 12), .int 0, .int 0, .int 0, .int 0, .int 0, .int 0, .int 0, .null]) (q := (b + 13)) (by omega) ((up_ne (by omega)).trans up_eq) fX8_51 gg8 (Or.inr ⟨_, rfl⟩) fin8_26 dcl8_26 rfl (Or.inl (by omega)) (by show 26 < 27; decide) dX8_init_119 ?_
  refine z_world (h' := mW h b (fun k => if k = 17 then -1 else 0) (fun _ _ => 0)) ?_ hq
  intro q hq9
  by_cases g0 : q = b
  · rw [g0]
    refine Eq.trans ?_ mW_obj.symm
    repeat (first | exact up_eq | rw [up_ne (by omega)])
  · by_cases g1 : b < q ∧ q ≤ b + 13
    · rcases (show q = b + 1 ∨ q = b + 2 ∨ q = b + 3 ∨ q = b + 4 ∨ q = b + 5 ∨ q = b + 6 ∨ q = b + 7 ∨ q = b + 8 ∨ q = b + 9 ∨ q = b + 10 ∨ q = b + 11 ∨ q = b + 12 ∨ q = b + 13 by omega) with g | g | g | g | g | g | g | g | g | g | g | g | g <;> rw [g]
      · refine Eq.trans ?_ (mW_arr 0 (by decide)).symm
        repeat (first | exact up_eq | rw [up_ne (by omega)])
      · refine Eq.trans ?_ (mW_arr 1 (by decide)).symm
        repeat (first | exact up_eq | rw [up_ne (by omega)])
      · refine Eq.trans ?_ (mW_arr 2 (by decide)).symm
        repeat (first | exact up_eq | rw [up_ne (by omega)])
      · refine Eq.trans ?_ (mW_arr 3 (by decide)).symm
        repeat (first | exact up_eq | rw [up_ne (by omega)])
      · refine Eq.trans ?_ (mW_arr 4 (by decide)).symm
        repeat (first | exact up_eq | rw [up_ne (by omega)])
      · refine Eq.trans ?_ (mW_arr 5 (by decide)).symm
        repeat (first | exact up_eq | rw [up_ne (by omega)])
      · refine Eq.trans ?_ (mW_arr 6 (by decide)).symm
        repeat (first | exact up_eq | rw [up_ne (by omega)])
      · refine Eq.trans ?_ (mW_arr 7 (by decide)).symm
        repeat (first | exact up_eq | rw [up_ne (by omega)])
      · refine Eq.trans ?_ (mW_arr 8 (by decide)).symm
        repeat (first | exact up_eq | rw [up_ne (by omega)])
      · refine Eq.trans ?_ (mW_arr 9 (by decide)).symm
        repeat (first | exact up_eq | rw [up_ne (by omega)])
      · refine Eq.trans ?_ (mW_arr 10 (by decide)).symm
        repeat (first | exact up_eq | rw [up_ne (by omega)])
      · refine Eq.trans ?_ (mW_arr 11 (by decide)).symm
        repeat (first | exact up_eq | rw [up_ne (by omega)])
      · refine Eq.trans ?_ (mW_arr 12 (by decide)).symm
        repeat (first | exact up_eq | rw [up_ne (by omega)])
    · rw [mW_off (by omega)]
      repeat rw [up_ne (by omega)]

set_option maxHeartbeats 4000000 in
set_option maxRecDepth 100000 in
theorem m_new2 {l : zL} {d kc ks n b : Nat} {h : Nat → va_E} {s : Nat → Int32} {a : Nat → Nat → Int32} {Q : zQ} (hb : b + 14 ≤ n) (h15 : s 15 = nI 0) (hz : ∀ q, q = 9 ∨ q = 11 ∨ q = 14 ∨ q = 19 → s q = 0) (hq : ∀ s' a', mI g00 s' a' → Q (.inl none) n (mW h b s' a')) : Zj l mX8_init (d + 18) kc ks 122 [(0, .ref b)] [] n (mW h b s a) Q := by
  refine z_aload_n (j := 0) dX8_init_122 rfl ?_
  refine z_ldcS (tx := "table 8 3 1; add 1 10; add 9 11; add 3 12; add 17 13; add 4 14; pull; remove 9; add 12 15;") (a := zB + 26) (by decide +kernel) dX8_init_123 ?_
  refine z_kV [.ref ((zB + 26))] 0 0 kc ks yoX8_tell yvX8_tell rfl (by decide) lX8_56 (by omega) mW_obj rfl rfl (Nat.le_of_ble_eq_true rfl) (Nat.le_of_ble_eq_true rfl) dX8_init_125 (by omega) (by omega) (z_room (by omega) (Nat.le_refl _) (Nat.le_refl _) (m_tell (d := 0) hb h15 (fun s1 a1 g15 ht gs gr => ⟨rfl, ?_⟩)))
  refine z_aload_n (j := 0) dX8_init_128 rfl ?_
  refine z_kV [] 0 0 kc ks yoX8_parses yvX8_parses rfl (by decide) lX8_60 (by omega) mW_obj rfl rfl (Nat.le_of_ble_eq_true rfl) (Nat.le_of_ble_eq_true rfl) dX8_init_129 (by omega) (by omega) (z_room (by omega) (Nat.le_refl _) (Nat.le_refl _) (m_parses (d := 0) (L := 90) (x := tc) hb (by decide) ht tc_256 g15 (fun q9 ex9 S9 hp s3 a3 hM3 e16 e17 hH => ⟨rfl, ?_⟩) (fun k off hp k0 k1 s3 a3 e1 e2 hH => ⟨rfl, ?_⟩)))
  · obtain rfl : sX8 = S9 := by rw [prs_x] at hp; cases hp; rfl
    refine z_pop rfl dX8_init_132 ?_
    refine z_aload_n (j := 0) dX8_init_133 rfl ?_
    refine z_iconst (v := 0) dX8_init_134 (by decide) ?_
    refine m_put (k := 20) (by omega) fX8_64 (by unfold mS; omega) (by decide) dX8_init_135 ?_
    exact z_vret rfl dX8_init_138 (by
        obtain ⟨r1, r2⟩ := hH
        have ks : ∀ q, q = 9 ∨ q = 11 ∨ q = 14 ∨ q = 19 → va_up s3 20 0 q = 0 := fun q hq => (up_ne (by omega)).trans ((r1 q (by omega)).trans ((gs q (by omega)).trans (hz q (by omega))))
        exact hq _ _ ⟨hM3, ks 11 (by decide), Or.inl rfl, fun e => absurd e (by decide), by decide, ks 9 (by decide), fun j hj => absurd hj (Nat.not_lt_zero j), by decide, ks 14 (by decide), fun i hi => absurd hi (Nat.not_lt_zero i), tc_256, (up_ne (by decide)).trans e16, (up_ne (by decide)).trans e17, by decide, ks 19 (by decide), fun i hi => absurd hi (Nat.not_lt_zero i), tc_256⟩)
  · rw [prs_x] at hp
    cases hp

theorem w_R0 {l : zL} {d b : Nat} {h : Nat → va_E} {Q : zQ} (hB : b + 14 < zB) (h0 : h b = .inr (6, [.null, .null, .null, .null, .null, .null, .null, .null, .null, .int 0, .int 0, .int 0, .null, .null, .int 0, .int 0, .int 0, .int 0, .null, .int 0, .int 0, .int 0, .int 0, .int 0, .int 0, .int 0, .null])) (hq : ∀ s a, mI g00 s a → Q (.inl none) (b + 14) (mW h b s a)) : Zj l mX8_init (d + 18) 13 3769 0 [(0, .ref b)] [] (b + 1) h Q :=
  m_new1 hB h0 (m_new2 (Nat.le_refl _) rfl (fun q hq => if_neg (by omega)) hq)
