theorem grR_lt {H T key v : Nat} {L : List (Nat × Nat)} : ∀ m bk B' K' V' c', m ≤ 4 → grR H T L key v m = some (bk, B', K', V', c') → bk < B'
  | 0, bk, B', K', V', c', _, e => by simp [grR] at e
  | m + 1, bk, B', K', V', c', hm, e => by
    have okB1 : okB (2 ^ (6 - m)) := okB_w (m := m) (by omega)
    rcases hb : bldF (2 ^ (6 - m)) H T L kz kz 0 with ⟨_ | _, K1, V1, c1⟩
    · rw [grR_no hb] at e
      exact grR_lt m _ _ _ _ _ (by omega) e
    · rcases hp : placeF (2 ^ (6 - m)) H T K1 V1 c1 key v with ⟨_ | bk2, K2, V2, c2⟩
      · rw [grR_no2 hb hp] at e
        exact grR_lt m _ _ _ _ _ (by omega) e
      · rw [grR_yes hb hp] at e
        cases e
        exact placeF_lt okB1 hp

/-! THE REFERENCE'S PUBLIC METHODS, third part: predictions -/
theorem sWhy_z {S : zS} {key : Nat} (h : sWhy S key = 0) : sFind S key = none ∧ ∃ bk S', sAdd S key 0 = some (bk, S') := by
  unfold sWhy at h
  cases hf : sFind S key with
  | some bk => rw [hf] at h; exact absurd (show (1 : Int32) = 0 from h) (by decide)
  | none =>
    rw [hf] at h
    simp only at h
    cases ha : sAdd S key 0 with
    | none => rw [ha] at h; exact absurd (show (2 : Int32) = 0 from h) (by decide)
    | some q => exact ⟨rfl, q.1, q.2, rfl⟩
theorem sTry_nz {S : zS} {key : Nat} (h : ¬ sWhy S key = 0) : sTry S key = none := by
  cases ht : sTry S key with
  | none => rfl
  | some q =>
    exfalso
    refine h ?_
    unfold sTry at ht
    cases hf : sFind S key with
    | some bk => rw [hf] at ht; cases ht
    | none =>
      rw [hf] at ht
      simp only at ht
      obtain ⟨bk, S'⟩ := q
      exact sWhy_0 hf ht
theorem mT.ro {S : zS} {r : Nat → Int32} (h : mT S r) : r 0 = nI S.1 := by
  obtain ⟨B, H, T, K, V, c⟩ := S
  exact h.1.2.2.2.2.2.1
theorem mT.r3 {S : zS} {r : Nat → Int32} (h : mT S r) (k : Nat) (h3 : 3 ≤ k) (h9 : k < 9) : r k = S.2.2.2.2.2 k := by
  obtain ⟨B, H, T, K, V, c⟩ := S
  exact h.2.2 k h3 h9
theorem mT.okb {S : zS} {r : Nat → Int32} (h : mT S r) : okB S.1 := by
  obtain ⟨B, H, T, K, V, c⟩ := S
  exact h.1.1
theorem sAdd_B {S S' : zS} {key v bk : Nat} {r : Nat → Int32} (h : sAdd S key v = some (bk, S')) (hM : mT S r) : bk < S'.1 ∧ S.1 ≤ S'.1 := by
  obtain ⟨B, H, T, K, V, c⟩ := S
  unfold sAdd at h
  simp only at h
  cases hi : insR B H T K V (c 4) key v with
  | none => rw [hi] at h; cases h
  | some q =>
    obtain ⟨b1, B', K', V', c'⟩ := q
    rw [hi] at h
    cases h
    have okb := hM.1.1
    show bk < B' ∧ B ≤ B'
    unfold insR at hi
    split at hi
    · rename_i bk2 K1 V1 c1 hp
      cases hi
      exact ⟨placeF_lt okb hp, Nat.le_refl _⟩
    · have h2 := grR_B _ _ _ _ _ _ (by have := (wid_2 okb).1; omega) hi
      have h3 := (wid_2 okb).2
      exact ⟨grR_lt _ _ _ _ _ _ (by have := (wid_2 okb).1; omega) hi, by omega⟩

set_option maxHeartbeats 4000000 in
set_option maxRecDepth 100000 in
theorem m_tries0 {l : zL} {d kc ks n b : Nat} {h : Nat → va_E} {s : Nat → Int32} {a : Nat → Nat → Int32} {Q : zQ} {S : zS} {key : Nat} (hb : b + 14 ≤ n) (hT : mT S (a 0)) (hkey : key ≤ 9999) (hq : ∀ s' a', mT S (a' 0) → mF0 s a s' a' → Q (.inl (some (.int (match sTry S key with | none => (-1 : Int32) | some (bk, S') => nI bk)))) n (mW h b s' a')) : Zj l mX8_tries (d + 8) kc ks 0 [(0, .ref b), (1, .int ((nI key))), (2, .int 0)] [] n (mW h b s a) Q := by
  refine z_aload_n (j := 0) dX8_tries_0 rfl ?_
  refine z_iload_n (j := 1) dX8_tries_1 rfl ?_
  refine z_kV [.int ((nI key))] 0 0 kc ks yoX8_whyOut yvX8_whyOut rfl (by decide) lX8_197 (by omega) mW_obj rfl rfl (Nat.le_of_ble_eq_true rfl) (Nat.le_of_ble_eq_true rfl) dX8_tries_2 (by omega) (by omega) (z_room (by omega) (Nat.le_refl _) (Nat.le_refl _) (m_whyOut (d := 0) (S := S) hb hT hkey (fun s1 a1 hT1 hF1 => ⟨rfl, ?_⟩)))
  refine z_if_eq (tgt := 10) dX8_tries_5 (by decide) (fun czq5 => ?_) (fun czq5 => ?_)
  · obtain ⟨hf, bk, S', hs⟩ := sWhy_z czq5
    have htr : sTry S key = some (bk, S') := (sTry_in hf).trans hs
    refine z_aload_n (j := 0) dX8_tries_10 rfl ?_
    refine z_aload_n (j := 0) dX8_tries_11 rfl ?_
    refine z_get (v := .ref (b + 1)) (by omega) mW_obj fX8_7 rfl dX8_tries_12 ?_
    refine z_aload_n (j := 0) dX8_tries_15 rfl ?_
    refine z_get (v := .ref (b + 3)) (by omega) mW_obj fX8_16 rfl dX8_tries_16 ?_
    refine z_kV [.ref ((b + 1)), .ref ((b + 3))] 0 0 kc ks yoX8_copies yvX8_copies rfl (by decide) lX8_96 (by omega) mW_obj rfl rfl (Nat.le_of_ble_eq_true rfl) (Nat.le_of_ble_eq_true rfl) dX8_tries_19 (by omega) (by omega) (z_room (by omega) (Nat.le_refl _) (Nat.le_refl _) (r_copies (d := 0) (j := 0) (j2 := 2) hb (by decide) rfl rfl (by decide) rfl rfl (by decide) (fun a2 hd2 hr2 => ⟨rfl, ?_⟩)))
    have hT2 : mT S (a2 0) := by rw [hr2 0 (by decide)]; exact hT1
    refine z_aload_n (j := 0) dX8_tries_22 rfl ?_
    refine z_get (v := .ref (b + 1)) (by omega) mW_obj fX8_7 rfl dX8_tries_23 ?_
    refine z_iconst (v := 4) dX8_tries_26 (by decide) ?_
    refine m_aldN 0 137 4 (by decide) rfl rfl hb rfl (by omega) (by decide) dX8_tries_27 ?_
    refine z_istore_n [1, 2, 3, 0] [(0, .ref b), (1, .int ((nI key))), (2, .int 0), (3, .int ((a2 0 4)))] dX8_tries_28 (by decide) rfl ?_
    refine z_aload_n (j := 0) dX8_tries_29 rfl ?_
    refine z_iload_n (j := 1) dX8_tries_30 rfl ?_
    refine z_iconst (v := 0) dX8_tries_31 (by decide) ?_
    refine z_kV [.int ((nI key)), .int 0] 0 0 kc ks yoX8_adds yvX8_adds rfl (by decide) lX8_132 (by omega) mW_obj rfl rfl (Nat.le_of_ble_eq_true rfl) (Nat.le_of_ble_eq_true rfl) dX8_tries_32 (by omega) (by omega) (z_room (by omega) (Nat.le_refl _) (Nat.le_refl _) (m_adds (d := 0) (S := S) hb hT2 hkey (Nat.zero_le _) hf (fun s3 a3 ea hTx hF3 => ⟨rfl, ?_⟩) (fun bk2 S2 s3 a3 ea hMb hF3 => ⟨rfl, ?_⟩)))
    · rw [hs] at ea; cases ea
    · rw [hs] at ea
      cases ea
      have hTS := hMb
      have hbl := sAdd_B hs hT2
      have hr0 : a3 2 0 = nI S.1 := by rw [hF3.2 2 (by decide) (by decide) (by decide) (by decide) (by decide), hd2 0 (by decide), hT1.ro]
      refine z_istore [1, 2, 3, 4, 0] [(0, .ref b), (1, .int ((nI key))), (2, .int 0), (3, .int ((a2 0 4))), (4, .int ((nI bk)))] dX8_tries_35 (by decide) rfl ?_
      refine z_aload_n (j := 0) dX8_tries_37 rfl ?_
      refine z_get (v := .ref (b + 1)) (by omega) mW_obj fX8_7 rfl dX8_tries_38 ?_
      refine z_iconst (v := 0) dX8_tries_41 (by decide) ?_
      refine m_aldN 0 137 0 (by decide) rfl rfl hb rfl (by omega) (by decide) dX8_tries_42 ?_
      refine z_aload_n (j := 0) dX8_tries_43 rfl ?_
      refine z_get (v := .ref (b + 3)) (by omega) mW_obj fX8_16 rfl dX8_tries_44 ?_
      refine z_iconst (v := 0) dX8_tries_47 (by decide) ?_
      refine m_aldN 2 137 0 (by decide) rfl rfl hb rfl (by omega) (by decide) dX8_tries_48 ?_
      refine z_icmp_le (tgt := 56) dX8_tries_49 (by decide) (fun czq49 => ?_) (fun czq49 => ?_)
      · refine z_iconst (v := 0) dX8_tries_56 (by decide) ?_
        refine z_istore [1, 2, 3, 4, 5, 0] [(0, .ref b), (1, .int ((nI key))), (2, .int 0), (3, .int ((a2 0 4))), (4, .int ((nI bk))), (5, .int 0)] dX8_tries_57 (by decide) rfl ?_
        refine z_iload (j := 5) dX8_tries_59 rfl ?_
        refine z_if_eq (tgt := 68) dX8_tries_61 (by decide) (fun czq61 => ?_) (fun czq61 => absurd rfl czq61)
        refine z_aload_n (j := 0) dX8_tries_68 rfl ?_
        refine z_get (v := .ref (b + 1)) (by omega) mW_obj fX8_7 rfl dX8_tries_69 ?_
        refine z_iconst (v := 4) dX8_tries_72 (by decide) ?_
        refine m_aldN 0 137 4 (by decide) rfl rfl hb rfl (by omega) (by decide) dX8_tries_73 ?_
        refine z_iload_n (j := 3) dX8_tries_74 rfl ?_
        refine z_isub dX8_tries_75 ?_
        refine z_istore_n [1, 2, 3, 0, 4, 5] [(0, .ref b), (1, .int ((nI key))), (2, .int 0), (3, .int (((a3 0 4) - (a2 0 4)))), (4, .int ((nI bk))), (5, .int 0)] dX8_tries_76 (by decide) rfl ?_
        refine z_aload_n (j := 0) dX8_tries_77 rfl ?_
        refine z_get (v := .ref (b + 1)) (by omega) mW_obj fX8_7 rfl dX8_tries_78 ?_
        refine z_iconst (v := 0) dX8_tries_81 (by decide) ?_
        refine m_aldN 0 137 0 (by decide) rfl rfl hb rfl (by omega) (by decide) dX8_tries_82 ?_
        refine z_istore [1, 2, 3, 4, 5, 6, 0] [(0, .ref b), (1, .int ((nI key))), (2, .int 0), (3, .int (((a3 0 4) - (a2 0 4)))), (4, .int ((nI bk))), (5, .int 0), (6, .int ((a3 0 0)))] dX8_tries_83 (by decide) rfl ?_
        refine z_aload_n (j := 0) dX8_tries_85 rfl ?_
        refine z_aload_n (j := 0) dX8_tries_86 rfl ?_
        refine z_get (v := .ref (b + 3)) (by omega) mW_obj fX8_16 rfl dX8_tries_87 ?_
        refine z_aload_n (j := 0) dX8_tries_90 rfl ?_
        refine z_get (v := .ref (b + 1)) (by omega) mW_obj fX8_7 rfl dX8_tries_91 ?_
        refine z_kV [.ref ((b + 3)), .ref ((b + 1))] 0 0 kc ks yoX8_copies yvX8_copies rfl (by decide) lX8_96 (by omega) mW_obj rfl rfl (Nat.le_of_ble_eq_true rfl) (Nat.le_of_ble_eq_true rfl) dX8_tries_94 (by omega) (by omega) (z_room (by omega) (Nat.le_refl _) (Nat.le_refl _) (r_copies (d := 0) (j := 2) (j2 := 0) hb (by decide) rfl rfl (by decide) rfl rfl (by decide) (fun a4 hd4 hr4 => ⟨rfl, ?_⟩)))
        refine z_iload_n (j := 2) dX8_tries_97 rfl ?_
        refine z_if_ne (tgt := 106) dX8_tries_98 (by decide) (fun czq98 => absurd czq98 (fun z => z rfl)) (fun czq98 => ?_)
        refine z_iload (j := 4) dX8_tries_101 rfl ?_
        refine z_goto (tgt := 117) dX8_tries_103 (by decide) ?_
        exact z_iret rfl dX8_tries_117 (by
            rw [htr] at hq
            simp only at hq
            exact hq s3 a4 (hT1.cp (fun i hi => by rw [hd4 i hi, hF3.2 2 (by decide) (by decide) (by decide) (by decide) (by decide), hd2 i hi])) ⟨fun k hk => (hF3.1 k hk).trans (hF1.1 k hk), fun q q0 q2 q3 q4 q7 q8 => by rw [hr4 q q0, hF3.2 q q0 q3 q4 q7 q8, hr2 q q2]; exact hF1.2 q q0 q2 q3 q4 q7 q8⟩)
      · refine z_iconst (v := 1) dX8_tries_52 (by decide) ?_
        refine z_goto (tgt := 57) dX8_tries_53 (by decide) ?_
        refine z_istore [1, 2, 3, 4, 5, 0] [(0, .ref b), (1, .int ((nI key))), (2, .int 0), (3, .int ((a2 0 4))), (4, .int ((nI bk))), (5, .int 1)] dX8_tries_57 (by decide) rfl ?_
        refine z_iload (j := 5) dX8_tries_59 rfl ?_
        refine z_if_eq (tgt := 68) dX8_tries_61 (by decide) (fun czq61 => absurd czq61 (by decide)) (fun czq61 => ?_)
        refine z_iconst (v := 0) dX8_tries_64 (by decide) ?_
        refine z_goto (tgt := 76) dX8_tries_65 (by decide) ?_
        refine z_istore_n [1, 2, 3, 0, 4, 5] [(0, .ref b), (1, .int ((nI key))), (2, .int 0), (3, .int 0), (4, .int ((nI bk))), (5, .int 1)] dX8_tries_76 (by decide) rfl ?_
        refine z_aload_n (j := 0) dX8_tries_77 rfl ?_
        refine z_get (v := .ref (b + 1)) (by omega) mW_obj fX8_7 rfl dX8_tries_78 ?_
        refine z_iconst (v := 0) dX8_tries_81 (by decide) ?_
        refine m_aldN 0 137 0 (by decide) rfl rfl hb rfl (by omega) (by decide) dX8_tries_82 ?_
        refine z_istore [1, 2, 3, 4, 5, 6, 0] [(0, .ref b), (1, .int ((nI key))), (2, .int 0), (3, .int 0), (4, .int ((nI bk))), (5, .int 1), (6, .int ((a3 0 0)))] dX8_tries_83 (by decide) rfl ?_
        refine z_aload_n (j := 0) dX8_tries_85 rfl ?_
        refine z_aload_n (j := 0) dX8_tries_86 rfl ?_
        refine z_get (v := .ref (b + 3)) (by omega) mW_obj fX8_16 rfl dX8_tries_87 ?_
        refine z_aload_n (j := 0) dX8_tries_90 rfl ?_
        refine z_get (v := .ref (b + 1)) (by omega) mW_obj fX8_7 rfl dX8_tries_91 ?_
        refine z_kV [.ref ((b + 3)), .ref ((b + 1))] 0 0 kc ks yoX8_copies yvX8_copies rfl (by decide) lX8_96 (by omega) mW_obj rfl rfl (Nat.le_of_ble_eq_true rfl) (Nat.le_of_ble_eq_true rfl) dX8_tries_94 (by omega) (by omega) (z_room (by omega) (Nat.le_refl _) (Nat.le_refl _) (r_copies (d := 0) (j := 2) (j2 := 0) hb (by decide) rfl rfl (by decide) rfl rfl (by decide) (fun a4 hd4 hr4 => ⟨rfl, ?_⟩)))
        refine z_iload_n (j := 2) dX8_tries_97 rfl ?_
        refine z_if_ne (tgt := 106) dX8_tries_98 (by decide) (fun czq98 => absurd czq98 (fun z => z rfl)) (fun czq98 => ?_)
        refine z_iload (j := 4) dX8_tries_101 rfl ?_
        refine z_goto (tgt := 117) dX8_tries_103 (by decide) ?_
        exact z_iret rfl dX8_tries_117 (by
            rw [htr] at hq
            simp only at hq
            exact hq s3 a4 (hT1.cp (fun i hi => by rw [hd4 i hi, hF3.2 2 (by decide) (by decide) (by decide) (by decide) (by decide), hd2 i hi])) ⟨fun k hk => (hF3.1 k hk).trans (hF1.1 k hk), fun q q0 q2 q3 q4 q7 q8 => by rw [hr4 q q0, hF3.2 q q0 q3 q4 q7 q8, hr2 q q2]; exact hF1.2 q q0 q2 q3 q4 q7 q8⟩)
  · refine z_iconst (v := (-1)) dX8_tries_8 (by decide) ?_
    exact z_iret rfl dX8_tries_9 (by
        rw [sTry_nz czq5] at hq
        exact hq s1 a1 hT1 hF1)

set_option maxHeartbeats 4000000 in
set_option maxRecDepth 100000 in
theorem m_tries1 {l : zL} {d kc ks n b : Nat} {h : Nat → va_E} {s : Nat → Int32} {a : Nat → Nat → Int32} {Q : zQ} {S : zS} {key : Nat} (hb : b + 14 ≤ n) (hT : mT S (a 0)) (hkey : key ≤ 9999) (hq : ∀ s' a', mT S (a' 0) → mF0 s a s' a' → Q (.inl (some (.int (match sTry S key with | none => (-1 : Int32) | some (bk, S') => (if S'.1 = S.1 then S'.2.2.2.2.2 4 - S.2.2.2.2.2 4 else 0))))) n (mW h b s' a')) : Zj l mX8_tries (d + 8) kc ks 0 [(0, .ref b), (1, .int ((nI key))), (2, .int 1)] [] n (mW h b s a) Q := by
  refine z_aload_n (j := 0) dX8_tries_0 rfl ?_
  refine z_iload_n (j := 1) dX8_tries_1 rfl ?_
  refine z_kV [.int ((nI key))] 0 0 kc ks yoX8_whyOut yvX8_whyOut rfl (by decide) lX8_197 (by omega) mW_obj rfl rfl (Nat.le_of_ble_eq_true rfl) (Nat.le_of_ble_eq_true rfl) dX8_tries_2 (by omega) (by omega) (z_room (by omega) (Nat.le_refl _) (Nat.le_refl _) (m_whyOut (d := 0) (S := S) hb hT hkey (fun s1 a1 hT1 hF1 => ⟨rfl, ?_⟩)))
  refine z_if_eq (tgt := 10) dX8_tries_5 (by decide) (fun czq5 => ?_) (fun czq5 => ?_)
  · obtain ⟨hf, bk, S', hs⟩ := sWhy_z czq5
    have htr : sTry S key = some (bk, S') := (sTry_in hf).trans hs
    refine z_aload_n (j := 0) dX8_tries_10 rfl ?_
    refine z_aload_n (j := 0) dX8_tries_11 rfl ?_
    refine z_get (v := .ref (b + 1)) (by omega) mW_obj fX8_7 rfl dX8_tries_12 ?_
    refine z_aload_n (j := 0) dX8_tries_15 rfl ?_
    refine z_get (v := .ref (b + 3)) (by omega) mW_obj fX8_16 rfl dX8_tries_16 ?_
    refine z_kV [.ref ((b + 1)), .ref ((b + 3))] 0 0 kc ks yoX8_copies yvX8_copies rfl (by decide) lX8_96 (by omega) mW_obj rfl rfl (Nat.le_of_ble_eq_true rfl) (Nat.le_of_ble_eq_true rfl) dX8_tries_19 (by omega) (by omega) (z_room (by omega) (Nat.le_refl _) (Nat.le_refl _) (r_copies (d := 0) (j := 0) (j2 := 2) hb (by decide) rfl rfl (by decide) rfl rfl (by decide) (fun a2 hd2 hr2 => ⟨rfl, ?_⟩)))
    have hT2 : mT S (a2 0) := by rw [hr2 0 (by decide)]; exact hT1
    refine z_aload_n (j := 0) dX8_tries_22 rfl ?_
    refine z_get (v := .ref (b + 1)) (by omega) mW_obj fX8_7 rfl dX8_tries_23 ?_
    refine z_iconst (v := 4) dX8_tries_26 (by decide) ?_
    refine m_aldN 0 137 4 (by decide) rfl rfl hb rfl (by omega) (by decide) dX8_tries_27 ?_
    refine z_istore_n [1, 2, 3, 0] [(0, .ref b), (1, .int ((nI key))), (2, .int 1), (3, .int ((a2 0 4)))] dX8_tries_28 (by decide) rfl ?_
    refine z_aload_n (j := 0) dX8_tries_29 rfl ?_
    refine z_iload_n (j := 1) dX8_tries_30 rfl ?_
    refine z_iconst (v := 0) dX8_tries_31 (by decide) ?_
    refine z_kV [.int ((nI key)), .int 0] 0 0 kc ks yoX8_adds yvX8_adds rfl (by decide) lX8_132 (by omega) mW_obj rfl rfl (Nat.le_of_ble_eq_true rfl) (Nat.le_of_ble_eq_true rfl) dX8_tries_32 (by omega) (by omega) (z_room (by omega) (Nat.le_refl _) (Nat.le_refl _) (m_adds (d := 0) (S := S) hb hT2 hkey (Nat.zero_le _) hf (fun s3 a3 ea hTx hF3 => ⟨rfl, ?_⟩) (fun bk2 S2 s3 a3 ea hMb hF3 => ⟨rfl, ?_⟩)))
    · rw [hs] at ea; cases ea
    · rw [hs] at ea
      cases ea
      have hTS := hMb
      have hbl := sAdd_B hs hT2
      have hr0 : a3 2 0 = nI S.1 := by rw [hF3.2 2 (by decide) (by decide) (by decide) (by decide) (by decide), hd2 0 (by decide), hT1.ro]
      refine z_istore [1, 2, 3, 4, 0] [(0, .ref b), (1, .int ((nI key))), (2, .int 1), (3, .int ((a2 0 4))), (4, .int ((nI bk)))] dX8_tries_35 (by decide) rfl ?_
      refine z_aload_n (j := 0) dX8_tries_37 rfl ?_
      refine z_get (v := .ref (b + 1)) (by omega) mW_obj fX8_7 rfl dX8_tries_38 ?_
      refine z_iconst (v := 0) dX8_tries_41 (by decide) ?_
      refine m_aldN 0 137 0 (by decide) rfl rfl hb rfl (by omega) (by decide) dX8_tries_42 ?_
      refine z_aload_n (j := 0) dX8_tries_43 rfl ?_
      refine z_get (v := .ref (b + 3)) (by omega) mW_obj fX8_16 rfl dX8_tries_44 ?_
      refine z_iconst (v := 0) dX8_tries_47 (by decide) ?_
      refine m_aldN 2 137 0 (by decide) rfl rfl hb rfl (by omega) (by decide) dX8_tries_48 ?_
      refine z_icmp_le (tgt := 56) dX8_tries_49 (by decide) (fun czq49 => ?_) (fun czq49 => ?_)
      · refine z_iconst (v := 0) dX8_tries_56 (by decide) ?_
        refine z_istore [1, 2, 3, 4, 5, 0] [(0, .ref b), (1, .int ((nI key))), (2, .int 1), (3, .int ((a2 0 4))), (4, .int ((nI bk))), (5, .int 0)] dX8_tries_57 (by decide) rfl ?_
        refine z_iload (j := 5) dX8_tries_59 rfl ?_
        refine z_if_eq (tgt := 68) dX8_tries_61 (by decide) (fun czq61 => ?_) (fun czq61 => absurd rfl czq61)
        refine z_aload_n (j := 0) dX8_tries_68 rfl ?_
        refine z_get (v := .ref (b + 1)) (by omega) mW_obj fX8_7 rfl dX8_tries_69 ?_
        refine z_iconst (v := 4) dX8_tries_72 (by decide) ?_
        refine m_aldN 0 137 4 (by decide) rfl rfl hb rfl (by omega) (by decide) dX8_tries_73 ?_
        refine z_iload_n (j := 3) dX8_tries_74 rfl ?_
        refine z_isub dX8_tries_75 ?_
        refine z_istore_n [1, 2, 3, 0, 4, 5] [(0, .ref b), (1, .int ((nI key))), (2, .int 1), (3, .int (((a3 0 4) - (a2 0 4)))), (4, .int ((nI bk))), (5, .int 0)] dX8_tries_76 (by decide) rfl ?_
        refine z_aload_n (j := 0) dX8_tries_77 rfl ?_
        refine z_get (v := .ref (b + 1)) (by omega) mW_obj fX8_7 rfl dX8_tries_78 ?_
        refine z_iconst (v := 0) dX8_tries_81 (by decide) ?_
        refine m_aldN 0 137 0 (by decide) rfl rfl hb rfl (by omega) (by decide) dX8_tries_82 ?_
        refine z_istore [1, 2, 3, 4, 5, 6, 0] [(0, .ref b), (1, .int ((nI key))), (2, .int 1), (3, .int (((a3 0 4) - (a2 0 4)))), (4, .int ((nI bk))), (5, .int 0), (6, .int ((a3 0 0)))] dX8_tries_83 (by decide) rfl ?_
        refine z_aload_n (j := 0) dX8_tries_85 rfl ?_
        refine z_aload_n (j := 0) dX8_tries_86 rfl ?_
        refine z_get (v := .ref (b + 3)) (by omega) mW_obj fX8_16 rfl dX8_tries_87 ?_
        refine z_aload_n (j := 0) dX8_tries_90 rfl ?_
        refine z_get (v := .ref (b + 1)) (by omega) mW_obj fX8_7 rfl dX8_tries_91 ?_
        refine z_kV [.ref ((b + 3)), .ref ((b + 1))] 0 0 kc ks yoX8_copies yvX8_copies rfl (by decide) lX8_96 (by omega) mW_obj rfl rfl (Nat.le_of_ble_eq_true rfl) (Nat.le_of_ble_eq_true rfl) dX8_tries_94 (by omega) (by omega) (z_room (by omega) (Nat.le_refl _) (Nat.le_refl _) (r_copies (d := 0) (j := 2) (j2 := 0) hb (by decide) rfl rfl (by decide) rfl rfl (by decide) (fun a4 hd4 hr4 => ⟨rfl, ?_⟩)))
        refine z_iload_n (j := 2) dX8_tries_97 rfl ?_
        refine z_if_ne (tgt := 106) dX8_tries_98 (by decide) (fun czq98 => ?_) (fun czq98 => absurd czq98 (by decide))
        refine z_iload_n (j := 2) dX8_tries_106 rfl ?_
        refine z_iconst (v := 1) dX8_tries_107 (by decide) ?_
        refine z_icmp_ne (tgt := 115) dX8_tries_108 (by decide) (fun czq108 => absurd rfl czq108) (fun czq108 => ?_)
        refine z_iload_n (j := 3) dX8_tries_111 rfl ?_
        refine z_goto (tgt := 117) dX8_tries_112 (by decide) ?_
        exact z_iret rfl dX8_tries_117 (by
            rw [htr] at hq
            simp only at hq
            rw [hMb.ro, hr0] at czq49
            have hbb : S'.1 = S.1 := by
              have h9 := (nI_leI (by have := hTS.okb.le; omega) (by have := hT1.okb.le; omega)).mp czq49
              omega
            rw [if_pos hbb] at hq
            rw [hMb.r3 4 (by decide) (by decide), hT2.r3 4 (by decide) (by decide)]
            exact hq s3 a4 (hT1.cp (fun i hi => by rw [hd4 i hi, hF3.2 2 (by decide) (by decide) (by decide) (by decide) (by decide), hd2 i hi])) ⟨fun k hk => (hF3.1 k hk).trans (hF1.1 k hk), fun q q0 q2 q3 q4 q7 q8 => by rw [hr4 q q0, hF3.2 q q0 q3 q4 q7 q8, hr2 q q2]; exact hF1.2 q q0 q2 q3 q4 q7 q8⟩)
      · refine z_iconst (v := 1) dX8_tries_52 (by decide) ?_
        refine z_goto (tgt := 57) dX8_tries_53 (by decide) ?_
        refine z_istore [1, 2, 3, 4, 5, 0] [(0, .ref b), (1, .int ((nI key))), (2, .int 1), (3, .int ((a2 0 4))), (4, .int ((nI bk))), (5, .int 1)] dX8_tries_57 (by decide) rfl ?_
        refine z_iload (j := 5) dX8_tries_59 rfl ?_
        refine z_if_eq (tgt := 68) dX8_tries_61 (by decide) (fun czq61 => absurd czq61 (by decide)) (fun czq61 => ?_)
        refine z_iconst (v := 0) dX8_tries_64 (by decide) ?_
        refine z_goto (tgt := 76) dX8_tries_65 (by decide) ?_
        refine z_istore_n [1, 2, 3, 0, 4, 5] [(0, .ref b), (1, .int ((nI key))), (2, .int 1), (3, .int 0), (4, .int ((nI bk))), (5, .int 1)] dX8_tries_76 (by decide) rfl ?_
        refine z_aload_n (j := 0) dX8_tries_77 rfl ?_
        refine z_get (v := .ref (b + 1)) (by omega) mW_obj fX8_7 rfl dX8_tries_78 ?_
        refine z_iconst (v := 0) dX8_tries_81 (by decide) ?_
        refine m_aldN 0 137 0 (by decide) rfl rfl hb rfl (by omega) (by decide) dX8_tries_82 ?_
        refine z_istore [1, 2, 3, 4, 5, 6, 0] [(0, .ref b), (1, .int ((nI key))), (2, .int 1), (3, .int 0), (4, .int ((nI bk))), (5, .int 1), (6, .int ((a3 0 0)))] dX8_tries_83 (by decide) rfl ?_
        refine z_aload_n (j := 0) dX8_tries_85 rfl ?_
        refine z_aload_n (j := 0) dX8_tries_86 rfl ?_
        refine z_get (v := .ref (b + 3)) (by omega) mW_obj fX8_16 rfl dX8_tries_87 ?_
        refine z_aload_n (j := 0) dX8_tries_90 rfl ?_
        refine z_get (v := .ref (b + 1)) (by omega) mW_obj fX8_7 rfl dX8_tries_91 ?_
        refine z_kV [.ref ((b + 3)), .ref ((b + 1))] 0 0 kc ks yoX8_copies yvX8_copies rfl (by decide) lX8_96 (by omega) mW_obj rfl rfl (Nat.le_of_ble_eq_true rfl) (Nat.le_of_ble_eq_true rfl) dX8_tries_94 (by omega) (by omega) (z_room (by omega) (Nat.le_refl _) (Nat.le_refl _) (r_copies (d := 0) (j := 2) (j2 := 0) hb (by decide) rfl rfl (by decide) rfl rfl (by decide) (fun a4 hd4 hr4 => ⟨rfl, ?_⟩)))
        refine z_iload_n (j := 2) dX8_tries_97 rfl ?_
        refine z_if_ne (tgt := 106) dX8_tries_98 (by decide) (fun czq98 => ?_) (fun czq98 => absurd czq98 (by decide))
        refine z_iload_n (j := 2) dX8_tries_106 rfl ?_
        refine z_iconst (v := 1) dX8_tries_107 (by decide) ?_
        refine z_icmp_ne (tgt := 115) dX8_tries_108 (by decide) (fun czq108 => absurd rfl czq108) (fun czq108 => ?_)
        refine z_iload_n (j := 3) dX8_tries_111 rfl ?_
        refine z_goto (tgt := 117) dX8_tries_112 (by decide) ?_
        exact z_iret rfl dX8_tries_117 (by
            rw [htr] at hq
            simp only at hq
            rw [hMb.ro, hr0] at czq49
            have hbb : ¬ S'.1 = S.1 := fun e => czq49 (by rw [e]; exact Int32.le_refl _)
            rw [if_neg hbb] at hq
            exact hq s3 a4 (hT1.cp (fun i hi => by rw [hd4 i hi, hF3.2 2 (by decide) (by decide) (by decide) (by decide) (by decide), hd2 i hi])) ⟨fun k hk => (hF3.1 k hk).trans (hF1.1 k hk), fun q q0 q2 q3 q4 q7 q8 => by rw [hr4 q q0, hF3.2 q q0 q3 q4 q7 q8, hr2 q q2]; exact hF1.2 q q0 q2 q3 q4 q7 q8⟩)
  · refine z_iconst (v := (-1)) dX8_tries_8 (by decide) ?_
    exact z_iret rfl dX8_tries_9 (by
        rw [sTry_nz czq5] at hq
        exact hq s1 a1 hT1 hF1)

set_option maxHeartbeats 4000000 in
set_option maxRecDepth 100000 in
theorem m_tries2 {l : zL} {d kc ks n b : Nat} {h : Nat → va_E} {s : Nat → Int32} {a : Nat → Nat → Int32} {Q : zQ} {S : zS} {key : Nat} (hb : b + 14 ≤ n) (hT : mT S (a 0)) (hkey : key ≤ 9999) (hq : ∀ s' a', mT S (a' 0) → mF0 s a s' a' → Q (.inl (some (.int (match sTry S key with | none => (-1 : Int32) | some (bk, S') => nI S'.1)))) n (mW h b s' a')) : Zj l mX8_tries (d + 8) kc ks 0 [(0, .ref b), (1, .int ((nI key))), (2, .int 2)] [] n (mW h b s a) Q := by
  refine z_aload_n (j := 0) dX8_tries_0 rfl ?_
  refine z_iload_n (j := 1) dX8_tries_1 rfl ?_
  refine z_kV [.int ((nI key))] 0 0 kc ks yoX8_whyOut yvX8_whyOut rfl (by decide) lX8_197 (by omega) mW_obj rfl rfl (Nat.le_of_ble_eq_true rfl) (Nat.le_of_ble_eq_true rfl) dX8_tries_2 (by omega) (by omega) (z_room (by omega) (Nat.le_refl _) (Nat.le_refl _) (m_whyOut (d := 0) (S := S) hb hT hkey (fun s1 a1 hT1 hF1 => ⟨rfl, ?_⟩)))
  refine z_if_eq (tgt := 10) dX8_tries_5 (by decide) (fun czq5 => ?_) (fun czq5 => ?_)
  · obtain ⟨hf, bk, S', hs⟩ := sWhy_z czq5
    have htr : sTry S key = some (bk, S') := (sTry_in hf).trans hs
    refine z_aload_n (j := 0) dX8_tries_10 rfl ?_
    refine z_aload_n (j := 0) dX8_tries_11 rfl ?_
    refine z_get (v := .ref (b + 1)) (by omega) mW_obj fX8_7 rfl dX8_tries_12 ?_
    refine z_aload_n (j := 0) dX8_tries_15 rfl ?_
    refine z_get (v := .ref (b + 3)) (by omega) mW_obj fX8_16 rfl dX8_tries_16 ?_
    refine z_kV [.ref ((b + 1)), .ref ((b + 3))] 0 0 kc ks yoX8_copies yvX8_copies rfl (by decide) lX8_96 (by omega) mW_obj rfl rfl (Nat.le_of_ble_eq_true rfl) (Nat.le_of_ble_eq_true rfl) dX8_tries_19 (by omega) (by omega) (z_room (by omega) (Nat.le_refl _) (Nat.le_refl _) (r_copies (d := 0) (j := 0) (j2 := 2) hb (by decide) rfl rfl (by decide) rfl rfl (by decide) (fun a2 hd2 hr2 => ⟨rfl, ?_⟩)))
    have hT2 : mT S (a2 0) := by rw [hr2 0 (by decide)]; exact hT1
    refine z_aload_n (j := 0) dX8_tries_22 rfl ?_
    refine z_get (v := .ref (b + 1)) (by omega) mW_obj fX8_7 rfl dX8_tries_23 ?_
    refine z_iconst (v := 4) dX8_tries_26 (by decide) ?_
    refine m_aldN 0 137 4 (by decide) rfl rfl hb rfl (by omega) (by decide) dX8_tries_27 ?_
    refine z_istore_n [1, 2, 3, 0] [(0, .ref b), (1, .int ((nI key))), (2, .int 2), (3, .int ((a2 0 4)))] dX8_tries_28 (by decide) rfl ?_
    refine z_aload_n (j := 0) dX8_tries_29 rfl ?_
    refine z_iload_n (j := 1) dX8_tries_30 rfl ?_
    refine z_iconst (v := 0) dX8_tries_31 (by decide) ?_
    refine z_kV [.int ((nI key)), .int 0] 0 0 kc ks yoX8_adds yvX8_adds rfl (by decide) lX8_132 (by omega) mW_obj rfl rfl (Nat.le_of_ble_eq_true rfl) (Nat.le_of_ble_eq_true rfl) dX8_tries_32 (by omega) (by omega) (z_room (by omega) (Nat.le_refl _) (Nat.le_refl _) (m_adds (d := 0) (S := S) hb hT2 hkey (Nat.zero_le _) hf (fun s3 a3 ea hTx hF3 => ⟨rfl, ?_⟩) (fun bk2 S2 s3 a3 ea hMb hF3 => ⟨rfl, ?_⟩)))
    · rw [hs] at ea; cases ea
    · rw [hs] at ea
      cases ea
      have hTS := hMb
      have hbl := sAdd_B hs hT2
      have hr0 : a3 2 0 = nI S.1 := by rw [hF3.2 2 (by decide) (by decide) (by decide) (by decide) (by decide), hd2 0 (by decide), hT1.ro]
      refine z_istore [1, 2, 3, 4, 0] [(0, .ref b), (1, .int ((nI key))), (2, .int 2), (3, .int ((a2 0 4))), (4, .int ((nI bk)))] dX8_tries_35 (by decide) rfl ?_
      refine z_aload_n (j := 0) dX8_tries_37 rfl ?_
      refine z_get (v := .ref (b + 1)) (by omega) mW_obj fX8_7 rfl dX8_tries_38 ?_
      refine z_iconst (v := 0) dX8_tries_41 (by decide) ?_
      refine m_aldN 0 137 0 (by decide) rfl rfl hb rfl (by omega) (by decide) dX8_tries_42 ?_
      refine z_aload_n (j := 0) dX8_tries_43 rfl ?_
      refine z_get (v := .ref (b + 3)) (by omega) mW_obj fX8_16 rfl dX8_tries_44 ?_
      refine z_iconst (v := 0) dX8_tries_47 (by decide) ?_
      refine m_aldN 2 137 0 (by decide) rfl rfl hb rfl (by omega) (by decide) dX8_tries_48 ?_
      refine z_icmp_le (tgt := 56) dX8_tries_49 (by decide) (fun czq49 => ?_) (fun czq49 => ?_)
      · refine z_iconst (v := 0) dX8_tries_56 (by decide) ?_
        refine z_istore [1, 2, 3, 4, 5, 0] [(0, .ref b), (1, .int ((nI key))), (2, .int 2), (3, .int ((a2 0 4))), (4, .int ((nI bk))), (5, .int 0)] dX8_tries_57 (by decide) rfl ?_
        refine z_iload (j := 5) dX8_tries_59 rfl ?_
        refine z_if_eq (tgt := 68) dX8_tries_61 (by decide) (fun czq61 => ?_) (fun czq61 => absurd rfl czq61)
        refine z_aload_n (j := 0) dX8_tries_68 rfl ?_
        refine z_get (v := .ref (b + 1)) (by omega) mW_obj fX8_7 rfl dX8_tries_69 ?_
        refine z_iconst (v := 4) dX8_tries_72 (by decide) ?_
        refine m_aldN 0 137 4 (by decide) rfl rfl hb rfl (by omega) (by decide) dX8_tries_73 ?_
        refine z_iload_n (j := 3) dX8_tries_74 rfl ?_
        refine z_isub dX8_tries_75 ?_
        refine z_istore_n [1, 2, 3, 0, 4, 5] [(0, .ref b), (1, .int ((nI key))), (2, .int 2), (3, .int (((a3 0 4) - (a2 0 4)))), (4, .int ((nI bk))), (5, .int 0)] dX8_tries_76 (by decide) rfl ?_
        refine z_aload_n (j := 0) dX8_tries_77 rfl ?_
        refine z_get (v := .ref (b + 1)) (by omega) mW_obj fX8_7 rfl dX8_tries_78 ?_
        refine z_iconst (v := 0) dX8_tries_81 (by decide) ?_
        refine m_aldN 0 137 0 (by decide) rfl rfl hb rfl (by omega) (by decide) dX8_tries_82 ?_
        refine z_istore [1, 2, 3, 4, 5, 6, 0] [(0, .ref b), (1, .int ((nI key))), (2, .int 2), (3, .int (((a3 0 4) - (a2 0 4)))), (4, .int ((nI bk))), (5, .int 0), (6, .int ((a3 0 0)))] dX8_tries_83 (by decide) rfl ?_
        refine z_aload_n (j := 0) dX8_tries_85 rfl ?_
        refine z_aload_n (j := 0) dX8_tries_86 rfl ?_
        refine z_get (v := .ref (b + 3)) (by omega) mW_obj fX8_16 rfl dX8_tries_87 ?_
        refine z_aload_n (j := 0) dX8_tries_90 rfl ?_
        refine z_get (v := .ref (b + 1)) (by omega) mW_obj fX8_7 rfl dX8_tries_91 ?_
        refine z_kV [.ref ((b + 3)), .ref ((b + 1))] 0 0 kc ks yoX8_copies yvX8_copies rfl (by decide) lX8_96 (by omega) mW_obj rfl rfl (Nat.le_of_ble_eq_true rfl) (Nat.le_of_ble_eq_true rfl) dX8_tries_94 (by omega) (by omega) (z_room (by omega) (Nat.le_refl _) (Nat.le_refl _) (r_copies (d := 0) (j := 2) (j2 := 0) hb (by decide) rfl rfl (by decide) rfl rfl (by decide) (fun a4 hd4 hr4 => ⟨rfl, ?_⟩)))
        refine z_iload_n (j := 2) dX8_tries_97 rfl ?_
        refine z_if_ne (tgt := 106) dX8_tries_98 (by decide) (fun czq98 => ?_) (fun czq98 => absurd czq98 (by decide))
        refine z_iload_n (j := 2) dX8_tries_106 rfl ?_
        refine z_iconst (v := 1) dX8_tries_107 (by decide) ?_
        refine z_icmp_ne (tgt := 115) dX8_tries_108 (by decide) (fun czq108 => ?_) (fun czq108 => absurd czq108 (by decide))
        refine z_iload (j := 6) dX8_tries_115 rfl ?_
        exact z_iret rfl dX8_tries_117 (by
            rw [htr] at hq
            simp only at hq
            rw [hMb.ro]
            exact hq s3 a4 (hT1.cp (fun i hi => by rw [hd4 i hi, hF3.2 2 (by decide) (by decide) (by decide) (by decide) (by decide), hd2 i hi])) ⟨fun k hk => (hF3.1 k hk).trans (hF1.1 k hk), fun q q0 q2 q3 q4 q7 q8 => by rw [hr4 q q0, hF3.2 q q0 q3 q4 q7 q8, hr2 q q2]; exact hF1.2 q q0 q2 q3 q4 q7 q8⟩)
      · refine z_iconst (v := 1) dX8_tries_52 (by decide) ?_
        refine z_goto (tgt := 57) dX8_tries_53 (by decide) ?_
        refine z_istore [1, 2, 3, 4, 5, 0] [(0, .ref b), (1, .int ((nI key))), (2, .int 2), (3, .int ((a2 0 4))), (4, .int ((nI bk))), (5, .int 1)] dX8_tries_57 (by decide) rfl ?_
        refine z_iload (j := 5) dX8_tries_59 rfl ?_
        refine z_if_eq (tgt := 68) dX8_tries_61 (by decide) (fun czq61 => absurd czq61 (by decide)) (fun czq61 => ?_)
        refine z_iconst (v := 0) dX8_tries_64 (by decide) ?_
        refine z_goto (tgt := 76) dX8_tries_65 (by decide) ?_
        refine z_istore_n [1, 2, 3, 0, 4, 5] [(0, .ref b), (1, .int ((nI key))), (2, .int 2), (3, .int 0), (4, .int ((nI bk))), (5, .int 1)] dX8_tries_76 (by decide) rfl ?_
        refine z_aload_n (j := 0) dX8_tries_77 rfl ?_
        refine z_get (v := .ref (b + 1)) (by omega) mW_obj fX8_7 rfl dX8_tries_78 ?_
        refine z_iconst (v := 0) dX8_tries_81 (by decide) ?_
        refine m_aldN 0 137 0 (by decide) rfl rfl hb rfl (by omega) (by decide) dX8_tries_82 ?_
        refine z_istore [1, 2, 3, 4, 5, 6, 0] [(0, .ref b), (1, .int ((nI key))), (2, .int 2), (3, .int 0), (4, .int ((nI bk))), (5, .int 1), (6, .int ((a3 0 0)))] dX8_tries_83 (by decide) rfl ?_
        refine z_aload_n (j := 0) dX8_tries_85 rfl ?_
        refine z_aload_n (j := 0) dX8_tries_86 rfl ?_
        refine z_get (v := .ref (b + 3)) (by omega) mW_obj fX8_16 rfl dX8_tries_87 ?_
        refine z_aload_n (j := 0) dX8_tries_90 rfl ?_
        refine z_get (v := .ref (b + 1)) (by omega) mW_obj fX8_7 rfl dX8_tries_91 ?_
        refine z_kV [.ref ((b + 3)), .ref ((b + 1))] 0 0 kc ks yoX8_copies yvX8_copies rfl (by decide) lX8_96 (by omega) mW_obj rfl rfl (Nat.le_of_ble_eq_true rfl) (Nat.le_of_ble_eq_true rfl) dX8_tries_94 (by omega) (by omega) (z_room (by omega) (Nat.le_refl _) (Nat.le_refl _) (r_copies (d := 0) (j := 2) (j2 := 0) hb (by decide) rfl rfl (by decide) rfl rfl (by decide) (fun a4 hd4 hr4 => ⟨rfl, ?_⟩)))
        refine z_iload_n (j := 2) dX8_tries_97 rfl ?_
        refine z_if_ne (tgt := 106) dX8_tries_98 (by decide) (fun czq98 => ?_) (fun czq98 => absurd czq98 (by decide))
        refine z_iload_n (j := 2) dX8_tries_106 rfl ?_
        refine z_iconst (v := 1) dX8_tries_107 (by decide) ?_
        refine z_icmp_ne (tgt := 115) dX8_tries_108 (by decide) (fun czq108 => ?_) (fun czq108 => absurd czq108 (by decide))
        refine z_iload (j := 6) dX8_tries_115 rfl ?_
        exact z_iret rfl dX8_tries_117 (by
            rw [htr] at hq
            simp only at hq
            rw [hMb.ro]
            exact hq s3 a4 (hT1.cp (fun i hi => by rw [hd4 i hi, hF3.2 2 (by decide) (by decide) (by decide) (by decide) (by decide), hd2 i hi])) ⟨fun k hk => (hF3.1 k hk).trans (hF1.1 k hk), fun q q0 q2 q3 q4 q7 q8 => by rw [hr4 q q0, hF3.2 q q0 q3 q4 q7 q8, hr2 q q2]; exact hF1.2 q q0 q2 q3 q4 q7 q8⟩)
  · refine z_iconst (v := (-1)) dX8_tries_8 (by decide) ?_
    exact z_iret rfl dX8_tries_9 (by
        rw [sTry_nz czq5] at hq
        exact hq s1 a1 hT1 hF1)

set_option maxHeartbeats 4000000 in
set_option maxRecDepth 100000 in
theorem R_placeFor {l : zL} {d kc ks n b : Nat} {h : Nat → va_E} {s : Nat → Int32} {a : Nat → Nat → Int32} {g : zGs} {Q : zQ} {p : Int32} (hb : b + 14 ≤ n) (hM : mI g s a) (hq : ∀ t v g' s' a', f_placeFor g p = (t, v, g') → mI g' s' a' → s' 20 = t → Q (.inl (some (.int v))) n (mW h b s' a')) : Zj l mX8_placeFor (d + 12) kc ks 0 [(0, .ref b), (1, .int p)] [] n (mW h b s a) Q := by
  obtain ⟨⟨B, H, T, K, V, c⟩, sv, Sn, k, hi, L, x, ek, eo, rl, rb⟩ := g
  obtain ⟨hT, h11, hsv, hsn, hk8, h9, hhi, hL, h14, ha9, hx256, h16, h17, hrl, h19, ha11, hrb⟩ := id hM
  obtain ⟨hV, ⟨hI, hd3, h3⟩, e3⟩ := id hT
  obtain ⟨okb, h2H, hH6, h1T, hT99, e0, e1, e2, ek_, ev_, ekv, ez⟩ := id hV
  have hle := okb.le
  refine z_aload_n (j := 0) dX8_placeFor_0 rfl ?_
  refine z_iload_n (j := 1) dX8_placeFor_1 rfl ?_
  refine z_kS [.int p] 0 0 kc ks yoX8_isKey ysX8_isKey rfl (by decide) lX8_327 rfl (Nat.le_of_ble_eq_true rfl) (Nat.le_of_ble_eq_true rfl) dX8_placeFor_2 (by omega) (by omega) (z_room (by omega) (Nat.le_refl _) (Nat.le_refl _) (r_isKey (d := 0)  ⟨rfl, ?_⟩))
  refine z_if_ne (tgt := 12) dX8_placeFor_5 (by decide) (fun czq5 => ?_) (fun czq5 => ?_)
  · have ep := bI_n.mp czq5
    obtain ⟨key, hk1, hkey, rfl, hkx⟩ := iO_yes 0 9999 (by decide) (by decide) ep
    refine z_iconst (v := 0) dX8_placeFor_12 (by decide) ?_
    refine z_kV [.int 0] 0 0 kc ks yoX8_throwsOne yvX8_throwsOne rfl (by decide) lX8_315 (by omega) mW_obj rfl rfl (Nat.le_of_ble_eq_true rfl) (Nat.le_of_ble_eq_true rfl) dX8_placeFor_13 (by omega) (by omega) (z_room (by omega) (Nat.le_refl _) (Nat.le_refl _) (w_throws1_0 (d := 0) hb ⟨rfl, ?_⟩))
    refine z_if_eq (tgt := 23) dX8_placeFor_16 (by decide) (fun czq16 => ?_) (fun czq16 => absurd rfl czq16)
    refine z_aload_n (j := 0) dX8_placeFor_23 rfl ?_
    refine z_iload_n (j := 1) dX8_placeFor_24 rfl ?_
    refine z_iconst (v := 0) dX8_placeFor_25 (by decide) ?_
    refine z_kV [.int ((nI key)), .int 0] 0 0 kc ks yoX8_tries yvX8_tries rfl (by decide) lX8_361 (by omega) mW_obj rfl rfl (Nat.le_of_ble_eq_true rfl) (Nat.le_of_ble_eq_true rfl) dX8_placeFor_26 (by omega) (by omega) (z_room (by omega) (Nat.le_refl _) (Nat.le_refl _) (m_tries0 (d := 0) (S := (B, H, T, K, V, c)) hb hT hkey (fun s1 a1 hT1 hF1 => ⟨rfl, ?_⟩)))
    exact z_iret rfl dX8_placeFor_29 (by
        exact hq 0 _ _ _ _ (by unfold f_placeFor; rw [if_pos ep, hkx]; rfl) (hM.fr hT1 (fun k hk => up_ne hk) hF1) (by rw [hF1.1 20 (by decide), up_eq]))
  · refine z_iconst (v := 1) dX8_placeFor_8 (by decide) ?_
    refine z_goto (tgt := 13) dX8_placeFor_9 (by decide) ?_
    refine z_kV [.int 1] 0 0 kc ks yoX8_throwsOne yvX8_throwsOne rfl (by decide) lX8_315 (by omega) mW_obj rfl rfl (Nat.le_of_ble_eq_true rfl) (Nat.le_of_ble_eq_true rfl) dX8_placeFor_13 (by omega) (by omega) (z_room (by omega) (Nat.le_refl _) (Nat.le_refl _) (w_throws1_1 (d := 0) hb ⟨rfl, ?_⟩))
    refine z_if_eq (tgt := 23) dX8_placeFor_16 (by decide) (fun czq16 => absurd czq16 (by decide)) (fun czq16 => ?_)
    refine z_iconst (v := 0) dX8_placeFor_19 (by decide) ?_
    refine z_goto (tgt := 29) dX8_placeFor_20 (by decide) ?_
    exact z_iret rfl dX8_placeFor_29 (hq 1 0 _ _ _ (by unfold f_placeFor; exact if_neg (bI_0.mp czq5)) hM.th (by rw [up_eq]))

set_option maxHeartbeats 4000000 in
set_option maxRecDepth 100000 in
theorem R_movesFor {l : zL} {d kc ks n b : Nat} {h : Nat → va_E} {s : Nat → Int32} {a : Nat → Nat → Int32} {g : zGs} {Q : zQ} {p : Int32} (hb : b + 14 ≤ n) (hM : mI g s a) (hq : ∀ t v g' s' a', f_movesFor g p = (t, v, g') → mI g' s' a' → s' 20 = t → Q (.inl (some (.int v))) n (mW h b s' a')) : Zj l mX8_movesFor (d + 12) kc ks 0 [(0, .ref b), (1, .int p)] [] n (mW h b s a) Q := by
  obtain ⟨⟨B, H, T, K, V, c⟩, sv, Sn, k, hi, L, x, ek, eo, rl, rb⟩ := g
  obtain ⟨hT, h11, hsv, hsn, hk8, h9, hhi, hL, h14, ha9, hx256, h16, h17, hrl, h19, ha11, hrb⟩ := id hM
  obtain ⟨hV, ⟨hI, hd3, h3⟩, e3⟩ := id hT
  obtain ⟨okb, h2H, hH6, h1T, hT99, e0, e1, e2, ek_, ev_, ekv, ez⟩ := id hV
  have hle := okb.le
  refine z_aload_n (j := 0) dX8_movesFor_0 rfl ?_
  refine z_iload_n (j := 1) dX8_movesFor_1 rfl ?_
  refine z_kS [.int p] 0 0 kc ks yoX8_isKey ysX8_isKey rfl (by decide) lX8_327 rfl (Nat.le_of_ble_eq_true rfl) (Nat.le_of_ble_eq_true rfl) dX8_movesFor_2 (by omega) (by omega) (z_room (by omega) (Nat.le_refl _) (Nat.le_refl _) (r_isKey (d := 0)  ⟨rfl, ?_⟩))
  refine z_if_ne (tgt := 12) dX8_movesFor_5 (by decide) (fun czq5 => ?_) (fun czq5 => ?_)
  · have ep := bI_n.mp czq5
    obtain ⟨key, hk1, hkey, rfl, hkx⟩ := iO_yes 0 9999 (by decide) (by decide) ep
    refine z_iconst (v := 0) dX8_movesFor_12 (by decide) ?_
    refine z_kV [.int 0] 0 0 kc ks yoX8_throwsOne yvX8_throwsOne rfl (by decide) lX8_315 (by omega) mW_obj rfl rfl (Nat.le_of_ble_eq_true rfl) (Nat.le_of_ble_eq_true rfl) dX8_movesFor_13 (by omega) (by omega) (z_room (by omega) (Nat.le_refl _) (Nat.le_refl _) (w_throws1_0 (d := 0) hb ⟨rfl, ?_⟩))
    refine z_if_eq (tgt := 23) dX8_movesFor_16 (by decide) (fun czq16 => ?_) (fun czq16 => absurd rfl czq16)
    refine z_aload_n (j := 0) dX8_movesFor_23 rfl ?_
    refine z_iload_n (j := 1) dX8_movesFor_24 rfl ?_
    refine z_iconst (v := 1) dX8_movesFor_25 (by decide) ?_
    refine z_kV [.int ((nI key)), .int 1] 0 0 kc ks yoX8_tries yvX8_tries rfl (by decide) lX8_361 (by omega) mW_obj rfl rfl (Nat.le_of_ble_eq_true rfl) (Nat.le_of_ble_eq_true rfl) dX8_movesFor_26 (by omega) (by omega) (z_room (by omega) (Nat.le_refl _) (Nat.le_refl _) (m_tries1 (d := 0) (S := (B, H, T, K, V, c)) hb hT hkey (fun s1 a1 hT1 hF1 => ⟨rfl, ?_⟩)))
    exact z_iret rfl dX8_movesFor_29 (by
        exact hq 0 _ _ _ _ (by unfold f_movesFor; rw [if_pos ep, hkx]; rfl) (hM.fr hT1 (fun k hk => up_ne hk) hF1) (by rw [hF1.1 20 (by decide), up_eq]))
  · refine z_iconst (v := 1) dX8_movesFor_8 (by decide) ?_
    refine z_goto (tgt := 13) dX8_movesFor_9 (by decide) ?_
    refine z_kV [.int 1] 0 0 kc ks yoX8_throwsOne yvX8_throwsOne rfl (by decide) lX8_315 (by omega) mW_obj rfl rfl (Nat.le_of_ble_eq_true rfl) (Nat.le_of_ble_eq_true rfl) dX8_movesFor_13 (by omega) (by omega) (z_room (by omega) (Nat.le_refl _) (Nat.le_refl _) (w_throws1_1 (d := 0) hb ⟨rfl, ?_⟩))
    refine z_if_eq (tgt := 23) dX8_movesFor_16 (by decide) (fun czq16 => absurd czq16 (by decide)) (fun czq16 => ?_)
    refine z_iconst (v := 0) dX8_movesFor_19 (by decide) ?_
    refine z_goto (tgt := 29) dX8_movesFor_20 (by decide) ?_
    exact z_iret rfl dX8_movesFor_29 (hq 1 0 _ _ _ (by unfold f_movesFor; exact if_neg (bI_0.mp czq5)) hM.th (by rw [up_eq]))

set_option maxHeartbeats 4000000 in
set_option maxRecDepth 100000 in
theorem R_bucketsAfter {l : zL} {d kc ks n b : Nat} {h : Nat → va_E} {s : Nat → Int32} {a : Nat → Nat → Int32} {g : zGs} {Q : zQ} {p : Int32} (hb : b + 14 ≤ n) (hM : mI g s a) (hq : ∀ t v g' s' a', f_bucketsAfter g p = (t, v, g') → mI g' s' a' → s' 20 = t → Q (.inl (some (.int v))) n (mW h b s' a')) : Zj l mX8_bucketsAfter (d + 12) kc ks 0 [(0, .ref b), (1, .int p)] [] n (mW h b s a) Q := by
  obtain ⟨⟨B, H, T, K, V, c⟩, sv, Sn, k, hi, L, x, ek, eo, rl, rb⟩ := g
  obtain ⟨hT, h11, hsv, hsn, hk8, h9, hhi, hL, h14, ha9, hx256, h16, h17, hrl, h19, ha11, hrb⟩ := id hM
  obtain ⟨hV, ⟨hI, hd3, h3⟩, e3⟩ := id hT
  obtain ⟨okb, h2H, hH6, h1T, hT99, e0, e1, e2, ek_, ev_, ekv, ez⟩ := id hV
  have hle := okb.le
  refine z_aload_n (j := 0) dX8_bucketsAfter_0 rfl ?_
  refine z_iload_n (j := 1) dX8_bucketsAfter_1 rfl ?_
  refine z_kS [.int p] 0 0 kc ks yoX8_isKey ysX8_isKey rfl (by decide) lX8_327 rfl (Nat.le_of_ble_eq_true rfl) (Nat.le_of_ble_eq_true rfl) dX8_bucketsAfter_2 (by omega) (by omega) (z_room (by omega) (Nat.le_refl _) (Nat.le_refl _) (r_isKey (d := 0)  ⟨rfl, ?_⟩))
  refine z_if_ne (tgt := 12) dX8_bucketsAfter_5 (by decide) (fun czq5 => ?_) (fun czq5 => ?_)
  · have ep := bI_n.mp czq5
    obtain ⟨key, hk1, hkey, rfl, hkx⟩ := iO_yes 0 9999 (by decide) (by decide) ep
    refine z_iconst (v := 0) dX8_bucketsAfter_12 (by decide) ?_
    refine z_kV [.int 0] 0 0 kc ks yoX8_throwsOne yvX8_throwsOne rfl (by decide) lX8_315 (by omega) mW_obj rfl rfl (Nat.le_of_ble_eq_true rfl) (Nat.le_of_ble_eq_true rfl) dX8_bucketsAfter_13 (by omega) (by omega) (z_room (by omega) (Nat.le_refl _) (Nat.le_refl _) (w_throws1_0 (d := 0) hb ⟨rfl, ?_⟩))
    refine z_if_eq (tgt := 23) dX8_bucketsAfter_16 (by decide) (fun czq16 => ?_) (fun czq16 => absurd rfl czq16)
    refine z_aload_n (j := 0) dX8_bucketsAfter_23 rfl ?_
    refine z_iload_n (j := 1) dX8_bucketsAfter_24 rfl ?_
    refine z_iconst (v := 2) dX8_bucketsAfter_25 (by decide) ?_
    refine z_kV [.int ((nI key)), .int 2] 0 0 kc ks yoX8_tries yvX8_tries rfl (by decide) lX8_361 (by omega) mW_obj rfl rfl (Nat.le_of_ble_eq_true rfl) (Nat.le_of_ble_eq_true rfl) dX8_bucketsAfter_26 (by omega) (by omega) (z_room (by omega) (Nat.le_refl _) (Nat.le_refl _) (m_tries2 (d := 0) (S := (B, H, T, K, V, c)) hb hT hkey (fun s1 a1 hT1 hF1 => ⟨rfl, ?_⟩)))
    exact z_iret rfl dX8_bucketsAfter_29 (by
        exact hq 0 _ _ _ _ (by unfold f_bucketsAfter; rw [if_pos ep, hkx]; rfl) (hM.fr hT1 (fun k hk => up_ne hk) hF1) (by rw [hF1.1 20 (by decide), up_eq]))
  · refine z_iconst (v := 1) dX8_bucketsAfter_8 (by decide) ?_
    refine z_goto (tgt := 13) dX8_bucketsAfter_9 (by decide) ?_
    refine z_kV [.int 1] 0 0 kc ks yoX8_throwsOne yvX8_throwsOne rfl (by decide) lX8_315 (by omega) mW_obj rfl rfl (Nat.le_of_ble_eq_true rfl) (Nat.le_of_ble_eq_true rfl) dX8_bucketsAfter_13 (by omega) (by omega) (z_room (by omega) (Nat.le_refl _) (Nat.le_refl _) (w_throws1_1 (d := 0) hb ⟨rfl, ?_⟩))
    refine z_if_eq (tgt := 23) dX8_bucketsAfter_16 (by decide) (fun czq16 => absurd czq16 (by decide)) (fun czq16 => ?_)
    refine z_iconst (v := 0) dX8_bucketsAfter_19 (by decide) ?_
    refine z_goto (tgt := 29) dX8_bucketsAfter_20 (by decide) ?_
    exact z_iret rfl dX8_bucketsAfter_29 (hq 1 0 _ _ _ (by unfold f_bucketsAfter; exact if_neg (bI_0.mp czq5)) hM.th (by rw [up_eq]))

set_option maxHeartbeats 4000000 in
set_option maxRecDepth 100000 in
theorem R_whyNoAdd {l : zL} {d kc ks n b : Nat} {h : Nat → va_E} {s : Nat → Int32} {a : Nat → Nat → Int32} {g : zGs} {Q : zQ} {p : Int32} (hb : b + 14 ≤ n) (hM : mI g s a) (hq : ∀ t v g' s' a', f_whyNoAdd g p = (t, v, g') → mI g' s' a' → s' 20 = t → Q (.inl (some (.int v))) n (mW h b s' a')) : Zj l mX8_whyNoAdd (d + 12) kc ks 0 [(0, .ref b), (1, .int p)] [] n (mW h b s a) Q := by
  obtain ⟨⟨B, H, T, K, V, c⟩, sv, Sn, k, hi, L, x, ek, eo, rl, rb⟩ := g
  obtain ⟨hT, h11, hsv, hsn, hk8, h9, hhi, hL, h14, ha9, hx256, h16, h17, hrl, h19, ha11, hrb⟩ := id hM
  obtain ⟨hV, ⟨hI, hd3, h3⟩, e3⟩ := id hT
  obtain ⟨okb, h2H, hH6, h1T, hT99, e0, e1, e2, ek_, ev_, ekv, ez⟩ := id hV
  have hle := okb.le
  refine z_aload_n (j := 0) dX8_whyNoAdd_0 rfl ?_
  refine z_iload_n (j := 1) dX8_whyNoAdd_1 rfl ?_
  refine z_kS [.int p] 0 0 kc ks yoX8_isKey ysX8_isKey rfl (by decide) lX8_327 rfl (Nat.le_of_ble_eq_true rfl) (Nat.le_of_ble_eq_true rfl) dX8_whyNoAdd_2 (by omega) (by omega) (z_room (by omega) (Nat.le_refl _) (Nat.le_refl _) (r_isKey (d := 0)  ⟨rfl, ?_⟩))
  refine z_if_ne (tgt := 12) dX8_whyNoAdd_5 (by decide) (fun czq5 => ?_) (fun czq5 => ?_)
  · have ep := bI_n.mp czq5
    obtain ⟨key, hk1, hkey, rfl, hkx⟩ := iO_yes 0 9999 (by decide) (by decide) ep
    refine z_iconst (v := 0) dX8_whyNoAdd_12 (by decide) ?_
    refine z_kV [.int 0] 0 0 kc ks yoX8_throwsOne yvX8_throwsOne rfl (by decide) lX8_315 (by omega) mW_obj rfl rfl (Nat.le_of_ble_eq_true rfl) (Nat.le_of_ble_eq_true rfl) dX8_whyNoAdd_13 (by omega) (by omega) (z_room (by omega) (Nat.le_refl _) (Nat.le_refl _) (w_throws1_0 (d := 0) hb ⟨rfl, ?_⟩))
    refine z_if_eq (tgt := 23) dX8_whyNoAdd_16 (by decide) (fun czq16 => ?_) (fun czq16 => absurd rfl czq16)
    refine z_aload_n (j := 0) dX8_whyNoAdd_23 rfl ?_
    refine z_iload_n (j := 1) dX8_whyNoAdd_24 rfl ?_
    refine z_kV [.int ((nI key))] 0 0 kc ks yoX8_whyOut yvX8_whyOut rfl (by decide) lX8_197 (by omega) mW_obj rfl rfl (Nat.le_of_ble_eq_true rfl) (Nat.le_of_ble_eq_true rfl) dX8_whyNoAdd_25 (by omega) (by omega) (z_room (by omega) (Nat.le_refl _) (Nat.le_refl _) (m_whyOut (d := 0) (S := (B, H, T, K, V, c)) hb hT hkey (fun s1 a1 hT1 hF1 => ⟨rfl, ?_⟩)))
    exact z_iret rfl dX8_whyNoAdd_28 (by
        exact hq 0 _ _ _ _ (by unfold f_whyNoAdd; rw [if_pos ep, hkx]) (hM.fr hT1 (fun k hk => up_ne hk) hF1) (by rw [hF1.1 20 (by decide), up_eq]))
  · refine z_iconst (v := 1) dX8_whyNoAdd_8 (by decide) ?_
    refine z_goto (tgt := 13) dX8_whyNoAdd_9 (by decide) ?_
    refine z_kV [.int 1] 0 0 kc ks yoX8_throwsOne yvX8_throwsOne rfl (by decide) lX8_315 (by omega) mW_obj rfl rfl (Nat.le_of_ble_eq_true rfl) (Nat.le_of_ble_eq_true rfl) dX8_whyNoAdd_13 (by omega) (by omega) (z_room (by omega) (Nat.le_refl _) (Nat.le_refl _) (w_throws1_1 (d := 0) hb ⟨rfl, ?_⟩))
    refine z_if_eq (tgt := 23) dX8_whyNoAdd_16 (by decide) (fun czq16 => absurd czq16 (by decide)) (fun czq16 => ?_)
    refine z_iconst (v := 0) dX8_whyNoAdd_19 (by decide) ?_
    refine z_goto (tgt := 28) dX8_whyNoAdd_20 (by decide) ?_
    exact z_iret rfl dX8_whyNoAdd_28 (hq 1 0 _ _ _ (by unfold f_whyNoAdd; exact if_neg (bI_0.mp czq5)) hM.th (by rw [up_eq]))

set_option maxHeartbeats 4000000 in
set_option maxRecDepth 100000 in
theorem R_pullsFor {l : zL} {d kc ks n b : Nat} {h : Nat → va_E} {s : Nat → Int32} {a : Nat → Nat → Int32} {g : zGs} {Q : zQ} {p : Int32} (hb : b + 14 ≤ n) (hM : mI g s a) (hq : ∀ t v g' s' a', f_pullsFor g p = (t, v, g') → mI g' s' a' → s' 20 = t → Q (.inl (some (.int v))) n (mW h b s' a')) : Zj l mX8_pullsFor (d + 12) kc ks 0 [(0, .ref b), (1, .int p)] [] n (mW h b s a) Q := by
  obtain ⟨⟨B, H, T, K, V, c⟩, sv, Sn, k, hi, L, x, ek, eo, rl, rb⟩ := g
  obtain ⟨hT, h11, hsv, hsn, hk8, h9, hhi, hL, h14, ha9, hx256, h16, h17, hrl, h19, ha11, hrb⟩ := id hM
  obtain ⟨hV, ⟨hI, hd3, h3⟩, e3⟩ := id hT
  obtain ⟨okb, h2H, hH6, h1T, hT99, e0, e1, e2, ek_, ev_, ekv, ez⟩ := id hV
  have hle := okb.le
  refine z_aload_n (j := 0) dX8_pullsFor_0 rfl ?_
  refine z_iload_n (j := 1) dX8_pullsFor_1 rfl ?_
  refine z_kS [.int p] 0 0 kc ks yoX8_isKey ysX8_isKey rfl (by decide) lX8_327 rfl (Nat.le_of_ble_eq_true rfl) (Nat.le_of_ble_eq_true rfl) dX8_pullsFor_2 (by omega) (by omega) (z_room (by omega) (Nat.le_refl _) (Nat.le_refl _) (r_isKey (d := 0)  ⟨rfl, ?_⟩))
  refine z_if_ne (tgt := 12) dX8_pullsFor_5 (by decide) (fun czq5 => ?_) (fun czq5 => ?_)
  · have ep := bI_n.mp czq5
    obtain ⟨key, hk1, hkey, rfl, hkx⟩ := iO_yes 0 9999 (by decide) (by decide) ep
    refine z_iconst (v := 0) dX8_pullsFor_12 (by decide) ?_
    refine z_kV [.int 0] 0 0 kc ks yoX8_throwsOne yvX8_throwsOne rfl (by decide) lX8_315 (by omega) mW_obj rfl rfl (Nat.le_of_ble_eq_true rfl) (Nat.le_of_ble_eq_true rfl) dX8_pullsFor_13 (by omega) (by omega) (z_room (by omega) (Nat.le_refl _) (Nat.le_refl _) (w_throws1_0 (d := 0) hb ⟨rfl, ?_⟩))
    refine z_if_eq (tgt := 21) dX8_pullsFor_16 (by decide) (fun czq16 => ?_) (fun czq16 => absurd rfl czq16)
    refine z_aload_n (j := 0) dX8_pullsFor_21 rfl ?_
    refine z_iload_n (j := 1) dX8_pullsFor_22 rfl ?_
    refine z_kV [.int ((nI key))] 0 0 kc ks yoX8_bucketWith yvX8_bucketWith rfl (by decide) lX8_129 (by omega) mW_obj rfl rfl (Nat.le_of_ble_eq_true rfl) (Nat.le_of_ble_eq_true rfl) dX8_pullsFor_23 (by omega) (by omega) (z_room (by omega) (Nat.le_refl _) (Nat.le_refl _) (m_find (d := 0) (S := (B, H, T, K, V, c)) hb hT hkey (fun hf => ⟨rfl, ?_⟩) (fun bk hf hbk hKb => ⟨rfl, ?_⟩)))
    · refine z_iconst (v := (-1)) dX8_pullsFor_26 (by decide) ?_
      refine z_icmp_ne (tgt := 32) dX8_pullsFor_27 (by decide) (fun czq27 => absurd rfl czq27) (fun czq27 => ?_)
      refine z_iconst (v := (-1)) dX8_pullsFor_30 (by decide) ?_
      exact z_iret rfl dX8_pullsFor_31 (by
          exact hq 0 _ _ _ _ (by unfold f_pullsFor; rw [if_pos ep, hkx]; simp only [hf] <;> rfl) hM.th (by rw [up_eq]))
    · have hbk : bk < B := hbk
      refine z_iconst (v := (-1)) dX8_pullsFor_26 (by decide) ?_
      refine z_icmp_ne (tgt := 32) dX8_pullsFor_27 (by decide) (fun czq27 => ?_) (fun czq27 => absurd czq27 (nI_neg1 (by omega)))
      refine z_aload_n (j := 0) dX8_pullsFor_32 rfl ?_
      refine z_aload_n (j := 0) dX8_pullsFor_33 rfl ?_
      refine z_get (v := .ref (b + 1)) (by omega) mW_obj fX8_7 rfl dX8_pullsFor_34 ?_
      refine z_aload_n (j := 0) dX8_pullsFor_37 rfl ?_
      refine z_get (v := .ref (b + 3)) (by omega) mW_obj fX8_16 rfl dX8_pullsFor_38 ?_
      refine z_kV [.ref ((b + 1)), .ref ((b + 3))] 0 0 kc ks yoX8_copies yvX8_copies rfl (by decide) lX8_96 (by omega) mW_obj rfl rfl (Nat.le_of_ble_eq_true rfl) (Nat.le_of_ble_eq_true rfl) dX8_pullsFor_41 (by omega) (by omega) (z_room (by omega) (Nat.le_refl _) (Nat.le_refl _) (r_copies (d := 0) (j := 0) (j2 := 2) hb (by decide) rfl rfl (by decide) rfl rfl (by decide) (fun a2 hd2 hr2 => ⟨rfl, ?_⟩)))
      have hT2 : mT (B, H, T, K, V, c) (a2 0) := by rw [hr2 0 (by decide)]; exact hT
      refine z_aload_n (j := 0) dX8_pullsFor_44 rfl ?_
      refine z_get (v := .ref (b + 1)) (by omega) mW_obj fX8_7 rfl dX8_pullsFor_45 ?_
      refine z_iconst (v := 5) dX8_pullsFor_48 (by decide) ?_
      refine m_aldN 0 137 5 (by decide) rfl rfl hb rfl (by omega) (by decide) dX8_pullsFor_49 ?_
      refine z_istore_n [1, 2, 0] [(0, .ref b), (1, .int ((nI key))), (2, .int ((a2 0 5)))] dX8_pullsFor_50 (by decide) rfl ?_
      refine z_aload_n (j := 0) dX8_pullsFor_51 rfl ?_
      refine z_iload_n (j := 1) dX8_pullsFor_52 rfl ?_
      refine z_kV [.int ((nI key))] 0 0 kc ks yoX8_takesOut yvX8_takesOut rfl (by decide) lX8_215 (by omega) mW_obj rfl rfl (Nat.le_of_ble_eq_true rfl) (Nat.le_of_ble_eq_true rfl) dX8_pullsFor_53 (by omega) (by omega) (z_room (by omega) (Nat.le_refl _) (Nat.le_refl _) (m_takesOut (d := 0) (S := (B, H, T, K, V, c)) hb hT2 hkey hf (fun a3 hMb hr3 => ⟨rfl, ?_⟩)))
      refine z_pop rfl dX8_pullsFor_56 ?_
      refine z_aload_n (j := 0) dX8_pullsFor_57 rfl ?_
      refine z_get (v := .ref (b + 1)) (by omega) mW_obj fX8_7 rfl dX8_pullsFor_58 ?_
      refine z_iconst (v := 5) dX8_pullsFor_61 (by decide) ?_
      refine m_aldN 0 137 5 (by decide) rfl rfl hb rfl (by omega) (by decide) dX8_pullsFor_62 ?_
      refine z_iload_n (j := 2) dX8_pullsFor_63 rfl ?_
      refine z_isub dX8_pullsFor_64 ?_
      refine z_istore_n [1, 2, 3, 0] [(0, .ref b), (1, .int ((nI key))), (2, .int ((a2 0 5))), (3, .int (((a3 0 5) - (a2 0 5))))] dX8_pullsFor_65 (by decide) rfl ?_
      refine z_aload_n (j := 0) dX8_pullsFor_66 rfl ?_
      refine z_aload_n (j := 0) dX8_pullsFor_67 rfl ?_
      refine z_get (v := .ref (b + 3)) (by omega) mW_obj fX8_16 rfl dX8_pullsFor_68 ?_
      refine z_aload_n (j := 0) dX8_pullsFor_71 rfl ?_
      refine z_get (v := .ref (b + 1)) (by omega) mW_obj fX8_7 rfl dX8_pullsFor_72 ?_
      refine z_kV [.ref ((b + 3)), .ref ((b + 1))] 0 0 kc ks yoX8_copies yvX8_copies rfl (by decide) lX8_96 (by omega) mW_obj rfl rfl (Nat.le_of_ble_eq_true rfl) (Nat.le_of_ble_eq_true rfl) dX8_pullsFor_75 (by omega) (by omega) (z_room (by omega) (Nat.le_refl _) (Nat.le_refl _) (r_copies (d := 0) (j := 2) (j2 := 0) hb (by decide) rfl rfl (by decide) rfl rfl (by decide) (fun a4 hd4 hr4 => ⟨rfl, ?_⟩)))
      refine z_iload_n (j := 3) dX8_pullsFor_78 rfl ?_
      exact z_iret rfl dX8_pullsFor_79 (by
          rw [hMb.r3 5 (by decide) (by decide), hT2.r3 5 (by decide) (by decide)]
          exact hq 0 _ _ _ _ (by unfold f_pullsFor; rw [if_pos ep, hkx]; simp only [hf] <;> rfl) (hM.cp (hT.cp (fun i hi => by rw [hd4 i hi, hr3 2 (by decide), hd2 i hi])) (fun k hk => up_ne (by omega)) (fun q hq5 => by rw [hr4 q (by omega), hr3 q (by omega), hr2 q (by omega)])) (by rw [up_eq]))
  · refine z_iconst (v := 1) dX8_pullsFor_8 (by decide) ?_
    refine z_goto (tgt := 13) dX8_pullsFor_9 (by decide) ?_
    refine z_kV [.int 1] 0 0 kc ks yoX8_throwsOne yvX8_throwsOne rfl (by decide) lX8_315 (by omega) mW_obj rfl rfl (Nat.le_of_ble_eq_true rfl) (Nat.le_of_ble_eq_true rfl) dX8_pullsFor_13 (by omega) (by omega) (z_room (by omega) (Nat.le_refl _) (Nat.le_refl _) (w_throws1_1 (d := 0) hb ⟨rfl, ?_⟩))
    refine z_if_eq (tgt := 21) dX8_pullsFor_16 (by decide) (fun czq16 => absurd czq16 (by decide)) (fun czq16 => ?_)
    refine z_iconst (v := 0) dX8_pullsFor_19 (by decide) ?_
    exact z_iret rfl dX8_pullsFor_20 (hq 1 0 _ _ _ (by unfold f_pullsFor; exact if_neg (bI_0.mp czq5)) hM.th (by rw [up_eq]))

set_option maxHeartbeats 4000000 in
set_option maxRecDepth 100000 in
theorem R_bucketsWith {l : zL} {d kc ks n b : Nat} {h : Nat → va_E} {s : Nat → Int32} {a : Nat → Nat → Int32} {g : zGs} {Q : zQ} {p : Int32} (hb : b + 14 ≤ n) (hM : mI g s a) (hq : ∀ t v g' s' a', f_bucketsWith g p = (t, v, g') → mI g' s' a' → s' 20 = t → Q (.inl (some (.int v))) n (mW h b s' a')) : Zj l mX8_bucketsWith (d + 12) kc ks 0 [(0, .ref b), (1, .int p)] [] n (mW h b s a) Q := by
  obtain ⟨⟨B, H, T, K, V, c⟩, sv, Sn, k, hi, L, x, ek, eo, rl, rb⟩ := g
  obtain ⟨hT, h11, hsv, hsn, hk8, h9, hhi, hL, h14, ha9, hx256, h16, h17, hrl, h19, ha11, hrb⟩ := id hM
  obtain ⟨hV, ⟨hI, hd3, h3⟩, e3⟩ := id hT
  obtain ⟨okb, h2H, hH6, h1T, hT99, e0, e1, e2, ek_, ev_, ekv, ez⟩ := id hV
  have hle := okb.le
  refine z_aload_n (j := 0) dX8_bucketsWith_0 rfl ?_
  refine z_iload_n (j := 1) dX8_bucketsWith_1 rfl ?_
  refine z_iconst (v := 2) dX8_bucketsWith_2 (by decide) ?_
  refine z_bipush (v := 6) dX8_bucketsWith_3 (by decide) ?_
  refine z_kS [.int p, .int 2, .int 6] 0 0 kc ks yoX8_in ysX8_in rfl (by decide) lX8_67 rfl (Nat.le_of_ble_eq_true rfl) (Nat.le_of_ble_eq_true rfl) dX8_bucketsWith_5 (by omega) (by omega) (z_room (by omega) (Nat.le_refl _) (Nat.le_refl _) (r_in (d := 0)  ⟨rfl, ?_⟩))
  refine z_if_ne (tgt := 15) dX8_bucketsWith_8 (by decide) (fun czq8 => ?_) (fun czq8 => ?_)
  · have ep := bI_n.mp czq8
    obtain ⟨y, hk1, hk2, rfl, hkx⟩ := iO_yes 2 6 (by decide) (by decide) ep
    refine z_iconst (v := 0) dX8_bucketsWith_15 (by decide) ?_
    refine z_kV [.int 0] 0 0 kc ks yoX8_throwsOne yvX8_throwsOne rfl (by decide) lX8_315 (by omega) mW_obj rfl rfl (Nat.le_of_ble_eq_true rfl) (Nat.le_of_ble_eq_true rfl) dX8_bucketsWith_16 (by omega) (by omega) (z_room (by omega) (Nat.le_refl _) (Nat.le_refl _) (w_throws1_0 (d := 0) hb ⟨rfl, ?_⟩))
    refine z_if_eq (tgt := 24) dX8_bucketsWith_19 (by decide) (fun czq19 => ?_) (fun czq19 => absurd rfl czq19)
    refine z_aload_n (j := 0) dX8_bucketsWith_24 rfl ?_
    refine z_aload_n (j := 0) dX8_bucketsWith_25 rfl ?_
    refine z_get (v := .ref (b + 1)) (by omega) mW_obj fX8_7 rfl dX8_bucketsWith_26 ?_
    refine z_aload_n (j := 0) dX8_bucketsWith_29 rfl ?_
    refine z_get (v := .ref (b + 3)) (by omega) mW_obj fX8_16 rfl dX8_bucketsWith_30 ?_
    refine z_kV [.ref ((b + 1)), .ref ((b + 3))] 0 0 kc ks yoX8_copies yvX8_copies rfl (by decide) lX8_96 (by omega) mW_obj rfl rfl (Nat.le_of_ble_eq_true rfl) (Nat.le_of_ble_eq_true rfl) dX8_bucketsWith_33 (by omega) (by omega) (z_room (by omega) (Nat.le_refl _) (Nat.le_refl _) (r_copies (d := 0) (j := 0) (j2 := 2) hb (by decide) rfl rfl (by decide) rfl rfl (by decide) (fun a2 hd2 hr2 => ⟨rfl, ?_⟩)))
    have hT2 : mT (B, H, T, K, V, c) (a2 0) := by rw [hr2 0 (by decide)]; exact hT
    refine z_aload_n (j := 0) dX8_bucketsWith_36 rfl ?_
    refine z_iconst (v := 1) dX8_bucketsWith_37 (by decide) ?_
    refine z_iload_n (j := 1) dX8_bucketsWith_38 rfl ?_
    refine z_kV [.int 1, .int ((nI y))] 0 0 kc ks yoX8_resets yvX8_resets rfl (by decide) lX8_145 (by omega) mW_obj rfl rfl (Nat.le_of_ble_eq_true rfl) (Nat.le_of_ble_eq_true rfl) dX8_bucketsWith_39 (by omega) (by omega) (z_room (by omega) (Nat.le_refl _) (Nat.le_refl _) (m_near (d := 0) (S := (B, H, T, K, V, c)) hb hT2 hk1 hk2 (fun s3 a3 ea hF3 => ⟨rfl, ?_⟩) (fun S' s3 a3 ea hMb hF3 => ⟨rfl, ?_⟩)))
    · refine z_if_eq (tgt := 54) dX8_bucketsWith_42 (by decide) (fun czq42 => ?_) (fun czq42 => absurd rfl czq42)
      refine z_iconst (v := (-1)) dX8_bucketsWith_54 (by decide) ?_
      refine z_istore_n [1, 2, 0] [(0, .ref b), (1, .int ((nI y))), (2, .int ((-1)))] dX8_bucketsWith_55 (by decide) rfl ?_
      refine z_aload_n (j := 0) dX8_bucketsWith_56 rfl ?_
      refine z_aload_n (j := 0) dX8_bucketsWith_57 rfl ?_
      refine z_get (v := .ref (b + 3)) (by omega) mW_obj fX8_16 rfl dX8_bucketsWith_58 ?_
      refine z_aload_n (j := 0) dX8_bucketsWith_61 rfl ?_
      refine z_get (v := .ref (b + 1)) (by omega) mW_obj fX8_7 rfl dX8_bucketsWith_62 ?_
      refine z_kV [.ref ((b + 3)), .ref ((b + 1))] 0 0 kc ks yoX8_copies yvX8_copies rfl (by decide) lX8_96 (by omega) mW_obj rfl rfl (Nat.le_of_ble_eq_true rfl) (Nat.le_of_ble_eq_true rfl) dX8_bucketsWith_65 (by omega) (by omega) (z_room (by omega) (Nat.le_refl _) (Nat.le_refl _) (r_copies (d := 0) (j := 2) (j2 := 0) hb (by decide) rfl rfl (by decide) rfl rfl (by decide) (fun a4 hd4 hr4 => ⟨rfl, ?_⟩)))
      refine z_iload_n (j := 2) dX8_bucketsWith_68 rfl ?_
      exact z_iret rfl dX8_bucketsWith_69 (by
          exact hq 0 _ _ _ _ (by unfold f_bucketsWith; rw [if_pos ep, hkx]; simp only [ea] <;> rfl) (hM.cp (hT.cp (fun i hi => by rw [hd4 i hi, hF3.2 2 (by decide) (by decide) (by decide) (by decide) (by decide), hd2 i hi])) (fun k hk => (hF3.1 k (by omega)).trans (up_ne (by omega))) (fun q hq5 => by rw [hr4 q (by omega), hF3.2 q (by omega) (by omega) (by omega) (by omega) (by omega), hr2 q (by omega)])) (by rw [hF3.1 20 (by decide), up_eq]))
    · refine z_if_eq (tgt := 54) dX8_bucketsWith_42 (by decide) (fun czq42 => absurd czq42 (by decide)) (fun czq42 => ?_)
      refine z_aload_n (j := 0) dX8_bucketsWith_45 rfl ?_
      refine z_get (v := .ref (b + 1)) (by omega) mW_obj fX8_7 rfl dX8_bucketsWith_46 ?_
      refine z_iconst (v := 0) dX8_bucketsWith_49 (by decide) ?_
      refine m_aldN 0 137 0 (by decide) rfl rfl hb rfl (by omega) (by decide) dX8_bucketsWith_50 ?_
      refine z_goto (tgt := 55) dX8_bucketsWith_51 (by decide) ?_
      refine z_istore_n [1, 2, 0] [(0, .ref b), (1, .int ((nI y))), (2, .int ((a3 0 0)))] dX8_bucketsWith_55 (by decide) rfl ?_
      refine z_aload_n (j := 0) dX8_bucketsWith_56 rfl ?_
      refine z_aload_n (j := 0) dX8_bucketsWith_57 rfl ?_
      refine z_get (v := .ref (b + 3)) (by omega) mW_obj fX8_16 rfl dX8_bucketsWith_58 ?_
      refine z_aload_n (j := 0) dX8_bucketsWith_61 rfl ?_
      refine z_get (v := .ref (b + 1)) (by omega) mW_obj fX8_7 rfl dX8_bucketsWith_62 ?_
      refine z_kV [.ref ((b + 3)), .ref ((b + 1))] 0 0 kc ks yoX8_copies yvX8_copies rfl (by decide) lX8_96 (by omega) mW_obj rfl rfl (Nat.le_of_ble_eq_true rfl) (Nat.le_of_ble_eq_true rfl) dX8_bucketsWith_65 (by omega) (by omega) (z_room (by omega) (Nat.le_refl _) (Nat.le_refl _) (r_copies (d := 0) (j := 2) (j2 := 0) hb (by decide) rfl rfl (by decide) rfl rfl (by decide) (fun a4 hd4 hr4 => ⟨rfl, ?_⟩)))
      refine z_iload_n (j := 2) dX8_bucketsWith_68 rfl ?_
      exact z_iret rfl dX8_bucketsWith_69 (by
          rw [hMb.ro]
          exact hq 0 _ _ _ _ (by unfold f_bucketsWith; rw [if_pos ep, hkx]; simp only [ea] <;> rfl) (hM.cp (hT.cp (fun i hi => by rw [hd4 i hi, hF3.2 2 (by decide) (by decide) (by decide) (by decide) (by decide), hd2 i hi])) (fun k hk => (hF3.1 k (by omega)).trans (up_ne (by omega))) (fun q hq5 => by rw [hr4 q (by omega), hF3.2 q (by omega) (by omega) (by omega) (by omega) (by omega), hr2 q (by omega)])) (by rw [hF3.1 20 (by decide), up_eq]))
  · refine z_iconst (v := 1) dX8_bucketsWith_11 (by decide) ?_
    refine z_goto (tgt := 16) dX8_bucketsWith_12 (by decide) ?_
    refine z_kV [.int 1] 0 0 kc ks yoX8_throwsOne yvX8_throwsOne rfl (by decide) lX8_315 (by omega) mW_obj rfl rfl (Nat.le_of_ble_eq_true rfl) (Nat.le_of_ble_eq_true rfl) dX8_bucketsWith_16 (by omega) (by omega) (z_room (by omega) (Nat.le_refl _) (Nat.le_refl _) (w_throws1_1 (d := 0) hb ⟨rfl, ?_⟩))
    refine z_if_eq (tgt := 24) dX8_bucketsWith_19 (by decide) (fun czq19 => absurd czq19 (by decide)) (fun czq19 => ?_)
    refine z_iconst (v := 0) dX8_bucketsWith_22 (by decide) ?_
    exact z_iret rfl dX8_bucketsWith_23 (hq 1 0 _ _ _ (by unfold f_bucketsWith; exact if_neg (bI_0.mp czq8)) hM.th (by rw [up_eq]))

theorem m_off {l : zL} {d kc ks n b : Nat} {h : Nat → va_E} {s : Nat → Int32} {a : Nat → Nat → Int32} {Q : zQ} {S : zS} (hb : b + 14 ≤ n) (hT : mT S (a 0)) (hq : Q (.inl (some (.int (nI (sSum S))))) n (mW h b s a)) : Zj l mX8_offTogether (d + 2) kc ks 0 [(0, .ref b)] [] n (mW h b s a) Q := by
  obtain ⟨B, H, T, K, V, c⟩ := S
  exact r_offTogether hb hT.1 hq

set_option maxHeartbeats 4000000 in
set_option maxRecDepth 100000 in
theorem m_sumWith {l : zL} {d kc ks n b : Nat} {h : Nat → va_E} {s : Nat → Int32} {a : Nat → Nat → Int32} {Q : zQ} {S : zS} {m0 : Nat} (hb : b + 14 ≤ n) (hT : mT S (a 0)) (hm1 : 1 ≤ m0) (hm2 : m0 ≤ 99) (hq : ∀ s' a', mT S (a' 0) → mF0 s a s' a' → Q (.inl (some (.int (match sWith S m0 with | none => (-1 : Int32) | some z => nI z)))) n (mW h b s' a')) : Zj l mX8_sumWith (d + 8) kc ks 0 [(0, .ref b), (1, .int ((nI m0)))] [] n (mW h b s a) Q := by
  refine z_aload_n (j := 0) dX8_sumWith_0 rfl ?_
  refine z_aload_n (j := 0) dX8_sumWith_1 rfl ?_
  refine z_get (v := .ref (b + 1)) (by omega) mW_obj fX8_7 rfl dX8_sumWith_2 ?_
  refine z_aload_n (j := 0) dX8_sumWith_5 rfl ?_
  refine z_get (v := .ref (b + 3)) (by omega) mW_obj fX8_16 rfl dX8_sumWith_6 ?_
  refine z_kV [.ref ((b + 1)), .ref ((b + 3))] 0 0 kc ks yoX8_copies yvX8_copies rfl (by decide) lX8_96 (by omega) mW_obj rfl rfl (Nat.le_of_ble_eq_true rfl) (Nat.le_of_ble_eq_true rfl) dX8_sumWith_9 (by omega) (by omega) (z_room (by omega) (Nat.le_refl _) (Nat.le_refl _) (r_copies (d := 0) (j := 0) (j2 := 2) hb (by decide) rfl rfl (by decide) rfl rfl (by decide) (fun a2 hd2 hr2 => ⟨rfl, ?_⟩)))
  have hT2 : mT S (a2 0) := by rw [hr2 0 (by decide)]; exact hT
  refine z_aload_n (j := 0) dX8_sumWith_12 rfl ?_
  refine z_iconst (v := 2) dX8_sumWith_13 (by decide) ?_
  refine z_iload_n (j := 1) dX8_sumWith_14 rfl ?_
  refine z_kV [.int 2, .int ((nI m0))] 0 0 kc ks yoX8_resets yvX8_resets rfl (by decide) lX8_145 (by omega) mW_obj rfl rfl (Nat.le_of_ble_eq_true rfl) (Nat.le_of_ble_eq_true rfl) dX8_sumWith_15 (by omega) (by omega) (z_room (by omega) (Nat.le_refl _) (Nat.le_refl _) (m_times (d := 0) (S := S) hb hT2 hm1 hm2 (fun s3 a3 ea hF3 => ⟨rfl, ?_⟩) (fun S' s3 a3 ea hMb hF3 => ⟨rfl, ?_⟩)))
  · have hsw : sWith S m0 = none := by unfold sWith; simp only [ea]
    rw [hsw] at hq
    simp only at hq
    refine z_if_eq (tgt := 40) dX8_sumWith_18 (by decide) (fun czq18 => ?_) (fun czq18 => absurd rfl czq18)
    refine z_iconst (v := 0) dX8_sumWith_40 (by decide) ?_
    refine z_istore_n [1, 2, 0] [(0, .ref b), (1, .int ((nI m0))), (2, .int 0)] dX8_sumWith_41 (by decide) rfl ?_
    refine z_iload_n (j := 2) dX8_sumWith_42 rfl ?_
    refine z_if_eq (tgt := 53) dX8_sumWith_43 (by decide) (fun czq43 => ?_) (fun czq43 => absurd rfl czq43)
    refine z_iconst (v := (-1)) dX8_sumWith_53 (by decide) ?_
    refine z_istore_n [1, 2, 3, 0] [(0, .ref b), (1, .int ((nI m0))), (2, .int 0), (3, .int ((-1)))] dX8_sumWith_54 (by decide) rfl ?_
    refine z_aload_n (j := 0) dX8_sumWith_55 rfl ?_
    refine z_aload_n (j := 0) dX8_sumWith_56 rfl ?_
    refine z_get (v := .ref (b + 3)) (by omega) mW_obj fX8_16 rfl dX8_sumWith_57 ?_
    refine z_aload_n (j := 0) dX8_sumWith_60 rfl ?_
    refine z_get (v := .ref (b + 1)) (by omega) mW_obj fX8_7 rfl dX8_sumWith_61 ?_
    refine z_kV [.ref ((b + 3)), .ref ((b + 1))] 0 0 kc ks yoX8_copies yvX8_copies rfl (by decide) lX8_96 (by omega) mW_obj rfl rfl (Nat.le_of_ble_eq_true rfl) (Nat.le_of_ble_eq_true rfl) dX8_sumWith_64 (by omega) (by omega) (z_room (by omega) (Nat.le_refl _) (Nat.le_refl _) (r_copies (d := 0) (j := 2) (j2 := 0) hb (by decide) rfl rfl (by decide) rfl rfl (by decide) (fun a4 hd4 hr4 => ⟨rfl, ?_⟩)))
    refine z_iload_n (j := 3) dX8_sumWith_67 rfl ?_
    exact z_iret rfl dX8_sumWith_68 (by
        exact hq s3 a4 (hT.cp (fun i hi => by rw [hd4 i hi, hF3.2 2 (by decide) (by decide) (by decide) (by decide) (by decide), hd2 i hi])) ⟨fun k hk => hF3.1 k hk, fun q q0 q2 q3 q4 q7 q8 => by rw [hr4 q q0, hF3.2 q q0 q3 q4 q7 q8, hr2 q q2]⟩)
  · have hr20 : a3 2 0 = nI S.1 := by rw [hF3.2 2 (by decide) (by decide) (by decide) (by decide) (by decide), hd2 0 (by decide), hT.ro]
    refine z_if_eq (tgt := 40) dX8_sumWith_18 (by decide) (fun czq18 => absurd czq18 (by decide)) (fun czq18 => ?_)
    refine z_aload_n (j := 0) dX8_sumWith_21 rfl ?_
    refine z_get (v := .ref (b + 1)) (by omega) mW_obj fX8_7 rfl dX8_sumWith_22 ?_
    refine z_iconst (v := 0) dX8_sumWith_25 (by decide) ?_
    refine m_aldN 0 137 0 (by decide) rfl rfl hb rfl (by omega) (by decide) dX8_sumWith_26 ?_
    refine z_aload_n (j := 0) dX8_sumWith_27 rfl ?_
    refine z_get (v := .ref (b + 3)) (by omega) mW_obj fX8_16 rfl dX8_sumWith_28 ?_
    refine z_iconst (v := 0) dX8_sumWith_31 (by decide) ?_
    refine m_aldN 2 137 0 (by decide) rfl rfl hb rfl (by omega) (by decide) dX8_sumWith_32 ?_
    refine z_icmp_ne (tgt := 40) dX8_sumWith_33 (by decide) (fun czq33 => ?_) (fun czq33 => ?_)
    · have hne : ¬ S'.1 = S.1 := fun q => czq33 (by rw [hMb.ro, hr20, q])
      have hsw : sWith S m0 = none := by
        unfold sWith
        simp only [ea]
        rw [if_neg hne]
      rw [hsw] at hq
      simp only at hq
      refine z_iconst (v := 0) dX8_sumWith_40 (by decide) ?_
      refine z_istore_n [1, 2, 0] [(0, .ref b), (1, .int ((nI m0))), (2, .int 0)] dX8_sumWith_41 (by decide) rfl ?_
      refine z_iload_n (j := 2) dX8_sumWith_42 rfl ?_
      refine z_if_eq (tgt := 53) dX8_sumWith_43 (by decide) (fun czq43 => ?_) (fun czq43 => absurd rfl czq43)
      refine z_iconst (v := (-1)) dX8_sumWith_53 (by decide) ?_
      refine z_istore_n [1, 2, 3, 0] [(0, .ref b), (1, .int ((nI m0))), (2, .int 0), (3, .int ((-1)))] dX8_sumWith_54 (by decide) rfl ?_
      refine z_aload_n (j := 0) dX8_sumWith_55 rfl ?_
      refine z_aload_n (j := 0) dX8_sumWith_56 rfl ?_
      refine z_get (v := .ref (b + 3)) (by omega) mW_obj fX8_16 rfl dX8_sumWith_57 ?_
      refine z_aload_n (j := 0) dX8_sumWith_60 rfl ?_
      refine z_get (v := .ref (b + 1)) (by omega) mW_obj fX8_7 rfl dX8_sumWith_61 ?_
      refine z_kV [.ref ((b + 3)), .ref ((b + 1))] 0 0 kc ks yoX8_copies yvX8_copies rfl (by decide) lX8_96 (by omega) mW_obj rfl rfl (Nat.le_of_ble_eq_true rfl) (Nat.le_of_ble_eq_true rfl) dX8_sumWith_64 (by omega) (by omega) (z_room (by omega) (Nat.le_refl _) (Nat.le_refl _) (r_copies (d := 0) (j := 2) (j2 := 0) hb (by decide) rfl rfl (by decide) rfl rfl (by decide) (fun a4 hd4 hr4 => ⟨rfl, ?_⟩)))
      refine z_iload_n (j := 3) dX8_sumWith_67 rfl ?_
      exact z_iret rfl dX8_sumWith_68 (by
          exact hq s3 a4 (hT.cp (fun i hi => by rw [hd4 i hi, hF3.2 2 (by decide) (by decide) (by decide) (by decide) (by decide), hd2 i hi])) ⟨fun k hk => hF3.1 k hk, fun q q0 q2 q3 q4 q7 q8 => by rw [hr4 q q0, hF3.2 q q0 q3 q4 q7 q8, hr2 q q2]⟩)
    · have heB : S'.1 = S.1 := (nI_eq (by have := hMb.okb.le; omega) (by have := hT.okb.le; omega)).mp (by rw [← hMb.ro, ← hr20]; exact czq33)
      have hsw : sWith S m0 = some (sSum S') := by
        unfold sWith
        simp only [ea]
        rw [if_pos heB]
      rw [hsw] at hq
      simp only at hq
      refine z_iconst (v := 1) dX8_sumWith_36 (by decide) ?_
      refine z_goto (tgt := 41) dX8_sumWith_37 (by decide) ?_
      refine z_istore_n [1, 2, 0] [(0, .ref b), (1, .int ((nI m0))), (2, .int 1)] dX8_sumWith_41 (by decide) rfl ?_
      refine z_iload_n (j := 2) dX8_sumWith_42 rfl ?_
      refine z_if_eq (tgt := 53) dX8_sumWith_43 (by decide) (fun czq43 => absurd czq43 (by decide)) (fun czq43 => ?_)
      refine z_aload_n (j := 0) dX8_sumWith_46 rfl ?_
      refine z_kV [] 0 0 kc ks yoX8_offTogether yvX8_offTogether rfl (by decide) lX8_358 (by omega) mW_obj rfl rfl (Nat.le_of_ble_eq_true rfl) (Nat.le_of_ble_eq_true rfl) dX8_sumWith_47 (by omega) (by omega) (z_room (by omega) (Nat.le_refl _) (Nat.le_refl _) (m_off (d := 0) hb hMb ⟨rfl, ?_⟩))
      refine z_goto (tgt := 54) dX8_sumWith_50 (by decide) ?_
      refine z_istore_n [1, 2, 3, 0] [(0, .ref b), (1, .int ((nI m0))), (2, .int 1), (3, .int ((nI (sSum S'))))] dX8_sumWith_54 (by decide) rfl ?_
      refine z_aload_n (j := 0) dX8_sumWith_55 rfl ?_
      refine z_aload_n (j := 0) dX8_sumWith_56 rfl ?_
      refine z_get (v := .ref (b + 3)) (by omega) mW_obj fX8_16 rfl dX8_sumWith_57 ?_
      refine z_aload_n (j := 0) dX8_sumWith_60 rfl ?_
      refine z_get (v := .ref (b + 1)) (by omega) mW_obj fX8_7 rfl dX8_sumWith_61 ?_
      refine z_kV [.ref ((b + 3)), .ref ((b + 1))] 0 0 kc ks yoX8_copies yvX8_copies rfl (by decide) lX8_96 (by omega) mW_obj rfl rfl (Nat.le_of_ble_eq_true rfl) (Nat.le_of_ble_eq_true rfl) dX8_sumWith_64 (by omega) (by omega) (z_room (by omega) (Nat.le_refl _) (Nat.le_refl _) (r_copies (d := 0) (j := 2) (j2 := 0) hb (by decide) rfl rfl (by decide) rfl rfl (by decide) (fun a4 hd4 hr4 => ⟨rfl, ?_⟩)))
      refine z_iload_n (j := 3) dX8_sumWith_67 rfl ?_
      exact z_iret rfl dX8_sumWith_68 (by
          exact hq s3 a4 (hT.cp (fun i hi => by rw [hd4 i hi, hF3.2 2 (by decide) (by decide) (by decide) (by decide) (by decide), hd2 i hi])) ⟨fun k hk => hF3.1 k hk, fun q q0 q2 q3 q4 q7 q8 => by rw [hr4 q q0, hF3.2 q q0 q3 q4 q7 q8, hr2 q q2]⟩)

theorem sWith_le {S : zS} {m0 z : Nat} {r : Nat → Int32} (hT : mT S r) (h1 : 1 ≤ m0) (h99 : m0 ≤ 99) (h : sWith S m0 = some z) : z ≤ 64 * 64 := by
  unfold sWith at h
  cases ht : sTimes S m0 with
  | none => rw [ht] at h; cases h
  | some S' =>
    rw [ht] at h
    simp only at h
    split at h
    · cases h
      obtain ⟨B, H, T, K, V, c⟩ := S
      have okb := hT.1.1
      obtain ⟨B', H', T', K', V', c'⟩ := S'
      have hb : okB B' := by
        have h2 : sSet (B, H, T, K, V, c) H m0 (wid B + 1) = some (B', H', T', K', V', c') := ht
        cases hr : rbR H m0 (entL K V B) (wid B + 1) with
        | none => rw [sSet_none.mpr hr] at h2; cases h2
        | some q =>
          obtain ⟨B1, K1, V1, c1⟩ := q
          rw [sSet_some hr] at h2
          cases h2
          exact (rbR_B _ _ _ _ _ (by have := (wid_2 okb).1; omega) hr).1
      have hle := hb.le
      have h1 := sumN_le (f := offN B' T' K') (M := 64) (fun i => offN_le hb i) B'
      have h2 : 64 * B' ≤ 64 * 64 := Nat.mul_le_mul_left 64 hle.2
      show sumN (offN B' T' K') B' ≤ 64 * 64
      omega
    · cases h
theorem m_sumN {l : zL} {d kc ks n b : Nat} {h : Nat → va_E} {s : Nat → Int32} {a : Nat → Nat → Int32} {Q : zQ} {S : zS} {m0 : Nat} (hb : b + 14 ≤ n) (hT : mT S (a 0)) (hm1 : 1 ≤ m0) (hm2 : m0 ≤ 99) (hsw : sWith S m0 = none) (hq : ∀ s' a', mT S (a' 0) → mF0 s a s' a' → Q (.inl (some (.int (-1)))) n (mW h b s' a')) : Zj l mX8_sumWith (d + 8) kc ks 0 [(0, .ref b), (1, .int (nI m0))] [] n (mW h b s a) Q :=
  m_sumWith hb hT hm1 hm2 (fun s' a' h1 h2 => by rw [hsw]; exact hq s' a' h1 h2)
theorem m_sumS {l : zL} {d kc ks n b : Nat} {h : Nat → va_E} {s : Nat → Int32} {a : Nat → Nat → Int32} {Q : zQ} {S : zS} {m0 z : Nat} (hb : b + 14 ≤ n) (hT : mT S (a 0)) (hm1 : 1 ≤ m0) (hm2 : m0 ≤ 99) (hsw : sWith S m0 = some z) (hq : ∀ s' a', mT S (a' 0) → mF0 s a s' a' → Q (.inl (some (.int (nI z)))) n (mW h b s' a')) : Zj l mX8_sumWith (d + 8) kc ks 0 [(0, .ref b), (1, .int (nI m0))] [] n (mW h b s a) Q :=
  m_sumWith hb hT hm1 hm2 (fun s' a' h1 h2 => by rw [hsw]; exact hq s' a' h1 h2)

set_option maxHeartbeats 4000000 in
set_option maxRecDepth 100000 in
theorem r_best_l {l : zL} {d kc ks n b : Nat} {h : Nat → va_E} {S : zS} {Q : zQ} {M : Nat} (hb : b + 14 ≤ n) (hM : M ≤ 30) : ∀ j m0 (f : Option Nat) (le : Nat), m0 + j = M + 1 → le ≤ 64 * 64 → ∀ (s : Nat → Int32) (a : Nat → Nat → Int32), mT S (a 0) → (∀ f0, f = some f0 → f0 ≤ 30) → 1 ≤ m0 → (∀ s' a', mT S (a' 0) → mF0 s a s' a' → Q (.inl (some (.int (optI (bstF S j m0 f le))))) n (mW h b s' a')) → Zj l mX8_bestMultiplier (d + 9) kc ks 31 [(0, .ref b), (1, .int ((nI M))), (2, .int ((optI f))), (3, .int ((nI le))), (4, .int ((nI m0)))] [] n (mW h b s a) Q := by
  intro j
  induction j with
  | zero =>
    intro m0 f le hm hle9 s a hT hf30 h1m hq
    refine z_iload (j := 4) dX8_bestMultiplier_31 rfl ?_
    refine z_iload_n (j := 1) dX8_bestMultiplier_33 rfl ?_
    refine z_icmp_gt (tgt := 74) dX8_bestMultiplier_34 (by decide) (fun czq34 => ?_) (fun czq34 => absurd (nI_lt (by omega) (by omega)) czq34)
    refine z_iload_n (j := 2) dX8_bestMultiplier_74 rfl ?_
    exact z_iret rfl dX8_bestMultiplier_75 (hq s a hT ⟨fun _ _ => rfl, fun _ _ _ _ _ _ _ => rfl⟩)
  | succ j ih =>
    intro m0 f le hm hle9 s a hT hf30 h1m hq
    cases hsw : sWith S m0 with
    | none =>
      refine z_iload (j := 4) dX8_bestMultiplier_31 rfl ?_
      refine z_iload_n (j := 1) dX8_bestMultiplier_33 rfl ?_
      refine z_icmp_gt (tgt := 74) dX8_bestMultiplier_34 (by decide) (fun czq34 => absurd czq34 (nI_nlt (by omega) (by omega))) (fun czq34 => ?_)
      refine z_aload_n (j := 0) dX8_bestMultiplier_37 rfl ?_
      refine z_iload (j := 4) dX8_bestMultiplier_38 rfl ?_
      refine z_kV [.int ((nI m0))] 0 0 kc ks yoX8_sumWith yvX8_sumWith rfl (by decide) lX8_364 (by omega) mW_obj rfl rfl (Nat.le_of_ble_eq_true rfl) (Nat.le_of_ble_eq_true rfl) dX8_bestMultiplier_40 (by omega) (by omega) (z_room (by omega) (Nat.le_refl _) (Nat.le_refl _) (m_sumN (d := 0) (S := S) hb hT h1m (by omega) hsw (fun s1 a1 hT1 hF1 => ⟨rfl, ?_⟩)))
      skip
      refine z_istore [1, 2, 3, 4, 5, 0] [(0, .ref b), (1, .int ((nI M))), (2, .int ((optI f))), (3, .int ((nI le))), (4, .int ((nI m0))), (5, .int ((-1)))] dX8_bestMultiplier_43 (by decide) rfl ?_
      refine z_iload (j := 5) dX8_bestMultiplier_45 rfl ?_
      refine z_iconst (v := (-1)) dX8_bestMultiplier_47 (by decide) ?_
      refine z_icmp_eq (tgt := 68) dX8_bestMultiplier_48 (by decide) (fun czq48 => ?_) (fun czq48 => absurd rfl czq48)
      skip
      refine z_iinc ((nI (m0 + 1))) [1, 2, 3, 4, 0, 5] [(0, .ref b), (1, .int ((nI M))), (2, .int ((optI f))), (3, .int ((nI le))), (4, .int ((nI (m0 + 1)))), (5, .int ((-1)))] dX8_bestMultiplier_68 (j := 4) rfl (nI_1 m0) (by decide) rfl ?_
      refine z_goto (tgt := 31) dX8_bestMultiplier_71 (by decide) ?_
      refine z_lv [(0, .ref b), (1, .int ((nI M))), (2, .int ((optI f))), (3, .int ((nI le))), (4, .int ((nI (m0 + 1))))] [0, 1, 2, 3, 4] rfl ?_
      refine ih (m0 + 1) f le (by omega) hle9 s1 a1 hT1 hf30 (by omega) (fun s2 a2 h9 h10 => ?_)
      have q := hq s2 a2 h9 ⟨fun k hk => (h10.1 k hk).trans (hF1.1 k hk), fun q q0 q2 q3 q4 q7 q8 => (h10.2 q q0 q2 q3 q4 q7 q8).trans (hF1.2 q q0 q2 q3 q4 q7 q8)⟩
      rw [bstF_skip hsw] at q
      exact q
    | some z =>
      have hz9 := sWith_le hT h1m (by omega) hsw
      refine z_iload (j := 4) dX8_bestMultiplier_31 rfl ?_
      refine z_iload_n (j := 1) dX8_bestMultiplier_33 rfl ?_
      refine z_icmp_gt (tgt := 74) dX8_bestMultiplier_34 (by decide) (fun czq34 => absurd czq34 (nI_nlt (by omega) (by omega))) (fun czq34 => ?_)
      refine z_aload_n (j := 0) dX8_bestMultiplier_37 rfl ?_
      refine z_iload (j := 4) dX8_bestMultiplier_38 rfl ?_
      refine z_kV [.int ((nI m0))] 0 0 kc ks yoX8_sumWith yvX8_sumWith rfl (by decide) lX8_364 (by omega) mW_obj rfl rfl (Nat.le_of_ble_eq_true rfl) (Nat.le_of_ble_eq_true rfl) dX8_bestMultiplier_40 (by omega) (by omega) (z_room (by omega) (Nat.le_refl _) (Nat.le_refl _) (m_sumS (d := 0) (S := S) hb hT h1m (by omega) hsw (fun s1 a1 hT1 hF1 => ⟨rfl, ?_⟩)))
      skip
      refine z_istore [1, 2, 3, 4, 5, 0] [(0, .ref b), (1, .int ((nI M))), (2, .int ((optI f))), (3, .int ((nI le))), (4, .int ((nI m0))), (5, .int ((nI z)))] dX8_bestMultiplier_43 (by decide) rfl ?_
      refine z_iload (j := 5) dX8_bestMultiplier_45 rfl ?_
      refine z_iconst (v := (-1)) dX8_bestMultiplier_47 (by decide) ?_
      refine z_icmp_eq (tgt := 68) dX8_bestMultiplier_48 (by decide) (fun czq48 => absurd czq48 (nI_neg1 (by omega))) (fun czq48 => ?_)
      refine z_iload_n (j := 2) dX8_bestMultiplier_51 rfl ?_
      refine z_iconst (v := (-1)) dX8_bestMultiplier_52 (by decide) ?_
      refine z_icmp_eq (tgt := 62) dX8_bestMultiplier_53 (by decide) (fun czq53 => ?_) (fun czq53 => ?_)
      · refine z_iload (j := 4) dX8_bestMultiplier_62 rfl ?_
        refine z_istore_n [1, 2, 0, 3, 4, 5] [(0, .ref b), (1, .int ((nI M))), (2, .int ((nI m0))), (3, .int ((nI le))), (4, .int ((nI m0))), (5, .int ((nI z)))] dX8_bestMultiplier_64 (by decide) rfl ?_
        refine z_iload (j := 5) dX8_bestMultiplier_65 rfl ?_
        refine z_istore_n [1, 2, 3, 0, 4, 5] [(0, .ref b), (1, .int ((nI M))), (2, .int ((nI m0))), (3, .int ((nI z))), (4, .int ((nI m0))), (5, .int ((nI z)))] dX8_bestMultiplier_67 (by decide) rfl ?_
        skip
        refine z_iinc ((nI (m0 + 1))) [1, 2, 3, 4, 0, 5] [(0, .ref b), (1, .int ((nI M))), (2, .int ((nI m0))), (3, .int ((nI z))), (4, .int ((nI (m0 + 1)))), (5, .int ((nI z)))] dX8_bestMultiplier_68 (j := 4) rfl (nI_1 m0) (by decide) rfl ?_
        refine z_goto (tgt := 31) dX8_bestMultiplier_71 (by decide) ?_
        refine z_lv [(0, .ref b), (1, .int ((nI M))), (2, .int ((nI m0))), (3, .int ((nI z))), (4, .int ((nI (m0 + 1))))] [0, 1, 2, 3, 4] rfl ?_
        refine ih (m0 + 1) (some m0) z (by omega) hz9 s1 a1 hT1 (fun f0 e => by cases e; omega) (by omega) (fun s2 a2 h9 h10 => ?_)
        have q := hq s2 a2 h9 ⟨fun k hk => (h10.1 k hk).trans (hF1.1 k hk), fun q q0 q2 q3 q4 q7 q8 => (h10.2 q q0 q2 q3 q4 q7 q8).trans (hF1.2 q q0 q2 q3 q4 q7 q8)⟩
        rw [bstF_take hsw (Or.inl (by
          cases f with
          | none => rfl
          | some f0 => exact absurd czq53 (nI_neg1 (by have := hf30 f0 rfl; omega))))] at q
        exact q
      · refine z_iload (j := 5) dX8_bestMultiplier_56 rfl ?_
        refine z_iload_n (j := 3) dX8_bestMultiplier_58 rfl ?_
        refine z_icmp_ge (tgt := 68) dX8_bestMultiplier_59 (by decide) (fun czq59 => ?_) (fun czq59 => ?_)
        · skip
          refine z_iinc ((nI (m0 + 1))) [1, 2, 3, 4, 0, 5] [(0, .ref b), (1, .int ((nI M))), (2, .int ((optI f))), (3, .int ((nI le))), (4, .int ((nI (m0 + 1)))), (5, .int ((nI z)))] dX8_bestMultiplier_68 (j := 4) rfl (nI_1 m0) (by decide) rfl ?_
          refine z_goto (tgt := 31) dX8_bestMultiplier_71 (by decide) ?_
          refine z_lv [(0, .ref b), (1, .int ((nI M))), (2, .int ((optI f))), (3, .int ((nI le))), (4, .int ((nI (m0 + 1))))] [0, 1, 2, 3, 4] rfl ?_
          refine ih (m0 + 1) f le (by omega) hle9 s1 a1 hT1 hf30 (by omega) (fun s2 a2 h9 h10 => ?_)
          have q := hq s2 a2 h9 ⟨fun k hk => (h10.1 k hk).trans (hF1.1 k hk), fun q q0 q2 q3 q4 q7 q8 => (h10.2 q q0 q2 q3 q4 q7 q8).trans (hF1.2 q q0 q2 q3 q4 q7 q8)⟩
          rw [bstF_leave hsw (fun q => q.elim (fun e => czq53 (by rw [e]; rfl)) (fun e => nI_ge e (by omega) czq59))] at q
          exact q
        · refine z_iload (j := 4) dX8_bestMultiplier_62 rfl ?_
          refine z_istore_n [1, 2, 0, 3, 4, 5] [(0, .ref b), (1, .int ((nI M))), (2, .int ((nI m0))), (3, .int ((nI le))), (4, .int ((nI m0))), (5, .int ((nI z)))] dX8_bestMultiplier_64 (by decide) rfl ?_
          refine z_iload (j := 5) dX8_bestMultiplier_65 rfl ?_
          refine z_istore_n [1, 2, 3, 0, 4, 5] [(0, .ref b), (1, .int ((nI M))), (2, .int ((nI m0))), (3, .int ((nI z))), (4, .int ((nI m0))), (5, .int ((nI z)))] dX8_bestMultiplier_67 (by decide) rfl ?_
          skip
          refine z_iinc ((nI (m0 + 1))) [1, 2, 3, 4, 0, 5] [(0, .ref b), (1, .int ((nI M))), (2, .int ((nI m0))), (3, .int ((nI z))), (4, .int ((nI (m0 + 1)))), (5, .int ((nI z)))] dX8_bestMultiplier_68 (j := 4) rfl (nI_1 m0) (by decide) rfl ?_
          refine z_goto (tgt := 31) dX8_bestMultiplier_71 (by decide) ?_
          refine z_lv [(0, .ref b), (1, .int ((nI M))), (2, .int ((nI m0))), (3, .int ((nI z))), (4, .int ((nI (m0 + 1))))] [0, 1, 2, 3, 4] rfl ?_
          refine ih (m0 + 1) (some m0) z (by omega) hz9 s1 a1 hT1 (fun f0 e => by cases e; omega) (by omega) (fun s2 a2 h9 h10 => ?_)
          have q := hq s2 a2 h9 ⟨fun k hk => (h10.1 k hk).trans (hF1.1 k hk), fun q q0 q2 q3 q4 q7 q8 => (h10.2 q q0 q2 q3 q4 q7 q8).trans (hF1.2 q q0 q2 q3 q4 q7 q8)⟩
          rw [bstF_take hsw (Or.inr (by
            have h9 : z < le ∨ le ≤ z := by omega
            rcases h9 with h9 | h9
            · exact h9
            · exact absurd (nI_le h9 (by omega)) czq59))] at q
          exact q

set_option maxHeartbeats 4000000 in
set_option maxRecDepth 100000 in
theorem R_bestMultiplier {l : zL} {d kc ks n b : Nat} {h : Nat → va_E} {s : Nat → Int32} {a : Nat → Nat → Int32} {g : zGs} {Q : zQ} {p : Int32} (hb : b + 14 ≤ n) (hM : mI g s a) (hq : ∀ t v g' s' a', f_bestMultiplier g p = (t, v, g') → mI g' s' a' → s' 20 = t → Q (.inl (some (.int v))) n (mW h b s' a')) : Zj l mX8_bestMultiplier (d + 12) kc ks 0 [(0, .ref b), (1, .int p)] [] n (mW h b s a) Q := by
  obtain ⟨⟨B, H, T, K, V, c⟩, sv, Sn, k, hi, L, x, ek, eo, rl, rb⟩ := g
  obtain ⟨hT, h11, hsv, hsn, hk8, h9, hhi, hL, h14, ha9, hx256, h16, h17, hrl, h19, ha11, hrb⟩ := id hM
  obtain ⟨hV, ⟨hI, hd3, h3⟩, e3⟩ := id hT
  obtain ⟨okb, h2H, hH6, h1T, hT99, e0, e1, e2, ek_, ev_, ekv, ez⟩ := id hV
  have hle := okb.le
  refine z_aload_n (j := 0) dX8_bestMultiplier_0 rfl ?_
  refine z_iload_n (j := 1) dX8_bestMultiplier_1 rfl ?_
  refine z_iconst (v := 1) dX8_bestMultiplier_2 (by decide) ?_
  refine z_bipush (v := 30) dX8_bestMultiplier_3 (by decide) ?_
  refine z_kS [.int p, .int 1, .int 30] 0 0 kc ks yoX8_in ysX8_in rfl (by decide) lX8_67 rfl (Nat.le_of_ble_eq_true rfl) (Nat.le_of_ble_eq_true rfl) dX8_bestMultiplier_5 (by omega) (by omega) (z_room (by omega) (Nat.le_refl _) (Nat.le_refl _) (r_in (d := 0)  ⟨rfl, ?_⟩))
  refine z_if_ne (tgt := 15) dX8_bestMultiplier_8 (by decide) (fun czq8 => ?_) (fun czq8 => ?_)
  · have ep := bI_n.mp czq8
    obtain ⟨M, hk1, hk2, rfl, hMx⟩ := iO_yes 1 30 (by decide) (by decide) ep
    refine z_iconst (v := 0) dX8_bestMultiplier_15 (by decide) ?_
    refine z_kV [.int 0] 0 0 kc ks yoX8_throwsOne yvX8_throwsOne rfl (by decide) lX8_315 (by omega) mW_obj rfl rfl (Nat.le_of_ble_eq_true rfl) (Nat.le_of_ble_eq_true rfl) dX8_bestMultiplier_16 (by omega) (by omega) (z_room (by omega) (Nat.le_refl _) (Nat.le_refl _) (w_throws1_0 (d := 0) hb ⟨rfl, ?_⟩))
    refine z_if_eq (tgt := 24) dX8_bestMultiplier_19 (by decide) (fun czq19 => ?_) (fun czq19 => absurd rfl czq19)
    refine z_iconst (v := (-1)) dX8_bestMultiplier_24 (by decide) ?_
    refine z_istore_n [1, 2, 0] [(0, .ref b), (1, .int ((nI M))), (2, .int ((-1)))] dX8_bestMultiplier_25 (by decide) rfl ?_
    refine z_iconst (v := 0) dX8_bestMultiplier_26 (by decide) ?_
    refine z_istore_n [1, 2, 3, 0] [(0, .ref b), (1, .int ((nI M))), (2, .int ((-1))), (3, .int 0)] dX8_bestMultiplier_27 (by decide) rfl ?_
    refine z_iconst (v := 1) dX8_bestMultiplier_28 (by decide) ?_
    refine z_istore [1, 2, 3, 4, 0] [(0, .ref b), (1, .int ((nI M))), (2, .int ((-1))), (3, .int 0), (4, .int 1)] dX8_bestMultiplier_29 (by decide) rfl ?_
    refine z_room (d' := d + 9) (by omega) (Nat.le_refl _) (Nat.le_refl _) (r_best_l (S := (B, H, T, K, V, c)) hb hk2 M 1 none 0 (by omega) (by omega) _ a hT (fun f0 e => by cases e) (by omega) (fun s1 a1 hT1 hF1 => ?_))
    exact hq 0 _ _ _ _ (by unfold f_bestMultiplier; rw [if_pos ep, hMx]) (hM.fr hT1 (fun k hk => up_ne hk) hF1) (by rw [hF1.1 20 (by decide), up_eq])
  · refine z_iconst (v := 1) dX8_bestMultiplier_11 (by decide) ?_
    refine z_goto (tgt := 16) dX8_bestMultiplier_12 (by decide) ?_
    refine z_kV [.int 1] 0 0 kc ks yoX8_throwsOne yvX8_throwsOne rfl (by decide) lX8_315 (by omega) mW_obj rfl rfl (Nat.le_of_ble_eq_true rfl) (Nat.le_of_ble_eq_true rfl) dX8_bestMultiplier_16 (by omega) (by omega) (z_room (by omega) (Nat.le_refl _) (Nat.le_refl _) (w_throws1_1 (d := 0) hb ⟨rfl, ?_⟩))
    refine z_if_eq (tgt := 24) dX8_bestMultiplier_19 (by decide) (fun czq19 => absurd czq19 (by decide)) (fun czq19 => ?_)
    refine z_iconst (v := 0) dX8_bestMultiplier_22 (by decide) ?_
    exact z_iret rfl dX8_bestMultiplier_23 (hq 1 0 _ _ _ (by unfold f_bestMultiplier; exact if_neg (bI_0.mp czq8)) hM.th (by rw [up_eq]))
