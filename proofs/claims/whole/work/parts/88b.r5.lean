/-! THE REFERENCE'S PUBLIC METHODS, fifth part: changes, undo, snapshots -/

set_option maxHeartbeats 4000000 in
set_option maxRecDepth 100000 in
theorem R_addRow {l : zL} {d kc ks n b : Nat} {h : Nat → va_E} {s : Nat → Int32} {a : Nat → Nat → Int32} {g : zGs} {Q : zQ} {p q r : Int32} (hb : b + 14 ≤ n) (hM : mI g s a) (hq : ∀ t v g' s' a', f_addRow g p q r = (t, v, g') → mI g' s' a' → s' 20 = t → Q (.inl (some (.int v))) n (mW h b s' a')) : Zj l mX8_addRow (d + 12) kc ks 0 [(0, .ref b), (1, .int p), (2, .int q), (3, .int r)] [] n (mW h b s a) Q := by
  obtain ⟨⟨B, H, T, K, V, c⟩, sv, Sn, k, hi, L, x, ek, eo, rl, rb⟩ := g
  obtain ⟨hT, h11, hsv, hsn, hk8, h9, hhi, hL, h14, ha9, hx256, h16, h17, hrl, h19, ha11, hrb⟩ := id hM
  obtain ⟨hV, ⟨hI, hd3, h3⟩, e3⟩ := id hT
  obtain ⟨okb, h2H, hH6, h1T, hT99, e0, e1, e2, ek_, ev_, ekv, ez⟩ := id hV
  have hle := okb.le
  refine z_iload_n (j := 1) dX8_addRow_0 rfl ?_
  refine z_kS [.int p] 0 0 kc ks yoX8_isKey ysX8_isKey rfl (by decide) lX8_327 rfl (Nat.le_of_ble_eq_true rfl) (Nat.le_of_ble_eq_true rfl) dX8_addRow_1 (by omega) (by omega) (z_room (by omega) (Nat.le_refl _) (Nat.le_refl _) (r_isKey (d := 0)  ⟨rfl, ?_⟩))
  refine z_if_eq (tgt := 41) dX8_addRow_4 (by decide) (fun czq4 => ?_) (fun czq4 => ?_)
  · refine z_iconst (v := 1) dX8_addRow_41 (by decide) ?_
    refine z_goto (tgt := 46) dX8_addRow_42 (by decide) ?_
    refine z_istore [1, 2, 3, 4, 0] [(0, .ref b), (1, .int p), (2, .int q), (3, .int r), (4, .int 1)] dX8_addRow_46 (by decide) rfl ?_
    skip
    refine z_aload_n (j := 0) dX8_addRow_48 rfl ?_
    refine z_iload (j := 4) dX8_addRow_49 rfl ?_
    refine z_iload (j := 4) dX8_addRow_51 rfl ?_
    refine z_if_ne (tgt := 70) dX8_addRow_53 (by decide) (fun czq53 => ?_) (fun czq53 => absurd czq53 (by decide))
    refine z_iconst (v := 0) dX8_addRow_70 (by decide) ?_
    refine z_kV [.int 1, .int 0] 0 0 kc ks yoX8_throwsOne_ yvX8_throwsOne_ rfl (by decide) lX8_333 (by omega) mW_obj rfl rfl (Nat.le_of_ble_eq_true rfl) (Nat.le_of_ble_eq_true rfl) dX8_addRow_71 (by omega) (by omega) (z_room (by omega) (Nat.le_refl _) (Nat.le_refl _) (w_throws2_10 (d := 0) hb ⟨rfl, ?_⟩))
    refine z_if_eq (tgt := 79) dX8_addRow_74 (by decide) (fun czq74 => absurd czq74 (by decide)) (fun czq74 => ?_)
    refine z_iconst (v := 0) dX8_addRow_77 (by decide) ?_
    exact z_iret rfl dX8_addRow_78 (hq 1 0 _ _ _ (by
        unfold f_addRow
        exact if_neg (fun z => by
          unfold rowO at z
          simp only [Bool.and_eq_true, decide_eq_true_eq] at z
          exact bI_0.mp czq4 z.1.1.1)) hM.th (by rw [up_eq]))
  · refine z_iload_n (j := 2) dX8_addRow_7 rfl ?_
    refine z_iconst (v := 1) dX8_addRow_8 (by decide) ?_
    refine z_sipush (v := 999) dX8_addRow_9 (by decide) ?_
    refine z_kS [.int q, .int 1, .int 999] 0 0 kc ks yoX8_in ysX8_in rfl (by decide) lX8_67 rfl (Nat.le_of_ble_eq_true rfl) (Nat.le_of_ble_eq_true rfl) dX8_addRow_12 (by omega) (by omega) (z_room (by omega) (Nat.le_refl _) (Nat.le_refl _) (r_in (d := 0)  ⟨rfl, ?_⟩))
    refine z_if_eq (tgt := 41) dX8_addRow_15 (by decide) (fun czq15 => ?_) (fun czq15 => ?_)
    · refine z_iconst (v := 1) dX8_addRow_41 (by decide) ?_
      refine z_goto (tgt := 46) dX8_addRow_42 (by decide) ?_
      refine z_istore [1, 2, 3, 4, 0] [(0, .ref b), (1, .int p), (2, .int q), (3, .int r), (4, .int 1)] dX8_addRow_46 (by decide) rfl ?_
      skip
      refine z_aload_n (j := 0) dX8_addRow_48 rfl ?_
      refine z_iload (j := 4) dX8_addRow_49 rfl ?_
      refine z_iload (j := 4) dX8_addRow_51 rfl ?_
      refine z_if_ne (tgt := 70) dX8_addRow_53 (by decide) (fun czq53 => ?_) (fun czq53 => absurd czq53 (by decide))
      refine z_iconst (v := 0) dX8_addRow_70 (by decide) ?_
      refine z_kV [.int 1, .int 0] 0 0 kc ks yoX8_throwsOne_ yvX8_throwsOne_ rfl (by decide) lX8_333 (by omega) mW_obj rfl rfl (Nat.le_of_ble_eq_true rfl) (Nat.le_of_ble_eq_true rfl) dX8_addRow_71 (by omega) (by omega) (z_room (by omega) (Nat.le_refl _) (Nat.le_refl _) (w_throws2_10 (d := 0) hb ⟨rfl, ?_⟩))
      refine z_if_eq (tgt := 79) dX8_addRow_74 (by decide) (fun czq74 => absurd czq74 (by decide)) (fun czq74 => ?_)
      refine z_iconst (v := 0) dX8_addRow_77 (by decide) ?_
      exact z_iret rfl dX8_addRow_78 (hq 1 0 _ _ _ (by
          unfold f_addRow
          exact if_neg (fun z => by
            unfold rowO at z
            simp only [Bool.and_eq_true, decide_eq_true_eq] at z
            exact bI_0.mp czq15 z.1.1.2)) hM.th (by rw [up_eq]))
    · refine z_iload_n (j := 3) dX8_addRow_18 rfl ?_
      refine z_iconst (v := 1) dX8_addRow_19 (by decide) ?_
      refine z_bipush (v := 20) dX8_addRow_20 (by decide) ?_
      refine z_kS [.int r, .int 1, .int 20] 0 0 kc ks yoX8_in ysX8_in rfl (by decide) lX8_67 rfl (Nat.le_of_ble_eq_true rfl) (Nat.le_of_ble_eq_true rfl) dX8_addRow_22 (by omega) (by omega) (z_room (by omega) (Nat.le_refl _) (Nat.le_refl _) (r_in (d := 0)  ⟨rfl, ?_⟩))
      refine z_if_eq (tgt := 41) dX8_addRow_25 (by decide) (fun czq25 => ?_) (fun czq25 => ?_)
      · refine z_iconst (v := 1) dX8_addRow_41 (by decide) ?_
        refine z_goto (tgt := 46) dX8_addRow_42 (by decide) ?_
        refine z_istore [1, 2, 3, 4, 0] [(0, .ref b), (1, .int p), (2, .int q), (3, .int r), (4, .int 1)] dX8_addRow_46 (by decide) rfl ?_
        skip
        refine z_aload_n (j := 0) dX8_addRow_48 rfl ?_
        refine z_iload (j := 4) dX8_addRow_49 rfl ?_
        refine z_iload (j := 4) dX8_addRow_51 rfl ?_
        refine z_if_ne (tgt := 70) dX8_addRow_53 (by decide) (fun czq53 => ?_) (fun czq53 => absurd czq53 (by decide))
        refine z_iconst (v := 0) dX8_addRow_70 (by decide) ?_
        refine z_kV [.int 1, .int 0] 0 0 kc ks yoX8_throwsOne_ yvX8_throwsOne_ rfl (by decide) lX8_333 (by omega) mW_obj rfl rfl (Nat.le_of_ble_eq_true rfl) (Nat.le_of_ble_eq_true rfl) dX8_addRow_71 (by omega) (by omega) (z_room (by omega) (Nat.le_refl _) (Nat.le_refl _) (w_throws2_10 (d := 0) hb ⟨rfl, ?_⟩))
        refine z_if_eq (tgt := 79) dX8_addRow_74 (by decide) (fun czq74 => absurd czq74 (by decide)) (fun czq74 => ?_)
        refine z_iconst (v := 0) dX8_addRow_77 (by decide) ?_
        exact z_iret rfl dX8_addRow_78 (hq 1 0 _ _ _ (by
            unfold f_addRow
            exact if_neg (fun z => by
              unfold rowO at z
              simp only [Bool.and_eq_true, decide_eq_true_eq] at z
              exact bI_0.mp czq25 z.1.2)) hM.th (by rw [up_eq]))
      · have ep := bI_n.mp czq4
        have eq := bI_n.mp czq15
        have er := bI_n.mp czq25
        obtain ⟨key, -, hkey, rfl, hkx⟩ := iO_yes 0 9999 (by decide) (by decide) ep
        obtain ⟨step, hst1, hst, rfl, hsx⟩ := iO_yes 1 999 (by decide) (by decide) eq
        obtain ⟨count, hct1, hct, rfl, hcx⟩ := iO_yes 1 20 (by decide) (by decide) er
        have hb9 : step * (count - 1) ≤ 999 * 19 := Nat.mul_le_mul hst (by omega)
        refine z_iload_n (j := 1) dX8_addRow_28 rfl ?_
        refine z_iload_n (j := 3) dX8_addRow_29 rfl ?_
        refine z_iconst (v := 1) dX8_addRow_30 (by decide) ?_
        refine z_isub dX8_addRow_31 ?_
        refine z_iload_n (j := 2) dX8_addRow_32 rfl ?_
        refine z_imul dX8_addRow_33 ?_
        refine z_iadd dX8_addRow_34 ?_
        refine z_sipush (v := 9999) dX8_addRow_35 (by decide) ?_
        rw [show ((nI key) + (((nI count) - 1) * (nI step))) = nI (key + step * (count - 1)) from by
          obtain ⟨z, rfl⟩ : ∃ z, count = z + 1 := ⟨count - 1, by omega⟩
          rw [show nI (z + 1) - 1 = nI z from nI_pred _, pk_mul, nI_add, Nat.add_sub_cancel, Nat.mul_comm z step]]
        refine z_icmp_le (tgt := 45) dX8_addRow_38 (by decide) (fun czq38 => ?_) (fun czq38 => ?_)
        · refine z_iconst (v := 0) dX8_addRow_45 (by decide) ?_
          refine z_istore [1, 2, 3, 4, 0] [(0, .ref b), (1, .int ((nI key))), (2, .int ((nI step))), (3, .int ((nI count))), (4, .int 0)] dX8_addRow_46 (by decide) rfl ?_
          have hle9 : key + step * (count - 1) ≤ 9999 := Decidable.byContradiction fun z => nI_nle2 (b := 9999) (by omega) (by omega) czq38
          have hro : rowO (nI key) (nI step) (nI count) = true := by
            unfold rowO
            simp only [Bool.and_eq_true, decide_eq_true_eq]
            rw [hkx, hsx, hcx]
            exact ⟨⟨⟨ep, eq⟩, er⟩, hle9⟩
          have hks : ∀ i, i < count → key + i * step ≤ 9999 := fun i hi => by
            have h1 := Nat.mul_le_mul_right step (show i ≤ count - 1 by omega)
            rw [Nat.mul_comm (count - 1) step] at h1
            omega
          refine z_aload_n (j := 0) dX8_addRow_48 rfl ?_
          refine z_iload (j := 4) dX8_addRow_49 rfl ?_
          refine z_iload (j := 4) dX8_addRow_51 rfl ?_
          refine z_if_ne (tgt := 70) dX8_addRow_53 (by decide) (fun czq53 => absurd czq53 (fun z => z rfl)) (fun czq53 => ?_)
          refine z_aload_n (j := 0) dX8_addRow_56 rfl ?_
          refine z_iload_n (j := 1) dX8_addRow_57 rfl ?_
          refine z_iload_n (j := 2) dX8_addRow_58 rfl ?_
          refine z_iload_n (j := 3) dX8_addRow_59 rfl ?_
          refine z_kV [.int ((nI key)), .int ((nI step)), .int ((nI count))] 0 0 kc ks yoX8_canRow yvX8_canRow rfl (by decide) lX8_212 (by omega) mW_obj rfl rfl (Nat.le_of_ble_eq_true rfl) (Nat.le_of_ble_eq_true rfl) dX8_addRow_60 (by omega) (by omega) (z_room (by omega) (Nat.le_refl _) (Nat.le_refl _) (m_canRow2 (d := 0) (S := (B, H, T, K, V, c)) hb hT hks hct (fun sw aw hwe hFw => ⟨rfl, ?_⟩)))
          have hTw : mT (B, H, T, K, V, c) (aw 0) := hT.cp hwe
          refine z_if_ne (tgt := 70) dX8_addRow_63 (by decide) (fun czq63 => ?_) (fun czq63 => ?_)
          · refine z_iconst (v := 0) dX8_addRow_70 (by decide) ?_
            refine z_kV [.int 0, .int 0] 0 0 kc ks yoX8_throwsOne_ yvX8_throwsOne_ rfl (by decide) lX8_333 (by omega) mW_obj rfl rfl (Nat.le_of_ble_eq_true rfl) (Nat.le_of_ble_eq_true rfl) dX8_addRow_71 (by omega) (by omega) (z_room (by omega) (Nat.le_refl _) (Nat.le_refl _) (w_throws2_00 (d := 0) hb ⟨rfl, ?_⟩))
            refine z_if_eq (tgt := 79) dX8_addRow_74 (by decide) (fun czq74 => ?_) (fun czq74 => absurd rfl czq74)
            refine z_aload_n (j := 0) dX8_addRow_79 rfl ?_
            refine z_kV [] 0 0 kc ks yoX8_begins yvX8_begins rfl (by decide) lX8_321 (by omega) mW_obj rfl rfl (Nat.le_of_ble_eq_true rfl) (Nat.le_of_ble_eq_true rfl) dX8_addRow_80 (by omega) (by omega) (z_room (by omega) (Nat.le_refl _) (Nat.le_refl _) (r_begins (d := 0) hb (fun a1 hd1 hr1 => ⟨rfl, ?_⟩)))
            have hT1 : mT (B, H, T, K, V, c) (a1 0) := by rw [hr1 0 (by decide)]; exact hTw
            refine z_aload_n (j := 0) dX8_addRow_83 rfl ?_
            refine z_aload_n (j := 0) dX8_addRow_84 rfl ?_
            refine z_iload_n (j := 1) dX8_addRow_85 rfl ?_
            refine z_iload_n (j := 2) dX8_addRow_86 rfl ?_
            refine z_iload_n (j := 3) dX8_addRow_87 rfl ?_
            refine z_kV [.int ((nI key)), .int ((nI step)), .int ((nI count))] 0 0 kc ks yoX8_rows yvX8_rows rfl (by decide) lX8_135 (by omega) mW_obj rfl rfl (Nat.le_of_ble_eq_true rfl) (Nat.le_of_ble_eq_true rfl) dX8_addRow_88 (by omega) (by omega) (z_room (by omega) (Nat.le_refl _) (Nat.le_refl _) (m_rows (d := 0) (S := (B, H, T, K, V, c)) hb hT1 hks hct (fun s2 a2 ea hF2 => ⟨rfl, ?_⟩) (fun j S' s2 a2 ea hMb hF2 => ⟨rfl, ?_⟩)))
            · exact absurd (oI_0.mpr ea) czq63
            · refine z_kV [.int ((nI j))] 0 0 kc ks yoX8_remember yvX8_remember rfl (by decide) lX8_324 (by omega) mW_obj rfl rfl (Nat.le_of_ble_eq_true rfl) (Nat.le_of_ble_eq_true rfl) dX8_addRow_91 (by omega) (by omega) (z_room (by omega) (Nat.le_refl _) (Nat.le_refl _) (r_remember (d := 0) (k := k) hb hk8 ((hF2.1 9 (by decide)).trans ((up_ne (by decide)).trans ((hFw.1 9 (by decide)).trans h9))) (fun s9 a9 h99 hs9 hd9 hl9 hr9 => ⟨rfl, ?_⟩)))
              exact z_iret rfl dX8_addRow_94 (by
                  exact hq 0 _ _ _ _ (by
                  unfold f_addRow
                  rw [if_pos hro, hkx, hsx, hcx]
                  simp only [ea] <;> rfl) (hM.push (by rw [hr9 0 (by decide)]; exact hMb) (past_ok (a2 := a2) hk8 hT hhi (fun j hj => by rw [hF2.2 1 (by decide) (by decide) (by decide) (by decide) (by decide), hd1 j hj, hwe j hj]) (by rw [hF2.2 5 (by decide) (by decide) (by decide) (by decide) (by decide), hr1 5 (by decide), hFw.2 5 (by decide) (by decide) (by decide) (by decide) (by decide) (by decide)]) hd9 hl9) h99 (fun q hq5 => (hs9 q (by omega)).trans ((hF2.1 q (by omega)).trans ((up_ne (by omega)).trans (hFw.1 q (by omega))))) (fun q hq6 => (hr9 q (by omega)).trans ((hF2.2 q (by omega) (by omega) (by omega) (by omega) (by omega)).trans ((hr1 q (by omega)).trans (hFw.2 q (by omega) (by omega) (by omega) (by omega) (by omega) (by omega)))))) (by rw [hs9 20 (by decide)]; exact (hF2.1 20 (by decide)).trans up_eq))
          · refine z_iconst (v := 1) dX8_addRow_66 (by decide) ?_
            refine z_goto (tgt := 71) dX8_addRow_67 (by decide) ?_
            refine z_kV [.int 0, .int 1] 0 0 kc ks yoX8_throwsOne_ yvX8_throwsOne_ rfl (by decide) lX8_333 (by omega) mW_obj rfl rfl (Nat.le_of_ble_eq_true rfl) (Nat.le_of_ble_eq_true rfl) dX8_addRow_71 (by omega) (by omega) (z_room (by omega) (Nat.le_refl _) (Nat.le_refl _) (w_throws2_01 (d := 0) hb ⟨rfl, ?_⟩))
            refine z_if_eq (tgt := 79) dX8_addRow_74 (by decide) (fun czq74 => absurd czq74 (by decide)) (fun czq74 => ?_)
            refine z_iconst (v := 0) dX8_addRow_77 (by decide) ?_
            exact z_iret rfl dX8_addRow_78 (hq 2 0 _ _ _ (by
                unfold f_addRow
                rw [if_pos hro, hkx, hsx, hcx]
                simp only [oI_0.mp czq63] <;> rfl) (hM.cp (hT.cp hwe) (fun k hk => (up_ne (by omega)).trans (hFw.1 k (by omega))) (fun q hq5 => hFw.2 q (by omega) (by omega) (by omega) (by omega) (by omega) (by omega))) (by rw [up_eq]))
        · refine z_iconst (v := 1) dX8_addRow_41 (by decide) ?_
          refine z_goto (tgt := 46) dX8_addRow_42 (by decide) ?_
          refine z_istore [1, 2, 3, 4, 0] [(0, .ref b), (1, .int ((nI key))), (2, .int ((nI step))), (3, .int ((nI count))), (4, .int 1)] dX8_addRow_46 (by decide) rfl ?_
          skip
          refine z_aload_n (j := 0) dX8_addRow_48 rfl ?_
          refine z_iload (j := 4) dX8_addRow_49 rfl ?_
          refine z_iload (j := 4) dX8_addRow_51 rfl ?_
          refine z_if_ne (tgt := 70) dX8_addRow_53 (by decide) (fun czq53 => ?_) (fun czq53 => absurd czq53 (by decide))
          refine z_iconst (v := 0) dX8_addRow_70 (by decide) ?_
          refine z_kV [.int 1, .int 0] 0 0 kc ks yoX8_throwsOne_ yvX8_throwsOne_ rfl (by decide) lX8_333 (by omega) mW_obj rfl rfl (Nat.le_of_ble_eq_true rfl) (Nat.le_of_ble_eq_true rfl) dX8_addRow_71 (by omega) (by omega) (z_room (by omega) (Nat.le_refl _) (Nat.le_refl _) (w_throws2_10 (d := 0) hb ⟨rfl, ?_⟩))
          refine z_if_eq (tgt := 79) dX8_addRow_74 (by decide) (fun czq74 => absurd czq74 (by decide)) (fun czq74 => ?_)
          refine z_iconst (v := 0) dX8_addRow_77 (by decide) ?_
          exact z_iret rfl dX8_addRow_78 (hq 1 0 _ _ _ (by
              unfold f_addRow
              exact if_neg (fun z => by
                unfold rowO at z
                simp only [Bool.and_eq_true, decide_eq_true_eq] at z
                rw [hkx, hsx, hcx] at z
                exact czq38 (nI_le (b := 9999) z.2 (by decide)))) hM.th (by rw [up_eq]))

set_option maxHeartbeats 4000000 in
set_option maxRecDepth 100000 in
theorem R_remove {l : zL} {d kc ks n b : Nat} {h : Nat → va_E} {s : Nat → Int32} {a : Nat → Nat → Int32} {g : zGs} {Q : zQ} {p : Int32} (hb : b + 14 ≤ n) (hM : mI g s a) (hq : ∀ t v g' s' a', f_remove g p = (t, v, g') → mI g' s' a' → s' 20 = t → Q (.inl (some (.int v))) n (mW h b s' a')) : Zj l mX8_remove (d + 12) kc ks 0 [(0, .ref b), (1, .int p)] [] n (mW h b s a) Q := by
  obtain ⟨⟨B, H, T, K, V, c⟩, sv, Sn, k, hi, L, x, ek, eo, rl, rb⟩ := g
  obtain ⟨hT, h11, hsv, hsn, hk8, h9, hhi, hL, h14, ha9, hx256, h16, h17, hrl, h19, ha11, hrb⟩ := id hM
  obtain ⟨hV, ⟨hI, hd3, h3⟩, e3⟩ := id hT
  obtain ⟨okb, h2H, hH6, h1T, hT99, e0, e1, e2, ek_, ev_, ekv, ez⟩ := id hV
  have hle := okb.le
  refine z_aload_n (j := 0) dX8_remove_0 rfl ?_
  refine z_iload_n (j := 1) dX8_remove_1 rfl ?_
  refine z_kS [.int p] 0 0 kc ks yoX8_isKey ysX8_isKey rfl (by decide) lX8_327 rfl (Nat.le_of_ble_eq_true rfl) (Nat.le_of_ble_eq_true rfl) dX8_remove_2 (by omega) (by omega) (z_room (by omega) (Nat.le_refl _) (Nat.le_refl _) (r_isKey (d := 0)  ⟨rfl, ?_⟩))
  refine z_if_eq (tgt := 17) dX8_remove_5 (by decide) (fun czq5 => ?_) (fun czq5 => ?_)
  · refine z_iconst (v := 1) dX8_remove_17 (by decide) ?_
    refine z_goto (tgt := 22) dX8_remove_18 (by decide) ?_
    refine z_kV [.int 1] 0 0 kc ks yoX8_throwsOne yvX8_throwsOne rfl (by decide) lX8_315 (by omega) mW_obj rfl rfl (Nat.le_of_ble_eq_true rfl) (Nat.le_of_ble_eq_true rfl) dX8_remove_22 (by omega) (by omega) (z_room (by omega) (Nat.le_refl _) (Nat.le_refl _) (w_throws1_1 (d := 0) hb ⟨rfl, ?_⟩))
    refine z_if_eq (tgt := 30) dX8_remove_25 (by decide) (fun czq25 => absurd czq25 (by decide)) (fun czq25 => ?_)
    refine z_iconst (v := 0) dX8_remove_28 (by decide) ?_
    exact z_iret rfl dX8_remove_29 (hq 1 0 _ _ _ (by unfold f_remove; exact if_neg (bI_0.mp czq5)) hM.th (by rw [up_eq]))
  · have ep := bI_n.mp czq5
    obtain ⟨key, hk1, hkey, rfl, hkx⟩ := iO_yes 0 9999 (by decide) (by decide) ep
    refine z_aload_n (j := 0) dX8_remove_8 rfl ?_
    refine z_iload_n (j := 1) dX8_remove_9 rfl ?_
    refine z_kV [.int ((nI key))] 0 0 kc ks yoX8_bucketWith yvX8_bucketWith rfl (by decide) lX8_129 (by omega) mW_obj rfl rfl (Nat.le_of_ble_eq_true rfl) (Nat.le_of_ble_eq_true rfl) dX8_remove_10 (by omega) (by omega) (z_room (by omega) (Nat.le_refl _) (Nat.le_refl _) (m_find (d := 0) (S := (B, H, T, K, V, c)) hb hT hkey (fun hf => ⟨rfl, ?_⟩) (fun bk hf hbk hKb => ⟨rfl, ?_⟩)))
    · refine z_iconst (v := (-1)) dX8_remove_13 (by decide) ?_
      refine z_icmp_ne (tgt := 21) dX8_remove_14 (by decide) (fun czq14 => absurd rfl czq14) (fun czq14 => ?_)
      refine z_iconst (v := 1) dX8_remove_17 (by decide) ?_
      refine z_goto (tgt := 22) dX8_remove_18 (by decide) ?_
      refine z_kV [.int 1] 0 0 kc ks yoX8_throwsOne yvX8_throwsOne rfl (by decide) lX8_315 (by omega) mW_obj rfl rfl (Nat.le_of_ble_eq_true rfl) (Nat.le_of_ble_eq_true rfl) dX8_remove_22 (by omega) (by omega) (z_room (by omega) (Nat.le_refl _) (Nat.le_refl _) (w_throws1_1 (d := 0) hb ⟨rfl, ?_⟩))
      refine z_if_eq (tgt := 30) dX8_remove_25 (by decide) (fun czq25 => absurd czq25 (by decide)) (fun czq25 => ?_)
      refine z_iconst (v := 0) dX8_remove_28 (by decide) ?_
      exact z_iret rfl dX8_remove_29 (hq 1 0 _ _ _ (by
          unfold f_remove
          rw [if_pos ep, hkx]
          simp only [hf] <;> rfl) hM.th (by rw [up_eq]))
    · have hbk : bk < B := hbk
      refine z_iconst (v := (-1)) dX8_remove_13 (by decide) ?_
      refine z_icmp_ne (tgt := 21) dX8_remove_14 (by decide) (fun czq14 => ?_) (fun czq14 => absurd czq14 (nI_neg1 (by omega)))
      refine z_iconst (v := 0) dX8_remove_21 (by decide) ?_
      refine z_kV [.int 0] 0 0 kc ks yoX8_throwsOne yvX8_throwsOne rfl (by decide) lX8_315 (by omega) mW_obj rfl rfl (Nat.le_of_ble_eq_true rfl) (Nat.le_of_ble_eq_true rfl) dX8_remove_22 (by omega) (by omega) (z_room (by omega) (Nat.le_refl _) (Nat.le_refl _) (w_throws1_0 (d := 0) hb ⟨rfl, ?_⟩))
      refine z_if_eq (tgt := 30) dX8_remove_25 (by decide) (fun czq25 => ?_) (fun czq25 => absurd rfl czq25)
      skip
      refine z_aload_n (j := 0) dX8_remove_30 rfl ?_
      refine z_kV [] 0 0 kc ks yoX8_begins yvX8_begins rfl (by decide) lX8_321 (by omega) mW_obj rfl rfl (Nat.le_of_ble_eq_true rfl) (Nat.le_of_ble_eq_true rfl) dX8_remove_31 (by omega) (by omega) (z_room (by omega) (Nat.le_refl _) (Nat.le_refl _) (r_begins (d := 0) hb (fun a1 hd1 hr1 => ⟨rfl, ?_⟩)))
      have hT1 : mT (B, H, T, K, V, c) (a1 0) := by rw [hr1 0 (by decide)]; exact hT
      refine z_aload_n (j := 0) dX8_remove_34 rfl ?_
      refine z_aload_n (j := 0) dX8_remove_35 rfl ?_
      refine z_iload_n (j := 1) dX8_remove_36 rfl ?_
      refine z_kV [.int ((nI key))] 0 0 kc ks yoX8_takesOut yvX8_takesOut rfl (by decide) lX8_215 (by omega) mW_obj rfl rfl (Nat.le_of_ble_eq_true rfl) (Nat.le_of_ble_eq_true rfl) dX8_remove_37 (by omega) (by omega) (z_room (by omega) (Nat.le_refl _) (Nat.le_refl _) (m_takesOut (d := 0) (S := (B, H, T, K, V, c)) hb hT1 hkey hf (fun a2 hMb hr2 => ⟨rfl, ?_⟩)))
      refine z_kV [.int ((nI (V bk)))] 0 0 kc ks yoX8_remember yvX8_remember rfl (by decide) lX8_324 (by omega) mW_obj rfl rfl (Nat.le_of_ble_eq_true rfl) (Nat.le_of_ble_eq_true rfl) dX8_remove_40 (by omega) (by omega) (z_room (by omega) (Nat.le_refl _) (Nat.le_refl _) (r_remember (d := 0) (k := k) hb hk8 ((up_ne (by decide)).trans h9) (fun s9 a9 h99 hs9 hd9 hl9 hr9 => ⟨rfl, ?_⟩)))
      exact z_iret rfl dX8_remove_43 (by
          exact hq 0 _ _ _ _ (by
          unfold f_remove
          rw [if_pos ep, hkx]
          simp only [hf] <;> rfl) (hM.push (by rw [hr9 0 (by decide)]; exact hMb) (past_ok (a2 := a2) hk8 hT hhi (fun j hj => by rw [hr2 1 (by decide), hd1 j hj]) (by rw [hr2 5 (by decide), hr1 5 (by decide)]) hd9 hl9) h99 (fun q hq5 => (hs9 q (by omega)).trans (up_ne (by omega))) (fun q hq6 => (hr9 q (by omega)).trans ((hr2 q (by omega)).trans (hr1 q (by omega))))) (by rw [hs9 20 (by decide)]; exact up_eq))

set_option maxHeartbeats 4000000 in
set_option maxRecDepth 100000 in
theorem m_reset_near {l : zL} {d kc ks n b : Nat} {h : Nat → va_E} {s : Nat → Int32} {a : Nat → Nat → Int32} {g : zGs} {H2 : Nat} {S2 : zS} {Q : zQ} (hb : b + 14 ≤ n) (hM : mI g s a) (h20 : s 20 = 0) (hlo : 2 ≤ H2) (hhi2 : H2 ≤ 6) (hs : sNear g.1 H2 = some S2) (hq : ∀ s' a', mI (gPush g S2) s' a' → s' 20 = 0 → Q (.inl (some (.int (nI S2.1)))) n (mW h b s' a')) : Zj l mX8_reset (d + 9) kc ks 0 [(0, .ref b), (1, .int 1), (2, .int ((nI H2)))] [] n (mW h b s a) Q := by
  obtain ⟨⟨B, H, T, K, V, c⟩, sv, Sn, k, hi, L, x, ek, eo, rl, rb⟩ := g
  obtain ⟨hT, h11, hsv, hsn, hk8, h9, hhi, hL, h14, ha9, hx256, h16, h17, hrl, h19, ha11, hrb⟩ := id hM
  obtain ⟨hV, ⟨hI, hd3, h3⟩, e3⟩ := id hT
  obtain ⟨okb, h2H, hH6, h1T, hT99, e0, e1, e2, ek_, ev_, ekv, ez⟩ := id hV
  have hle := okb.le
  refine z_aload_n (j := 0) dX8_reset_0 rfl ?_
  refine z_kV [] 0 0 kc ks yoX8_begins yvX8_begins rfl (by decide) lX8_321 (by omega) mW_obj rfl rfl (Nat.le_of_ble_eq_true rfl) (Nat.le_of_ble_eq_true rfl) dX8_reset_1 (by omega) (by omega) (z_room (by omega) (Nat.le_refl _) (Nat.le_refl _) (r_begins (d := 0) hb (fun a1 hd1 hr1 => ⟨rfl, ?_⟩)))
  have hT1 : mT (B, H, T, K, V, c) (a1 0) := by rw [hr1 0 (by decide)]; exact hT
  refine z_aload_n (j := 0) dX8_reset_4 rfl ?_
  refine z_iload_n (j := 1) dX8_reset_5 rfl ?_
  refine z_iload_n (j := 2) dX8_reset_6 rfl ?_
  refine z_kV [.int 1, .int ((nI H2))] 0 0 kc ks yoX8_resets yvX8_resets rfl (by decide) lX8_145 (by omega) mW_obj rfl rfl (Nat.le_of_ble_eq_true rfl) (Nat.le_of_ble_eq_true rfl) dX8_reset_7 (by omega) (by omega) (z_room (by omega) (Nat.le_refl _) (Nat.le_refl _) (m_near (d := 0) (S := (B, H, T, K, V, c)) hb hT1 hlo hhi2 (fun s2 a2 ea hF2 => ⟨rfl, ?_⟩) (fun S' s2 a2 ea hMb hF2 => ⟨rfl, ?_⟩)))
  · exact absurd (ea.symm.trans hs) (fun z => by cases z)
  · obtain rfl : S' = S2 := Option.some.inj (ea.symm.trans hs)
    refine z_pop rfl dX8_reset_10 ?_
    refine z_aload_n (j := 0) dX8_reset_11 rfl ?_
    refine z_aload_n (j := 0) dX8_reset_12 rfl ?_
    refine z_get (v := .ref (b + 1)) (by omega) mW_obj fX8_7 rfl dX8_reset_13 ?_
    refine z_iconst (v := 0) dX8_reset_16 (by decide) ?_
    refine m_aldN 0 137 0 (by decide) rfl rfl hb rfl (by omega) (by decide) dX8_reset_17 ?_
    refine z_kV [.int ((a2 0 0))] 0 0 kc ks yoX8_remember yvX8_remember rfl (by decide) lX8_324 (by omega) mW_obj rfl rfl (Nat.le_of_ble_eq_true rfl) (Nat.le_of_ble_eq_true rfl) dX8_reset_18 (by omega) (by omega) (z_room (by omega) (Nat.le_refl _) (Nat.le_refl _) (r_remember (d := 0) (k := k) hb hk8 ((hF2.1 9 (by decide)).trans h9) (fun s9 a9 h99 hs9 hd9 hl9 hr9 => ⟨rfl, ?_⟩)))
    exact z_iret rfl dX8_reset_21 (by
        rw [hMb.ro]
        exact hq _ _ (hM.push (by rw [hr9 0 (by decide)]; exact hMb) (past_ok (a2 := a2) hk8 hT hhi (fun j hj => by rw [hF2.2 1 (by decide) (by decide) (by decide) (by decide) (by decide), hd1 j hj]) (by rw [hF2.2 5 (by decide) (by decide) (by decide) (by decide) (by decide), hr1 5 (by decide)]) hd9 hl9) h99 (fun q hq5 => (hs9 q (by omega)).trans (hF2.1 q (by omega))) (fun q hq6 => (hr9 q (by omega)).trans ((hF2.2 q (by omega) (by omega) (by omega) (by omega) (by omega)).trans (hr1 q (by omega))))) ((hs9 20 (by decide)).trans ((hF2.1 20 (by decide)).trans h20)))

set_option maxHeartbeats 4000000 in
set_option maxRecDepth 100000 in
theorem R_setNeighbourhood {l : zL} {d kc ks n b : Nat} {h : Nat → va_E} {s : Nat → Int32} {a : Nat → Nat → Int32} {g : zGs} {Q : zQ} {p : Int32} (hb : b + 14 ≤ n) (hM : mI g s a) (hq : ∀ t v g' s' a', f_setNeighbourhood g p = (t, v, g') → mI g' s' a' → s' 20 = t → Q (.inl (some (.int v))) n (mW h b s' a')) : Zj l mX8_setNeighbourhood (d + 12) kc ks 0 [(0, .ref b), (1, .int p)] [] n (mW h b s a) Q := by
  obtain ⟨⟨B, H, T, K, V, c⟩, sv, Sn, k, hi, L, x, ek, eo, rl, rb⟩ := g
  obtain ⟨hT, h11, hsv, hsn, hk8, h9, hhi, hL, h14, ha9, hx256, h16, h17, hrl, h19, ha11, hrb⟩ := id hM
  obtain ⟨hV, ⟨hI, hd3, h3⟩, e3⟩ := id hT
  obtain ⟨okb, h2H, hH6, h1T, hT99, e0, e1, e2, ek_, ev_, ekv, ez⟩ := id hV
  have hle := okb.le
  refine z_iload_n (j := 1) dX8_setNeighbourhood_0 rfl ?_
  refine z_iconst (v := 2) dX8_setNeighbourhood_1 (by decide) ?_
  refine z_bipush (v := 6) dX8_setNeighbourhood_2 (by decide) ?_
  refine z_kS [.int p, .int 2, .int 6] 0 0 kc ks yoX8_in ysX8_in rfl (by decide) lX8_67 rfl (Nat.le_of_ble_eq_true rfl) (Nat.le_of_ble_eq_true rfl) dX8_setNeighbourhood_4 (by omega) (by omega) (z_room (by omega) (Nat.le_refl _) (Nat.le_refl _) (r_in (d := 0)  ⟨rfl, ?_⟩))
  refine z_if_ne (tgt := 14) dX8_setNeighbourhood_7 (by decide) (fun czq7 => ?_) (fun czq7 => ?_)
  · refine z_iconst (v := 0) dX8_setNeighbourhood_14 (by decide) ?_
    refine z_istore_n [1, 2, 0] [(0, .ref b), (1, .int p), (2, .int 0)] dX8_setNeighbourhood_15 (by decide) rfl ?_
    refine z_aload_n (j := 0) dX8_setNeighbourhood_16 rfl ?_
    refine z_iload_n (j := 2) dX8_setNeighbourhood_17 rfl ?_
    refine z_iload_n (j := 2) dX8_setNeighbourhood_18 rfl ?_
    refine z_if_ne (tgt := 35) dX8_setNeighbourhood_19 (by decide) (fun czq19 => absurd czq19 (fun z => z rfl)) (fun czq19 => ?_)
    have ep := bI_n.mp czq7
    obtain ⟨key, hlo, hhi2, rfl, hkx⟩ := iO_yes 2 6 (by decide) (by decide) ep
    refine z_aload_n (j := 0) dX8_setNeighbourhood_22 rfl ?_
    refine z_iconst (v := 1) dX8_setNeighbourhood_23 (by decide) ?_
    refine z_iload_n (j := 1) dX8_setNeighbourhood_24 rfl ?_
    refine z_kV [.int 1, .int ((nI key))] 0 0 kc ks yoX8_canReset yvX8_canReset rfl (by decide) lX8_218 (by omega) mW_obj rfl rfl (Nat.le_of_ble_eq_true rfl) (Nat.le_of_ble_eq_true rfl) dX8_setNeighbourhood_25 (by omega) (by omega) (z_room (by omega) (Nat.le_refl _) (Nat.le_refl _) (m_canNear2 (d := 0) (S := (B, H, T, K, V, c)) hb hT hlo hhi2 (fun sw aw hwe hFw => ⟨rfl, ?_⟩)))
    refine z_if_ne (tgt := 35) dX8_setNeighbourhood_28 (by decide) (fun czq28 => ?_) (fun czq28 => ?_)
    · refine z_iconst (v := 0) dX8_setNeighbourhood_35 (by decide) ?_
      refine z_kV [.int 0, .int 0] 0 0 kc ks yoX8_throwsOne_ yvX8_throwsOne_ rfl (by decide) lX8_333 (by omega) mW_obj rfl rfl (Nat.le_of_ble_eq_true rfl) (Nat.le_of_ble_eq_true rfl) dX8_setNeighbourhood_36 (by omega) (by omega) (z_room (by omega) (Nat.le_refl _) (Nat.le_refl _) (w_throws2_00 (d := 0) hb ⟨rfl, ?_⟩))
      refine z_if_eq (tgt := 46) dX8_setNeighbourhood_39 (by decide) (fun czq39 => ?_) (fun czq39 => absurd rfl czq39)
      obtain ⟨S2, hs⟩ := oI_n czq28
      have hMw : mI ((B, H, T, K, V, c), sv, Sn, k, hi, L, x, ek, eo, rl, rb) (va_up sw 20 0) aw := hM.cp (hT.cp hwe) (fun k hk => (up_ne (by omega)).trans (hFw.1 k (by omega))) (fun q hq5 => hFw.2 q (by omega) (by omega) (by omega) (by omega) (by omega) (by omega))
      refine z_aload_n (j := 0) dX8_setNeighbourhood_46 rfl ?_
      refine z_iconst (v := 1) dX8_setNeighbourhood_47 (by decide) ?_
      refine z_iload_n (j := 1) dX8_setNeighbourhood_48 rfl ?_
      refine z_kV [.int 1, .int ((nI key))] 0 0 kc ks yoX8_reset yvX8_reset rfl (by decide) lX8_336 (by omega) mW_obj rfl rfl (Nat.le_of_ble_eq_true rfl) (Nat.le_of_ble_eq_true rfl) dX8_setNeighbourhood_49 (by omega) (by omega) (z_room (by omega) (Nat.le_refl _) (Nat.le_refl _) (m_reset_near (d := 0) (g := ((B, H, T, K, V, c), sv, Sn, k, hi, L, x, ek, eo, rl, rb)) hb hMw up_eq hlo hhi2 hs (fun s9 a9 hM9 h209 => ⟨rfl, ?_⟩)))
      exact z_iret rfl dX8_setNeighbourhood_52 (hq 0 _ _ _ _ (by
          unfold f_setNeighbourhood
          rw [if_pos ep, hkx]
          simp only [hs] <;> rfl) hM9 h209)
    · refine z_iconst (v := 1) dX8_setNeighbourhood_31 (by decide) ?_
      refine z_goto (tgt := 36) dX8_setNeighbourhood_32 (by decide) ?_
      refine z_kV [.int 0, .int 1] 0 0 kc ks yoX8_throwsOne_ yvX8_throwsOne_ rfl (by decide) lX8_333 (by omega) mW_obj rfl rfl (Nat.le_of_ble_eq_true rfl) (Nat.le_of_ble_eq_true rfl) dX8_setNeighbourhood_36 (by omega) (by omega) (z_room (by omega) (Nat.le_refl _) (Nat.le_refl _) (w_throws2_01 (d := 0) hb ⟨rfl, ?_⟩))
      refine z_if_eq (tgt := 46) dX8_setNeighbourhood_39 (by decide) (fun czq39 => absurd czq39 (by decide)) (fun czq39 => ?_)
      refine z_iconst (v := 0) dX8_setNeighbourhood_42 (by decide) ?_
      refine z_goto (tgt := 52) dX8_setNeighbourhood_43 (by decide) ?_
      exact z_iret rfl dX8_setNeighbourhood_52 (hq 2 0 _ _ _ (by
          unfold f_setNeighbourhood
          rw [if_pos ep, hkx]
          simp only [oI_0.mp czq28] <;> rfl) (hM.cp (hT.cp hwe) (fun k hk => (up_ne (by omega)).trans (hFw.1 k (by omega))) (fun q hq5 => hFw.2 q (by omega) (by omega) (by omega) (by omega) (by omega) (by omega))) (by rw [up_eq]))
  · refine z_iconst (v := 1) dX8_setNeighbourhood_10 (by decide) ?_
    refine z_goto (tgt := 15) dX8_setNeighbourhood_11 (by decide) ?_
    refine z_istore_n [1, 2, 0] [(0, .ref b), (1, .int p), (2, .int 1)] dX8_setNeighbourhood_15 (by decide) rfl ?_
    refine z_aload_n (j := 0) dX8_setNeighbourhood_16 rfl ?_
    refine z_iload_n (j := 2) dX8_setNeighbourhood_17 rfl ?_
    refine z_iload_n (j := 2) dX8_setNeighbourhood_18 rfl ?_
    refine z_if_ne (tgt := 35) dX8_setNeighbourhood_19 (by decide) (fun czq19 => ?_) (fun czq19 => absurd czq19 (by decide))
    refine z_iconst (v := 0) dX8_setNeighbourhood_35 (by decide) ?_
    refine z_kV [.int 1, .int 0] 0 0 kc ks yoX8_throwsOne_ yvX8_throwsOne_ rfl (by decide) lX8_333 (by omega) mW_obj rfl rfl (Nat.le_of_ble_eq_true rfl) (Nat.le_of_ble_eq_true rfl) dX8_setNeighbourhood_36 (by omega) (by omega) (z_room (by omega) (Nat.le_refl _) (Nat.le_refl _) (w_throws2_10 (d := 0) hb ⟨rfl, ?_⟩))
    refine z_if_eq (tgt := 46) dX8_setNeighbourhood_39 (by decide) (fun czq39 => absurd czq39 (by decide)) (fun czq39 => ?_)
    refine z_iconst (v := 0) dX8_setNeighbourhood_42 (by decide) ?_
    refine z_goto (tgt := 52) dX8_setNeighbourhood_43 (by decide) ?_
    exact z_iret rfl dX8_setNeighbourhood_52 (hq 1 0 _ _ _ (by unfold f_setNeighbourhood; exact if_neg (bI_0.mp czq7)) hM.th (by rw [up_eq]))

set_option maxHeartbeats 4000000 in
set_option maxRecDepth 100000 in
theorem m_reset_times {l : zL} {d kc ks n b : Nat} {h : Nat → va_E} {s : Nat → Int32} {a : Nat → Nat → Int32} {g : zGs} {H2 : Nat} {S2 : zS} {Q : zQ} (hb : b + 14 ≤ n) (hM : mI g s a) (h20 : s 20 = 0) (hlo : 1 ≤ H2) (hhi2 : H2 ≤ 99) (hs : sTimes g.1 H2 = some S2) (hq : ∀ s' a', mI (gPush g S2) s' a' → s' 20 = 0 → Q (.inl (some (.int (nI S2.1)))) n (mW h b s' a')) : Zj l mX8_reset (d + 9) kc ks 0 [(0, .ref b), (1, .int 2), (2, .int ((nI H2)))] [] n (mW h b s a) Q := by
  obtain ⟨⟨B, H, T, K, V, c⟩, sv, Sn, k, hi, L, x, ek, eo, rl, rb⟩ := g
  obtain ⟨hT, h11, hsv, hsn, hk8, h9, hhi, hL, h14, ha9, hx256, h16, h17, hrl, h19, ha11, hrb⟩ := id hM
  obtain ⟨hV, ⟨hI, hd3, h3⟩, e3⟩ := id hT
  obtain ⟨okb, h2H, hH6, h1T, hT99, e0, e1, e2, ek_, ev_, ekv, ez⟩ := id hV
  have hle := okb.le
  refine z_aload_n (j := 0) dX8_reset_0 rfl ?_
  refine z_kV [] 0 0 kc ks yoX8_begins yvX8_begins rfl (by decide) lX8_321 (by omega) mW_obj rfl rfl (Nat.le_of_ble_eq_true rfl) (Nat.le_of_ble_eq_true rfl) dX8_reset_1 (by omega) (by omega) (z_room (by omega) (Nat.le_refl _) (Nat.le_refl _) (r_begins (d := 0) hb (fun a1 hd1 hr1 => ⟨rfl, ?_⟩)))
  have hT1 : mT (B, H, T, K, V, c) (a1 0) := by rw [hr1 0 (by decide)]; exact hT
  refine z_aload_n (j := 0) dX8_reset_4 rfl ?_
  refine z_iload_n (j := 1) dX8_reset_5 rfl ?_
  refine z_iload_n (j := 2) dX8_reset_6 rfl ?_
  refine z_kV [.int 2, .int ((nI H2))] 0 0 kc ks yoX8_resets yvX8_resets rfl (by decide) lX8_145 (by omega) mW_obj rfl rfl (Nat.le_of_ble_eq_true rfl) (Nat.le_of_ble_eq_true rfl) dX8_reset_7 (by omega) (by omega) (z_room (by omega) (Nat.le_refl _) (Nat.le_refl _) (m_times (d := 0) (S := (B, H, T, K, V, c)) hb hT1 hlo hhi2 (fun s2 a2 ea hF2 => ⟨rfl, ?_⟩) (fun S' s2 a2 ea hMb hF2 => ⟨rfl, ?_⟩)))
  · exact absurd (ea.symm.trans hs) (fun z => by cases z)
  · obtain rfl : S' = S2 := Option.some.inj (ea.symm.trans hs)
    refine z_pop rfl dX8_reset_10 ?_
    refine z_aload_n (j := 0) dX8_reset_11 rfl ?_
    refine z_aload_n (j := 0) dX8_reset_12 rfl ?_
    refine z_get (v := .ref (b + 1)) (by omega) mW_obj fX8_7 rfl dX8_reset_13 ?_
    refine z_iconst (v := 0) dX8_reset_16 (by decide) ?_
    refine m_aldN 0 137 0 (by decide) rfl rfl hb rfl (by omega) (by decide) dX8_reset_17 ?_
    refine z_kV [.int ((a2 0 0))] 0 0 kc ks yoX8_remember yvX8_remember rfl (by decide) lX8_324 (by omega) mW_obj rfl rfl (Nat.le_of_ble_eq_true rfl) (Nat.le_of_ble_eq_true rfl) dX8_reset_18 (by omega) (by omega) (z_room (by omega) (Nat.le_refl _) (Nat.le_refl _) (r_remember (d := 0) (k := k) hb hk8 ((hF2.1 9 (by decide)).trans h9) (fun s9 a9 h99 hs9 hd9 hl9 hr9 => ⟨rfl, ?_⟩)))
    exact z_iret rfl dX8_reset_21 (by
        rw [hMb.ro]
        exact hq _ _ (hM.push (by rw [hr9 0 (by decide)]; exact hMb) (past_ok (a2 := a2) hk8 hT hhi (fun j hj => by rw [hF2.2 1 (by decide) (by decide) (by decide) (by decide) (by decide), hd1 j hj]) (by rw [hF2.2 5 (by decide) (by decide) (by decide) (by decide) (by decide), hr1 5 (by decide)]) hd9 hl9) h99 (fun q hq5 => (hs9 q (by omega)).trans (hF2.1 q (by omega))) (fun q hq6 => (hr9 q (by omega)).trans ((hF2.2 q (by omega) (by omega) (by omega) (by omega) (by omega)).trans (hr1 q (by omega))))) ((hs9 20 (by decide)).trans ((hF2.1 20 (by decide)).trans h20)))

set_option maxHeartbeats 4000000 in
set_option maxRecDepth 100000 in
theorem R_setMultiplier {l : zL} {d kc ks n b : Nat} {h : Nat → va_E} {s : Nat → Int32} {a : Nat → Nat → Int32} {g : zGs} {Q : zQ} {p : Int32} (hb : b + 14 ≤ n) (hM : mI g s a) (hq : ∀ t v g' s' a', f_setMultiplier g p = (t, v, g') → mI g' s' a' → s' 20 = t → Q (.inl (some (.int v))) n (mW h b s' a')) : Zj l mX8_setMultiplier (d + 12) kc ks 0 [(0, .ref b), (1, .int p)] [] n (mW h b s a) Q := by
  obtain ⟨⟨B, H, T, K, V, c⟩, sv, Sn, k, hi, L, x, ek, eo, rl, rb⟩ := g
  obtain ⟨hT, h11, hsv, hsn, hk8, h9, hhi, hL, h14, ha9, hx256, h16, h17, hrl, h19, ha11, hrb⟩ := id hM
  obtain ⟨hV, ⟨hI, hd3, h3⟩, e3⟩ := id hT
  obtain ⟨okb, h2H, hH6, h1T, hT99, e0, e1, e2, ek_, ev_, ekv, ez⟩ := id hV
  have hle := okb.le
  refine z_iload_n (j := 1) dX8_setMultiplier_0 rfl ?_
  refine z_iconst (v := 1) dX8_setMultiplier_1 (by decide) ?_
  refine z_bipush (v := 99) dX8_setMultiplier_2 (by decide) ?_
  refine z_kS [.int p, .int 1, .int 99] 0 0 kc ks yoX8_in ysX8_in rfl (by decide) lX8_67 rfl (Nat.le_of_ble_eq_true rfl) (Nat.le_of_ble_eq_true rfl) dX8_setMultiplier_4 (by omega) (by omega) (z_room (by omega) (Nat.le_refl _) (Nat.le_refl _) (r_in (d := 0)  ⟨rfl, ?_⟩))
  refine z_if_ne (tgt := 14) dX8_setMultiplier_7 (by decide) (fun czq7 => ?_) (fun czq7 => ?_)
  · refine z_iconst (v := 0) dX8_setMultiplier_14 (by decide) ?_
    refine z_istore_n [1, 2, 0] [(0, .ref b), (1, .int p), (2, .int 0)] dX8_setMultiplier_15 (by decide) rfl ?_
    refine z_aload_n (j := 0) dX8_setMultiplier_16 rfl ?_
    refine z_iload_n (j := 2) dX8_setMultiplier_17 rfl ?_
    refine z_iload_n (j := 2) dX8_setMultiplier_18 rfl ?_
    refine z_if_ne (tgt := 35) dX8_setMultiplier_19 (by decide) (fun czq19 => absurd czq19 (fun z => z rfl)) (fun czq19 => ?_)
    have ep := bI_n.mp czq7
    obtain ⟨key, hlo, hhi2, rfl, hkx⟩ := iO_yes 1 99 (by decide) (by decide) ep
    refine z_aload_n (j := 0) dX8_setMultiplier_22 rfl ?_
    refine z_iconst (v := 2) dX8_setMultiplier_23 (by decide) ?_
    refine z_iload_n (j := 1) dX8_setMultiplier_24 rfl ?_
    refine z_kV [.int 2, .int ((nI key))] 0 0 kc ks yoX8_canReset yvX8_canReset rfl (by decide) lX8_218 (by omega) mW_obj rfl rfl (Nat.le_of_ble_eq_true rfl) (Nat.le_of_ble_eq_true rfl) dX8_setMultiplier_25 (by omega) (by omega) (z_room (by omega) (Nat.le_refl _) (Nat.le_refl _) (m_canTimes2 (d := 0) (S := (B, H, T, K, V, c)) hb hT hlo hhi2 (fun sw aw hwe hFw => ⟨rfl, ?_⟩)))
    refine z_if_ne (tgt := 35) dX8_setMultiplier_28 (by decide) (fun czq28 => ?_) (fun czq28 => ?_)
    · refine z_iconst (v := 0) dX8_setMultiplier_35 (by decide) ?_
      refine z_kV [.int 0, .int 0] 0 0 kc ks yoX8_throwsOne_ yvX8_throwsOne_ rfl (by decide) lX8_333 (by omega) mW_obj rfl rfl (Nat.le_of_ble_eq_true rfl) (Nat.le_of_ble_eq_true rfl) dX8_setMultiplier_36 (by omega) (by omega) (z_room (by omega) (Nat.le_refl _) (Nat.le_refl _) (w_throws2_00 (d := 0) hb ⟨rfl, ?_⟩))
      refine z_if_eq (tgt := 46) dX8_setMultiplier_39 (by decide) (fun czq39 => ?_) (fun czq39 => absurd rfl czq39)
      obtain ⟨S2, hs⟩ := oI_n czq28
      have hMw : mI ((B, H, T, K, V, c), sv, Sn, k, hi, L, x, ek, eo, rl, rb) (va_up sw 20 0) aw := hM.cp (hT.cp hwe) (fun k hk => (up_ne (by omega)).trans (hFw.1 k (by omega))) (fun q hq5 => hFw.2 q (by omega) (by omega) (by omega) (by omega) (by omega) (by omega))
      refine z_aload_n (j := 0) dX8_setMultiplier_46 rfl ?_
      refine z_iconst (v := 2) dX8_setMultiplier_47 (by decide) ?_
      refine z_iload_n (j := 1) dX8_setMultiplier_48 rfl ?_
      refine z_kV [.int 2, .int ((nI key))] 0 0 kc ks yoX8_reset yvX8_reset rfl (by decide) lX8_336 (by omega) mW_obj rfl rfl (Nat.le_of_ble_eq_true rfl) (Nat.le_of_ble_eq_true rfl) dX8_setMultiplier_49 (by omega) (by omega) (z_room (by omega) (Nat.le_refl _) (Nat.le_refl _) (m_reset_times (d := 0) (g := ((B, H, T, K, V, c), sv, Sn, k, hi, L, x, ek, eo, rl, rb)) hb hMw up_eq hlo hhi2 hs (fun s9 a9 hM9 h209 => ⟨rfl, ?_⟩)))
      exact z_iret rfl dX8_setMultiplier_52 (hq 0 _ _ _ _ (by
          unfold f_setMultiplier
          rw [if_pos ep, hkx]
          simp only [hs] <;> rfl) hM9 h209)
    · refine z_iconst (v := 1) dX8_setMultiplier_31 (by decide) ?_
      refine z_goto (tgt := 36) dX8_setMultiplier_32 (by decide) ?_
      refine z_kV [.int 0, .int 1] 0 0 kc ks yoX8_throwsOne_ yvX8_throwsOne_ rfl (by decide) lX8_333 (by omega) mW_obj rfl rfl (Nat.le_of_ble_eq_true rfl) (Nat.le_of_ble_eq_true rfl) dX8_setMultiplier_36 (by omega) (by omega) (z_room (by omega) (Nat.le_refl _) (Nat.le_refl _) (w_throws2_01 (d := 0) hb ⟨rfl, ?_⟩))
      refine z_if_eq (tgt := 46) dX8_setMultiplier_39 (by decide) (fun czq39 => absurd czq39 (by decide)) (fun czq39 => ?_)
      refine z_iconst (v := 0) dX8_setMultiplier_42 (by decide) ?_
      refine z_goto (tgt := 52) dX8_setMultiplier_43 (by decide) ?_
      exact z_iret rfl dX8_setMultiplier_52 (hq 2 0 _ _ _ (by
          unfold f_setMultiplier
          rw [if_pos ep, hkx]
          simp only [oI_0.mp czq28] <;> rfl) (hM.cp (hT.cp hwe) (fun k hk => (up_ne (by omega)).trans (hFw.1 k (by omega))) (fun q hq5 => hFw.2 q (by omega) (by omega) (by omega) (by omega) (by omega) (by omega))) (by rw [up_eq]))
  · refine z_iconst (v := 1) dX8_setMultiplier_10 (by decide) ?_
    refine z_goto (tgt := 15) dX8_setMultiplier_11 (by decide) ?_
    refine z_istore_n [1, 2, 0] [(0, .ref b), (1, .int p), (2, .int 1)] dX8_setMultiplier_15 (by decide) rfl ?_
    refine z_aload_n (j := 0) dX8_setMultiplier_16 rfl ?_
    refine z_iload_n (j := 2) dX8_setMultiplier_17 rfl ?_
    refine z_iload_n (j := 2) dX8_setMultiplier_18 rfl ?_
    refine z_if_ne (tgt := 35) dX8_setMultiplier_19 (by decide) (fun czq19 => ?_) (fun czq19 => absurd czq19 (by decide))
    refine z_iconst (v := 0) dX8_setMultiplier_35 (by decide) ?_
    refine z_kV [.int 1, .int 0] 0 0 kc ks yoX8_throwsOne_ yvX8_throwsOne_ rfl (by decide) lX8_333 (by omega) mW_obj rfl rfl (Nat.le_of_ble_eq_true rfl) (Nat.le_of_ble_eq_true rfl) dX8_setMultiplier_36 (by omega) (by omega) (z_room (by omega) (Nat.le_refl _) (Nat.le_refl _) (w_throws2_10 (d := 0) hb ⟨rfl, ?_⟩))
    refine z_if_eq (tgt := 46) dX8_setMultiplier_39 (by decide) (fun czq39 => absurd czq39 (by decide)) (fun czq39 => ?_)
    refine z_iconst (v := 0) dX8_setMultiplier_42 (by decide) ?_
    refine z_goto (tgt := 52) dX8_setMultiplier_43 (by decide) ?_
    exact z_iret rfl dX8_setMultiplier_52 (hq 1 0 _ _ _ (by unfold f_setMultiplier; exact if_neg (bI_0.mp czq7)) hM.th (by rw [up_eq]))

set_option maxHeartbeats 4000000 in
set_option maxRecDepth 100000 in
theorem R_grow {l : zL} {d kc ks n b : Nat} {h : Nat → va_E} {s : Nat → Int32} {a : Nat → Nat → Int32} {g : zGs} {Q : zQ} (hb : b + 14 ≤ n) (hM : mI g s a) (hq : ∀ t v g' s' a', f_grow g = (t, v, g') → mI g' s' a' → s' 20 = t → Q (.inl (some (.int v))) n (mW h b s' a')) : Zj l mX8_grow (d + 12) kc ks 0 [(0, .ref b)] [] n (mW h b s a) Q := by
  obtain ⟨⟨B, H, T, K, V, c⟩, sv, Sn, k, hi, L, x, ek, eo, rl, rb⟩ := g
  obtain ⟨hT, h11, hsv, hsn, hk8, h9, hhi, hL, h14, ha9, hx256, h16, h17, hrl, h19, ha11, hrb⟩ := id hM
  obtain ⟨hV, ⟨hI, hd3, h3⟩, e3⟩ := id hT
  obtain ⟨okb, h2H, hH6, h1T, hT99, e0, e1, e2, ek_, ev_, ekv, ez⟩ := id hV
  have hle := okb.le
  refine z_aload_n (j := 0) dX8_grow_0 rfl ?_
  refine z_aload_n (j := 0) dX8_grow_1 rfl ?_
  refine z_kV [] 0 0 kc ks yoX8_canGrow yvX8_canGrow rfl (by decide) lX8_221 (by omega) mW_obj rfl rfl (Nat.le_of_ble_eq_true rfl) (Nat.le_of_ble_eq_true rfl) dX8_grow_2 (by omega) (by omega) (z_room (by omega) (Nat.le_refl _) (Nat.le_refl _) (m_canGrow2 (d := 0) (S := (B, H, T, K, V, c)) hb hT (fun sw aw hwe hFw => ⟨rfl, ?_⟩)))
  have hTw : mT (B, H, T, K, V, c) (aw 0) := hT.cp hwe
  refine z_if_ne (tgt := 12) dX8_grow_5 (by decide) (fun czq5 => ?_) (fun czq5 => ?_)
  · refine z_iconst (v := 0) dX8_grow_12 (by decide) ?_
    refine z_kV [.int 0] 0 0 kc ks yoX8_throwsOne yvX8_throwsOne rfl (by decide) lX8_315 (by omega) mW_obj rfl rfl (Nat.le_of_ble_eq_true rfl) (Nat.le_of_ble_eq_true rfl) dX8_grow_13 (by omega) (by omega) (z_room (by omega) (Nat.le_refl _) (Nat.le_refl _) (w_throws1_0 (d := 0) hb ⟨rfl, ?_⟩))
    refine z_if_eq (tgt := 21) dX8_grow_16 (by decide) (fun czq16 => ?_) (fun czq16 => absurd rfl czq16)
    refine z_aload_n (j := 0) dX8_grow_21 rfl ?_
    refine z_kV [] 0 0 kc ks yoX8_begins yvX8_begins rfl (by decide) lX8_321 (by omega) mW_obj rfl rfl (Nat.le_of_ble_eq_true rfl) (Nat.le_of_ble_eq_true rfl) dX8_grow_22 (by omega) (by omega) (z_room (by omega) (Nat.le_refl _) (Nat.le_refl _) (r_begins (d := 0) hb (fun a1 hd1 hr1 => ⟨rfl, ?_⟩)))
    have hT1 : mT (B, H, T, K, V, c) (a1 0) := by rw [hr1 0 (by decide)]; exact hTw
    refine z_aload_n (j := 0) dX8_grow_25 rfl ?_
    refine z_aload_n (j := 0) dX8_grow_26 rfl ?_
    refine z_kV [] 0 0 kc ks yoX8_grows yvX8_grows rfl (by decide) lX8_224 (by omega) mW_obj rfl rfl (Nat.le_of_ble_eq_true rfl) (Nat.le_of_ble_eq_true rfl) dX8_grow_27 (by omega) (by omega) (z_room (by omega) (Nat.le_refl _) (Nat.le_refl _) (m_grows (d := 0) (S := (B, H, T, K, V, c)) hb hT1 (fun r s2 a2 ea hF2 => ⟨rfl, ?_⟩) (fun S' s2 a2 ea hMb hF2 => ⟨rfl, ?_⟩)))
    · exact absurd (oI_0.mpr ea) czq5
    · refine z_kV [.int ((nI S'.1))] 0 0 kc ks yoX8_remember yvX8_remember rfl (by decide) lX8_324 (by omega) mW_obj rfl rfl (Nat.le_of_ble_eq_true rfl) (Nat.le_of_ble_eq_true rfl) dX8_grow_30 (by omega) (by omega) (z_room (by omega) (Nat.le_refl _) (Nat.le_refl _) (r_remember (d := 0) (k := k) hb hk8 ((hF2.1 9 (by decide)).trans ((up_ne (by decide)).trans ((hFw.1 9 (by decide)).trans h9))) (fun s9 a9 h99 hs9 hd9 hl9 hr9 => ⟨rfl, ?_⟩)))
      exact z_iret rfl dX8_grow_33 (by
          exact hq 0 _ _ _ _ (by
          unfold f_grow
          simp only [ea] <;> rfl) (hM.push (by rw [hr9 0 (by decide)]; exact hMb) (past_ok (a2 := a2) hk8 hT hhi (fun j hj => by rw [hF2.2 1 (by decide) (by decide) (by decide) (by decide) (by decide), hd1 j hj, hwe j hj]) (by rw [hF2.2 5 (by decide) (by decide) (by decide) (by decide) (by decide), hr1 5 (by decide), hFw.2 5 (by decide) (by decide) (by decide) (by decide) (by decide) (by decide)]) hd9 hl9) h99 (fun q hq5 => (hs9 q (by omega)).trans ((hF2.1 q (by omega)).trans ((up_ne (by omega)).trans (hFw.1 q (by omega))))) (fun q hq6 => (hr9 q (by omega)).trans ((hF2.2 q (by omega) (by omega) (by omega) (by omega) (by omega)).trans ((hr1 q (by omega)).trans (hFw.2 q (by omega) (by omega) (by omega) (by omega) (by omega) (by omega)))))) (by rw [hs9 20 (by decide)]; exact (hF2.1 20 (by decide)).trans up_eq))
  · refine z_iconst (v := 1) dX8_grow_8 (by decide) ?_
    refine z_goto (tgt := 13) dX8_grow_9 (by decide) ?_
    refine z_kV [.int 1] 0 0 kc ks yoX8_throwsOne yvX8_throwsOne rfl (by decide) lX8_315 (by omega) mW_obj rfl rfl (Nat.le_of_ble_eq_true rfl) (Nat.le_of_ble_eq_true rfl) dX8_grow_13 (by omega) (by omega) (z_room (by omega) (Nat.le_refl _) (Nat.le_refl _) (w_throws1_1 (d := 0) hb ⟨rfl, ?_⟩))
    refine z_if_eq (tgt := 21) dX8_grow_16 (by decide) (fun czq16 => absurd czq16 (by decide)) (fun czq16 => ?_)
    refine z_iconst (v := 0) dX8_grow_19 (by decide) ?_
    exact z_iret rfl dX8_grow_20 (hq 1 0 _ _ _ (by
        unfold f_grow
        simp only [oI_0.mp czq5] <;> rfl) (hM.cp (hT.cp hwe) (fun k hk => (up_ne (by omega)).trans (hFw.1 k (by omega))) (fun q hq5 => hFw.2 q (by omega) (by omega) (by omega) (by omega) (by omega) (by omega))) (by rw [up_eq]))

set_option maxHeartbeats 4000000 in
set_option maxRecDepth 100000 in
theorem R_clear {l : zL} {d kc ks n b : Nat} {h : Nat → va_E} {s : Nat → Int32} {a : Nat → Nat → Int32} {g : zGs} {Q : zQ} (hb : b + 14 ≤ n) (hM : mI g s a) (hq : ∀ t v g' s' a', f_clear g = (t, v, g') → mI g' s' a' → s' 20 = t → Q (.inl (some (.int v))) n (mW h b s' a')) : Zj l mX8_clear (d + 12) kc ks 0 [(0, .ref b)] [] n (mW h b s a) Q := by
  obtain ⟨⟨B, H, T, K, V, c⟩, sv, Sn, k, hi, L, x, ek, eo, rl, rb⟩ := g
  obtain ⟨hT, h11, hsv, hsn, hk8, h9, hhi, hL, h14, ha9, hx256, h16, h17, hrl, h19, ha11, hrb⟩ := id hM
  obtain ⟨hV, ⟨hI, hd3, h3⟩, e3⟩ := id hT
  obtain ⟨okb, h2H, hH6, h1T, hT99, e0, e1, e2, ek_, ev_, ekv, ez⟩ := id hV
  have hle := okb.le
  refine z_aload_n (j := 0) dX8_clear_0 rfl ?_
  refine z_iconst (v := 0) dX8_clear_1 (by decide) ?_
  refine m_put (k := 20) (by omega) fX8_64 (by unfold mS; omega) (by decide) dX8_clear_2 ?_
  refine z_aload_n (j := 0) dX8_clear_5 rfl ?_
  refine z_kV [] 0 0 kc ks yoX8_begins yvX8_begins rfl (by decide) lX8_321 (by omega) mW_obj rfl rfl (Nat.le_of_ble_eq_true rfl) (Nat.le_of_ble_eq_true rfl) dX8_clear_6 (by omega) (by omega) (z_room (by omega) (Nat.le_refl _) (Nat.le_refl _) (r_begins (d := 0) hb (fun a1 hd1 hr1 => ⟨rfl, ?_⟩)))
  have hT1 : mT (B, H, T, K, V, c) (a1 0) := by rw [hr1 0 (by decide)]; exact hT
  refine z_aload_n (j := 0) dX8_clear_9 rfl ?_
  refine z_aload_n (j := 0) dX8_clear_10 rfl ?_
  refine z_kV [] 0 0 kc ks yoX8_clears yvX8_clears rfl (by decide) lX8_227 (by omega) mW_obj rfl rfl (Nat.le_of_ble_eq_true rfl) (Nat.le_of_ble_eq_true rfl) dX8_clear_11 (by omega) (by omega) (z_room (by omega) (Nat.le_refl _) (Nat.le_refl _) (m_clears (d := 0) (S := (B, H, T, K, V, c)) hb hT1 (fun a2 hMb hr2 => ⟨rfl, ?_⟩)))
  refine z_kV [.int ((nI (cnt K B)))] 0 0 kc ks yoX8_remember yvX8_remember rfl (by decide) lX8_324 (by omega) mW_obj rfl rfl (Nat.le_of_ble_eq_true rfl) (Nat.le_of_ble_eq_true rfl) dX8_clear_14 (by omega) (by omega) (z_room (by omega) (Nat.le_refl _) (Nat.le_refl _) (r_remember (d := 0) (k := k) hb hk8 ((up_ne (by decide)).trans h9) (fun s9 a9 h99 hs9 hd9 hl9 hr9 => ⟨rfl, ?_⟩)))
  exact z_iret rfl dX8_clear_17 (by
      exact hq 0 _ _ _ _ rfl (hM.push (by rw [hr9 0 (by decide)]; exact hMb) (past_ok (a2 := a2) hk8 hT hhi (fun j hj => by rw [hr2 1 (by decide), hd1 j hj]) (by rw [hr2 5 (by decide), hr1 5 (by decide)]) hd9 hl9) h99 (fun q hq5 => (hs9 q (by omega)).trans (up_ne (by omega))) (fun q hq6 => (hr9 q (by omega)).trans ((hr2 q (by omega)).trans (hr1 q (by omega))))) (by rw [hs9 20 (by decide)]; exact up_eq))

theorem mT.pull {B H T : Nat} {K V : Nat → Nat} {c : Nat → Int32} {r r' : Nat → Int32} {p : Int32} (h : mT (B, H, T, K, V, c) r) (hr : ∀ j, r' j = if j = 3 then p else r j) (hp : p = 0 ∨ p = 1) : mT (sPull (B, H, T, K, V, c) p) r' := by
  obtain ⟨⟨okb, h2H, hH6, h1T, hT99, e0, e1, e2, ek_, ev_, ekv, ez⟩, ⟨hI, hd3, h3⟩, e3⟩ := h
  have hn : ∀ j, j ≠ 3 → r' j = r j := fun j hj => by rw [hr, if_neg hj]
  refine ⟨⟨okb, h2H, hH6, h1T, hT99, (hn 0 (by decide)).trans e0, (hn 1 (by decide)).trans e1, (hn 2 (by decide)).trans e2, fun i hi => (hn _ (by omega)).trans (ek_ i hi), fun i hi => (hn _ (by omega)).trans (ev_ i hi), ekv, ez⟩, ⟨hI, hd3, ?_⟩, fun k hk1 hk2 => ?_⟩
  · show va_up c 3 p 3 = 0 ∨ va_up c 3 p 3 = 1
    rw [up_eq]
    exact hp
  · show r' k = va_up c 3 p k
    by_cases h3k : k = 3
    · subst h3k
      rw [up_eq, hr, if_pos rfl]
    · rw [up_ne h3k, hn k h3k]
      exact e3 k hk1 hk2

set_option maxHeartbeats 4000000 in
set_option maxRecDepth 100000 in
theorem R_setPulling {l : zL} {d kc ks n b : Nat} {h : Nat → va_E} {s : Nat → Int32} {a : Nat → Nat → Int32} {g : zGs} {Q : zQ} {p : Int32} (hp : p = 0 ∨ p = 1) (hb : b + 14 ≤ n) (hM : mI g s a) (hq : ∀ t v g' s' a', f_setPulling g p = (t, v, g') → mI g' s' a' → s' 20 = t → Q (.inl (some (.int v))) n (mW h b s' a')) : Zj l mX8_setPulling (d + 12) kc ks 0 [(0, .ref b), (1, .int p)] [] n (mW h b s a) Q := by
  obtain ⟨⟨B, H, T, K, V, c⟩, sv, Sn, k, hi, L, x, ek, eo, rl, rb⟩ := g
  obtain ⟨hT, h11, hsv, hsn, hk8, h9, hhi, hL, h14, ha9, hx256, h16, h17, hrl, h19, ha11, hrb⟩ := id hM
  obtain ⟨hV, ⟨hI, hd3, h3⟩, e3⟩ := id hT
  obtain ⟨okb, h2H, hH6, h1T, hT99, e0, e1, e2, ek_, ev_, ekv, ez⟩ := id hV
  have hle := okb.le
  refine z_aload_n (j := 0) dX8_setPulling_0 rfl ?_
  refine z_iconst (v := 0) dX8_setPulling_1 (by decide) ?_
  refine m_put (k := 20) (by omega) fX8_64 (by unfold mS; omega) (by decide) dX8_setPulling_2 ?_
  refine z_aload_n (j := 0) dX8_setPulling_5 rfl ?_
  refine z_kV [] 0 0 kc ks yoX8_begins yvX8_begins rfl (by decide) lX8_321 (by omega) mW_obj rfl rfl (Nat.le_of_ble_eq_true rfl) (Nat.le_of_ble_eq_true rfl) dX8_setPulling_6 (by omega) (by omega) (z_room (by omega) (Nat.le_refl _) (Nat.le_refl _) (r_begins (d := 0) hb (fun a1 hd1 hr1 => ⟨rfl, ?_⟩)))
  have hT1 : mT (B, H, T, K, V, c) (a1 0) := by rw [hr1 0 (by decide)]; exact hT
  refine z_aload_n (j := 0) dX8_setPulling_9 rfl ?_
  refine z_get (v := .ref (b + 1)) (by omega) mW_obj fX8_7 rfl dX8_setPulling_10 ?_
  refine z_iconst (v := 3) dX8_setPulling_13 (by decide) ?_
  refine m_aldN 0 137 3 (by decide) rfl rfl hb rfl (by omega) (by decide) dX8_setPulling_14 ?_
  refine z_istore_n [1, 2, 0] [(0, .ref b), (1, .int p), (2, .int ((a1 0 3)))] dX8_setPulling_15 (by decide) rfl ?_
  refine z_aload_n (j := 0) dX8_setPulling_16 rfl ?_
  refine z_get (v := .ref (b + 1)) (by omega) mW_obj fX8_7 rfl dX8_setPulling_17 ?_
  refine z_iconst (v := 3) dX8_setPulling_20 (by decide) ?_
  refine z_iload_n (j := 1) dX8_setPulling_21 rfl ?_
  refine z_if_eq (tgt := 29) dX8_setPulling_22 (by decide) (fun czq22 => ?_) (fun czq22 => ?_)
  · refine z_iconst (v := 0) dX8_setPulling_29 (by decide) ?_
    refine m_astN 0 137 3 (by decide) rfl rfl hb rfl (by omega) (by decide) dX8_setPulling_30 ?_
    have hp0 : p = 0 := by
      rcases hp with z | z
      · exact z
      · exact absurd czq22 (by rw [z]; decide)
    subst hp0
    have hMb : mT (sPull (B, H, T, K, V, c) 0) ((va_up a1 0 (va_up (a1 0) 3 0)) 0) := by
      rw [up_eq]
      have hz : ∀ j, va_up (a1 0) 3 0 j = if j = 3 then 0 else a 0 j := fun j => by
        by_cases h3 : j = 3
        · subst h3; rw [up_eq, if_pos rfl]
        · rw [up_ne h3, if_neg h3, hr1 0 (by decide)]
      exact hT.pull hz (by decide)
    have hr2 : ∀ q, q ≠ 0 → (va_up a1 0 (va_up (a1 0) 3 0)) q = a1 q := fun q q0 => up_ne q0
    generalize (va_up a1 0 (va_up (a1 0) 3 0)) = a2 at hMb hr2 ⊢
    refine z_aload_n (j := 0) dX8_setPulling_31 rfl ?_
    refine z_iload_n (j := 2) dX8_setPulling_32 rfl ?_
    refine z_kV [.int ((a1 0 3))] 0 0 kc ks yoX8_remember yvX8_remember rfl (by decide) lX8_324 (by omega) mW_obj rfl rfl (Nat.le_of_ble_eq_true rfl) (Nat.le_of_ble_eq_true rfl) dX8_setPulling_33 (by omega) (by omega) (z_room (by omega) (Nat.le_refl _) (Nat.le_refl _) (r_remember (d := 0) (k := k) hb hk8 ((up_ne (by decide)).trans h9) (fun s9 a9 h99 hs9 hd9 hl9 hr9 => ⟨rfl, ?_⟩)))
    refine z_iconst (v := 1) dX8_setPulling_36 (by decide) ?_
    refine z_icmp_ne (tgt := 44) dX8_setPulling_37 (by decide) (fun czq37 => ?_) (fun czq37 => ?_)
    · refine z_iconst (v := 0) dX8_setPulling_44 (by decide) ?_
      exact z_zret rfl rfl dX8_setPulling_45 (by
          have old1 : a1 0 3 = c 3 := by rw [hr1 0 (by decide)]; exact e3 3 (by decide) (by decide)
          have hc : c 3 = 0 := by
            rcases h3 with z | z
            · exact z
            · exact absurd (old1.trans z) czq37
          exact hq 0 0 _ _ _ (by unfold f_setPulling; rw [show (((B, H, T, K, V, c), sv, Sn, k, hi, L, x, ek, eo, rl, rb)).1.2.2.2.2.2 3 = c 3 from rfl, hc]) (hM.push (by rw [hr9 0 (by decide)]; exact hMb) (past_ok (a2 := a2) hk8 hT hhi (fun j hj => by rw [hr2 1 (by decide), hd1 j hj]) (by rw [hr2 5 (by decide), hr1 5 (by decide)]) hd9 hl9) h99 (fun q hq5 => (hs9 q (by omega)).trans (up_ne (by omega))) (fun q hq6 => (hr9 q (by omega)).trans ((hr2 q (by omega)).trans (hr1 q (by omega))))) (by rw [hs9 20 (by decide)]; exact up_eq))
    · refine z_iconst (v := 1) dX8_setPulling_40 (by decide) ?_
      refine z_goto (tgt := 45) dX8_setPulling_41 (by decide) ?_
      exact z_zret rfl rfl dX8_setPulling_45 (by
          have old1 : a1 0 3 = c 3 := by rw [hr1 0 (by decide)]; exact e3 3 (by decide) (by decide)
          have hc : c 3 = 1 := old1.symm.trans czq37
          exact hq 0 1 _ _ _ (by unfold f_setPulling; rw [show (((B, H, T, K, V, c), sv, Sn, k, hi, L, x, ek, eo, rl, rb)).1.2.2.2.2.2 3 = c 3 from rfl, hc]) (hM.push (by rw [hr9 0 (by decide)]; exact hMb) (past_ok (a2 := a2) hk8 hT hhi (fun j hj => by rw [hr2 1 (by decide), hd1 j hj]) (by rw [hr2 5 (by decide), hr1 5 (by decide)]) hd9 hl9) h99 (fun q hq5 => (hs9 q (by omega)).trans (up_ne (by omega))) (fun q hq6 => (hr9 q (by omega)).trans ((hr2 q (by omega)).trans (hr1 q (by omega))))) (by rw [hs9 20 (by decide)]; exact up_eq))
  · refine z_iconst (v := 1) dX8_setPulling_25 (by decide) ?_
    refine z_goto (tgt := 30) dX8_setPulling_26 (by decide) ?_
    refine m_astN 0 137 3 (by decide) rfl rfl hb rfl (by omega) (by decide) dX8_setPulling_30 ?_
    have hp0 : p = 1 := by
      rcases hp with z | z
      · exact absurd z czq22
      · exact z
    subst hp0
    have hMb : mT (sPull (B, H, T, K, V, c) 1) ((va_up a1 0 (va_up (a1 0) 3 1)) 0) := by
      rw [up_eq]
      have hz : ∀ j, va_up (a1 0) 3 1 j = if j = 3 then 1 else a 0 j := fun j => by
        by_cases h3 : j = 3
        · subst h3; rw [up_eq, if_pos rfl]
        · rw [up_ne h3, if_neg h3, hr1 0 (by decide)]
      exact hT.pull hz (by decide)
    have hr2 : ∀ q, q ≠ 0 → (va_up a1 0 (va_up (a1 0) 3 1)) q = a1 q := fun q q0 => up_ne q0
    generalize (va_up a1 0 (va_up (a1 0) 3 1)) = a2 at hMb hr2 ⊢
    refine z_aload_n (j := 0) dX8_setPulling_31 rfl ?_
    refine z_iload_n (j := 2) dX8_setPulling_32 rfl ?_
    refine z_kV [.int ((a1 0 3))] 0 0 kc ks yoX8_remember yvX8_remember rfl (by decide) lX8_324 (by omega) mW_obj rfl rfl (Nat.le_of_ble_eq_true rfl) (Nat.le_of_ble_eq_true rfl) dX8_setPulling_33 (by omega) (by omega) (z_room (by omega) (Nat.le_refl _) (Nat.le_refl _) (r_remember (d := 0) (k := k) hb hk8 ((up_ne (by decide)).trans h9) (fun s9 a9 h99 hs9 hd9 hl9 hr9 => ⟨rfl, ?_⟩)))
    refine z_iconst (v := 1) dX8_setPulling_36 (by decide) ?_
    refine z_icmp_ne (tgt := 44) dX8_setPulling_37 (by decide) (fun czq37 => ?_) (fun czq37 => ?_)
    · refine z_iconst (v := 0) dX8_setPulling_44 (by decide) ?_
      exact z_zret rfl rfl dX8_setPulling_45 (by
          have old1 : a1 0 3 = c 3 := by rw [hr1 0 (by decide)]; exact e3 3 (by decide) (by decide)
          have hc : c 3 = 0 := by
            rcases h3 with z | z
            · exact z
            · exact absurd (old1.trans z) czq37
          exact hq 0 0 _ _ _ (by unfold f_setPulling; rw [show (((B, H, T, K, V, c), sv, Sn, k, hi, L, x, ek, eo, rl, rb)).1.2.2.2.2.2 3 = c 3 from rfl, hc]) (hM.push (by rw [hr9 0 (by decide)]; exact hMb) (past_ok (a2 := a2) hk8 hT hhi (fun j hj => by rw [hr2 1 (by decide), hd1 j hj]) (by rw [hr2 5 (by decide), hr1 5 (by decide)]) hd9 hl9) h99 (fun q hq5 => (hs9 q (by omega)).trans (up_ne (by omega))) (fun q hq6 => (hr9 q (by omega)).trans ((hr2 q (by omega)).trans (hr1 q (by omega))))) (by rw [hs9 20 (by decide)]; exact up_eq))
    · refine z_iconst (v := 1) dX8_setPulling_40 (by decide) ?_
      refine z_goto (tgt := 45) dX8_setPulling_41 (by decide) ?_
      exact z_zret rfl rfl dX8_setPulling_45 (by
          have old1 : a1 0 3 = c 3 := by rw [hr1 0 (by decide)]; exact e3 3 (by decide) (by decide)
          have hc : c 3 = 1 := old1.symm.trans czq37
          exact hq 0 1 _ _ _ (by unfold f_setPulling; rw [show (((B, H, T, K, V, c), sv, Sn, k, hi, L, x, ek, eo, rl, rb)).1.2.2.2.2.2 3 = c 3 from rfl, hc]) (hM.push (by rw [hr9 0 (by decide)]; exact hMb) (past_ok (a2 := a2) hk8 hT hhi (fun j hj => by rw [hr2 1 (by decide), hd1 j hj]) (by rw [hr2 5 (by decide), hr1 5 (by decide)]) hd9 hl9) h99 (fun q hq5 => (hs9 q (by omega)).trans (up_ne (by omega))) (fun q hq6 => (hr9 q (by omega)).trans ((hr2 q (by omega)).trans (hr1 q (by omega))))) (by rw [hs9 20 (by decide)]; exact up_eq))

set_option maxHeartbeats 4000000 in
set_option maxRecDepth 100000 in
theorem r_undo_l {l : zL} {d kc ks n b k : Nat} {h : Nat → va_E} {s : Nat → Int32} {a0 : Nat → Nat → Int32} {Q : zQ} (hb : b + 14 ≤ n) (hk : k < 8) (e9 : s 9 = nI k) : ∀ m i, i + m = 137 → ∀ (a : Nat → Nat → Int32), (∀ j, j < i → a 0 j = a0 5 (137 * k + j)) → (∀ q, q ≠ 0 → a q = a0 q) → (∀ a', (∀ j, j < 137 → a' 0 j = a0 5 (137 * k + j)) → (∀ q, q ≠ 0 → a' q = a0 q) → Q (.inl (some (.int (s 9)))) n (mW h b s a')) → Zj l mX8_undo d kc ks 26 [(0, .ref b), (1, .int ((nI i)))] [] n (mW h b s a) Q := by
  intro m
  induction m with
  | zero =>
    intro i hi a hd hr hq
    have hi0 : i = 137 := by omega
    refine z_iload_n (j := 1) dX8_undo_26 rfl ?_
    refine z_sipush (v := 137) dX8_undo_27 (by decide) ?_
    refine z_icmp_ge (tgt := 60) dX8_undo_30 (by decide) (fun czq30 => ?_) (fun czq30 => absurd (by rw [hi0]; decide) czq30)
    refine z_aload_n (j := 0) dX8_undo_60 rfl ?_
    refine z_get (v := .int (s 9)) (by omega) mW_obj fX8_318 rfl dX8_undo_61 ?_
    exact z_iret rfl dX8_undo_64 (hq a (fun j hj => hd j (by omega)) hr)
  | succ m ih =>
    intro i hi a hd hr hq
    refine z_iload_n (j := 1) dX8_undo_26 rfl ?_
    refine z_sipush (v := 137) dX8_undo_27 (by decide) ?_
    refine z_icmp_ge (tgt := 60) dX8_undo_30 (by decide) (fun czq30 => absurd czq30 (nI_ge (b := 137) (by omega) (by decide))) (fun czq30 => ?_)
    refine z_aload_n (j := 0) dX8_undo_33 rfl ?_
    refine z_get (v := .ref (b + 1)) (by omega) mW_obj fX8_7 rfl dX8_undo_34 ?_
    refine z_iload_n (j := 1) dX8_undo_37 rfl ?_
    refine z_aload_n (j := 0) dX8_undo_38 rfl ?_
    refine z_get (v := .ref (b + 6)) (by omega) mW_obj fX8_25 rfl dX8_undo_39 ?_
    refine z_sipush (v := 137) dX8_undo_42 (by decide) ?_
    refine z_aload_n (j := 0) dX8_undo_45 rfl ?_
    refine z_get (v := .int (s 9)) (by omega) mW_obj fX8_318 rfl dX8_undo_46 ?_
    refine z_imul dX8_undo_49 ?_
    refine z_iload_n (j := 1) dX8_undo_50 rfl ?_
    refine z_iadd dX8_undo_51 ?_
    rw [show ((137 * (s 9)) + (nI i)) = (nI (137 * k + i)) from by rw [e9, show (137 : Int32) = nI 137 from rfl, pk_mul, nI_add]]
    refine m_aldN 5 1096 (137 * k + i) (by decide) rfl rfl hb rfl (by omega) (by decide) dX8_undo_52 ?_
    refine m_astN 0 137 i (by decide) rfl rfl hb rfl (by omega) (by decide) dX8_undo_53 ?_
    skip
    refine z_iinc ((nI (i + 1))) [1, 0] [(0, .ref b), (1, .int ((nI (i + 1))))] dX8_undo_54 (j := 1) rfl (nI_1 i) (by decide) rfl ?_
    refine z_goto (tgt := 26) dX8_undo_57 (by decide) ?_
    refine ih (i + 1) (by omega) _ (fun j hj => ?_) (fun q q0 => ?_) hq
    · by_cases hji : j = i
      · subst hji; rw [up_eq, up_eq, hr 5 (by decide)]
      · rw [up_eq, up_ne hji]; exact hd j (by omega)
    · rw [up_ne q0]; exact hr q q0

set_option maxHeartbeats 4000000 in
set_option maxRecDepth 100000 in
theorem R_undo {l : zL} {d kc ks n b : Nat} {h : Nat → va_E} {s : Nat → Int32} {a : Nat → Nat → Int32} {g : zGs} {Q : zQ} (hb : b + 14 ≤ n) (hM : mI g s a) (hq : ∀ t v g' s' a', f_undo g = (t, v, g') → mI g' s' a' → s' 20 = t → Q (.inl (some (.int v))) n (mW h b s' a')) : Zj l mX8_undo (d + 12) kc ks 0 [(0, .ref b)] [] n (mW h b s a) Q := by
  obtain ⟨⟨B, H, T, K, V, c⟩, sv, Sn, k, hi, L, x, ek, eo, rl, rb⟩ := g
  obtain ⟨hT, h11, hsv, hsn, hk8, h9, hhi, hL, h14, ha9, hx256, h16, h17, hrl, h19, ha11, hrb⟩ := id hM
  obtain ⟨hV, ⟨hI, hd3, h3⟩, e3⟩ := id hT
  obtain ⟨okb, h2H, hH6, h1T, hT99, e0, e1, e2, ek_, ev_, ekv, ez⟩ := id hV
  have hle := okb.le
  refine z_aload_n (j := 0) dX8_undo_0 rfl ?_
  refine z_iconst (v := 0) dX8_undo_1 (by decide) ?_
  refine m_put (k := 20) (by omega) fX8_64 (by unfold mS; omega) (by decide) dX8_undo_2 ?_
  refine z_aload_n (j := 0) dX8_undo_5 rfl ?_
  refine z_get (v := .int (s 9)) (by omega) mW_obj fX8_318 rfl dX8_undo_6 ?_
  refine z_if_ne (tgt := 14) dX8_undo_9 (by decide) (fun czq9 => ?_) (fun czq9 => ?_)
  · refine z_aload_n (j := 0) dX8_undo_14 rfl ?_
    refine z_dup rfl dX8_undo_15 ?_
    refine z_get (v := .int (s 9)) (by omega) mW_obj fX8_318 rfl dX8_undo_16 ?_
    refine z_iconst (v := 1) dX8_undo_19 (by decide) ?_
    refine z_isub dX8_undo_20 ?_
    have hk0 : ¬ k = 0 := fun z => czq9 (h9.trans (by rw [z]; rfl))
    rw [show ((s 9) - 1) = nI (k - 1) from by
      rw [h9]
      obtain ⟨z, rfl⟩ : ∃ z, k = z + 1 := ⟨k - 1, by omega⟩
      exact nI_pred _]
    refine m_put (k := 9) (by omega) fX8_318 (by unfold mS; omega) (by decide) dX8_undo_21 ?_
    refine z_iconst (v := 0) dX8_undo_24 (by decide) ?_
    refine z_istore_n [1, 0] [(0, .ref b), (1, .int 0)] dX8_undo_25 (by decide) rfl ?_
    refine z_room (d' := d) (by omega) (Nat.le_refl _) (Nat.le_refl _) (r_undo_l (k := k - 1) (a0 := a) hb (by omega) (by rw [up_eq]) 137 0 (by omega) a (fun j hj => absurd hj (Nat.not_lt_zero j)) (fun _ _ => rfl) (fun a' hd' hr' => ?_))
    rw [up_eq]
    exact hq 0 (nI (k - 1)) (hi 0, sv, Sn, k - 1, (fun j => hi (j + 1)), L, x, ek, eo, rl, rb) _ _ (by unfold f_undo; exact if_neg hk0) ⟨(hhi 0 (by omega)).cp (fun i hi9 => hd' i hi9), (up_ne (by decide)).trans ((up_ne (by decide)).trans h11), hsv, fun e => by rw [hr' 6 (by decide)]; exact hsn e, by omega, up_eq, fun j hj => (hhi (j + 1) (by omega)).cp (fun i hi9 => by rw [hr' 5 (by decide), show k - 1 - 1 - j = k - 1 - (j + 1) by omega]), hL, (up_ne (by decide)).trans ((up_ne (by decide)).trans h14), by rw [hr' 9 (by decide)]; exact ha9, hx256, (up_ne (by decide)).trans ((up_ne (by decide)).trans h16), (up_ne (by decide)).trans ((up_ne (by decide)).trans h17), hrl, (up_ne (by decide)).trans ((up_ne (by decide)).trans h19), by rw [hr' 11 (by decide)]; exact ha11, hrb⟩ ((up_ne (by decide)).trans up_eq)
  · refine z_iconst (v := (-1)) dX8_undo_12 (by decide) ?_
    exact z_iret rfl dX8_undo_13 (by
        have hk0 : k = 0 := (nI_eq (b := 0) (by omega) (by decide)).mp (h9.symm.trans czq9)
        exact hq 0 _ _ _ _ (by unfold f_undo; exact if_pos hk0) hM.th (by rw [up_eq]))

set_option maxHeartbeats 4000000 in
set_option maxRecDepth 100000 in
theorem r_save_l {l : zL} {d kc ks n b B H T : Nat} {K V : Nat → Nat} {c : Nat → Int32} {h : Nat → va_E} {s : Nat → Int32} {a0 : Nat → Nat → Int32} {Q : zQ} (hb : b + 14 ≤ n) (hT : mT (B, H, T, K, V, c) (a0 0)) : ∀ m i, i + m = 137 → ∀ (a : Nat → Nat → Int32), (∀ j, j < i → a 6 j = a0 0 j) → (∀ q, q ≠ 6 → a q = a0 q) → (∀ a', (∀ j, j < 137 → a' 6 j = a0 0 j) → (∀ q, q ≠ 6 → a' q = a0 q) → Q (.inl (some (.int (nI (cnt K B))))) n (mW h b s a')) → Zj l mX8_saveSnapshot (d + 2) kc ks 12 [(0, .ref b), (1, .int ((nI i)))] [] n (mW h b s a) Q := by
  intro m
  induction m with
  | zero =>
    intro i hi a hd hr hq
    have hi0 : i = 137 := by omega
    have hT9 : mT (B, H, T, K, V, c) (a 0) := by rw [hr 0 (by decide)]; exact hT
    refine z_iload_n (j := 1) dX8_saveSnapshot_12 rfl ?_
    refine z_sipush (v := 137) dX8_saveSnapshot_13 (by decide) ?_
    refine z_icmp_ge (tgt := 37) dX8_saveSnapshot_16 (by decide) (fun czq16 => ?_) (fun czq16 => absurd (by rw [hi0]; decide) czq16)
    refine z_aload_n (j := 0) dX8_saveSnapshot_37 rfl ?_
    refine z_kV [] 0 0 kc ks yoX8_entries yvX8_entries rfl (by decide) lX8_148 (by omega) mW_obj rfl rfl (Nat.le_of_ble_eq_true rfl) (Nat.le_of_ble_eq_true rfl) dX8_saveSnapshot_38 (by omega) (by omega) (z_room (by omega) (Nat.le_refl _) (Nat.le_refl _) (r_entries (d := 0) hb hT9.1 ⟨rfl, ?_⟩))
    exact z_iret rfl dX8_saveSnapshot_41 (hq a (fun j hj => hd j (by omega)) hr)
  | succ m ih =>
    intro i hi a hd hr hq
    refine z_iload_n (j := 1) dX8_saveSnapshot_12 rfl ?_
    refine z_sipush (v := 137) dX8_saveSnapshot_13 (by decide) ?_
    refine z_icmp_ge (tgt := 37) dX8_saveSnapshot_16 (by decide) (fun czq16 => absurd czq16 (nI_ge (b := 137) (by omega) (by decide))) (fun czq16 => ?_)
    refine z_aload_n (j := 0) dX8_saveSnapshot_19 rfl ?_
    refine z_get (v := .ref (b + 7)) (by omega) mW_obj fX8_28 rfl dX8_saveSnapshot_20 ?_
    refine z_iload_n (j := 1) dX8_saveSnapshot_23 rfl ?_
    refine z_aload_n (j := 0) dX8_saveSnapshot_24 rfl ?_
    refine z_get (v := .ref (b + 1)) (by omega) mW_obj fX8_7 rfl dX8_saveSnapshot_25 ?_
    refine z_iload_n (j := 1) dX8_saveSnapshot_28 rfl ?_
    refine m_aldN 0 137 i (by decide) rfl rfl hb rfl (by omega) (by decide) dX8_saveSnapshot_29 ?_
    refine m_astN 6 137 i (by decide) rfl rfl hb rfl (by omega) (by decide) dX8_saveSnapshot_30 ?_
    skip
    refine z_iinc ((nI (i + 1))) [1, 0] [(0, .ref b), (1, .int ((nI (i + 1))))] dX8_saveSnapshot_31 (j := 1) rfl (nI_1 i) (by decide) rfl ?_
    refine z_goto (tgt := 12) dX8_saveSnapshot_34 (by decide) ?_
    refine ih (i + 1) (by omega) _ (fun j hj => ?_) (fun q q0 => ?_) hq
    · by_cases hji : j = i
      · subst hji; rw [up_eq, up_eq, hr 0 (by decide)]
      · rw [up_eq, up_ne hji]; exact hd j (by omega)
    · rw [up_ne q0]; exact hr q q0

set_option maxHeartbeats 4000000 in
set_option maxRecDepth 100000 in
theorem R_saveSnapshot {l : zL} {d kc ks n b : Nat} {h : Nat → va_E} {s : Nat → Int32} {a : Nat → Nat → Int32} {g : zGs} {Q : zQ} (hb : b + 14 ≤ n) (hM : mI g s a) (hq : ∀ t v g' s' a', f_saveSnapshot g = (t, v, g') → mI g' s' a' → s' 20 = t → Q (.inl (some (.int v))) n (mW h b s' a')) : Zj l mX8_saveSnapshot (d + 12) kc ks 0 [(0, .ref b)] [] n (mW h b s a) Q := by
  obtain ⟨⟨B, H, T, K, V, c⟩, sv, Sn, k, hi, L, x, ek, eo, rl, rb⟩ := g
  obtain ⟨hT, h11, hsv, hsn, hk8, h9, hhi, hL, h14, ha9, hx256, h16, h17, hrl, h19, ha11, hrb⟩ := id hM
  obtain ⟨hV, ⟨hI, hd3, h3⟩, e3⟩ := id hT
  obtain ⟨okb, h2H, hH6, h1T, hT99, e0, e1, e2, ek_, ev_, ekv, ez⟩ := id hV
  have hle := okb.le
  refine z_aload_n (j := 0) dX8_saveSnapshot_0 rfl ?_
  refine z_iconst (v := 0) dX8_saveSnapshot_1 (by decide) ?_
  refine m_put (k := 20) (by omega) fX8_64 (by unfold mS; omega) (by decide) dX8_saveSnapshot_2 ?_
  refine z_aload_n (j := 0) dX8_saveSnapshot_5 rfl ?_
  refine z_iconst (v := 1) dX8_saveSnapshot_6 (by decide) ?_
  refine m_putz (Or.inr rfl) (by omega) fX8_339 dX8_saveSnapshot_7 ?_
  refine z_iconst (v := 0) dX8_saveSnapshot_10 (by decide) ?_
  refine z_istore_n [1, 0] [(0, .ref b), (1, .int 0)] dX8_saveSnapshot_11 (by decide) rfl ?_
  refine z_room (d' := d + 2) (by omega) (Nat.le_refl _) (Nat.le_refl _) (r_save_l (a0 := a) hb hT 137 0 (by omega) a (fun j hj => absurd hj (Nat.not_lt_zero j)) (fun _ _ => rfl) (fun a' hd' hr' => ?_))
  exact hq 0 (nI (cnt K B)) ((B, H, T, K, V, c), 1, (B, H, T, K, V, c), k, hi, L, x, ek, eo, rl, rb) _ _ rfl ⟨by rw [hr' 0 (by decide)]; exact hT, up_eq, Or.inr rfl, fun _ => hT.cp (fun i hi9 => hd' i hi9), hk8, (up_ne (by decide)).trans ((up_ne (by decide)).trans h9), by rw [hr' 5 (by decide)]; exact hhi, hL, (up_ne (by decide)).trans ((up_ne (by decide)).trans h14), by rw [hr' 9 (by decide)]; exact ha9, hx256, (up_ne (by decide)).trans ((up_ne (by decide)).trans h16), (up_ne (by decide)).trans ((up_ne (by decide)).trans h17), hrl, (up_ne (by decide)).trans ((up_ne (by decide)).trans h19), by rw [hr' 11 (by decide)]; exact ha11, hrb⟩ ((up_ne (by decide)).trans up_eq)

set_option maxHeartbeats 4000000 in
set_option maxRecDepth 100000 in
theorem r_rest_l {l : zL} {d kc ks n b B H T : Nat} {K V : Nat → Nat} {c : Nat → Int32} {h : Nat → va_E} {s : Nat → Int32} {a0 : Nat → Nat → Int32} {Q : zQ} (hb : b + 14 ≤ n) (hT : mT (B, H, T, K, V, c) (a0 6)) : ∀ m i, i + m = 137 → ∀ (a : Nat → Nat → Int32), (∀ j, j < i → a 0 j = a0 6 j) → (∀ q, q ≠ 0 → a q = a0 q) → (∀ a', (∀ j, j < 137 → a' 0 j = a0 6 j) → (∀ q, q ≠ 0 → a' q = a0 q) → Q (.inl (some (.int (nI (cnt K B))))) n (mW h b (va_up s 9 0) a')) → Zj l mX8_restoreSnapshot (d + 2) kc ks 23 [(0, .ref b), (1, .int ((nI i)))] [] n (mW h b s a) Q := by
  intro m
  induction m with
  | zero =>
    intro i hi a hd hr hq
    have hi0 : i = 137 := by omega
    have hT9 : mT (B, H, T, K, V, c) (a 0) := hT.cp (fun j hj => hd j (by omega))
    refine z_iload_n (j := 1) dX8_restoreSnapshot_23 rfl ?_
    refine z_sipush (v := 137) dX8_restoreSnapshot_24 (by decide) ?_
    refine z_icmp_ge (tgt := 48) dX8_restoreSnapshot_27 (by decide) (fun czq27 => ?_) (fun czq27 => absurd (by rw [hi0]; decide) czq27)
    refine z_aload_n (j := 0) dX8_restoreSnapshot_48 rfl ?_
    refine z_iconst (v := 0) dX8_restoreSnapshot_49 (by decide) ?_
    refine m_put (k := 9) (by omega) fX8_318 (by unfold mS; omega) (by decide) dX8_restoreSnapshot_50 ?_
    refine z_aload_n (j := 0) dX8_restoreSnapshot_53 rfl ?_
    refine z_kV [] 0 0 kc ks yoX8_entries yvX8_entries rfl (by decide) lX8_148 (by omega) mW_obj rfl rfl (Nat.le_of_ble_eq_true rfl) (Nat.le_of_ble_eq_true rfl) dX8_restoreSnapshot_54 (by omega) (by omega) (z_room (by omega) (Nat.le_refl _) (Nat.le_refl _) (r_entries (d := 0) hb hT9.1 ⟨rfl, ?_⟩))
    exact z_iret rfl dX8_restoreSnapshot_57 (hq a (fun j hj => hd j (by omega)) hr)
  | succ m ih =>
    intro i hi a hd hr hq
    refine z_iload_n (j := 1) dX8_restoreSnapshot_23 rfl ?_
    refine z_sipush (v := 137) dX8_restoreSnapshot_24 (by decide) ?_
    refine z_icmp_ge (tgt := 48) dX8_restoreSnapshot_27 (by decide) (fun czq27 => absurd czq27 (nI_ge (b := 137) (by omega) (by decide))) (fun czq27 => ?_)
    refine z_aload_n (j := 0) dX8_restoreSnapshot_30 rfl ?_
    refine z_get (v := .ref (b + 1)) (by omega) mW_obj fX8_7 rfl dX8_restoreSnapshot_31 ?_
    refine z_iload_n (j := 1) dX8_restoreSnapshot_34 rfl ?_
    refine z_aload_n (j := 0) dX8_restoreSnapshot_35 rfl ?_
    refine z_get (v := .ref (b + 7)) (by omega) mW_obj fX8_28 rfl dX8_restoreSnapshot_36 ?_
    refine z_iload_n (j := 1) dX8_restoreSnapshot_39 rfl ?_
    refine m_aldN 6 137 i (by decide) rfl rfl hb rfl (by omega) (by decide) dX8_restoreSnapshot_40 ?_
    refine m_astN 0 137 i (by decide) rfl rfl hb rfl (by omega) (by decide) dX8_restoreSnapshot_41 ?_
    skip
    refine z_iinc ((nI (i + 1))) [1, 0] [(0, .ref b), (1, .int ((nI (i + 1))))] dX8_restoreSnapshot_42 (j := 1) rfl (nI_1 i) (by decide) rfl ?_
    refine z_goto (tgt := 23) dX8_restoreSnapshot_45 (by decide) ?_
    refine ih (i + 1) (by omega) _ (fun j hj => ?_) (fun q q0 => ?_) hq
    · by_cases hji : j = i
      · subst hji; rw [up_eq, up_eq, hr 6 (by decide)]
      · rw [up_eq, up_ne hji]; exact hd j (by omega)
    · rw [up_ne q0]; exact hr q q0

set_option maxHeartbeats 4000000 in
set_option maxRecDepth 100000 in
theorem R_restoreSnapshot {l : zL} {d kc ks n b : Nat} {h : Nat → va_E} {s : Nat → Int32} {a : Nat → Nat → Int32} {g : zGs} {Q : zQ} (hb : b + 14 ≤ n) (hM : mI g s a) (hq : ∀ t v g' s' a', f_restoreSnapshot g = (t, v, g') → mI g' s' a' → s' 20 = t → Q (.inl (some (.int v))) n (mW h b s' a')) : Zj l mX8_restoreSnapshot (d + 12) kc ks 0 [(0, .ref b)] [] n (mW h b s a) Q := by
  obtain ⟨⟨B, H, T, K, V, c⟩, sv, Sn, k, hi, L, x, ek, eo, rl, rb⟩ := g
  obtain ⟨hT, h11, hsv, hsn, hk8, h9, hhi, hL, h14, ha9, hx256, h16, h17, hrl, h19, ha11, hrb⟩ := id hM
  obtain ⟨hV, ⟨hI, hd3, h3⟩, e3⟩ := id hT
  obtain ⟨okb, h2H, hH6, h1T, hT99, e0, e1, e2, ek_, ev_, ekv, ez⟩ := id hV
  have hle := okb.le
  refine z_aload_n (j := 0) dX8_restoreSnapshot_0 rfl ?_
  refine z_aload_n (j := 0) dX8_restoreSnapshot_1 rfl ?_
  refine z_get (v := .int (s 11)) (by omega) mW_obj fX8_339 rfl dX8_restoreSnapshot_2 ?_
  refine z_if_ne (tgt := 12) dX8_restoreSnapshot_5 (by decide) (fun czq5 => ?_) (fun czq5 => ?_)
  · refine z_iconst (v := 0) dX8_restoreSnapshot_12 (by decide) ?_
    refine z_kV [.int 0] 0 0 kc ks yoX8_throwsOne yvX8_throwsOne rfl (by decide) lX8_315 (by omega) mW_obj rfl rfl (Nat.le_of_ble_eq_true rfl) (Nat.le_of_ble_eq_true rfl) dX8_restoreSnapshot_13 (by omega) (by omega) (z_room (by omega) (Nat.le_refl _) (Nat.le_refl _) (w_throws1_0 (d := 0) hb ⟨rfl, ?_⟩))
    refine z_if_eq (tgt := 21) dX8_restoreSnapshot_16 (by decide) (fun czq16 => ?_) (fun czq16 => absurd rfl czq16)
    have hs1 : sv = 1 := by
      rcases hsv with z | z
      · exact absurd (h11.trans z) czq5
      · exact z
    have hTn := hsn hs1
    obtain ⟨B2, H2, T2, K2, V2, c2⟩ := Sn
    refine z_iconst (v := 0) dX8_restoreSnapshot_21 (by decide) ?_
    refine z_istore_n [1, 0] [(0, .ref b), (1, .int 0)] dX8_restoreSnapshot_22 (by decide) rfl ?_
    refine z_room (d' := d + 2) (by omega) (Nat.le_refl _) (Nat.le_refl _) (r_rest_l (a0 := a) hb hTn 137 0 (by omega) a (fun j hj => absurd hj (Nat.not_lt_zero j)) (fun _ _ => rfl) (fun a' hd' hr' => ?_))
    exact hq 0 (nI (cnt K2 B2)) ((B2, H2, T2, K2, V2, c2), sv, (B2, H2, T2, K2, V2, c2), 0, hi, L, x, ek, eo, rl, rb) _ _ (by unfold f_restoreSnapshot; exact if_pos hs1) ⟨hTn.cp (fun i hi9 => hd' i hi9), (up_ne (by decide)).trans ((up_ne (by decide)).trans h11), hsv, fun e => by rw [hr' 6 (by decide)]; exact hTn, Nat.zero_le _, up_eq, fun j hj => absurd hj (Nat.not_lt_zero j), hL, (up_ne (by decide)).trans ((up_ne (by decide)).trans h14), by rw [hr' 9 (by decide)]; exact ha9, hx256, (up_ne (by decide)).trans ((up_ne (by decide)).trans h16), (up_ne (by decide)).trans ((up_ne (by decide)).trans h17), hrl, (up_ne (by decide)).trans ((up_ne (by decide)).trans h19), by rw [hr' 11 (by decide)]; exact ha11, hrb⟩ ((up_ne (by decide)).trans up_eq)
  · refine z_iconst (v := 1) dX8_restoreSnapshot_8 (by decide) ?_
    refine z_goto (tgt := 13) dX8_restoreSnapshot_9 (by decide) ?_
    refine z_kV [.int 1] 0 0 kc ks yoX8_throwsOne yvX8_throwsOne rfl (by decide) lX8_315 (by omega) mW_obj rfl rfl (Nat.le_of_ble_eq_true rfl) (Nat.le_of_ble_eq_true rfl) dX8_restoreSnapshot_13 (by omega) (by omega) (z_room (by omega) (Nat.le_refl _) (Nat.le_refl _) (w_throws1_1 (d := 0) hb ⟨rfl, ?_⟩))
    refine z_if_eq (tgt := 21) dX8_restoreSnapshot_16 (by decide) (fun czq16 => absurd czq16 (by decide)) (fun czq16 => ?_)
    refine z_iconst (v := 0) dX8_restoreSnapshot_19 (by decide) ?_
    exact z_iret rfl dX8_restoreSnapshot_20 (hq 1 0 _ _ _ (by unfold f_restoreSnapshot; exact if_neg (fun z => absurd (czq5.symm.trans (h11.trans z)) (by decide))) hM.th (by rw [up_eq]))

set_option maxHeartbeats 4000000 in
set_option maxRecDepth 100000 in
theorem R_truncateInput {l : zL} {d kc ks n b : Nat} {h : Nat → va_E} {s : Nat → Int32} {a : Nat → Nat → Int32} {g : zGs} {Q : zQ} {p : Int32} (hb : b + 14 ≤ n) (hM : mI g s a) (hq : ∀ t v g' s' a', f_truncateInput g p = (t, v, g') → mI g' s' a' → s' 20 = t → Q (.inl (some (.int v))) n (mW h b s' a')) : Zj l mX8_truncateInput (d + 12) kc ks 0 [(0, .ref b), (1, .int p)] [] n (mW h b s a) Q := by
  obtain ⟨⟨B, H, T, K, V, c⟩, sv, Sn, k, hi, L, x, ek, eo, rl, rb⟩ := g
  obtain ⟨hT, h11, hsv, hsn, hk8, h9, hhi, hL, h14, ha9, hx256, h16, h17, hrl, h19, ha11, hrb⟩ := id hM
  obtain ⟨hV, ⟨hI, hd3, h3⟩, e3⟩ := id hT
  obtain ⟨okb, h2H, hH6, h1T, hT99, e0, e1, e2, ek_, ev_, ekv, ez⟩ := id hV
  have hle := okb.le
  refine z_aload_n (j := 0) dX8_truncateInput_0 rfl ?_
  refine z_iload_n (j := 1) dX8_truncateInput_1 rfl ?_
  refine z_iconst (v := 0) dX8_truncateInput_2 (by decide) ?_
  refine z_aload_n (j := 0) dX8_truncateInput_3 rfl ?_
  refine z_get (v := .int (s 14)) (by omega) mW_obj fX8_309 rfl dX8_truncateInput_4 ?_
  rw [show (s 14) = nI L from h14]
  refine z_kS [.int p, .int 0, .int ((nI L))] 0 0 kc ks yoX8_in ysX8_in rfl (by decide) lX8_67 rfl (Nat.le_of_ble_eq_true rfl) (Nat.le_of_ble_eq_true rfl) dX8_truncateInput_7 (by omega) (by omega) (z_room (by omega) (Nat.le_refl _) (Nat.le_refl _) (r_in (d := 0)  ⟨rfl, ?_⟩))
  refine z_if_ne (tgt := 17) dX8_truncateInput_10 (by decide) (fun czq10 => ?_) (fun czq10 => ?_)
  · have ep := bI_n.mp czq10
    obtain ⟨z, -, hz, rfl, hzx⟩ := iO_yes 0 L (Nat.zero_le _) (by omega) ep
    refine z_iconst (v := 0) dX8_truncateInput_17 (by decide) ?_
    refine z_kV [.int 0] 0 0 kc ks yoX8_throwsOne yvX8_throwsOne rfl (by decide) lX8_315 (by omega) mW_obj rfl rfl (Nat.le_of_ble_eq_true rfl) (Nat.le_of_ble_eq_true rfl) dX8_truncateInput_18 (by omega) (by omega) (z_room (by omega) (Nat.le_refl _) (Nat.le_refl _) (w_throws1_0 (d := 0) hb ⟨rfl, ?_⟩))
    refine z_if_eq (tgt := 26) dX8_truncateInput_21 (by decide) (fun czq21 => ?_) (fun czq21 => absurd rfl czq21)
    refine z_aload_n (j := 0) dX8_truncateInput_26 rfl ?_
    refine z_iload_n (j := 1) dX8_truncateInput_27 rfl ?_
    refine m_put (k := 14) (by omega) fX8_309 (by unfold mS; omega) (by decide) dX8_truncateInput_28 ?_
    refine z_iload_n (j := 1) dX8_truncateInput_31 rfl ?_
    exact z_iret rfl dX8_truncateInput_32 (hq 0 (nI z) (gInp ((B, H, T, K, V, c), sv, Sn, k, hi, L, x, ek, eo, rl, rb) z x) _ _ (by
        unfold f_truncateInput
        exact (if_pos ep).trans (by rw [hzx]; rfl)) ⟨hT, (up_ne (by decide)).trans ((up_ne (by decide)).trans h11), hsv, hsn, hk8, (up_ne (by decide)).trans ((up_ne (by decide)).trans h9), hhi, by omega, up_eq, fun i hi => ha9 i (by omega), hx256, (up_ne (by decide)).trans ((up_ne (by decide)).trans h16), (up_ne (by decide)).trans ((up_ne (by decide)).trans h17), hrl, (up_ne (by decide)).trans ((up_ne (by decide)).trans h19), ha11, hrb⟩ ((up_ne (by decide)).trans up_eq))
  · refine z_iconst (v := 1) dX8_truncateInput_13 (by decide) ?_
    refine z_goto (tgt := 18) dX8_truncateInput_14 (by decide) ?_
    refine z_kV [.int 1] 0 0 kc ks yoX8_throwsOne yvX8_throwsOne rfl (by decide) lX8_315 (by omega) mW_obj rfl rfl (Nat.le_of_ble_eq_true rfl) (Nat.le_of_ble_eq_true rfl) dX8_truncateInput_18 (by omega) (by omega) (z_room (by omega) (Nat.le_refl _) (Nat.le_refl _) (w_throws1_1 (d := 0) hb ⟨rfl, ?_⟩))
    refine z_if_eq (tgt := 26) dX8_truncateInput_21 (by decide) (fun czq21 => absurd czq21 (by decide)) (fun czq21 => ?_)
    refine z_iconst (v := 0) dX8_truncateInput_24 (by decide) ?_
    exact z_iret rfl dX8_truncateInput_25 (hq 1 0 _ _ _ (by unfold f_truncateInput; exact if_neg (bI_0.mp czq10)) hM.th (by rw [up_eq]))
