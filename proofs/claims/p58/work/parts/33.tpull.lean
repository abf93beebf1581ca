theorem nI_nle2 {a b : Nat} (h : b < a) (ha : a < 2 ^ 31) : ¬ nI a ≤ nI b := nI_ge h ha

set_option maxHeartbeats 4000000 in
set_option maxRecDepth 100000 in
theorem w_pullInto_i {l : zL} {d kc ks n b B H T : Nat} {h : Nat → va_E} {K V : Nat → Nat} {s : Nat → Int32} {a : Nat → Nat → Int32} {Q : zQ} {free : Nat} {j : Nat} (hb : b + 6 ≤ n) (hR : tR B H T K V s a) (hfr : free < B) (hfree : K free = 0) (hjH : j < H) : ∀ m, j + m < H → fndD (fun k => isO B T K ((((free + B - j) % B) + k) % B) ((free + B - j) % B)) j m = pulI B H T K free j → (pulI B H T K free j = none → Zj l mX6_pullInto (d + 1) kc ks 7 [(0, .ref b), (1, .int (nI free)), (2, .int (bkI j))] [] n (tW h b s a) Q) → (∀ k a', pulI B H T K free j = some k → tR B H T (mvK K (mvSrc B free j k) free) (mvK V (mvSrc B free j k) free) s a' → Q (.inl (some (.int (nI (k - j))))) n (tW h b s a')) → Zj l mX6_pullInto (d + 1) kc ks 30 [(0, .ref b), (1, .int ((nI free))), (2, .int ((nI j))), (3, .int ((nI ((free + B - j) % B)))), (4, .int ((nI (j + m))))] [] n (tW h b s a) Q := by
  obtain ⟨okb, h2H, hH6, h1T, hT99, e6, e7, e8, ek, ev, eh, ekv, ez⟩ := id hR
  have hle := okb.le
  intro m
  induction m with
  | zero =>
    intro hk hq0 hqN hqS
    rw [show fndD _ j 0 = none from rfl] at hq0
    refine z_iload (j := 4) dX6_pullInto_30 rfl ?_
    refine z_iload_n (j := 2) dX6_pullInto_32 rfl ?_
    refine z_icmp_le (tgt := 68) dX6_pullInto_33 (by decide) (fun c_33 => ?_) (fun c_33 => absurd (nI_le (by omega) (by omega)) c_33)
    skip
    refine z_iinc ((bkI j)) [1, 2, 0, 3, 4] [(0, .ref b), (1, .int ((nI free))), (2, .int ((bkI j))), (3, .int ((nI ((free + B - j) % B)))), (4, .int ((nI (j + 0))))] dX6_pullInto_68 (j := 2) rfl (bkI_dec j) (by decide) rfl ?_
    refine z_goto (tgt := 7) dX6_pullInto_71 (by decide) ?_
    refine z_lv [(0, .ref b), (1, .int ((nI free))), (2, .int ((bkI j)))] [0, 1, 2] rfl ?_
    exact hqN hq0.symm
  | succ m ih =>
    intro hk hq0 hqN hqS
    have hhm : ((free + B - j) % B) < B := mod_lt' okb
    have hbit := hop_bit (B := B) (T := T) (K := K) (i := ((free + B - j) % B)) hH6 (show j + (m + 1) < H by omega)
    refine z_iload (j := 4) dX6_pullInto_30 rfl ?_
    refine z_iload_n (j := 2) dX6_pullInto_32 rfl ?_
    refine z_icmp_le (tgt := 68) dX6_pullInto_33 (by decide) (fun c_33 => absurd c_33 (nI_nle2 (by omega) (by omega))) (fun c_33 => ?_)
    refine z_aload_n (j := 0) dX6_pullInto_36 rfl ?_
    refine z_iload_n (j := 3) dX6_pullInto_37 rfl ?_
    refine z_cV [.int ((nI ((free + B - j) % B)))] (some (.int ((nI (hop B H T K ((free + B - j) % B)))))) yoX6_hopsIn yvX6_hopsIn rfl (by decide) lX6_115 (by omega) tW_obj rfl rfl (Nat.le_of_ble_eq_true rfl) (Nat.le_of_ble_eq_true rfl) dX6_pullInto_38 (z_room (by omega) (Nat.le_refl _) (Nat.le_refl _) (w_hopsIn (d := 0) hb hR (mod_lt' okb) ⟨rfl, rfl, rfl⟩)) ?_
    refine z_iload (j := 4) dX6_pullInto_41 rfl ?_
    refine z_ishr dX6_pullInto_43 ?_
    refine z_iconst (v := 1) dX6_pullInto_44 (by decide) ?_
    refine z_iand dX6_pullInto_45 ?_
    refine z_if_eq (tgt := 62) dX6_pullInto_46 (by decide) (fun c_46 => ?_) (fun c_46 => ?_)
    · skip
      refine z_iinc ((nI (j + m))) [1, 2, 3, 4, 0] [(0, .ref b), (1, .int ((nI free))), (2, .int ((nI j))), (3, .int ((nI ((free + B - j) % B)))), (4, .int ((nI (j + m))))] dX6_pullInto_62 (j := 4) rfl (pk_m1 (j + m)) (by decide) rfl ?_
      refine z_goto (tgt := 30) dX6_pullInto_65 (by decide) ?_
      exact ih (by omega) (by rw [← hq0]; exact (fndD_no (p := (fun k => isO B T K ((((free + B - j) % B) + k) % B) ((free + B - j) % B))) (hbit.mp c_46)).symm) hqN hqS
    · have hyes : isO B T K ((((free + B - j) % B) + (j + (m + 1))) % B) ((free + B - j) % B) = true := by
        cases ho : isO B T K ((((free + B - j) % B) + (j + (m + 1))) % B) ((free + B - j) % B) with
        | true => rfl
        | false => exact absurd (hbit.mpr ho) c_46
      have hbk : ((((free + B - j) % B) + j) % B) = free := back_free okb hfr (by omega)
      refine z_aload_n (j := 0) dX6_pullInto_49 rfl ?_
      refine z_iload_n (j := 3) dX6_pullInto_50 rfl ?_
      refine z_iload (j := 4) dX6_pullInto_51 rfl ?_
      refine z_iload_n (j := 2) dX6_pullInto_53 rfl ?_
      refine z_cVx [.int ((nI ((free + B - j) % B))), .int ((nI (j + (m + 1)))), .int ((nI j))] none (fun g => ∃ a1, g = tW h b s a1 ∧ tR B H T (mvK K ((((free + B - j) % B) + (j + (m + 1))) % B) ((((free + B - j) % B) + j) % B)) (mvK V ((((free + B - j) % B) + (j + (m + 1))) % B) ((((free + B - j) % B) + j) % B)) s a1) yoX6_shift yvX6_shift rfl (by decide) lX6_118 (by omega) tW_obj rfl rfl (Nat.le_of_ble_eq_true rfl) (Nat.le_of_ble_eq_true rfl) dX6_pullInto_54 (z_room (by omega) (Nat.le_refl _) (Nat.le_refl _) (w_shift (d := 0) hb hR hhm (by omega) (by omega) (by omega) (by simpa using hyes) (by rw [hbk]; exact hfree) (fun a' h1 h2 h3 => ⟨rfl, rfl, a', rfl, h1⟩))) (fun g hg => ?_)
      obtain ⟨a1, rfl, hR1⟩ := hg
      refine z_iload (j := 4) dX6_pullInto_57 rfl ?_
      refine z_iload_n (j := 2) dX6_pullInto_59 rfl ?_
      refine z_isub dX6_pullInto_60 ?_
      exact z_iret rfl dX6_pullInto_61 (by
          rw [pk_sub (by omega)]
          have hr : some (j + (m + 1)) = pulI B H T K free j := (fndD_yes (p := (fun k => isO B T K ((((free + B - j) % B) + k) % B) ((free + B - j) % B))) hyes).symm.trans hq0
          rw [hbk] at hR1
          exact hqS _ a1 hr.symm hR1)

set_option maxHeartbeats 4000000 in
set_option maxRecDepth 100000 in
theorem w_pullInto_l {l : zL} {d kc ks n b B H T : Nat} {h : Nat → va_E} {K V : Nat → Nat} {s : Nat → Int32} {a : Nat → Nat → Int32} {Q : zQ} {free : Nat} (hb : b + 6 ≤ n) (hR : tR B H T K V s a) (hfr : free < B) (hfree : K free = 0) : ∀ m, m ≤ H → (pulS B H T K free m = none → Q (.inl (some (.int 0))) n (tW h b s a)) → (∀ j k a', pulS B H T K free m = some (j, k) → tR B H T (mvK K (mvSrc B free j k) free) (mvK V (mvSrc B free j k) free) s a' → Q (.inl (some (.int (nI (k - j))))) n (tW h b s a')) → Zj l mX6_pullInto (d + 1) kc ks 7 [(0, .ref b), (1, .int (nI free)), (2, .int (bkI m))] [] n (tW h b s a) Q := by
  obtain ⟨okb, h2H, hH6, h1T, hT99, e6, e7, e8, ek, ev, eh, ekv, ez⟩ := id hR
  have hle := okb.le
  intro m
  induction m with
  | zero =>
    intro hm hq0 hqS
    refine z_iload_n (j := 2) dX6_pullInto_7 rfl ?_
    refine z_if_lt (tgt := 74) dX6_pullInto_8 (by decide) (fun c_8 => ?_) (fun c_8 => absurd (by decide) c_8)
    refine z_iconst (v := 0) dX6_pullInto_74 (by decide) ?_
    exact z_iret rfl dX6_pullInto_75 (hq0 rfl)
  | succ m ih =>
    intro hm hq0 hqS
    rw [show bkI (m + 1) = nI m from rfl]
    refine z_iload_n (j := 2) dX6_pullInto_7 rfl ?_
    refine z_if_lt (tgt := 74) dX6_pullInto_8 (by decide) (fun c_8 => absurd c_8 (nI_pos (by omega))) (fun c_8 => ?_)
    refine z_iload_n (j := 1) dX6_pullInto_11 rfl ?_
    refine z_iload_n (j := 2) dX6_pullInto_12 rfl ?_
    refine z_isub dX6_pullInto_13 ?_
    refine z_aload_n (j := 0) dX6_pullInto_14 rfl ?_
    refine z_get (v := .int (s 6)) (by omega) tW_obj fX6_64 rfl dX6_pullInto_15 ?_
    refine z_iconst (v := 1) dX6_pullInto_18 (by decide) ?_
    refine z_isub dX6_pullInto_19 ?_
    refine z_iand dX6_pullInto_20 ?_
    rw [show (((nI free) - (nI m)) &&& ((s 6) - 1)) = (nI ((free + B - m) % B)) from by rw [e6]; exact mBsub okb hfr (by omega)]
    refine z_istore_n [1, 2, 3, 0] [(0, .ref b), (1, .int ((nI free))), (2, .int ((nI m))), (3, .int ((nI ((free + B - m) % B))))] dX6_pullInto_21 (by decide) rfl ?_
    refine z_aload_n (j := 0) dX6_pullInto_22 rfl ?_
    refine z_get (v := .int (s 7)) (by omega) tW_obj fX6_31 rfl dX6_pullInto_23 ?_
    refine z_iconst (v := 1) dX6_pullInto_26 (by decide) ?_
    refine z_isub dX6_pullInto_27 ?_
    rw [show ((s 7) - 1) = (nI (m + (H - 1 - m))) from by rw [e7, show m + (H - 1 - m) = H - 1 by omega, show (1 : Int32) = nI 1 from rfl]; exact pk_sub (by omega)]
    refine z_istore [1, 2, 3, 4, 0] [(0, .ref b), (1, .int ((nI free))), (2, .int ((nI m))), (3, .int ((nI ((free + B - m) % B)))), (4, .int ((nI (m + (H - 1 - m)))))] dX6_pullInto_28 (by decide) rfl ?_
    refine w_pullInto_i (j := m) hb hR hfr hfree (by omega) (H - 1 - m) (by omega) rfl (fun hn => ?_) (fun k a' hs hR' => ?_)
    · rw [pulS_no hn] at hq0 hqS
      exact ih (by omega) hq0 hqS
    · exact hqS m k a' (pulS_yes hs) hR'

set_option maxHeartbeats 4000000 in
set_option maxRecDepth 100000 in
theorem w_pullInto {l : zL} {d kc ks n b B H T : Nat} {h : Nat → va_E} {K V : Nat → Nat} {s : Nat → Int32} {a : Nat → Nat → Int32} {Q : zQ} {free : Nat} (hb : b + 6 ≤ n) (hR : tR B H T K V s a) (hfr : free < B) (hfree : K free = 0) (hq0 : pulS B H T K free H = none → Q (.inl (some (.int 0))) n (tW h b s a)) (hqS : ∀ j k a', pulS B H T K free H = some (j, k) → tR B H T (mvK K (mvSrc B free j k) free) (mvK V (mvSrc B free j k) free) s a' → Q (.inl (some (.int (nI (k - j))))) n (tW h b s a')) : Zj l mX6_pullInto (d + 1) kc ks 0 [(0, .ref b), (1, .int ((nI free)))] [] n (tW h b s a) Q := by
  obtain ⟨okb, h2H, hH6, h1T, hT99, e6, e7, e8, ek, ev, eh, ekv, ez⟩ := id hR
  have hle := okb.le
  refine z_aload_n (j := 0) dX6_pullInto_0 rfl ?_
  refine z_get (v := .int (s 7)) (by omega) tW_obj fX6_31 rfl dX6_pullInto_1 ?_
  refine z_iconst (v := 1) dX6_pullInto_4 (by decide) ?_
  refine z_isub dX6_pullInto_5 ?_
  rw [show ((s 7) - 1) = (bkI H) from by rw [e7]; exact bkI_pred (by omega)]
  refine z_istore_n [1, 2, 0] [(0, .ref b), (1, .int ((nI free))), (2, .int ((bkI H)))] dX6_pullInto_6 (by decide) rfl ?_
  exact w_pullInto_l hb hR hfr hfree H (by omega) hq0 hqS
