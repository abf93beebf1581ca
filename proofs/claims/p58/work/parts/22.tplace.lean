set_option maxHeartbeats 4000000 in
set_option maxRecDepth 100000 in
theorem w_displaceInto_i {l : zL} {d kc ks n b B H T : Nat} {h : Nat → va_E} {K V : Nat → Nat} {s : Nat → Int32} {a : Nat → Nat → Int32} {Q : zQ} {free : Nat} {j : Nat} (hb : b + 6 ≤ n) (hR : tR B H T K V s a) (hfr : free < B) (hfree : K free = 0) (hjH : j + 1 < H) : ∀ m k, k + m = j + 1 → fnd (fun k => isO B T K ((((free + B - (j + 1)) % B) + k) % B) ((free + B - (j + 1)) % B)) m k = movB B T K free (j + 1) → (movB B T K free (j + 1) = none → Zj l mX6_displaceInto (d + 1) kc ks 7 [(0, .ref b), (1, .int (nI free)), (2, .int (nI j))] [] n (tW h b s a) Q) → (∀ k s' a', movB B T K free (j + 1) = some k → tQ B H T (mvK K (mvSrc B free (j + 1) k) free) (mvK V (mvSrc B free (j + 1) k) free) s a (s 10) (s 11 + 1) s' a' → Q (.inl (some (.int (nI (j + 1 - k))))) n (tW h b s' a')) → Zj l mX6_displaceInto (d + 1) kc ks 26 [(0, .ref b), (1, .int ((nI free))), (2, .int ((nI (j + 1)))), (3, .int ((nI ((free + B - (j + 1)) % B)))), (4, .int ((nI k)))] [] n (tW h b s a) Q := by
  obtain ⟨okb, h2H, hH6, h1T, hT99, e6, e7, e8, ek, ev, eh, ekv, ez⟩ := id hR
  have hle := okb.le
  intro m
  induction m with
  | zero =>
    intro k hk hq0 hqN hqS
    rw [show fnd _ 0 k = none from rfl] at hq0
    refine z_iload (j := 4) dX6_displaceInto_26 rfl ?_
    refine z_iload_n (j := 2) dX6_displaceInto_28 rfl ?_
    refine z_icmp_ge (tgt := 74) dX6_displaceInto_29 (by decide) (fun c_29 => ?_) (fun c_29 => absurd (nI_le (by omega) (by omega)) c_29)
    skip
    refine z_iinc ((nI j)) [1, 2, 0, 3, 4] [(0, .ref b), (1, .int ((nI free))), (2, .int ((nI j))), (3, .int ((nI ((free + B - (j + 1)) % B)))), (4, .int ((nI k)))] dX6_displaceInto_74 (j := 2) rfl (pk_m1 j) (by decide) rfl ?_
    refine z_goto (tgt := 7) dX6_displaceInto_77 (by decide) ?_
    refine z_lv [(0, .ref b), (1, .int ((nI free))), (2, .int ((nI j)))] [0, 1, 2] rfl ?_
    exact hqN hq0.symm
  | succ m ih =>
    intro k hk hq0 hqN hqS
    have hhm : ((free + B - (j + 1)) % B) < B := mod_lt' okb
    have hbit := hop_bit (B := B) (T := T) (K := K) (i := ((free + B - (j + 1)) % B)) hH6 (show k < H by omega)
    refine z_iload (j := 4) dX6_displaceInto_26 rfl ?_
    refine z_iload_n (j := 2) dX6_displaceInto_28 rfl ?_
    refine z_icmp_ge (tgt := 74) dX6_displaceInto_29 (by decide) (fun c_29 => absurd c_29 (nI_ge (by omega) (by omega))) (fun c_29 => ?_)
    refine z_aload_n (j := 0) dX6_displaceInto_32 rfl ?_
    refine z_iload_n (j := 3) dX6_displaceInto_33 rfl ?_
    refine z_cV [.int ((nI ((free + B - (j + 1)) % B)))] (some (.int ((nI (hop B H T K ((free + B - (j + 1)) % B)))))) yoX6_hopsIn yvX6_hopsIn rfl (by decide) lX6_115 (by omega) tW_obj rfl rfl (Nat.le_of_ble_eq_true rfl) (Nat.le_of_ble_eq_true rfl) dX6_displaceInto_34 (z_room (by omega) (Nat.le_refl _) (Nat.le_refl _) (w_hopsIn (d := 0) hb hR (mod_lt' okb) ⟨rfl, rfl, rfl⟩)) ?_
    refine z_iload (j := 4) dX6_displaceInto_37 rfl ?_
    refine z_ishr dX6_displaceInto_39 ?_
    refine z_iconst (v := 1) dX6_displaceInto_40 (by decide) ?_
    refine z_iand dX6_displaceInto_41 ?_
    refine z_if_eq (tgt := 68) dX6_displaceInto_42 (by decide) (fun c_42 => ?_) (fun c_42 => ?_)
    · skip
      refine z_iinc ((nI (k + 1))) [1, 2, 3, 4, 0] [(0, .ref b), (1, .int ((nI free))), (2, .int ((nI (j + 1)))), (3, .int ((nI ((free + B - (j + 1)) % B)))), (4, .int ((nI (k + 1))))] dX6_displaceInto_68 (j := 4) rfl (nI_1 k) (by decide) rfl ?_
      refine z_goto (tgt := 26) dX6_displaceInto_71 (by decide) ?_
      exact ih (k + 1) (by omega) (by rw [← hq0]; exact (fnd_no (p := (fun k => isO B T K ((((free + B - (j + 1)) % B) + k) % B) ((free + B - (j + 1)) % B))) (hbit.mp c_42)).symm) hqN hqS
    · have hyes : isO B T K ((((free + B - (j + 1)) % B) + k) % B) ((free + B - (j + 1)) % B) = true := by
        cases ho : isO B T K ((((free + B - (j + 1)) % B) + k) % B) ((free + B - (j + 1)) % B) with
        | true => rfl
        | false => exact absurd (hbit.mpr ho) c_42
      have hbk : (((free + B - (j + 1)) % B) + (j + 1)) % B = free := back_free okb hfr (by omega)
      refine z_aload_n (j := 0) dX6_displaceInto_45 rfl ?_
      refine z_iload_n (j := 3) dX6_displaceInto_46 rfl ?_
      refine z_iload (j := 4) dX6_displaceInto_47 rfl ?_
      refine z_iload_n (j := 2) dX6_displaceInto_49 rfl ?_
      refine z_cVx [.int ((nI ((free + B - (j + 1)) % B))), .int ((nI k)), .int ((nI (j + 1)))] none (fun g => ∃ a1, g = tW h b s a1 ∧ tR B H T (mvK K ((((free + B - (j + 1)) % B) + k) % B) ((((free + B - (j + 1)) % B) + (j + 1)) % B)) (mvK V ((((free + B - (j + 1)) % B) + k) % B) ((((free + B - (j + 1)) % B) + (j + 1)) % B)) s a1 ∧ a1 3 = a 3 ∧ a1 4 = a 4) yoX6_shift yvX6_shift rfl (by decide) lX6_118 (by omega) tW_obj rfl rfl (Nat.le_of_ble_eq_true rfl) (Nat.le_of_ble_eq_true rfl) dX6_displaceInto_50 (z_room (by omega) (Nat.le_refl _) (Nat.le_refl _) (w_shift (d := 0) hb hR hhm (by omega) (by omega) (by omega) (by simpa using hyes) (by rw [hbk]; exact hfree) (fun a' h1 h2 h3 => ⟨rfl, rfl, a', rfl, h1, h2, h3⟩))) (fun g hg => ?_)
      obtain ⟨a1, rfl, hR1, h31, h41⟩ := hg
      refine z_aload_n (j := 0) dX6_displaceInto_53 rfl ?_
      refine z_dup rfl dX6_displaceInto_54 ?_
      refine z_get (v := .int (s 11)) (by omega) tW_obj fX6_70 rfl dX6_displaceInto_55 ?_
      refine z_iconst (v := 1) dX6_displaceInto_58 (by decide) ?_
      refine z_iadd dX6_displaceInto_59 ?_
      refine t_put (k := 11) (by omega) fX6_70 (by decide) (by decide) (by decide) dX6_displaceInto_60 ?_
      refine z_iload_n (j := 2) dX6_displaceInto_63 rfl ?_
      refine z_iload (j := 4) dX6_displaceInto_64 rfl ?_
      refine z_isub dX6_displaceInto_66 ?_
      exact z_iret rfl dX6_displaceInto_67 (by
          rw [pk_sub (by omega)]
          have hr : some k = movB B T K free (j + 1) := (fnd_yes (p := (fun k => isO B T K ((((free + B - (j + 1)) % B) + k) % B) ((free + B - (j + 1)) % B))) hyes).symm.trans hq0
          refine hqS k _ a1 hr.symm ⟨?_, by simp [va_up], by simp [va_up], fun q h1 h2 => by simp [va_up, h2], h31, h41⟩
          rw [hbk] at hR1
          exact tR_s hR1 (by simp [va_up]) (by simp [va_up]) (by simp [va_up]))

set_option maxHeartbeats 4000000 in
set_option maxRecDepth 100000 in
theorem w_displaceInto_l {l : zL} {d kc ks n b B H T : Nat} {h : Nat → va_E} {K V : Nat → Nat} {s : Nat → Int32} {a : Nat → Nat → Int32} {Q : zQ} {free : Nat} (hb : b + 6 ≤ n) (hR : tR B H T K V s a) (hfr : free < B) (hfree : K free = 0) : ∀ m, m < H → (movS B T K free m = none → Q (.inl (some (.int 0))) n (tW h b s a)) → (∀ j k s' a', movS B T K free m = some (j, k) → tQ B H T (mvK K (mvSrc B free j k) free) (mvK V (mvSrc B free j k) free) s a (s 10) (s 11 + 1) s' a' → Q (.inl (some (.int (nI (j - k))))) n (tW h b s' a')) → Zj l mX6_displaceInto (d + 1) kc ks 7 [(0, .ref b), (1, .int (nI free)), (2, .int (nI m))] [] n (tW h b s a) Q := by
  obtain ⟨okb, h2H, hH6, h1T, hT99, e6, e7, e8, ek, ev, eh, ekv, ez⟩ := id hR
  have hle := okb.le
  intro m
  induction m with
  | zero =>
    intro hm hq0 hqS
    refine z_iload_n (j := 2) dX6_displaceInto_7 rfl ?_
    refine z_iconst (v := 1) dX6_displaceInto_8 (by decide) ?_
    refine z_icmp_lt (tgt := 80) dX6_displaceInto_9 (by decide) (fun c_9 => ?_) (fun c_9 => absurd (by decide) c_9)
    refine z_iconst (v := 0) dX6_displaceInto_80 (by decide) ?_
    exact z_iret rfl dX6_displaceInto_81 (hq0 rfl)
  | succ m ih =>
    intro hm hq0 hqS
    refine z_iload_n (j := 2) dX6_displaceInto_7 rfl ?_
    refine z_iconst (v := 1) dX6_displaceInto_8 (by decide) ?_
    refine z_icmp_lt (tgt := 80) dX6_displaceInto_9 (by decide) (fun c_9 => absurd c_9 (nI_nlt (a := m + 1) (b := 1) (by omega) (by omega))) (fun c_9 => ?_)
    refine z_iload_n (j := 1) dX6_displaceInto_12 rfl ?_
    refine z_iload_n (j := 2) dX6_displaceInto_13 rfl ?_
    refine z_isub dX6_displaceInto_14 ?_
    refine z_aload_n (j := 0) dX6_displaceInto_15 rfl ?_
    refine z_get (v := .int (s 6)) (by omega) tW_obj fX6_64 rfl dX6_displaceInto_16 ?_
    refine z_iconst (v := 1) dX6_displaceInto_19 (by decide) ?_
    refine z_isub dX6_displaceInto_20 ?_
    refine z_iand dX6_displaceInto_21 ?_
    rw [show (((nI free) - (nI (m + 1))) &&& ((s 6) - 1)) = (nI ((free + B - (m + 1)) % B)) from by rw [e6]; exact mBsub okb hfr (by omega)]
    refine z_istore_n [1, 2, 3, 0] [(0, .ref b), (1, .int ((nI free))), (2, .int ((nI (m + 1)))), (3, .int ((nI ((free + B - (m + 1)) % B))))] dX6_displaceInto_22 (by decide) rfl ?_
    refine z_iconst (v := 0) dX6_displaceInto_23 (by decide) ?_
    refine z_istore [1, 2, 3, 4, 0] [(0, .ref b), (1, .int ((nI free))), (2, .int ((nI (m + 1)))), (3, .int ((nI ((free + B - (m + 1)) % B)))), (4, .int 0)] dX6_displaceInto_24 (by decide) rfl ?_
    refine w_displaceInto_i (j := m) hb hR hfr hfree (by omega) (m + 1) 0 (by omega) rfl (fun hn => ?_) (fun k s' a' hs => ?_)
    · rw [movS_no hn] at hq0 hqS
      exact ih (by omega) hq0 hqS
    · rw [movS_yes hs] at hqS
      exact hqS (m + 1) k s' a' rfl

set_option maxHeartbeats 4000000 in
set_option maxRecDepth 100000 in
theorem w_displaceInto {l : zL} {d kc ks n b B H T : Nat} {h : Nat → va_E} {K V : Nat → Nat} {s : Nat → Int32} {a : Nat → Nat → Int32} {Q : zQ} {free : Nat} (hb : b + 6 ≤ n) (hR : tR B H T K V s a) (hfr : free < B) (hfree : K free = 0) (hq0 : movS B T K free (H - 1) = none → Q (.inl (some (.int 0))) n (tW h b s a)) (hqS : ∀ j k s' a', movS B T K free (H - 1) = some (j, k) → tQ B H T (mvK K (mvSrc B free j k) free) (mvK V (mvSrc B free j k) free) s a (s 10) (s 11 + 1) s' a' → Q (.inl (some (.int (nI (j - k))))) n (tW h b s' a')) : Zj l mX6_displaceInto (d + 1) kc ks 0 [(0, .ref b), (1, .int ((nI free)))] [] n (tW h b s a) Q := by
  obtain ⟨okb, h2H, hH6, h1T, hT99, e6, e7, e8, ek, ev, eh, ekv, ez⟩ := id hR
  have hle := okb.le
  refine z_aload_n (j := 0) dX6_displaceInto_0 rfl ?_
  refine z_get (v := .int (s 7)) (by omega) tW_obj fX6_31 rfl dX6_displaceInto_1 ?_
  refine z_iconst (v := 1) dX6_displaceInto_4 (by decide) ?_
  refine z_isub dX6_displaceInto_5 ?_
  rw [show ((s 7) - 1) = (nI (H - 1)) from by rw [e7, show (1 : Int32) = nI 1 from rfl]; exact pk_sub (by omega)]
  refine z_istore_n [1, 2, 0] [(0, .ref b), (1, .int ((nI free))), (2, .int ((nI (H - 1))))] dX6_displaceInto_6 (by decide) rfl ?_
  exact w_displaceInto_l hb hR hfr hfree (H - 1) (by omega) hq0 hqS
