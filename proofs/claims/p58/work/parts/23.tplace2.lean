set_option maxHeartbeats 4000000 in
set_option maxRecDepth 100000 in
theorem w_place_neg {l : zL} {d kc ks n b B H T hm key v : Nat} {h : Nat → va_E} {Q : zQ} {K V : Nat → Nat} {s : Nat → Int32} {a : Nat → Nat → Int32} {i : Nat} (hb : b + 6 ≤ n) (hR : tR B H T K V s a) (hq : Q (.inl (some (.int (-1)))) n (tW h b s a)) : Zj l mX6_place (d + 3) kc ks 16 [(0, .ref b), (1, .int ((nI key))), (2, .int ((nI v))), (3, .int ((nI hm))), (4, .int ((-1))), (5, .int ((nI i)))] [] n (tW h b s a) Q := by
  obtain ⟨okb, h2H, hH6, h1T, hT99, e6, e7, e8, ek, ev, eh, ekv, ez⟩ := id hR
  have hle := okb.le
  refine z_iload (j := 5) dX6_place_16 rfl ?_
  refine z_bipush (v := 64) dX6_place_18 (by decide) ?_
  refine z_icmp_ge (tgt := 71) dX6_place_20 (by decide) (fun c_20 => ?_) (fun c_20 => ?_)
  · refine z_iload_n (j := 3) dX6_place_71 rfl ?_
    refine z_iload (j := 4) dX6_place_72 rfl ?_
    refine z_iadd dX6_place_74 ?_
    refine z_aload_n (j := 0) dX6_place_75 rfl ?_
    refine z_get (v := .int (s 6)) (by omega) tW_obj fX6_64 rfl dX6_place_76 ?_
    refine z_iconst (v := 1) dX6_place_79 (by decide) ?_
    refine z_isub dX6_place_80 ?_
    refine z_iand dX6_place_81 ?_
    refine z_istore [1, 2, 3, 4, 5, 0] [(0, .ref b), (1, .int ((nI key))), (2, .int ((nI v))), (3, .int ((nI hm))), (4, .int ((-1))), (5, .int ((((nI hm) + (-1)) &&& ((s 6) - 1))))] dX6_place_82 (by decide) rfl ?_
    refine z_iload (j := 4) dX6_place_84 rfl ?_
    refine z_if_lt (tgt := 115) dX6_place_86 (by decide) (fun c_86 => ?_) (fun c_86 => absurd (by decide) c_86)
    refine z_iconst (v := (-1)) dX6_place_115 (by decide) ?_
    exact z_iret rfl dX6_place_116 (hq)
  · refine z_iload (j := 4) dX6_place_23 rfl ?_
    refine z_aload_n (j := 0) dX6_place_25 rfl ?_
    refine z_get (v := .int (s 7)) (by omega) tW_obj fX6_31 rfl dX6_place_26 ?_
    refine z_icmp_lt (tgt := 71) dX6_place_29 (by decide) (fun c_29 => ?_) (fun c_29 => absurd (by rw [e7]; exact (by decide : (-1 : Int32) < 0) |> fun h => Int32.lt_of_lt_of_le h (nI_pos' (by omega))) c_29)
    refine z_iload_n (j := 3) dX6_place_71 rfl ?_
    refine z_iload (j := 4) dX6_place_72 rfl ?_
    refine z_iadd dX6_place_74 ?_
    refine z_aload_n (j := 0) dX6_place_75 rfl ?_
    refine z_get (v := .int (s 6)) (by omega) tW_obj fX6_64 rfl dX6_place_76 ?_
    refine z_iconst (v := 1) dX6_place_79 (by decide) ?_
    refine z_isub dX6_place_80 ?_
    refine z_iand dX6_place_81 ?_
    refine z_istore [1, 2, 3, 4, 5, 0] [(0, .ref b), (1, .int ((nI key))), (2, .int ((nI v))), (3, .int ((nI hm))), (4, .int ((-1))), (5, .int ((((nI hm) + (-1)) &&& ((s 6) - 1))))] dX6_place_82 (by decide) rfl ?_
    refine z_iload (j := 4) dX6_place_84 rfl ?_
    refine z_if_lt (tgt := 115) dX6_place_86 (by decide) (fun c_86 => ?_) (fun c_86 => absurd (by decide) c_86)
    refine z_iconst (v := (-1)) dX6_place_115 (by decide) ?_
    exact z_iret rfl dX6_place_116 (hq)

set_option maxHeartbeats 4000000 in
set_option maxRecDepth 100000 in
theorem w_place_fin {l : zL} {d kc ks n b B H T hm key v : Nat} {h : Nat → va_E} {Q : zQ} {K V : Nat → Nat} {s : Nat → Int32} {a : Nat → Nat → Int32} {t : Nat} (hb : b + 6 ≤ n) (hR : tR B H T K V s a) (hm1 : hm < B) (hkm : hmo B T key = hm) (hkey : key ≤ 9999) (hv : v ≤ 999) (ht : t < H) (hfree : K ((hm + t) % B) = 0) (hq : ∀ s' a', tQ B H T (va_up K ((hm + t) % B) (key + 1)) (va_up V ((hm + t) % B) v) s a (s 10 + 1) (s 11) s' a' → Q (.inl (some (.int (nI ((hm + t) % B))))) n (tW h b s' a')) : Zj l mX6_place (d + 3) kc ks 71 [(0, .ref b), (1, .int ((nI key))), (2, .int ((nI v))), (3, .int ((nI hm))), (4, .int ((nI t)))] [] n (tW h b s a) Q := by
  obtain ⟨okb, h2H, hH6, h1T, hT99, e6, e7, e8, ek, ev, eh, ekv, ez⟩ := id hR
  have hle := okb.le
  have hlt := mod_lt' okb (x := hm + t)
  have hct : (nI ((hm + t) % B)).toNatClampNeg = ((hm + t) % B) := nI_clamp (by omega)
  have hch : (nI hm).toNatClampNeg = hm := nI_clamp (by omega)
  refine z_iload_n (j := 3) dX6_place_71 rfl ?_
  refine z_iload (j := 4) dX6_place_72 rfl ?_
  refine z_iadd dX6_place_74 ?_
  refine z_aload_n (j := 0) dX6_place_75 rfl ?_
  refine z_get (v := .int (s 6)) (by omega) tW_obj fX6_64 rfl dX6_place_76 ?_
  refine z_iconst (v := 1) dX6_place_79 (by decide) ?_
  refine z_isub dX6_place_80 ?_
  refine z_iand dX6_place_81 ?_
  rw [show (((nI hm) + (nI t)) &&& ((s 6) - 1)) = (nI ((hm + t) % B)) from by rw [e6]; exact mBadd okb (by omega) (by omega)]
  refine z_istore [1, 2, 3, 4, 5, 0] [(0, .ref b), (1, .int ((nI key))), (2, .int ((nI v))), (3, .int ((nI hm))), (4, .int ((nI t))), (5, .int ((nI ((hm + t) % B))))] dX6_place_82 (by decide) rfl ?_
  refine z_iload (j := 4) dX6_place_84 rfl ?_
  refine z_if_lt (tgt := 115) dX6_place_86 (by decide) (fun c_86 => absurd c_86 (nI_pos (by omega))) (fun c_86 => ?_)
  refine z_iload (j := 4) dX6_place_89 rfl ?_
  refine z_aload_n (j := 0) dX6_place_91 rfl ?_
  refine z_get (v := .int (s 7)) (by omega) tW_obj fX6_31 rfl dX6_place_92 ?_
  refine z_icmp_ge (tgt := 115) dX6_place_95 (by decide) (fun c_95 => absurd c_95 (by rw [e7]; exact nI_ge (by omega) (by omega))) (fun c_95 => ?_)
  refine z_aload_n (j := 0) dX6_place_98 rfl ?_
  refine z_iload_n (j := 3) dX6_place_99 rfl ?_
  refine z_cV [.int ((nI hm))] (some (.int 1)) yoX6_hasBucket yvX6_hasBucket rfl (by decide) lX6_91 (by omega) tW_obj rfl rfl (Nat.le_of_ble_eq_true rfl) (Nat.le_of_ble_eq_true rfl) dX6_place_100 (z_room (by omega) (Nat.le_refl _) (Nat.le_refl _) (w_hasBucket (d := 0) hb hR hm1 ⟨rfl, rfl, rfl⟩)) ?_
  refine z_if_eq (tgt := 115) dX6_place_103 (by decide) (fun c_103 => absurd c_103 (by decide)) (fun c_103 => ?_)
  refine z_aload_n (j := 0) dX6_place_106 rfl ?_
  refine z_iload (j := 5) dX6_place_107 rfl ?_
  refine z_cV [.int ((nI ((hm + t) % B)))] (some (.int 1)) yoX6_hasBucket yvX6_hasBucket rfl (by decide) lX6_91 (by omega) tW_obj rfl rfl (Nat.le_of_ble_eq_true rfl) (Nat.le_of_ble_eq_true rfl) dX6_place_109 (z_room (by omega) (Nat.le_refl _) (Nat.le_refl _) (w_hasBucket (d := 0) hb hR (mod_lt' okb) ⟨rfl, rfl, rfl⟩)) ?_
  refine z_if_ne (tgt := 117) dX6_place_112 (by decide) (fun c_112 => ?_) (fun c_112 => absurd c_112 (by decide))
  refine z_aload_n (j := 0) dX6_place_117 rfl ?_
  refine z_get (v := .ref (b + 1)) (by omega) tW_obj fX6_9 rfl dX6_place_118 ?_
  refine z_iload (j := 5) dX6_place_121 rfl ?_
  refine z_iload_n (j := 1) dX6_place_123 rfl ?_
  refine t_ast 0 (by decide) hb (vp_in_nI (by omega) (by decide)) dX6_place_124 ?_
  refine z_aload_n (j := 0) dX6_place_125 rfl ?_
  refine z_get (v := .ref (b + 2)) (by omega) tW_obj fX6_15 rfl dX6_place_126 ?_
  refine z_iload (j := 5) dX6_place_129 rfl ?_
  refine z_iload_n (j := 2) dX6_place_131 rfl ?_
  refine t_ast 1 (by decide) hb (vp_in_nI (by omega) (by decide)) dX6_place_132 ?_
  refine z_aload_n (j := 0) dX6_place_133 rfl ?_
  refine z_get (v := .ref (b + 3)) (by omega) tW_obj fX6_18 rfl dX6_place_134 ?_
  refine z_iload_n (j := 3) dX6_place_137 rfl ?_
  refine z_dup2 rfl rfl dX6_place_138 ?_
  refine t_ald 2 (by decide) hb (vp_in_nI (by omega) (by decide)) dX6_place_139 ?_
  refine z_iconst (v := 1) dX6_place_140 (by decide) ?_
  refine z_iload (j := 4) dX6_place_141 rfl ?_
  refine z_ishl dX6_place_143 ?_
  refine z_ior dX6_place_144 ?_
  refine t_ast 2 (by decide) hb (vp_in_nI (by omega) (by decide)) dX6_place_145 ?_
  refine z_aload_n (j := 0) dX6_place_146 rfl ?_
  refine z_dup rfl dX6_place_147 ?_
  refine z_get (v := .int (s 10)) (by omega) tW_obj fX6_67 rfl dX6_place_148 ?_
  refine z_iconst (v := 1) dX6_place_151 (by decide) ?_
  refine z_iadd dX6_place_152 ?_
  refine t_put (k := 10) (by omega) fX6_67 (by decide) (by decide) (by decide) dX6_place_153 ?_
  refine z_iload (j := 5) dX6_place_156 rfl ?_
  exact z_iret rfl dX6_place_158 (by
      simp only [hct, hch]
      refine hq _ _ ⟨tR_s (tR_put hR ht hfree hm1 hkm hkey hv (a' := _) (fun i hi => by simp [va_up]) (fun i hi => by simp [va_up]) (fun i hi => by simp [va_up])) (by simp [va_up]) (by simp [va_up]) (by simp [va_up]), by simp [va_up], by simp [va_up], fun q h1 h2 => by simp [va_up, h1], by simp [va_up], by simp [va_up]⟩)

set_option maxHeartbeats 4000000 in
set_option maxRecDepth 100000 in
theorem w_place_l {l : zL} {d kc ks n b B H T hm key v : Nat} {h : Nat → va_E} {Q : zQ} (hb : b + 6 ≤ n) (hBH : okB B) (hm1 : hm < B) (hkm : hmo B T key = hm) (hkey : key ≤ 9999) (hv : v ≤ 999) : ∀ N i st (K V : Nat → Nat) (s : Nat → Int32) (a : Nat → Nat → Int32), st < N → (st + i ≤ 63 ∧ st < B) → tR B H T K V s a → K ((hm + st) % B) = 0 → (∀ K' V' c' s' a', plc B H T hm N K V st (s 11) = (none, K', V', c') → tQ B H T K' V' s a (s 10) c' s' a' → Q (.inl (some (.int (-1)))) n (tW h b s' a')) → (∀ t K' V' c' s' a', plc B H T hm N K V st (s 11) = (some t, K', V', c') → tQ B H T (va_up K' ((hm + t) % B) (key + 1)) (va_up V' ((hm + t) % B) v) s a (s 10 + 1) c' s' a' → Q (.inl (some (.int (nI ((hm + t) % B))))) n (tW h b s' a')) → Zj l mX6_place (d + 3) kc ks 16 [(0, .ref b), (1, .int ((nI key))), (2, .int ((nI v))), (3, .int ((nI hm))), (4, .int ((nI st))), (5, .int ((nI i)))] [] n (tW h b s a) Q := by
  intro N
  induction N with
  | zero => intro i st K V s a h1; exact absurd h1 (Nat.not_lt_zero _)
  | succ N ih =>
    intro i st K V s a hN hsi hR hfree hqN hqS
    obtain ⟨hsi, hstB⟩ := hsi
    obtain ⟨okb, h2H, hH6, h1T, hT99, e6, e7, e8, ek, ev, eh, ekv, ez⟩ := id hR
    have hle := okb.le
    refine z_iload (j := 5) dX6_place_16 rfl ?_
    refine z_bipush (v := 64) dX6_place_18 (by decide) ?_
    refine z_icmp_ge (tgt := 71) dX6_place_20 (by decide) (fun c_20 => absurd c_20 (nI_ge (b := 64) (by omega) (by decide))) (fun c_20 => ?_)
    refine z_iload (j := 4) dX6_place_23 rfl ?_
    refine z_aload_n (j := 0) dX6_place_25 rfl ?_
    refine z_get (v := .int (s 7)) (by omega) tW_obj fX6_31 rfl dX6_place_26 ?_
    refine z_icmp_lt (tgt := 71) dX6_place_29 (by decide) (fun c_29 => ?_) (fun c_29 => ?_)
    · refine z_lv [(0, .ref b), (1, .int ((nI key))), (2, .int ((nI v))), (3, .int ((nI hm))), (4, .int ((nI st)))] [0, 1, 2, 3, 4] rfl ?_
      have hst : st < H := by
        rw [e7] at c_29
        exact (nI_ltI (by omega) (by omega)).mp c_29
      exact w_place_fin hb hR hm1 hkm hkey hv hst hfree (fun s' a' hT => hqS st K V (s 11) s' a' (plc_near hst) hT)
    · have hst : ¬ st < H := fun e => c_29 (by rw [e7]; exact nI_lt e (by omega))
      refine z_aload_n (j := 0) dX6_place_32 rfl ?_
      refine z_iload_n (j := 3) dX6_place_33 rfl ?_
      refine z_iload (j := 4) dX6_place_34 rfl ?_
      refine z_iadd dX6_place_36 ?_
      refine z_aload_n (j := 0) dX6_place_37 rfl ?_
      refine z_get (v := .int (s 6)) (by omega) tW_obj fX6_64 rfl dX6_place_38 ?_
      refine z_iconst (v := 1) dX6_place_41 (by decide) ?_
      refine z_isub dX6_place_42 ?_
      refine z_iand dX6_place_43 ?_
      rw [show (((nI hm) + (nI st)) &&& ((s 6) - 1)) = (nI ((hm + st) % B)) from by rw [e6]; exact mBadd okb (by omega) (by omega)]
      cases hmv : movS B T K ((hm + st) % B) (H - 1) with
      | none =>
        refine z_cV [.int (nI ((hm + st) % B))] (some (.int 0)) yoX6_displaceInto yvX6_displaceInto rfl (by decide) lX6_112 (by omega) tW_obj rfl rfl (Nat.le_of_ble_eq_true rfl) (Nat.le_of_ble_eq_true rfl) dX6_place_44 (z_room (by omega) (Nat.le_refl _) (Nat.le_refl _) (w_displaceInto (d := 0) hb hR (mod_lt' okb) hfree (fun _ => ⟨rfl, rfl, rfl⟩) (fun j k s' a' e _ => by rw [hmv] at e; cases e))) ?_
        refine z_istore [1, 2, 3, 4, 5, 6, 0] [(0, .ref b), (1, .int ((nI key))), (2, .int ((nI v))), (3, .int ((nI hm))), (4, .int ((nI st))), (5, .int ((nI i))), (6, .int 0)] dX6_place_47 (by decide) rfl ?_
        refine z_iload (j := 6) dX6_place_49 rfl ?_
        refine z_if_ne (tgt := 58) dX6_place_51 (by decide) (fun c_51 => absurd rfl c_51) (fun c_51 => ?_)
        refine z_iconst (v := (-1)) dX6_place_54 (by decide) ?_
        refine z_goto (tgt := 63) dX6_place_55 (by decide) ?_
        refine z_istore [1, 2, 3, 4, 0, 5, 6] [(0, .ref b), (1, .int ((nI key))), (2, .int ((nI v))), (3, .int ((nI hm))), (4, .int ((-1))), (5, .int ((nI i))), (6, .int 0)] dX6_place_63 (by decide) rfl ?_
        skip
        refine z_iinc ((nI (i + 1))) [1, 2, 3, 4, 5, 0, 6] [(0, .ref b), (1, .int ((nI key))), (2, .int ((nI v))), (3, .int ((nI hm))), (4, .int ((-1))), (5, .int ((nI (i + 1)))), (6, .int 0)] dX6_place_65 (j := 5) rfl (nI_1 i) (by decide) rfl ?_
        refine z_goto (tgt := 16) dX6_place_68 (by decide) ?_
        refine z_lv [(0, .ref b), (1, .int ((nI key))), (2, .int ((nI v))), (3, .int ((nI hm))), (4, .int ((-1))), (5, .int ((nI (i + 1))))] [0, 1, 2, 3, 4, 5] rfl ?_
        refine w_place_neg hb hR (hqN K V (s 11) s a (plc_stuck hst hmv) ⟨hR, rfl, rfl, fun _ _ _ => rfl, rfl, rfl⟩)
      | some jk =>
        obtain ⟨j, k⟩ := jk
        obtain ⟨m1, m2, m3, m4⟩ := movS_some hmv
        have hsrc : mvSrc B ((hm + st) % B) j k = (hm + (st - (j - k))) % B := mvSrc_step okb hm1 (by omega) (by omega) (by omega)
        refine z_cVx [.int (nI ((hm + st) % B))] (some (.int (nI (j - k)))) (fun g => ∃ s1 a1, g = tW h b s1 a1 ∧ tQ B H T (mvK K (mvSrc B ((hm + st) % B) j k) ((hm + st) % B)) (mvK V (mvSrc B ((hm + st) % B) j k) ((hm + st) % B)) s a (s 10) (s 11 + 1) s1 a1) yoX6_displaceInto yvX6_displaceInto rfl (by decide) lX6_112 (by omega) tW_obj rfl rfl (Nat.le_of_ble_eq_true rfl) (Nat.le_of_ble_eq_true rfl) dX6_place_44 (z_room (by omega) (Nat.le_refl _) (Nat.le_refl _) (w_displaceInto (d := 0) hb hR (mod_lt' okb) hfree (fun e => by rw [hmv] at e; cases e) (fun j' k' s' a' e hq => by
          rw [hmv] at e
          cases e
          exact ⟨rfl, rfl, s', a', rfl, hq⟩))) (fun g hg => ?_)
        obtain ⟨s1, a1, rfl, hT1⟩ := hg
        refine z_istore [1, 2, 3, 4, 5, 6, 0] [(0, .ref b), (1, .int ((nI key))), (2, .int ((nI v))), (3, .int ((nI hm))), (4, .int ((nI st))), (5, .int ((nI i))), (6, .int ((nI (j - k))))] dX6_place_47 (by decide) rfl ?_
        refine z_iload (j := 6) dX6_place_49 rfl ?_
        refine z_if_ne (tgt := 58) dX6_place_51 (by decide) (fun c_51 => ?_) (fun c_51 => absurd c_51 (nI_ne0 (by omega) (by omega)))
        refine z_iload (j := 4) dX6_place_58 rfl ?_
        refine z_iload (j := 6) dX6_place_60 rfl ?_
        refine z_isub dX6_place_62 ?_
        rw [show ((nI st) - (nI (j - k))) = (nI (st - (j - k))) from pk_sub (by omega)]
        refine z_istore [1, 2, 3, 4, 0, 5, 6] [(0, .ref b), (1, .int ((nI key))), (2, .int ((nI v))), (3, .int ((nI hm))), (4, .int ((nI (st - (j - k))))), (5, .int ((nI i))), (6, .int ((nI (j - k))))] dX6_place_63 (by decide) rfl ?_
        skip
        refine z_iinc ((nI (i + 1))) [1, 2, 3, 4, 5, 0, 6] [(0, .ref b), (1, .int ((nI key))), (2, .int ((nI v))), (3, .int ((nI hm))), (4, .int ((nI (st - (j - k))))), (5, .int ((nI (i + 1)))), (6, .int ((nI (j - k))))] dX6_place_65 (j := 5) rfl (nI_1 i) (by decide) rfl ?_
        refine z_goto (tgt := 16) dX6_place_68 (by decide) ?_
        refine z_lv [(0, .ref b), (1, .int ((nI key))), (2, .int ((nI v))), (3, .int ((nI hm))), (4, .int ((nI (st - (j - k))))), (5, .int ((nI (i + 1))))] [0, 1, 2, 3, 4, 5] rfl ?_
        have hR1 := hT1.1
        have hpl := plc_step (c := s 11) (n := N) (V := V) hst hmv
        have hfree1 : mvK K (mvSrc B ((hm + st) % B) j k) ((hm + st) % B) ((hm + (st - (j - k))) % B) = 0 := by
          rw [hsrc]
          have hne : ¬ (hm + (st - (j - k))) % B = ((hm + st) % B) := fun e => by
            have := modB_inj okb (by omega) (by omega) e
            omega
          simp [mvK, va_up, hne]
        refine ih (i + 1) (st - (j - k)) _ _ s1 a1 (by omega) (by omega) hR1 hfree1 (fun K' V' c' s' a' e hT => ?_) (fun t K' V' c' s' a' e hT => ?_)
        · refine hqN K' V' c' s' a' (hpl.trans ?_) ?_
          · rw [← hT1.2.2.1]; exact e
          · have := hT1.tr hT
            rw [hT1.2.1] at this
            exact this
        · refine hqS t K' V' c' s' a' (hpl.trans ?_) ?_
          · rw [← hT1.2.2.1]; exact e
          · have := hT1.tr hT
            rw [hT1.2.1] at this
            exact this

set_option maxHeartbeats 4000000 in
set_option maxRecDepth 100000 in
theorem w_place {l : zL} {d kc ks n b B H T key v : Nat} {h : Nat → va_E} {Q : zQ} {K V : Nat → Nat} {s : Nat → Int32} {a : Nat → Nat → Int32} (hb : b + 6 ≤ n) (hR : tR B H T K V s a) (hkey : key ≤ 9999) (hv : v ≤ 999) (hqN : ∀ K' V' c' s' a', placeF B H T K V (s 11) key v = (none, K', V', c') → tQ B H T K' V' s a (s 10) c' s' a' → Q (.inl (some (.int (-1)))) n (tW h b s' a')) (hqS : ∀ bk K' V' c' s' a', placeF B H T K V (s 11) key v = (some bk, K', V', c') → tQ B H T K' V' s a (s 10 + 1) c' s' a' → Q (.inl (some (.int (nI bk)))) n (tW h b s' a')) : Zj l mX6_place (d + 3) kc ks 0 [(0, .ref b), (1, .int ((nI key))), (2, .int ((nI v)))] [] n (tW h b s a) Q := by
  obtain ⟨okb, h2H, hH6, h1T, hT99, e6, e7, e8, ek, ev, eh, ekv, ez⟩ := id hR
  have hle := okb.le
  obtain ⟨hm, hkm⟩ : ∃ hm, hmo B T key = hm := ⟨_, rfl⟩
  have hm1 : hm < B := by rw [← hkm]; exact hmo_lt okb T key
  refine z_aload_n (j := 0) dX6_place_0 rfl ?_
  refine z_iload_n (j := 1) dX6_place_1 rfl ?_
  refine z_cV [.int (nI key)] (some (.int (nI hm))) yoX6_homeFor yvX6_homeFor rfl (by decide) lX6_94 (by omega) tW_obj rfl rfl (Nat.le_of_ble_eq_true rfl) (Nat.le_of_ble_eq_true rfl) dX6_place_2 (z_room (by omega) (Nat.le_refl _) (Nat.le_refl _) (w_homeFor (d := 0) hb hR hkey (by rw [hkm]; exact ⟨rfl, rfl, rfl⟩))) ?_
  refine z_istore_n [1, 2, 3, 0] [(0, .ref b), (1, .int ((nI key))), (2, .int ((nI v))), (3, .int ((nI hm)))] dX6_place_5 (by decide) rfl ?_
  refine z_aload_n (j := 0) dX6_place_6 rfl ?_
  refine z_iload_n (j := 3) dX6_place_7 rfl ?_
  refine z_cV [.int ((nI hm))] (some (.int ((optI (frD B K hm))))) yoX6_stepsToFree yvX6_stepsToFree rfl (by decide) lX6_109 (by omega) tW_obj rfl rfl (Nat.le_of_ble_eq_true rfl) (Nat.le_of_ble_eq_true rfl) dX6_place_8 (z_room (by omega) (Nat.le_refl _) (Nat.le_refl _) (w_stepsToFree (d := 0) hb hR hm1 ⟨rfl, rfl, rfl⟩)) ?_
  cases hfd : frD B K hm with
  | none =>
    refine (show Zj l mX6_place (d + 3) kc ks 11 [(0, .ref b), (1, .int ((nI key))), (2, .int ((nI v))), (3, .int ((nI hm)))] [.int (-1)] n (tW h b s a) Q from ?_)
    refine z_istore [1, 2, 3, 4, 0] [(0, .ref b), (1, .int ((nI key))), (2, .int ((nI v))), (3, .int ((nI hm))), (4, .int ((-1)))] dX6_place_11 (by decide) rfl ?_
    refine z_iconst (v := 0) dX6_place_13 (by decide) ?_
    refine z_istore [1, 2, 3, 4, 5, 0] [(0, .ref b), (1, .int ((nI key))), (2, .int ((nI v))), (3, .int ((nI hm))), (4, .int ((-1))), (5, .int 0)] dX6_place_14 (by decide) rfl ?_
    exact w_place_neg (i := 0) hb hR (hqN K V (s 11) s a (by simp [placeF, hkm, hfd]) ⟨hR, rfl, rfl, fun _ _ _ => rfl, rfl, rfl⟩)
  | some st =>
    refine (show Zj l mX6_place (d + 3) kc ks 11 [(0, .ref b), (1, .int ((nI key))), (2, .int ((nI v))), (3, .int ((nI hm)))] [.int (nI st)] n (tW h b s a) Q from ?_)
    refine z_istore [1, 2, 3, 4, 0] [(0, .ref b), (1, .int ((nI key))), (2, .int ((nI v))), (3, .int ((nI hm))), (4, .int ((nI st)))] dX6_place_11 (by decide) rfl ?_
    refine z_iconst (v := 0) dX6_place_13 (by decide) ?_
    refine z_istore [1, 2, 3, 4, 5, 0] [(0, .ref b), (1, .int ((nI key))), (2, .int ((nI v))), (3, .int ((nI hm))), (4, .int ((nI st))), (5, .int 0)] dX6_place_14 (by decide) rfl ?_
    obtain ⟨f1, f2⟩ := frD_lt hfd
    refine w_place_l hb okb hm1 hkm hkey hv 65 0 st K V s a (by omega) ⟨by omega, f1⟩ hR f2 (fun K' V' c' s' a' e hT => ?_) (fun t K' V' c' s' a' e hT => ?_)
    · exact hqN K' V' c' s' a' (by simp [placeF, hkm, hfd, e]) hT
    · exact hqS ((hm + t) % B) _ _ c' s' a' (by simp [placeF, hkm, hfd, e]) hT
