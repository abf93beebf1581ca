/-! THE CLASS'S SCRIPT: a command read -/

set_option maxHeartbeats 4000000 in
set_option maxRecDepth 100000 in
theorem w_read0 {l : zL} {d kc ks n : Nat} {h : Nat → va_E} {cm : Value} {o u : Nat → Nat → Int32} {s : Nat → Nat → Int32} {a : Nat → Nat → Nat → Int32} {L : Nat} {x : Nat → Nat} {st ex : Nat} {S : zS} {Q : zQ} (hn : 89 ≤ n) (hL : L ≤ 600) (h11 : o 1 1 = nI L) (hu : ∀ i, i < L → u 0 i = nI (x i)) (hx : ∀ i, x i < 256) (hst : st ≤ L) (h12 : o 1 2 = nI (tE L x st)) (h13 : o 1 3 = nI st) (h14 : o 1 4 = nI (tKd L x st)) (h10 : o 2 10 = 0) (h6 : o 2 6 = nI ex) (hex : ex ≤ 200) (hT : cT S (s 0) (a 0)) (hw : wIs L x st 0 = true) (hqY : ∀ v0 v1 ps, ps ≤ L → ¬ ex = 200 → smp L x 0 (tE L x st) S = fin L x ps (oAdd S v0 v1) → tKd L x (tS L x ps) = 5 → ∀ o' u', o' 1 2 = nI (nx L x ps) → o' 1 3 = nI (tS L x ps) → fp (fun j => 2 ≤ j) o o' → o' 1 1 = nI L → oKey v0 = true → v0 ≤ 9999 → u' 1 0 = nI v0 → oVal v1 = true → v1 ≤ 9999 → u' 1 1 = nI v1 → (∀ j, j ≠ 1 → u' j = u j) → Q (.inl none) n (gW h (.ref (zB + 200 + 0)) o' u' s a)) (hqN : ∀ k off, cS L x 0 st ex S = .inl (k, off) → (k ≠ 0 ∧ k < 10) → ∀ cm', (cm' = cm ∨ ∃ q, cm' = .ref q) → ∀ o' u', u' 4 = u 4 → er o o' k off → Q (.inl none) n (gW h cm' o' u' s a)) : Zj l mX5_readCommand (d + 5) kc ks 0 [(0, .ref 3)] [] n (gW h cm o u s a) Q := by
  refine z_null dX5_readCommand_0 ?_
  refine z_astore_nN [1, 0] [(0, .ref 3), (1, .null)] dX5_readCommand_1 (by decide) rfl ?_
  refine z_iconst (v := 0) dX5_readCommand_2 (by decide) ?_
  refine z_istore_n [1, 2, 0] [(0, .ref 3), (1, .null), (2, .int 0)] dX5_readCommand_3 (by decide) rfl ?_
  refine z_iload_n (j := 2) dX5_readCommand_4 rfl ?_
  refine z_getsN (v := .ref (zB + 300)) (host := "NeighbourHash") kZ_cm (List.mem_of_getElem? (i := 5) rfl) dX5_readCommand_5 ?_
  refine z_alenC (v := 10) kT_cm rfl dX5_readCommand_8 ?_
  refine z_icmp_ge (tgt := 54) dX5_readCommand_9 (by decide) (fun czq9 => absurd czq9 (by decide)) (fun czq9 => ?_)
  refine z_aload_nN (j := 1) dX5_readCommand_12 rfl ?_
  refine z_ifnonnullN dX5_readCommand_13 ?_
  refine z_getsN (v := .ref (zB + 300)) (host := "NeighbourHash") kZ_cm (List.mem_of_getElem? (i := 5) rfl) dX5_readCommand_16 ?_
  refine z_iload_n (j := 2) dX5_readCommand_19 rfl ?_
  refine z_aaldC kT_cm (show vp_in (nI 0) 10 from vp_in_nI (by decide) (by decide)) dX5_readCommand_20 ?_
  refine z_ifnull dX5_readCommand_21 ?_
  refine z_aload_n (j := 0) dX5_readCommand_24 rfl ?_
  refine z_get (v := .ref 1) (by omega) gW_3 fX5_32 rfl dX5_readCommand_25 ?_
  refine z_getsN (v := .ref (zB + 300)) (host := "NeighbourHash") kZ_cm (List.mem_of_getElem? (i := 5) rfl) dX5_readCommand_28 ?_
  refine z_iload_n (j := 2) dX5_readCommand_31 rfl ?_
  refine z_aaldC kT_cm (show vp_in (nI 0) 10 from vp_in_nI (by decide) (by decide)) dX5_readCommand_32 ?_
  refine z_getC (v := .ref (zB + 14 + 0)) (by decide +kernel) fX5_168 dX5_readCommand_33 ?_
  refine z_kV [.ref ((zB + 14 + 0))] 0 0 kc ks yoX3_isWord yvX3_isWord rfl (by decide) lX5_75 (by omega) gW_1 rfl rfl (Nat.le_of_ble_eq_true rfl) (Nat.le_of_ble_eq_true rfl) dX5_readCommand_36 (by omega) (by omega) (z_room (by omega) (Nat.le_refl _) (Nat.le_refl _) (w_isWord (d := 0) (w := 0) hn hL h11 hu hx (by decide) h12 h13 h14 hst ⟨rfl, ?_⟩))
  refine z_if_eq (tgt := 48) dX5_readCommand_39 (by decide) (fun czq39 => absurd czq39 (fun z => bI_0.mp z hw)) (fun czq39 => ?_)
  refine z_getsN (v := .ref (zB + 300)) (host := "NeighbourHash") kZ_cm (List.mem_of_getElem? (i := 5) rfl) dX5_readCommand_42 ?_
  refine z_iload_n (j := 2) dX5_readCommand_45 rfl ?_
  refine z_aaldC kT_cm (show vp_in (nI 0) 10 from vp_in_nI (by decide) (by decide)) dX5_readCommand_46 ?_
  refine z_astore_n [1, 0, 2] [(0, .ref 3), (1, .ref ((zB + 200 + 0))), (2, .int 0)] dX5_readCommand_47 (by decide) rfl ?_
  skip
  refine z_iinc (1) [1, 2, 0] [(0, .ref 3), (1, .ref ((zB + 200 + 0))), (2, .int 1)] dX5_readCommand_48 (j := 2) rfl (by decide) (by decide) rfl ?_
  refine z_goto (tgt := 4) dX5_readCommand_51 (by decide) ?_
  refine z_iload_n (j := 2) dX5_readCommand_4 rfl ?_
  refine z_getsN (v := .ref (zB + 300)) (host := "NeighbourHash") kZ_cm (List.mem_of_getElem? (i := 5) rfl) dX5_readCommand_5 ?_
  refine z_alenC (v := 10) kT_cm rfl dX5_readCommand_8 ?_
  refine z_icmp_ge (tgt := 54) dX5_readCommand_9 (by decide) (fun czq9 => absurd czq9 (by decide)) (fun czq9 => ?_)
  refine z_aload_n (j := 1) dX5_readCommand_12 rfl ?_
  refine z_ifnonnull (tgt := 54) dX5_readCommand_13 (by decide) ?_
  refine z_aload_n (j := 1) dX5_readCommand_54 rfl ?_
  refine z_ifnonnull (tgt := 64) dX5_readCommand_55 (by decide) ?_
  refine z_aload_n (j := 0) dX5_readCommand_64 rfl ?_
  refine z_get (v := .int (o 2 6)) (by omega) gW_3 fX5_44 rfl dX5_readCommand_65 ?_
  refine z_sipush (v := 200) dX5_readCommand_68 (by decide) ?_
  rw [show (o 2 6) = nI ex from h6]
  refine z_icmp_lt (tgt := 80) dX5_readCommand_71 (by decide) (fun czq71 => ?_) (fun czq71 => ?_)
  · have hexn : ¬ ex = 200 := fun z => absurd czq71 (by rw [z]; decide)
    refine z_iconst (v := 0) dX5_readCommand_80 (by decide) ?_
    refine z_istore_n [1, 2, 0] [(0, .ref 3), (1, .ref ((zB + 200 + 0))), (2, .int 0)] dX5_readCommand_81 (by decide) rfl ?_
    refine z_iload_n (j := 2) dX5_readCommand_82 rfl ?_
    refine z_aload_n (j := 1) dX5_readCommand_83 rfl ?_
    refine z_getC (v := .int 2) (by decide +kernel) fX5_172 dX5_readCommand_84 ?_
    refine z_icmp_ge (tgt := 143) dX5_readCommand_87 (by decide) (fun czq87 => absurd czq87 (by decide)) (fun czq87 => ?_)
    refine z_iload_n (j := 2) dX5_readCommand_90 rfl ?_
    refine z_aload_n (j := 0) dX5_readCommand_91 rfl ?_
    refine z_get (v := .ref 10) (by omega) gW_3 fX5_18 rfl dX5_readCommand_92 ?_
    refine z_alen (by omega) gW_10 (by decide) rfl dX5_readCommand_95 ?_
    refine z_icmp_ge (tgt := 143) dX5_readCommand_96 (by decide) (fun czq96 => absurd czq96 (by decide)) (fun czq96 => ?_)
    refine z_aload_n (j := 0) dX5_readCommand_99 rfl ?_
    refine z_get (v := .int (o 2 10)) (by omega) gW_3 fX5_54 rfl dX5_readCommand_100 ?_
    refine z_if_ne (tgt := 143) dX5_readCommand_103 (by decide) (fun czq103 => absurd czq103 (fun z => z h10)) (fun czq103 => ?_)
    refine z_aload_n (j := 0) dX5_readCommand_106 rfl ?_
    refine z_get (v := .ref 10) (by omega) gW_3 fX5_18 rfl dX5_readCommand_107 ?_
    refine z_iload_n (j := 2) dX5_readCommand_110 rfl ?_
    refine z_aload_n (j := 0) dX5_readCommand_111 rfl ?_
    refine z_kV [] 0 0 kc ks yoX5_readNumber yvX5_readNumber rfl (by decide) lX5_142 (by omega) gW_3 rfl rfl (Nat.le_of_ble_eq_true rfl) (Nat.le_of_ble_eq_true rfl) dX5_readCommand_112 (by omega) (by omega) (z_room (by omega) (Nat.le_refl _) (Nat.le_refl _) (w_readNumber (d := 0) hn hL h11 hu hx ((tE_le' hst).2) h12 h10 (fun hk0 o0 q2_0 q3_0 hf0 => ⟨rfl, ?_⟩) (fun hk0 o0 he0 => ⟨rfl, ?_⟩)))
    · have h11_0 : o0 1 1 = nI L := (hf0.2 1 (by decide)).trans h11
      have h10_0 : o0 2 10 = 0 := by rw [hf0.1 2 (by decide)]; exact h10
      have hfc_0 : fp (fun j => 2 ≤ j) o o0 := fp.rf.tr hf0
      have hV0 := tV_lt hk0
      refine g_ast 1 (by decide) rfl (by omega) (show vp_in (nI 0) 3 from vp_in_nI (by decide) (by decide)) dX5_readCommand_115 ?_
      obtain ⟨u0, eu0⟩ : ∃ u0, u0 = (va_up u 1 (va_up (u 1) (0 : Int32).toNatClampNeg (nI (tV L x (tS L x (tE L x st)))))) := ⟨_, rfl⟩
      rw [← eu0]
      have hu0 : ∀ i, i < L → u0 0 i = nI (x i) := fun i hi => by rw [eu0, up_ne (by decide)]; exact hu i hi
      have hv0_0 : u0 1 0 = (nI (tV L x (tS L x (tE L x st)))) := by rw [eu0, up_eq]; first | done | exact up_eq
      have hw0 : ∀ j, j ≠ 1 → u0 j = u j := fun j hj => by rw [eu0, up_ne hj]; first | done | exact (show ∀ j, j ≠ 1 → u j = u j from fun _ _ => rfl) j hj
      refine z_aload_n (j := 0) dX5_readCommand_116 rfl ?_
      refine z_get (v := .int (o0 2 10)) (by omega) gW_3 fX5_54 rfl dX5_readCommand_117 ?_
      refine z_if_ne (tgt := 137) dX5_readCommand_120 (by decide) (fun czq120 => absurd czq120 (fun z => z h10_0)) (fun czq120 => ?_)
      refine z_aload_n (j := 0) dX5_readCommand_123 rfl ?_
      refine z_aload_n (j := 1) dX5_readCommand_124 rfl ?_
      refine z_iload_n (j := 2) dX5_readCommand_125 rfl ?_
      refine z_kV [.ref ((zB + 200 + 0)), .int 0] 0 0 kc ks yoX5_fits yvX5_fits rfl (by decide) lX5_174 (by omega) gW_3 rfl rfl (Nat.le_of_ble_eq_true rfl) (Nat.le_of_ble_eq_true rfl) dX5_readCommand_126 (by omega) (by omega) (z_room (by omega) (Nat.le_refl _) (Nat.le_refl _) (w_fits0_0 (d := 0) (S := S) hn hv0_0 hV0 ⟨rfl, ?_⟩))
      refine z_if_ne (tgt := 137) dX5_readCommand_129 (by decide) (fun czq129 => ?_) (fun czq129 => ?_)
      · have hok0 := bI_n.mp czq129
        skip
        refine z_iinc (1) [1, 2, 0] [(0, .ref 3), (1, .ref ((zB + 200 + 0))), (2, .int 1)] dX5_readCommand_137 (j := 2) rfl (by decide) (by decide) rfl ?_
        refine z_goto (tgt := 82) dX5_readCommand_140 (by decide) ?_
        refine z_iload_n (j := 2) dX5_readCommand_82 rfl ?_
        refine z_aload_n (j := 1) dX5_readCommand_83 rfl ?_
        refine z_getC (v := .int 2) (by decide +kernel) fX5_172 dX5_readCommand_84 ?_
        refine z_icmp_ge (tgt := 143) dX5_readCommand_87 (by decide) (fun czq87 => absurd czq87 (by decide)) (fun czq87 => ?_)
        refine z_iload_n (j := 2) dX5_readCommand_90 rfl ?_
        refine z_aload_n (j := 0) dX5_readCommand_91 rfl ?_
        refine z_get (v := .ref 10) (by omega) gW_3 fX5_18 rfl dX5_readCommand_92 ?_
        refine z_alen (by omega) gW_10 (by decide) rfl dX5_readCommand_95 ?_
        refine z_icmp_ge (tgt := 143) dX5_readCommand_96 (by decide) (fun czq96 => absurd czq96 (by decide)) (fun czq96 => ?_)
        refine z_aload_n (j := 0) dX5_readCommand_99 rfl ?_
        refine z_get (v := .int (o0 2 10)) (by omega) gW_3 fX5_54 rfl dX5_readCommand_100 ?_
        refine z_if_ne (tgt := 143) dX5_readCommand_103 (by decide) (fun czq103 => absurd czq103 (fun z => z h10_0)) (fun czq103 => ?_)
        refine z_aload_n (j := 0) dX5_readCommand_106 rfl ?_
        refine z_get (v := .ref 10) (by omega) gW_3 fX5_18 rfl dX5_readCommand_107 ?_
        refine z_iload_n (j := 2) dX5_readCommand_110 rfl ?_
        refine z_aload_n (j := 0) dX5_readCommand_111 rfl ?_
        refine z_kV [] 0 0 kc ks yoX5_readNumber yvX5_readNumber rfl (by decide) lX5_142 (by omega) gW_3 rfl rfl (Nat.le_of_ble_eq_true rfl) (Nat.le_of_ble_eq_true rfl) dX5_readCommand_112 (by omega) (by omega) (z_room (by omega) (Nat.le_refl _) (Nat.le_refl _) (w_readNumber (d := 0) hn hL h11_0 hu0 hx ((nx_le ((tE_le' hst).2)).2) q2_0 h10_0 (fun hk1 o1 q2_1 q3_1 hf1 => ⟨rfl, ?_⟩) (fun hk1 o1 he1 => ⟨rfl, ?_⟩)))
        · have h11_1 : o1 1 1 = nI L := (hf1.2 1 (by decide)).trans h11_0
          have h10_1 : o1 2 10 = 0 := by rw [hf1.1 2 (by decide)]; exact h10_0
          have hfc_1 : fp (fun j => 2 ≤ j) o o1 := hfc_0.tr hf1
          have hV1 := tV_lt hk1
          refine g_ast 1 (by decide) rfl (by omega) (show vp_in (nI 1) 3 from vp_in_nI (by decide) (by decide)) dX5_readCommand_115 ?_
          obtain ⟨u1, eu1⟩ : ∃ u1, u1 = (va_up u0 1 (va_up (u0 1) (1 : Int32).toNatClampNeg (nI (tV L x (tS L x (nx L x (tE L x st))))))) := ⟨_, rfl⟩
          rw [← eu1]
          have hu1 : ∀ i, i < L → u1 0 i = nI (x i) := fun i hi => by rw [eu1, up_ne (by decide)]; exact hu0 i hi
          have hv1_1 : u1 1 1 = (nI (tV L x (tS L x (nx L x (tE L x st))))) := by rw [eu1, up_eq]; first | done | exact up_eq
          have hv1_0 : u1 1 0 = (nI (tV L x (tS L x (tE L x st)))) := by rw [eu1, up_eq, up_ne (show (0 : Nat) ≠ (1 : Int32).toNatClampNeg by decide)]; exact hv0_0
          have hw1 : ∀ j, j ≠ 1 → u1 j = u j := fun j hj => by rw [eu1, up_ne hj]; first | done | exact hw0 j hj
          refine z_aload_n (j := 0) dX5_readCommand_116 rfl ?_
          refine z_get (v := .int (o1 2 10)) (by omega) gW_3 fX5_54 rfl dX5_readCommand_117 ?_
          refine z_if_ne (tgt := 137) dX5_readCommand_120 (by decide) (fun czq120 => absurd czq120 (fun z => z h10_1)) (fun czq120 => ?_)
          refine z_aload_n (j := 0) dX5_readCommand_123 rfl ?_
          refine z_aload_n (j := 1) dX5_readCommand_124 rfl ?_
          refine z_iload_n (j := 2) dX5_readCommand_125 rfl ?_
          refine z_kV [.ref ((zB + 200 + 0)), .int 1] 0 0 kc ks yoX5_fits yvX5_fits rfl (by decide) lX5_174 (by omega) gW_3 rfl rfl (Nat.le_of_ble_eq_true rfl) (Nat.le_of_ble_eq_true rfl) dX5_readCommand_126 (by omega) (by omega) (z_room (by omega) (Nat.le_refl _) (Nat.le_refl _) (w_fits0_1 (d := 0) (S := S) hn hv1_0 hV0 hv1_1 hV1 ⟨rfl, ?_⟩))
          refine z_if_ne (tgt := 137) dX5_readCommand_129 (by decide) (fun czq129 => ?_) (fun czq129 => ?_)
          · have hok1 := bI_n.mp czq129
            skip
            refine z_iinc (2) [1, 2, 0] [(0, .ref 3), (1, .ref ((zB + 200 + 0))), (2, .int 2)] dX5_readCommand_137 (j := 2) rfl (by decide) (by decide) rfl ?_
            refine z_goto (tgt := 82) dX5_readCommand_140 (by decide) ?_
            refine z_iload_n (j := 2) dX5_readCommand_82 rfl ?_
            refine z_aload_n (j := 1) dX5_readCommand_83 rfl ?_
            refine z_getC (v := .int 2) (by decide +kernel) fX5_172 dX5_readCommand_84 ?_
            refine z_icmp_ge (tgt := 143) dX5_readCommand_87 (by decide) (fun czq87 => ?_) (fun czq87 => absurd (by decide) czq87)
            refine z_aload_n (j := 0) dX5_readCommand_143 rfl ?_
            refine z_iconst (v := 5) dX5_readCommand_144 (by decide) ?_
            refine z_kV [.int 5] 0 0 kc ks yoX5_expect yvX5_expect rfl (by decide) lX5_148 (by omega) gW_3 rfl rfl (Nat.le_of_ble_eq_true rfl) (Nat.le_of_ble_eq_true rfl) dX5_readCommand_145 (by omega) (by omega) (z_room (by omega) (Nat.le_refl _) (Nat.le_refl _) (w_expect (d := 0) (k := 5) hn hL h11_1 hu1 hx ((nx_le ((nx_le ((tE_le' hst).2)).2)).2) q2_1 h10_1 (by decide) (fun hk2 o2 q2_2 q3_2 q5_2 hf2 => ⟨rfl, ?_⟩) (fun hk2 o2 he2 => ⟨rfl, ?_⟩)))
            · have h11_2 : o2 1 1 = nI L := (hf2.2 1 (by decide)).trans h11_1
              have h10_2 : o2 2 10 = 0 := by rw [hf2.1 2 (by decide)]; exact h10_1
              have hfc_2 : fp (fun j => 2 ≤ j) o o2 := hfc_1.tr hf2
              refine z_aload_n (j := 0) dX5_readCommand_148 rfl ?_
              refine z_aload_n (j := 1) dX5_readCommand_149 rfl ?_
              refine g_putc (Nat.le_trans (Nat.le_add_right _ _) (Nat.le_add_right _ _)) (by omega) fX5_57 dX5_readCommand_150 ?_
              exact z_vret rfl dX5_readCommand_153 (by
                  exact hqY (tV L x (tS L x (tE L x st))) (tV L x (tS L x (nx L x (tE L x st)))) (nx L x (nx L x (tE L x st))) ((nx_le ((nx_le ((tE_le' hst).2)).2)).2) hexn (by
                    unfold smp
                    simp only [rdN_3 (ok := oKey) hk0 hok0, rdN_3 (ok := oVal) hk1 hok1]) hk2 _ _ q2_2 q3_2 hfc_2 h11_2 hok0 hV0 hv1_0 hok1 hV1 hv1_1 hw1)
            · refine z_aload_n (j := 0) dX5_readCommand_148 rfl ?_
              refine z_aload_n (j := 1) dX5_readCommand_149 rfl ?_
              refine g_putc (Nat.le_trans (Nat.le_add_right _ _) (Nat.le_add_right _ _)) (by omega) fX5_57 dX5_readCommand_150 ?_
              exact z_vret rfl dX5_readCommand_153 (by
                  exact hqN 1 (tS L x (nx L x (nx L x (tE L x st)))) (by
                    unfold cS
                    rw [if_neg hexn]
                    unfold smp
                    simp only [rdN_3 (ok := oKey) hk0 hok0, rdN_3 (ok := oVal) hk1 hok1, fin, rdT_1 hk2]) (by decide) (.ref (zB + 200 + 0)) (Or.inr ⟨_, rfl⟩) o2 u1 (hw1 4 (by decide)) (he2.fp hfc_1))
          · have hno1 := bI_0.mp czq129
            refine z_aload_n (j := 0) dX5_readCommand_132 rfl ?_
            refine z_iconst (v := 2) dX5_readCommand_133 (by decide) ?_
            refine z_kV [.int 2] 0 0 kc ks yoX5_fail yvX5_fail rfl (by decide) lX5_137 (by omega) gW_3 rfl rfl (Nat.le_of_ble_eq_true rfl) (Nat.le_of_ble_eq_true rfl) dX5_readCommand_134 (by omega) (by omega) (z_room (by omega) (Nat.le_refl _) (Nat.le_refl _) (w_fail (d := 0) (k := 2) hn q3_1 (fun of hef => ⟨rfl, ?_⟩)))
            skip
            skip
            refine z_iinc (2) [1, 2, 0] [(0, .ref 3), (1, .ref ((zB + 200 + 0))), (2, .int 2)] dX5_readCommand_137 (j := 2) rfl (by decide) (by decide) rfl ?_
            refine z_goto (tgt := 82) dX5_readCommand_140 (by decide) ?_
            refine z_iload_n (j := 2) dX5_readCommand_82 rfl ?_
            refine z_aload_n (j := 1) dX5_readCommand_83 rfl ?_
            refine z_getC (v := .int 2) (by decide +kernel) fX5_172 dX5_readCommand_84 ?_
            refine z_icmp_ge (tgt := 143) dX5_readCommand_87 (by decide) (fun czq87 => ?_) (fun czq87 => absurd (by decide) czq87)
            refine z_aload_n (j := 0) dX5_readCommand_143 rfl ?_
            refine z_iconst (v := 5) dX5_readCommand_144 (by decide) ?_
            refine z_kV [.int 5] 0 0 kc ks yoX5_expect yvX5_expect rfl (by decide) lX5_148 (by omega) gW_3 rfl rfl (Nat.le_of_ble_eq_true rfl) (Nat.le_of_ble_eq_true rfl) dX5_readCommand_145 (by omega) (by omega) (z_room (by omega) (Nat.le_refl _) (Nat.le_refl _) (w_expectE (d := 0) hn (er.ne (hef.fp hfc_1) (by decide) (by decide)) ⟨rfl, ?_⟩))
            refine z_aload_n (j := 0) dX5_readCommand_148 rfl ?_
            refine z_aload_n (j := 1) dX5_readCommand_149 rfl ?_
            refine g_putc (Nat.le_trans (Nat.le_add_right _ _) (Nat.le_add_right _ _)) (by omega) fX5_57 dX5_readCommand_150 ?_
            exact z_vret rfl dX5_readCommand_153 (by
                exact hqN 2 (tS L x (nx L x (tE L x st))) (by
                  unfold cS
                  rw [if_neg hexn]
                  unfold smp
                  simp only [rdN_3 (ok := oKey) hk0 hok0, rdN_2 (ok := oVal) hk1 hno1]) (by decide) (.ref (zB + 200 + 0)) (Or.inr ⟨_, rfl⟩) of u1 (hw1 4 (by decide)) (hef.fp hfc_1))
        · refine g_ast 1 (by decide) rfl (by omega) (show vp_in (nI 1) 3 from vp_in_nI (by decide) (by decide)) dX5_readCommand_115 ?_
          obtain ⟨u1, eu1⟩ : ∃ u1, u1 = (va_up u0 1 (va_up (u0 1) (1 : Int32).toNatClampNeg (o1 1 5))) := ⟨_, rfl⟩
          rw [← eu1]
          have hu1 : ∀ i, i < L → u1 0 i = nI (x i) := fun i hi => by rw [eu1, up_ne (by decide)]; exact hu0 i hi
          have hv1_1 : u1 1 1 = (o1 1 5) := by rw [eu1, up_eq]; first | done | exact up_eq
          have hv1_0 : u1 1 0 = (nI (tV L x (tS L x (tE L x st)))) := by rw [eu1, up_eq, up_ne (show (0 : Nat) ≠ (1 : Int32).toNatClampNeg by decide)]; exact hv0_0
          have hw1 : ∀ j, j ≠ 1 → u1 j = u j := fun j hj => by rw [eu1, up_ne hj]; first | done | exact hw0 j hj
          refine z_aload_n (j := 0) dX5_readCommand_116 rfl ?_
          refine z_get (v := .int (o1 2 10)) (by omega) gW_3 fX5_54 rfl dX5_readCommand_117 ?_
          refine z_if_ne (tgt := 137) dX5_readCommand_120 (by decide) (fun czq120 => ?_) (fun czq120 => absurd czq120 (er.ne (he1.fp hfc_0) (by decide) (by decide)))
          skip
          skip
          refine z_iinc (2) [1, 2, 0] [(0, .ref 3), (1, .ref ((zB + 200 + 0))), (2, .int 2)] dX5_readCommand_137 (j := 2) rfl (by decide) (by decide) rfl ?_
          refine z_goto (tgt := 82) dX5_readCommand_140 (by decide) ?_
          refine z_iload_n (j := 2) dX5_readCommand_82 rfl ?_
          refine z_aload_n (j := 1) dX5_readCommand_83 rfl ?_
          refine z_getC (v := .int 2) (by decide +kernel) fX5_172 dX5_readCommand_84 ?_
          refine z_icmp_ge (tgt := 143) dX5_readCommand_87 (by decide) (fun czq87 => ?_) (fun czq87 => absurd (by decide) czq87)
          refine z_aload_n (j := 0) dX5_readCommand_143 rfl ?_
          refine z_iconst (v := 5) dX5_readCommand_144 (by decide) ?_
          refine z_kV [.int 5] 0 0 kc ks yoX5_expect yvX5_expect rfl (by decide) lX5_148 (by omega) gW_3 rfl rfl (Nat.le_of_ble_eq_true rfl) (Nat.le_of_ble_eq_true rfl) dX5_readCommand_145 (by omega) (by omega) (z_room (by omega) (Nat.le_refl _) (Nat.le_refl _) (w_expectE (d := 0) hn (er.ne (he1.fp hfc_0) (by decide) (by decide)) ⟨rfl, ?_⟩))
          refine z_aload_n (j := 0) dX5_readCommand_148 rfl ?_
          refine z_aload_n (j := 1) dX5_readCommand_149 rfl ?_
          refine g_putc (Nat.le_trans (Nat.le_add_right _ _) (Nat.le_add_right _ _)) (by omega) fX5_57 dX5_readCommand_150 ?_
          exact z_vret rfl dX5_readCommand_153 (by
              exact hqN 1 (tS L x (nx L x (tE L x st))) (by
                unfold cS
                rw [if_neg hexn]
                unfold smp
                simp only [rdN_3 (ok := oKey) hk0 hok0, rdN_1 (ok := oVal) hk1]) (by decide) (.ref (zB + 200 + 0)) (Or.inr ⟨_, rfl⟩) o1 u1 (hw1 4 (by decide)) (he1.fp hfc_0))
      · have hno0 := bI_0.mp czq129
        refine z_aload_n (j := 0) dX5_readCommand_132 rfl ?_
        refine z_iconst (v := 2) dX5_readCommand_133 (by decide) ?_
        refine z_kV [.int 2] 0 0 kc ks yoX5_fail yvX5_fail rfl (by decide) lX5_137 (by omega) gW_3 rfl rfl (Nat.le_of_ble_eq_true rfl) (Nat.le_of_ble_eq_true rfl) dX5_readCommand_134 (by omega) (by omega) (z_room (by omega) (Nat.le_refl _) (Nat.le_refl _) (w_fail (d := 0) (k := 2) hn q3_0 (fun of hef => ⟨rfl, ?_⟩)))
        skip
        skip
        refine z_iinc (1) [1, 2, 0] [(0, .ref 3), (1, .ref ((zB + 200 + 0))), (2, .int 1)] dX5_readCommand_137 (j := 2) rfl (by decide) (by decide) rfl ?_
        refine z_goto (tgt := 82) dX5_readCommand_140 (by decide) ?_
        refine z_iload_n (j := 2) dX5_readCommand_82 rfl ?_
        refine z_aload_n (j := 1) dX5_readCommand_83 rfl ?_
        refine z_getC (v := .int 2) (by decide +kernel) fX5_172 dX5_readCommand_84 ?_
        refine z_icmp_ge (tgt := 143) dX5_readCommand_87 (by decide) (fun czq87 => absurd czq87 (by decide)) (fun czq87 => ?_)
        refine z_iload_n (j := 2) dX5_readCommand_90 rfl ?_
        refine z_aload_n (j := 0) dX5_readCommand_91 rfl ?_
        refine z_get (v := .ref 10) (by omega) gW_3 fX5_18 rfl dX5_readCommand_92 ?_
        refine z_alen (by omega) gW_10 (by decide) rfl dX5_readCommand_95 ?_
        refine z_icmp_ge (tgt := 143) dX5_readCommand_96 (by decide) (fun czq96 => absurd czq96 (by decide)) (fun czq96 => ?_)
        refine z_aload_n (j := 0) dX5_readCommand_99 rfl ?_
        refine z_get (v := .int (of 2 10)) (by omega) gW_3 fX5_54 rfl dX5_readCommand_100 ?_
        refine z_if_ne (tgt := 143) dX5_readCommand_103 (by decide) (fun czq103 => ?_) (fun czq103 => absurd czq103 (er.ne (hef.fp hfc_0) (by decide) (by decide)))
        refine z_aload_n (j := 0) dX5_readCommand_143 rfl ?_
        refine z_iconst (v := 5) dX5_readCommand_144 (by decide) ?_
        refine z_kV [.int 5] 0 0 kc ks yoX5_expect yvX5_expect rfl (by decide) lX5_148 (by omega) gW_3 rfl rfl (Nat.le_of_ble_eq_true rfl) (Nat.le_of_ble_eq_true rfl) dX5_readCommand_145 (by omega) (by omega) (z_room (by omega) (Nat.le_refl _) (Nat.le_refl _) (w_expectE (d := 0) hn (er.ne (hef.fp hfc_0) (by decide) (by decide)) ⟨rfl, ?_⟩))
        refine z_aload_n (j := 0) dX5_readCommand_148 rfl ?_
        refine z_aload_n (j := 1) dX5_readCommand_149 rfl ?_
        refine g_putc (Nat.le_trans (Nat.le_add_right _ _) (Nat.le_add_right _ _)) (by omega) fX5_57 dX5_readCommand_150 ?_
        exact z_vret rfl dX5_readCommand_153 (by
            exact hqN 2 (tS L x (tE L x st)) (by
              unfold cS
              rw [if_neg hexn]
              unfold smp
              simp only [rdN_2 (ok := oKey) hk0 hno0]) (by decide) (.ref (zB + 200 + 0)) (Or.inr ⟨_, rfl⟩) of u0 (hw0 4 (by decide)) (hef.fp hfc_0))
    · refine g_ast 1 (by decide) rfl (by omega) (show vp_in (nI 0) 3 from vp_in_nI (by decide) (by decide)) dX5_readCommand_115 ?_
      obtain ⟨u0, eu0⟩ : ∃ u0, u0 = (va_up u 1 (va_up (u 1) (0 : Int32).toNatClampNeg (o0 1 5))) := ⟨_, rfl⟩
      rw [← eu0]
      have hu0 : ∀ i, i < L → u0 0 i = nI (x i) := fun i hi => by rw [eu0, up_ne (by decide)]; exact hu i hi
      have hv0_0 : u0 1 0 = (o0 1 5) := by rw [eu0, up_eq]; first | done | exact up_eq
      have hw0 : ∀ j, j ≠ 1 → u0 j = u j := fun j hj => by rw [eu0, up_ne hj]; first | done | exact (show ∀ j, j ≠ 1 → u j = u j from fun _ _ => rfl) j hj
      refine z_aload_n (j := 0) dX5_readCommand_116 rfl ?_
      refine z_get (v := .int (o0 2 10)) (by omega) gW_3 fX5_54 rfl dX5_readCommand_117 ?_
      refine z_if_ne (tgt := 137) dX5_readCommand_120 (by decide) (fun czq120 => ?_) (fun czq120 => absurd czq120 (er.ne (he0.fp fp.rf) (by decide) (by decide)))
      skip
      skip
      refine z_iinc (1) [1, 2, 0] [(0, .ref 3), (1, .ref ((zB + 200 + 0))), (2, .int 1)] dX5_readCommand_137 (j := 2) rfl (by decide) (by decide) rfl ?_
      refine z_goto (tgt := 82) dX5_readCommand_140 (by decide) ?_
      refine z_iload_n (j := 2) dX5_readCommand_82 rfl ?_
      refine z_aload_n (j := 1) dX5_readCommand_83 rfl ?_
      refine z_getC (v := .int 2) (by decide +kernel) fX5_172 dX5_readCommand_84 ?_
      refine z_icmp_ge (tgt := 143) dX5_readCommand_87 (by decide) (fun czq87 => absurd czq87 (by decide)) (fun czq87 => ?_)
      refine z_iload_n (j := 2) dX5_readCommand_90 rfl ?_
      refine z_aload_n (j := 0) dX5_readCommand_91 rfl ?_
      refine z_get (v := .ref 10) (by omega) gW_3 fX5_18 rfl dX5_readCommand_92 ?_
      refine z_alen (by omega) gW_10 (by decide) rfl dX5_readCommand_95 ?_
      refine z_icmp_ge (tgt := 143) dX5_readCommand_96 (by decide) (fun czq96 => absurd czq96 (by decide)) (fun czq96 => ?_)
      refine z_aload_n (j := 0) dX5_readCommand_99 rfl ?_
      refine z_get (v := .int (o0 2 10)) (by omega) gW_3 fX5_54 rfl dX5_readCommand_100 ?_
      refine z_if_ne (tgt := 143) dX5_readCommand_103 (by decide) (fun czq103 => ?_) (fun czq103 => absurd czq103 (er.ne (he0.fp fp.rf) (by decide) (by decide)))
      refine z_aload_n (j := 0) dX5_readCommand_143 rfl ?_
      refine z_iconst (v := 5) dX5_readCommand_144 (by decide) ?_
      refine z_kV [.int 5] 0 0 kc ks yoX5_expect yvX5_expect rfl (by decide) lX5_148 (by omega) gW_3 rfl rfl (Nat.le_of_ble_eq_true rfl) (Nat.le_of_ble_eq_true rfl) dX5_readCommand_145 (by omega) (by omega) (z_room (by omega) (Nat.le_refl _) (Nat.le_refl _) (w_expectE (d := 0) hn (er.ne (he0.fp fp.rf) (by decide) (by decide)) ⟨rfl, ?_⟩))
      refine z_aload_n (j := 0) dX5_readCommand_148 rfl ?_
      refine z_aload_n (j := 1) dX5_readCommand_149 rfl ?_
      refine g_putc (Nat.le_trans (Nat.le_add_right _ _) (Nat.le_add_right _ _)) (by omega) fX5_57 dX5_readCommand_150 ?_
      exact z_vret rfl dX5_readCommand_153 (by
          exact hqN 1 (tS L x (tE L x st)) (by
            unfold cS
            rw [if_neg hexn]
            unfold smp
            simp only [rdN_1 (ok := oKey) hk0]) (by decide) (.ref (zB + 200 + 0)) (Or.inr ⟨_, rfl⟩) o0 u0 (hw0 4 (by decide)) (he0.fp fp.rf))
  · have hex2 : ex = 200 := by
      have : ¬ ex < 200 := fun z => czq71 (nI_lt (b := 200) z (by decide))
      omega
    refine z_aload_n (j := 0) dX5_readCommand_74 rfl ?_
    refine z_iconst (v := 5) dX5_readCommand_75 (by decide) ?_
    refine z_kV [.int 5] 0 0 kc ks yoX5_fail yvX5_fail rfl (by decide) lX5_137 (by omega) gW_3 rfl rfl (Nat.le_of_ble_eq_true rfl) (Nat.le_of_ble_eq_true rfl) dX5_readCommand_76 (by omega) (by omega) (z_room (by omega) (Nat.le_refl _) (Nat.le_refl _) (w_fail (d := 0) (k := 5) hn h13 (fun o1 he => ⟨rfl, ?_⟩)))
    exact z_vret rfl dX5_readCommand_79 (hqN 5 st (by unfold cS; exact if_pos hex2) (by decide) cm (Or.inl rfl) o1 u rfl he)

set_option maxHeartbeats 4000000 in
set_option maxRecDepth 100000 in
theorem w_read1 {l : zL} {d kc ks n : Nat} {h : Nat → va_E} {cm : Value} {o u : Nat → Nat → Int32} {s : Nat → Nat → Int32} {a : Nat → Nat → Nat → Int32} {L : Nat} {x : Nat → Nat} {st ex : Nat} {S : zS} {Q : zQ} (hn : 89 ≤ n) (hL : L ≤ 600) (h11 : o 1 1 = nI L) (hu : ∀ i, i < L → u 0 i = nI (x i)) (hx : ∀ i, x i < 256) (hst : st ≤ L) (h12 : o 1 2 = nI (tE L x st)) (h13 : o 1 3 = nI st) (h14 : o 1 4 = nI (tKd L x st)) (h10 : o 2 10 = 0) (h6 : o 2 6 = nI ex) (hex : ex ≤ 200) (hT : cT S (s 0) (a 0)) (hw : wIs L x st 1 = true) (hqY : ∀ v0 v1 ps, ps ≤ L → ¬ ex = 200 → smp L x 1 (tE L x st) S = fin L x ps ((sPut S v0 v1).map (·.2)) → tKd L x (tS L x ps) = 5 → ∀ o' u', o' 1 2 = nI (nx L x ps) → o' 1 3 = nI (tS L x ps) → fp (fun j => 2 ≤ j) o o' → o' 1 1 = nI L → oKey v0 = true → v0 ≤ 9999 → u' 1 0 = nI v0 → oVal v1 = true → v1 ≤ 9999 → u' 1 1 = nI v1 → (∀ j, j ≠ 1 → u' j = u j) → Q (.inl none) n (gW h (.ref (zB + 200 + 1)) o' u' s a)) (hqN : ∀ k off, cS L x 1 st ex S = .inl (k, off) → (k ≠ 0 ∧ k < 10) → ∀ cm', (cm' = cm ∨ ∃ q, cm' = .ref q) → ∀ o' u', u' 4 = u 4 → er o o' k off → Q (.inl none) n (gW h cm' o' u' s a)) : Zj l mX5_readCommand (d + 5) kc ks 0 [(0, .ref 3)] [] n (gW h cm o u s a) Q := by
  refine z_null dX5_readCommand_0 ?_
  refine z_astore_nN [1, 0] [(0, .ref 3), (1, .null)] dX5_readCommand_1 (by decide) rfl ?_
  refine z_iconst (v := 0) dX5_readCommand_2 (by decide) ?_
  refine z_istore_n [1, 2, 0] [(0, .ref 3), (1, .null), (2, .int 0)] dX5_readCommand_3 (by decide) rfl ?_
  refine z_iload_n (j := 2) dX5_readCommand_4 rfl ?_
  refine z_getsN (v := .ref (zB + 300)) (host := "NeighbourHash") kZ_cm (List.mem_of_getElem? (i := 5) rfl) dX5_readCommand_5 ?_
  refine z_alenC (v := 10) kT_cm rfl dX5_readCommand_8 ?_
  refine z_icmp_ge (tgt := 54) dX5_readCommand_9 (by decide) (fun czq9 => absurd czq9 (by decide)) (fun czq9 => ?_)
  refine z_aload_nN (j := 1) dX5_readCommand_12 rfl ?_
  refine z_ifnonnullN dX5_readCommand_13 ?_
  refine z_getsN (v := .ref (zB + 300)) (host := "NeighbourHash") kZ_cm (List.mem_of_getElem? (i := 5) rfl) dX5_readCommand_16 ?_
  refine z_iload_n (j := 2) dX5_readCommand_19 rfl ?_
  refine z_aaldC kT_cm (show vp_in (nI 0) 10 from vp_in_nI (by decide) (by decide)) dX5_readCommand_20 ?_
  refine z_ifnull dX5_readCommand_21 ?_
  refine z_aload_n (j := 0) dX5_readCommand_24 rfl ?_
  refine z_get (v := .ref 1) (by omega) gW_3 fX5_32 rfl dX5_readCommand_25 ?_
  refine z_getsN (v := .ref (zB + 300)) (host := "NeighbourHash") kZ_cm (List.mem_of_getElem? (i := 5) rfl) dX5_readCommand_28 ?_
  refine z_iload_n (j := 2) dX5_readCommand_31 rfl ?_
  refine z_aaldC kT_cm (show vp_in (nI 0) 10 from vp_in_nI (by decide) (by decide)) dX5_readCommand_32 ?_
  refine z_getC (v := .ref (zB + 14 + 0)) (by decide +kernel) fX5_168 dX5_readCommand_33 ?_
  refine z_kV [.ref ((zB + 14 + 0))] 0 0 kc ks yoX3_isWord yvX3_isWord rfl (by decide) lX5_75 (by omega) gW_1 rfl rfl (Nat.le_of_ble_eq_true rfl) (Nat.le_of_ble_eq_true rfl) dX5_readCommand_36 (by omega) (by omega) (z_room (by omega) (Nat.le_refl _) (Nat.le_refl _) (w_isWord (d := 0) (w := 0) hn hL h11 hu hx (by decide) h12 h13 h14 hst ⟨rfl, ?_⟩))
  refine z_if_eq (tgt := 48) dX5_readCommand_39 (by decide) (fun czq39 => ?_) (fun czq39 => absurd (bI_f (fun z => absurd (wIs_one (L := L) (x := x) (st := st) (i := 0) (j := 1) (by decide) (by decide) z hw) (by decide))) czq39)
  skip
  refine z_iinc (1) [1, 2, 0] [(0, .ref 3), (1, .null), (2, .int 1)] dX5_readCommand_48 (j := 2) rfl (by decide) (by decide) rfl ?_
  refine z_goto (tgt := 4) dX5_readCommand_51 (by decide) ?_
  refine z_iload_n (j := 2) dX5_readCommand_4 rfl ?_
  refine z_getsN (v := .ref (zB + 300)) (host := "NeighbourHash") kZ_cm (List.mem_of_getElem? (i := 5) rfl) dX5_readCommand_5 ?_
  refine z_alenC (v := 10) kT_cm rfl dX5_readCommand_8 ?_
  refine z_icmp_ge (tgt := 54) dX5_readCommand_9 (by decide) (fun czq9 => absurd czq9 (by decide)) (fun czq9 => ?_)
  refine z_aload_nN (j := 1) dX5_readCommand_12 rfl ?_
  refine z_ifnonnullN dX5_readCommand_13 ?_
  refine z_getsN (v := .ref (zB + 300)) (host := "NeighbourHash") kZ_cm (List.mem_of_getElem? (i := 5) rfl) dX5_readCommand_16 ?_
  refine z_iload_n (j := 2) dX5_readCommand_19 rfl ?_
  refine z_aaldC kT_cm (show vp_in (nI 1) 10 from vp_in_nI (by decide) (by decide)) dX5_readCommand_20 ?_
  refine z_ifnull dX5_readCommand_21 ?_
  refine z_aload_n (j := 0) dX5_readCommand_24 rfl ?_
  refine z_get (v := .ref 1) (by omega) gW_3 fX5_32 rfl dX5_readCommand_25 ?_
  refine z_getsN (v := .ref (zB + 300)) (host := "NeighbourHash") kZ_cm (List.mem_of_getElem? (i := 5) rfl) dX5_readCommand_28 ?_
  refine z_iload_n (j := 2) dX5_readCommand_31 rfl ?_
  refine z_aaldC kT_cm (show vp_in (nI 1) 10 from vp_in_nI (by decide) (by decide)) dX5_readCommand_32 ?_
  refine z_getC (v := .ref (zB + 14 + 1)) (by decide +kernel) fX5_168 dX5_readCommand_33 ?_
  refine z_kV [.ref ((zB + 14 + 1))] 0 0 kc ks yoX3_isWord yvX3_isWord rfl (by decide) lX5_75 (by omega) gW_1 rfl rfl (Nat.le_of_ble_eq_true rfl) (Nat.le_of_ble_eq_true rfl) dX5_readCommand_36 (by omega) (by omega) (z_room (by omega) (Nat.le_refl _) (Nat.le_refl _) (w_isWord (d := 0) (w := 1) hn hL h11 hu hx (by decide) h12 h13 h14 hst ⟨rfl, ?_⟩))
  refine z_if_eq (tgt := 48) dX5_readCommand_39 (by decide) (fun czq39 => absurd czq39 (fun z => bI_0.mp z hw)) (fun czq39 => ?_)
  refine z_getsN (v := .ref (zB + 300)) (host := "NeighbourHash") kZ_cm (List.mem_of_getElem? (i := 5) rfl) dX5_readCommand_42 ?_
  refine z_iload_n (j := 2) dX5_readCommand_45 rfl ?_
  refine z_aaldC kT_cm (show vp_in (nI 1) 10 from vp_in_nI (by decide) (by decide)) dX5_readCommand_46 ?_
  refine z_astore_n [1, 0, 2] [(0, .ref 3), (1, .ref ((zB + 200 + 1))), (2, .int 1)] dX5_readCommand_47 (by decide) rfl ?_
  skip
  refine z_iinc (2) [1, 2, 0] [(0, .ref 3), (1, .ref ((zB + 200 + 1))), (2, .int 2)] dX5_readCommand_48 (j := 2) rfl (by decide) (by decide) rfl ?_
  refine z_goto (tgt := 4) dX5_readCommand_51 (by decide) ?_
  refine z_iload_n (j := 2) dX5_readCommand_4 rfl ?_
  refine z_getsN (v := .ref (zB + 300)) (host := "NeighbourHash") kZ_cm (List.mem_of_getElem? (i := 5) rfl) dX5_readCommand_5 ?_
  refine z_alenC (v := 10) kT_cm rfl dX5_readCommand_8 ?_
  refine z_icmp_ge (tgt := 54) dX5_readCommand_9 (by decide) (fun czq9 => absurd czq9 (by decide)) (fun czq9 => ?_)
  refine z_aload_n (j := 1) dX5_readCommand_12 rfl ?_
  refine z_ifnonnull (tgt := 54) dX5_readCommand_13 (by decide) ?_
  refine z_aload_n (j := 1) dX5_readCommand_54 rfl ?_
  refine z_ifnonnull (tgt := 64) dX5_readCommand_55 (by decide) ?_
  refine z_aload_n (j := 0) dX5_readCommand_64 rfl ?_
  refine z_get (v := .int (o 2 6)) (by omega) gW_3 fX5_44 rfl dX5_readCommand_65 ?_
  refine z_sipush (v := 200) dX5_readCommand_68 (by decide) ?_
  rw [show (o 2 6) = nI ex from h6]
  refine z_icmp_lt (tgt := 80) dX5_readCommand_71 (by decide) (fun czq71 => ?_) (fun czq71 => ?_)
  · have hexn : ¬ ex = 200 := fun z => absurd czq71 (by rw [z]; decide)
    refine z_iconst (v := 0) dX5_readCommand_80 (by decide) ?_
    refine z_istore_n [1, 2, 0] [(0, .ref 3), (1, .ref ((zB + 200 + 1))), (2, .int 0)] dX5_readCommand_81 (by decide) rfl ?_
    refine z_iload_n (j := 2) dX5_readCommand_82 rfl ?_
    refine z_aload_n (j := 1) dX5_readCommand_83 rfl ?_
    refine z_getC (v := .int 2) (by decide +kernel) fX5_172 dX5_readCommand_84 ?_
    refine z_icmp_ge (tgt := 143) dX5_readCommand_87 (by decide) (fun czq87 => absurd czq87 (by decide)) (fun czq87 => ?_)
    refine z_iload_n (j := 2) dX5_readCommand_90 rfl ?_
    refine z_aload_n (j := 0) dX5_readCommand_91 rfl ?_
    refine z_get (v := .ref 10) (by omega) gW_3 fX5_18 rfl dX5_readCommand_92 ?_
    refine z_alen (by omega) gW_10 (by decide) rfl dX5_readCommand_95 ?_
    refine z_icmp_ge (tgt := 143) dX5_readCommand_96 (by decide) (fun czq96 => absurd czq96 (by decide)) (fun czq96 => ?_)
    refine z_aload_n (j := 0) dX5_readCommand_99 rfl ?_
    refine z_get (v := .int (o 2 10)) (by omega) gW_3 fX5_54 rfl dX5_readCommand_100 ?_
    refine z_if_ne (tgt := 143) dX5_readCommand_103 (by decide) (fun czq103 => absurd czq103 (fun z => z h10)) (fun czq103 => ?_)
    refine z_aload_n (j := 0) dX5_readCommand_106 rfl ?_
    refine z_get (v := .ref 10) (by omega) gW_3 fX5_18 rfl dX5_readCommand_107 ?_
    refine z_iload_n (j := 2) dX5_readCommand_110 rfl ?_
    refine z_aload_n (j := 0) dX5_readCommand_111 rfl ?_
    refine z_kV [] 0 0 kc ks yoX5_readNumber yvX5_readNumber rfl (by decide) lX5_142 (by omega) gW_3 rfl rfl (Nat.le_of_ble_eq_true rfl) (Nat.le_of_ble_eq_true rfl) dX5_readCommand_112 (by omega) (by omega) (z_room (by omega) (Nat.le_refl _) (Nat.le_refl _) (w_readNumber (d := 0) hn hL h11 hu hx ((tE_le' hst).2) h12 h10 (fun hk0 o0 q2_0 q3_0 hf0 => ⟨rfl, ?_⟩) (fun hk0 o0 he0 => ⟨rfl, ?_⟩)))
    · have h11_0 : o0 1 1 = nI L := (hf0.2 1 (by decide)).trans h11
      have h10_0 : o0 2 10 = 0 := by rw [hf0.1 2 (by decide)]; exact h10
      have hfc_0 : fp (fun j => 2 ≤ j) o o0 := fp.rf.tr hf0
      have hV0 := tV_lt hk0
      refine g_ast 1 (by decide) rfl (by omega) (show vp_in (nI 0) 3 from vp_in_nI (by decide) (by decide)) dX5_readCommand_115 ?_
      obtain ⟨u0, eu0⟩ : ∃ u0, u0 = (va_up u 1 (va_up (u 1) (0 : Int32).toNatClampNeg (nI (tV L x (tS L x (tE L x st)))))) := ⟨_, rfl⟩
      rw [← eu0]
      have hu0 : ∀ i, i < L → u0 0 i = nI (x i) := fun i hi => by rw [eu0, up_ne (by decide)]; exact hu i hi
      have hv0_0 : u0 1 0 = (nI (tV L x (tS L x (tE L x st)))) := by rw [eu0, up_eq]; first | done | exact up_eq
      have hw0 : ∀ j, j ≠ 1 → u0 j = u j := fun j hj => by rw [eu0, up_ne hj]; first | done | exact (show ∀ j, j ≠ 1 → u j = u j from fun _ _ => rfl) j hj
      refine z_aload_n (j := 0) dX5_readCommand_116 rfl ?_
      refine z_get (v := .int (o0 2 10)) (by omega) gW_3 fX5_54 rfl dX5_readCommand_117 ?_
      refine z_if_ne (tgt := 137) dX5_readCommand_120 (by decide) (fun czq120 => absurd czq120 (fun z => z h10_0)) (fun czq120 => ?_)
      refine z_aload_n (j := 0) dX5_readCommand_123 rfl ?_
      refine z_aload_n (j := 1) dX5_readCommand_124 rfl ?_
      refine z_iload_n (j := 2) dX5_readCommand_125 rfl ?_
      refine z_kV [.ref ((zB + 200 + 1)), .int 0] 0 0 kc ks yoX5_fits yvX5_fits rfl (by decide) lX5_174 (by omega) gW_3 rfl rfl (Nat.le_of_ble_eq_true rfl) (Nat.le_of_ble_eq_true rfl) dX5_readCommand_126 (by omega) (by omega) (z_room (by omega) (Nat.le_refl _) (Nat.le_refl _) (w_fits1_0 (d := 0) (S := S) hn hv0_0 hV0 ⟨rfl, ?_⟩))
      refine z_if_ne (tgt := 137) dX5_readCommand_129 (by decide) (fun czq129 => ?_) (fun czq129 => ?_)
      · have hok0 := bI_n.mp czq129
        skip
        refine z_iinc (1) [1, 2, 0] [(0, .ref 3), (1, .ref ((zB + 200 + 1))), (2, .int 1)] dX5_readCommand_137 (j := 2) rfl (by decide) (by decide) rfl ?_
        refine z_goto (tgt := 82) dX5_readCommand_140 (by decide) ?_
        refine z_iload_n (j := 2) dX5_readCommand_82 rfl ?_
        refine z_aload_n (j := 1) dX5_readCommand_83 rfl ?_
        refine z_getC (v := .int 2) (by decide +kernel) fX5_172 dX5_readCommand_84 ?_
        refine z_icmp_ge (tgt := 143) dX5_readCommand_87 (by decide) (fun czq87 => absurd czq87 (by decide)) (fun czq87 => ?_)
        refine z_iload_n (j := 2) dX5_readCommand_90 rfl ?_
        refine z_aload_n (j := 0) dX5_readCommand_91 rfl ?_
        refine z_get (v := .ref 10) (by omega) gW_3 fX5_18 rfl dX5_readCommand_92 ?_
        refine z_alen (by omega) gW_10 (by decide) rfl dX5_readCommand_95 ?_
        refine z_icmp_ge (tgt := 143) dX5_readCommand_96 (by decide) (fun czq96 => absurd czq96 (by decide)) (fun czq96 => ?_)
        refine z_aload_n (j := 0) dX5_readCommand_99 rfl ?_
        refine z_get (v := .int (o0 2 10)) (by omega) gW_3 fX5_54 rfl dX5_readCommand_100 ?_
        refine z_if_ne (tgt := 143) dX5_readCommand_103 (by decide) (fun czq103 => absurd czq103 (fun z => z h10_0)) (fun czq103 => ?_)
        refine z_aload_n (j := 0) dX5_readCommand_106 rfl ?_
        refine z_get (v := .ref 10) (by omega) gW_3 fX5_18 rfl dX5_readCommand_107 ?_
        refine z_iload_n (j := 2) dX5_readCommand_110 rfl ?_
        refine z_aload_n (j := 0) dX5_readCommand_111 rfl ?_
        refine z_kV [] 0 0 kc ks yoX5_readNumber yvX5_readNumber rfl (by decide) lX5_142 (by omega) gW_3 rfl rfl (Nat.le_of_ble_eq_true rfl) (Nat.le_of_ble_eq_true rfl) dX5_readCommand_112 (by omega) (by omega) (z_room (by omega) (Nat.le_refl _) (Nat.le_refl _) (w_readNumber (d := 0) hn hL h11_0 hu0 hx ((nx_le ((tE_le' hst).2)).2) q2_0 h10_0 (fun hk1 o1 q2_1 q3_1 hf1 => ⟨rfl, ?_⟩) (fun hk1 o1 he1 => ⟨rfl, ?_⟩)))
        · have h11_1 : o1 1 1 = nI L := (hf1.2 1 (by decide)).trans h11_0
          have h10_1 : o1 2 10 = 0 := by rw [hf1.1 2 (by decide)]; exact h10_0
          have hfc_1 : fp (fun j => 2 ≤ j) o o1 := hfc_0.tr hf1
          have hV1 := tV_lt hk1
          refine g_ast 1 (by decide) rfl (by omega) (show vp_in (nI 1) 3 from vp_in_nI (by decide) (by decide)) dX5_readCommand_115 ?_
          obtain ⟨u1, eu1⟩ : ∃ u1, u1 = (va_up u0 1 (va_up (u0 1) (1 : Int32).toNatClampNeg (nI (tV L x (tS L x (nx L x (tE L x st))))))) := ⟨_, rfl⟩
          rw [← eu1]
          have hu1 : ∀ i, i < L → u1 0 i = nI (x i) := fun i hi => by rw [eu1, up_ne (by decide)]; exact hu0 i hi
          have hv1_1 : u1 1 1 = (nI (tV L x (tS L x (nx L x (tE L x st))))) := by rw [eu1, up_eq]; first | done | exact up_eq
          have hv1_0 : u1 1 0 = (nI (tV L x (tS L x (tE L x st)))) := by rw [eu1, up_eq, up_ne (show (0 : Nat) ≠ (1 : Int32).toNatClampNeg by decide)]; exact hv0_0
          have hw1 : ∀ j, j ≠ 1 → u1 j = u j := fun j hj => by rw [eu1, up_ne hj]; first | done | exact hw0 j hj
          refine z_aload_n (j := 0) dX5_readCommand_116 rfl ?_
          refine z_get (v := .int (o1 2 10)) (by omega) gW_3 fX5_54 rfl dX5_readCommand_117 ?_
          refine z_if_ne (tgt := 137) dX5_readCommand_120 (by decide) (fun czq120 => absurd czq120 (fun z => z h10_1)) (fun czq120 => ?_)
          refine z_aload_n (j := 0) dX5_readCommand_123 rfl ?_
          refine z_aload_n (j := 1) dX5_readCommand_124 rfl ?_
          refine z_iload_n (j := 2) dX5_readCommand_125 rfl ?_
          refine z_kV [.ref ((zB + 200 + 1)), .int 1] 0 0 kc ks yoX5_fits yvX5_fits rfl (by decide) lX5_174 (by omega) gW_3 rfl rfl (Nat.le_of_ble_eq_true rfl) (Nat.le_of_ble_eq_true rfl) dX5_readCommand_126 (by omega) (by omega) (z_room (by omega) (Nat.le_refl _) (Nat.le_refl _) (w_fits1_1 (d := 0) (S := S) hn hv1_0 hV0 hv1_1 hV1 ⟨rfl, ?_⟩))
          refine z_if_ne (tgt := 137) dX5_readCommand_129 (by decide) (fun czq129 => ?_) (fun czq129 => ?_)
          · have hok1 := bI_n.mp czq129
            skip
            refine z_iinc (2) [1, 2, 0] [(0, .ref 3), (1, .ref ((zB + 200 + 1))), (2, .int 2)] dX5_readCommand_137 (j := 2) rfl (by decide) (by decide) rfl ?_
            refine z_goto (tgt := 82) dX5_readCommand_140 (by decide) ?_
            refine z_iload_n (j := 2) dX5_readCommand_82 rfl ?_
            refine z_aload_n (j := 1) dX5_readCommand_83 rfl ?_
            refine z_getC (v := .int 2) (by decide +kernel) fX5_172 dX5_readCommand_84 ?_
            refine z_icmp_ge (tgt := 143) dX5_readCommand_87 (by decide) (fun czq87 => ?_) (fun czq87 => absurd (by decide) czq87)
            refine z_aload_n (j := 0) dX5_readCommand_143 rfl ?_
            refine z_iconst (v := 5) dX5_readCommand_144 (by decide) ?_
            refine z_kV [.int 5] 0 0 kc ks yoX5_expect yvX5_expect rfl (by decide) lX5_148 (by omega) gW_3 rfl rfl (Nat.le_of_ble_eq_true rfl) (Nat.le_of_ble_eq_true rfl) dX5_readCommand_145 (by omega) (by omega) (z_room (by omega) (Nat.le_refl _) (Nat.le_refl _) (w_expect (d := 0) (k := 5) hn hL h11_1 hu1 hx ((nx_le ((nx_le ((tE_le' hst).2)).2)).2) q2_1 h10_1 (by decide) (fun hk2 o2 q2_2 q3_2 q5_2 hf2 => ⟨rfl, ?_⟩) (fun hk2 o2 he2 => ⟨rfl, ?_⟩)))
            · have h11_2 : o2 1 1 = nI L := (hf2.2 1 (by decide)).trans h11_1
              have h10_2 : o2 2 10 = 0 := by rw [hf2.1 2 (by decide)]; exact h10_1
              have hfc_2 : fp (fun j => 2 ≤ j) o o2 := hfc_1.tr hf2
              refine z_aload_n (j := 0) dX5_readCommand_148 rfl ?_
              refine z_aload_n (j := 1) dX5_readCommand_149 rfl ?_
              refine g_putc (Nat.le_trans (Nat.le_add_right _ _) (Nat.le_add_right _ _)) (by omega) fX5_57 dX5_readCommand_150 ?_
              exact z_vret rfl dX5_readCommand_153 (by
                  exact hqY (tV L x (tS L x (tE L x st))) (tV L x (tS L x (nx L x (tE L x st)))) (nx L x (nx L x (tE L x st))) ((nx_le ((nx_le ((tE_le' hst).2)).2)).2) hexn (by
                    unfold smp
                    simp only [rdN_3 (ok := oKey) hk0 hok0, rdN_3 (ok := oVal) hk1 hok1]) hk2 _ _ q2_2 q3_2 hfc_2 h11_2 hok0 hV0 hv1_0 hok1 hV1 hv1_1 hw1)
            · refine z_aload_n (j := 0) dX5_readCommand_148 rfl ?_
              refine z_aload_n (j := 1) dX5_readCommand_149 rfl ?_
              refine g_putc (Nat.le_trans (Nat.le_add_right _ _) (Nat.le_add_right _ _)) (by omega) fX5_57 dX5_readCommand_150 ?_
              exact z_vret rfl dX5_readCommand_153 (by
                  exact hqN 1 (tS L x (nx L x (nx L x (tE L x st)))) (by
                    unfold cS
                    rw [if_neg hexn]
                    unfold smp
                    simp only [rdN_3 (ok := oKey) hk0 hok0, rdN_3 (ok := oVal) hk1 hok1, fin, rdT_1 hk2]) (by decide) (.ref (zB + 200 + 1)) (Or.inr ⟨_, rfl⟩) o2 u1 (hw1 4 (by decide)) (he2.fp hfc_1))
          · have hno1 := bI_0.mp czq129
            refine z_aload_n (j := 0) dX5_readCommand_132 rfl ?_
            refine z_iconst (v := 2) dX5_readCommand_133 (by decide) ?_
            refine z_kV [.int 2] 0 0 kc ks yoX5_fail yvX5_fail rfl (by decide) lX5_137 (by omega) gW_3 rfl rfl (Nat.le_of_ble_eq_true rfl) (Nat.le_of_ble_eq_true rfl) dX5_readCommand_134 (by omega) (by omega) (z_room (by omega) (Nat.le_refl _) (Nat.le_refl _) (w_fail (d := 0) (k := 2) hn q3_1 (fun of hef => ⟨rfl, ?_⟩)))
            skip
            skip
            refine z_iinc (2) [1, 2, 0] [(0, .ref 3), (1, .ref ((zB + 200 + 1))), (2, .int 2)] dX5_readCommand_137 (j := 2) rfl (by decide) (by decide) rfl ?_
            refine z_goto (tgt := 82) dX5_readCommand_140 (by decide) ?_
            refine z_iload_n (j := 2) dX5_readCommand_82 rfl ?_
            refine z_aload_n (j := 1) dX5_readCommand_83 rfl ?_
            refine z_getC (v := .int 2) (by decide +kernel) fX5_172 dX5_readCommand_84 ?_
            refine z_icmp_ge (tgt := 143) dX5_readCommand_87 (by decide) (fun czq87 => ?_) (fun czq87 => absurd (by decide) czq87)
            refine z_aload_n (j := 0) dX5_readCommand_143 rfl ?_
            refine z_iconst (v := 5) dX5_readCommand_144 (by decide) ?_
            refine z_kV [.int 5] 0 0 kc ks yoX5_expect yvX5_expect rfl (by decide) lX5_148 (by omega) gW_3 rfl rfl (Nat.le_of_ble_eq_true rfl) (Nat.le_of_ble_eq_true rfl) dX5_readCommand_145 (by omega) (by omega) (z_room (by omega) (Nat.le_refl _) (Nat.le_refl _) (w_expectE (d := 0) hn (er.ne (hef.fp hfc_1) (by decide) (by decide)) ⟨rfl, ?_⟩))
            refine z_aload_n (j := 0) dX5_readCommand_148 rfl ?_
            refine z_aload_n (j := 1) dX5_readCommand_149 rfl ?_
            refine g_putc (Nat.le_trans (Nat.le_add_right _ _) (Nat.le_add_right _ _)) (by omega) fX5_57 dX5_readCommand_150 ?_
            exact z_vret rfl dX5_readCommand_153 (by
                exact hqN 2 (tS L x (nx L x (tE L x st))) (by
                  unfold cS
                  rw [if_neg hexn]
                  unfold smp
                  simp only [rdN_3 (ok := oKey) hk0 hok0, rdN_2 (ok := oVal) hk1 hno1]) (by decide) (.ref (zB + 200 + 1)) (Or.inr ⟨_, rfl⟩) of u1 (hw1 4 (by decide)) (hef.fp hfc_1))
        · refine g_ast 1 (by decide) rfl (by omega) (show vp_in (nI 1) 3 from vp_in_nI (by decide) (by decide)) dX5_readCommand_115 ?_
          obtain ⟨u1, eu1⟩ : ∃ u1, u1 = (va_up u0 1 (va_up (u0 1) (1 : Int32).toNatClampNeg (o1 1 5))) := ⟨_, rfl⟩
          rw [← eu1]
          have hu1 : ∀ i, i < L → u1 0 i = nI (x i) := fun i hi => by rw [eu1, up_ne (by decide)]; exact hu0 i hi
          have hv1_1 : u1 1 1 = (o1 1 5) := by rw [eu1, up_eq]; first | done | exact up_eq
          have hv1_0 : u1 1 0 = (nI (tV L x (tS L x (tE L x st)))) := by rw [eu1, up_eq, up_ne (show (0 : Nat) ≠ (1 : Int32).toNatClampNeg by decide)]; exact hv0_0
          have hw1 : ∀ j, j ≠ 1 → u1 j = u j := fun j hj => by rw [eu1, up_ne hj]; first | done | exact hw0 j hj
          refine z_aload_n (j := 0) dX5_readCommand_116 rfl ?_
          refine z_get (v := .int (o1 2 10)) (by omega) gW_3 fX5_54 rfl dX5_readCommand_117 ?_
          refine z_if_ne (tgt := 137) dX5_readCommand_120 (by decide) (fun czq120 => ?_) (fun czq120 => absurd czq120 (er.ne (he1.fp hfc_0) (by decide) (by decide)))
          skip
          skip
          refine z_iinc (2) [1, 2, 0] [(0, .ref 3), (1, .ref ((zB + 200 + 1))), (2, .int 2)] dX5_readCommand_137 (j := 2) rfl (by decide) (by decide) rfl ?_
          refine z_goto (tgt := 82) dX5_readCommand_140 (by decide) ?_
          refine z_iload_n (j := 2) dX5_readCommand_82 rfl ?_
          refine z_aload_n (j := 1) dX5_readCommand_83 rfl ?_
          refine z_getC (v := .int 2) (by decide +kernel) fX5_172 dX5_readCommand_84 ?_
          refine z_icmp_ge (tgt := 143) dX5_readCommand_87 (by decide) (fun czq87 => ?_) (fun czq87 => absurd (by decide) czq87)
          refine z_aload_n (j := 0) dX5_readCommand_143 rfl ?_
          refine z_iconst (v := 5) dX5_readCommand_144 (by decide) ?_
          refine z_kV [.int 5] 0 0 kc ks yoX5_expect yvX5_expect rfl (by decide) lX5_148 (by omega) gW_3 rfl rfl (Nat.le_of_ble_eq_true rfl) (Nat.le_of_ble_eq_true rfl) dX5_readCommand_145 (by omega) (by omega) (z_room (by omega) (Nat.le_refl _) (Nat.le_refl _) (w_expectE (d := 0) hn (er.ne (he1.fp hfc_0) (by decide) (by decide)) ⟨rfl, ?_⟩))
          refine z_aload_n (j := 0) dX5_readCommand_148 rfl ?_
          refine z_aload_n (j := 1) dX5_readCommand_149 rfl ?_
          refine g_putc (Nat.le_trans (Nat.le_add_right _ _) (Nat.le_add_right _ _)) (by omega) fX5_57 dX5_readCommand_150 ?_
          exact z_vret rfl dX5_readCommand_153 (by
              exact hqN 1 (tS L x (nx L x (tE L x st))) (by
                unfold cS
                rw [if_neg hexn]
                unfold smp
                simp only [rdN_3 (ok := oKey) hk0 hok0, rdN_1 (ok := oVal) hk1]) (by decide) (.ref (zB + 200 + 1)) (Or.inr ⟨_, rfl⟩) o1 u1 (hw1 4 (by decide)) (he1.fp hfc_0))
      · have hno0 := bI_0.mp czq129
        refine z_aload_n (j := 0) dX5_readCommand_132 rfl ?_
        refine z_iconst (v := 2) dX5_readCommand_133 (by decide) ?_
        refine z_kV [.int 2] 0 0 kc ks yoX5_fail yvX5_fail rfl (by decide) lX5_137 (by omega) gW_3 rfl rfl (Nat.le_of_ble_eq_true rfl) (Nat.le_of_ble_eq_true rfl) dX5_readCommand_134 (by omega) (by omega) (z_room (by omega) (Nat.le_refl _) (Nat.le_refl _) (w_fail (d := 0) (k := 2) hn q3_0 (fun of hef => ⟨rfl, ?_⟩)))
        skip
        skip
        refine z_iinc (1) [1, 2, 0] [(0, .ref 3), (1, .ref ((zB + 200 + 1))), (2, .int 1)] dX5_readCommand_137 (j := 2) rfl (by decide) (by decide) rfl ?_
        refine z_goto (tgt := 82) dX5_readCommand_140 (by decide) ?_
        refine z_iload_n (j := 2) dX5_readCommand_82 rfl ?_
        refine z_aload_n (j := 1) dX5_readCommand_83 rfl ?_
        refine z_getC (v := .int 2) (by decide +kernel) fX5_172 dX5_readCommand_84 ?_
        refine z_icmp_ge (tgt := 143) dX5_readCommand_87 (by decide) (fun czq87 => absurd czq87 (by decide)) (fun czq87 => ?_)
        refine z_iload_n (j := 2) dX5_readCommand_90 rfl ?_
        refine z_aload_n (j := 0) dX5_readCommand_91 rfl ?_
        refine z_get (v := .ref 10) (by omega) gW_3 fX5_18 rfl dX5_readCommand_92 ?_
        refine z_alen (by omega) gW_10 (by decide) rfl dX5_readCommand_95 ?_
        refine z_icmp_ge (tgt := 143) dX5_readCommand_96 (by decide) (fun czq96 => absurd czq96 (by decide)) (fun czq96 => ?_)
        refine z_aload_n (j := 0) dX5_readCommand_99 rfl ?_
        refine z_get (v := .int (of 2 10)) (by omega) gW_3 fX5_54 rfl dX5_readCommand_100 ?_
        refine z_if_ne (tgt := 143) dX5_readCommand_103 (by decide) (fun czq103 => ?_) (fun czq103 => absurd czq103 (er.ne (hef.fp hfc_0) (by decide) (by decide)))
        refine z_aload_n (j := 0) dX5_readCommand_143 rfl ?_
        refine z_iconst (v := 5) dX5_readCommand_144 (by decide) ?_
        refine z_kV [.int 5] 0 0 kc ks yoX5_expect yvX5_expect rfl (by decide) lX5_148 (by omega) gW_3 rfl rfl (Nat.le_of_ble_eq_true rfl) (Nat.le_of_ble_eq_true rfl) dX5_readCommand_145 (by omega) (by omega) (z_room (by omega) (Nat.le_refl _) (Nat.le_refl _) (w_expectE (d := 0) hn (er.ne (hef.fp hfc_0) (by decide) (by decide)) ⟨rfl, ?_⟩))
        refine z_aload_n (j := 0) dX5_readCommand_148 rfl ?_
        refine z_aload_n (j := 1) dX5_readCommand_149 rfl ?_
        refine g_putc (Nat.le_trans (Nat.le_add_right _ _) (Nat.le_add_right _ _)) (by omega) fX5_57 dX5_readCommand_150 ?_
        exact z_vret rfl dX5_readCommand_153 (by
            exact hqN 2 (tS L x (tE L x st)) (by
              unfold cS
              rw [if_neg hexn]
              unfold smp
              simp only [rdN_2 (ok := oKey) hk0 hno0]) (by decide) (.ref (zB + 200 + 1)) (Or.inr ⟨_, rfl⟩) of u0 (hw0 4 (by decide)) (hef.fp hfc_0))
    · refine g_ast 1 (by decide) rfl (by omega) (show vp_in (nI 0) 3 from vp_in_nI (by decide) (by decide)) dX5_readCommand_115 ?_
      obtain ⟨u0, eu0⟩ : ∃ u0, u0 = (va_up u 1 (va_up (u 1) (0 : Int32).toNatClampNeg (o0 1 5))) := ⟨_, rfl⟩
      rw [← eu0]
      have hu0 : ∀ i, i < L → u0 0 i = nI (x i) := fun i hi => by rw [eu0, up_ne (by decide)]; exact hu i hi
      have hv0_0 : u0 1 0 = (o0 1 5) := by rw [eu0, up_eq]; first | done | exact up_eq
      have hw0 : ∀ j, j ≠ 1 → u0 j = u j := fun j hj => by rw [eu0, up_ne hj]; first | done | exact (show ∀ j, j ≠ 1 → u j = u j from fun _ _ => rfl) j hj
      refine z_aload_n (j := 0) dX5_readCommand_116 rfl ?_
      refine z_get (v := .int (o0 2 10)) (by omega) gW_3 fX5_54 rfl dX5_readCommand_117 ?_
      refine z_if_ne (tgt := 137) dX5_readCommand_120 (by decide) (fun czq120 => ?_) (fun czq120 => absurd czq120 (er.ne (he0.fp fp.rf) (by decide) (by decide)))
      skip
      skip
      refine z_iinc (1) [1, 2, 0] [(0, .ref 3), (1, .ref ((zB + 200 + 1))), (2, .int 1)] dX5_readCommand_137 (j := 2) rfl (by decide) (by decide) rfl ?_
      refine z_goto (tgt := 82) dX5_readCommand_140 (by decide) ?_
      refine z_iload_n (j := 2) dX5_readCommand_82 rfl ?_
      refine z_aload_n (j := 1) dX5_readCommand_83 rfl ?_
      refine z_getC (v := .int 2) (by decide +kernel) fX5_172 dX5_readCommand_84 ?_
      refine z_icmp_ge (tgt := 143) dX5_readCommand_87 (by decide) (fun czq87 => absurd czq87 (by decide)) (fun czq87 => ?_)
      refine z_iload_n (j := 2) dX5_readCommand_90 rfl ?_
      refine z_aload_n (j := 0) dX5_readCommand_91 rfl ?_
      refine z_get (v := .ref 10) (by omega) gW_3 fX5_18 rfl dX5_readCommand_92 ?_
      refine z_alen (by omega) gW_10 (by decide) rfl dX5_readCommand_95 ?_
      refine z_icmp_ge (tgt := 143) dX5_readCommand_96 (by decide) (fun czq96 => absurd czq96 (by decide)) (fun czq96 => ?_)
      refine z_aload_n (j := 0) dX5_readCommand_99 rfl ?_
      refine z_get (v := .int (o0 2 10)) (by omega) gW_3 fX5_54 rfl dX5_readCommand_100 ?_
      refine z_if_ne (tgt := 143) dX5_readCommand_103 (by decide) (fun czq103 => ?_) (fun czq103 => absurd czq103 (er.ne (he0.fp fp.rf) (by decide) (by decide)))
      refine z_aload_n (j := 0) dX5_readCommand_143 rfl ?_
      refine z_iconst (v := 5) dX5_readCommand_144 (by decide) ?_
      refine z_kV [.int 5] 0 0 kc ks yoX5_expect yvX5_expect rfl (by decide) lX5_148 (by omega) gW_3 rfl rfl (Nat.le_of_ble_eq_true rfl) (Nat.le_of_ble_eq_true rfl) dX5_readCommand_145 (by omega) (by omega) (z_room (by omega) (Nat.le_refl _) (Nat.le_refl _) (w_expectE (d := 0) hn (er.ne (he0.fp fp.rf) (by decide) (by decide)) ⟨rfl, ?_⟩))
      refine z_aload_n (j := 0) dX5_readCommand_148 rfl ?_
      refine z_aload_n (j := 1) dX5_readCommand_149 rfl ?_
      refine g_putc (Nat.le_trans (Nat.le_add_right _ _) (Nat.le_add_right _ _)) (by omega) fX5_57 dX5_readCommand_150 ?_
      exact z_vret rfl dX5_readCommand_153 (by
          exact hqN 1 (tS L x (tE L x st)) (by
            unfold cS
            rw [if_neg hexn]
            unfold smp
            simp only [rdN_1 (ok := oKey) hk0]) (by decide) (.ref (zB + 200 + 1)) (Or.inr ⟨_, rfl⟩) o0 u0 (hw0 4 (by decide)) (he0.fp fp.rf))
  · have hex2 : ex = 200 := by
      have : ¬ ex < 200 := fun z => czq71 (nI_lt (b := 200) z (by decide))
      omega
    refine z_aload_n (j := 0) dX5_readCommand_74 rfl ?_
    refine z_iconst (v := 5) dX5_readCommand_75 (by decide) ?_
    refine z_kV [.int 5] 0 0 kc ks yoX5_fail yvX5_fail rfl (by decide) lX5_137 (by omega) gW_3 rfl rfl (Nat.le_of_ble_eq_true rfl) (Nat.le_of_ble_eq_true rfl) dX5_readCommand_76 (by omega) (by omega) (z_room (by omega) (Nat.le_refl _) (Nat.le_refl _) (w_fail (d := 0) (k := 5) hn h13 (fun o1 he => ⟨rfl, ?_⟩)))
    exact z_vret rfl dX5_readCommand_79 (hqN 5 st (by unfold cS; exact if_pos hex2) (by decide) cm (Or.inl rfl) o1 u rfl he)

set_option maxHeartbeats 4000000 in
set_option maxRecDepth 100000 in
theorem w_read2 {l : zL} {d kc ks n : Nat} {h : Nat → va_E} {cm : Value} {o u : Nat → Nat → Int32} {s : Nat → Nat → Int32} {a : Nat → Nat → Nat → Int32} {L : Nat} {x : Nat → Nat} {st ex : Nat} {S : zS} {Q : zQ} (hn : 89 ≤ n) (hL : L ≤ 600) (h11 : o 1 1 = nI L) (hu : ∀ i, i < L → u 0 i = nI (x i)) (hx : ∀ i, x i < 256) (hst : st ≤ L) (h12 : o 1 2 = nI (tE L x st)) (h13 : o 1 3 = nI st) (h14 : o 1 4 = nI (tKd L x st)) (h10 : o 2 10 = 0) (h6 : o 2 6 = nI ex) (hex : ex ≤ 200) (hT : cT S (s 0) (a 0)) (hw : wIs L x st 2 = true) (hqY : ∀ v0 v1 v2 ps, ps ≤ L → ¬ ex = 200 → smp L x 2 (tE L x st) S = fin L x ps ((sRow S v0 v1 v2).map (·.2)) → tKd L x (tS L x ps) = 5 → ∀ o' u', o' 1 2 = nI (nx L x ps) → o' 1 3 = nI (tS L x ps) → fp (fun j => 2 ≤ j) o o' → o' 1 1 = nI L → oKey v0 = true → v0 ≤ 9999 → u' 1 0 = nI v0 → (oIn 1 999) v1 = true → v1 ≤ 9999 → u' 1 1 = nI v1 → (oCnt v0 v1) v2 = true → v2 ≤ 9999 → u' 1 2 = nI v2 → (∀ j, j ≠ 1 → u' j = u j) → Q (.inl none) n (gW h (.ref (zB + 200 + 2)) o' u' s a)) (hqN : ∀ k off, cS L x 2 st ex S = .inl (k, off) → (k ≠ 0 ∧ k < 10) → ∀ cm', (cm' = cm ∨ ∃ q, cm' = .ref q) → ∀ o' u', u' 4 = u 4 → er o o' k off → Q (.inl none) n (gW h cm' o' u' s a)) : Zj l mX5_readCommand (d + 5) kc ks 0 [(0, .ref 3)] [] n (gW h cm o u s a) Q := by
  refine z_null dX5_readCommand_0 ?_
  refine z_astore_nN [1, 0] [(0, .ref 3), (1, .null)] dX5_readCommand_1 (by decide) rfl ?_
  refine z_iconst (v := 0) dX5_readCommand_2 (by decide) ?_
  refine z_istore_n [1, 2, 0] [(0, .ref 3), (1, .null), (2, .int 0)] dX5_readCommand_3 (by decide) rfl ?_
  refine z_iload_n (j := 2) dX5_readCommand_4 rfl ?_
  refine z_getsN (v := .ref (zB + 300)) (host := "NeighbourHash") kZ_cm (List.mem_of_getElem? (i := 5) rfl) dX5_readCommand_5 ?_
  refine z_alenC (v := 10) kT_cm rfl dX5_readCommand_8 ?_
  refine z_icmp_ge (tgt := 54) dX5_readCommand_9 (by decide) (fun czq9 => absurd czq9 (by decide)) (fun czq9 => ?_)
  refine z_aload_nN (j := 1) dX5_readCommand_12 rfl ?_
  refine z_ifnonnullN dX5_readCommand_13 ?_
  refine z_getsN (v := .ref (zB + 300)) (host := "NeighbourHash") kZ_cm (List.mem_of_getElem? (i := 5) rfl) dX5_readCommand_16 ?_
  refine z_iload_n (j := 2) dX5_readCommand_19 rfl ?_
  refine z_aaldC kT_cm (show vp_in (nI 0) 10 from vp_in_nI (by decide) (by decide)) dX5_readCommand_20 ?_
  refine z_ifnull dX5_readCommand_21 ?_
  refine z_aload_n (j := 0) dX5_readCommand_24 rfl ?_
  refine z_get (v := .ref 1) (by omega) gW_3 fX5_32 rfl dX5_readCommand_25 ?_
  refine z_getsN (v := .ref (zB + 300)) (host := "NeighbourHash") kZ_cm (List.mem_of_getElem? (i := 5) rfl) dX5_readCommand_28 ?_
  refine z_iload_n (j := 2) dX5_readCommand_31 rfl ?_
  refine z_aaldC kT_cm (show vp_in (nI 0) 10 from vp_in_nI (by decide) (by decide)) dX5_readCommand_32 ?_
  refine z_getC (v := .ref (zB + 14 + 0)) (by decide +kernel) fX5_168 dX5_readCommand_33 ?_
  refine z_kV [.ref ((zB + 14 + 0))] 0 0 kc ks yoX3_isWord yvX3_isWord rfl (by decide) lX5_75 (by omega) gW_1 rfl rfl (Nat.le_of_ble_eq_true rfl) (Nat.le_of_ble_eq_true rfl) dX5_readCommand_36 (by omega) (by omega) (z_room (by omega) (Nat.le_refl _) (Nat.le_refl _) (w_isWord (d := 0) (w := 0) hn hL h11 hu hx (by decide) h12 h13 h14 hst ⟨rfl, ?_⟩))
  refine z_if_eq (tgt := 48) dX5_readCommand_39 (by decide) (fun czq39 => ?_) (fun czq39 => absurd (bI_f (fun z => absurd (wIs_one (L := L) (x := x) (st := st) (i := 0) (j := 2) (by decide) (by decide) z hw) (by decide))) czq39)
  skip
  refine z_iinc (1) [1, 2, 0] [(0, .ref 3), (1, .null), (2, .int 1)] dX5_readCommand_48 (j := 2) rfl (by decide) (by decide) rfl ?_
  refine z_goto (tgt := 4) dX5_readCommand_51 (by decide) ?_
  refine z_iload_n (j := 2) dX5_readCommand_4 rfl ?_
  refine z_getsN (v := .ref (zB + 300)) (host := "NeighbourHash") kZ_cm (List.mem_of_getElem? (i := 5) rfl) dX5_readCommand_5 ?_
  refine z_alenC (v := 10) kT_cm rfl dX5_readCommand_8 ?_
  refine z_icmp_ge (tgt := 54) dX5_readCommand_9 (by decide) (fun czq9 => absurd czq9 (by decide)) (fun czq9 => ?_)
  refine z_aload_nN (j := 1) dX5_readCommand_12 rfl ?_
  refine z_ifnonnullN dX5_readCommand_13 ?_
  refine z_getsN (v := .ref (zB + 300)) (host := "NeighbourHash") kZ_cm (List.mem_of_getElem? (i := 5) rfl) dX5_readCommand_16 ?_
  refine z_iload_n (j := 2) dX5_readCommand_19 rfl ?_
  refine z_aaldC kT_cm (show vp_in (nI 1) 10 from vp_in_nI (by decide) (by decide)) dX5_readCommand_20 ?_
  refine z_ifnull dX5_readCommand_21 ?_
  refine z_aload_n (j := 0) dX5_readCommand_24 rfl ?_
  refine z_get (v := .ref 1) (by omega) gW_3 fX5_32 rfl dX5_readCommand_25 ?_
  refine z_getsN (v := .ref (zB + 300)) (host := "NeighbourHash") kZ_cm (List.mem_of_getElem? (i := 5) rfl) dX5_readCommand_28 ?_
  refine z_iload_n (j := 2) dX5_readCommand_31 rfl ?_
  refine z_aaldC kT_cm (show vp_in (nI 1) 10 from vp_in_nI (by decide) (by decide)) dX5_readCommand_32 ?_
  refine z_getC (v := .ref (zB + 14 + 1)) (by decide +kernel) fX5_168 dX5_readCommand_33 ?_
  refine z_kV [.ref ((zB + 14 + 1))] 0 0 kc ks yoX3_isWord yvX3_isWord rfl (by decide) lX5_75 (by omega) gW_1 rfl rfl (Nat.le_of_ble_eq_true rfl) (Nat.le_of_ble_eq_true rfl) dX5_readCommand_36 (by omega) (by omega) (z_room (by omega) (Nat.le_refl _) (Nat.le_refl _) (w_isWord (d := 0) (w := 1) hn hL h11 hu hx (by decide) h12 h13 h14 hst ⟨rfl, ?_⟩))
  refine z_if_eq (tgt := 48) dX5_readCommand_39 (by decide) (fun czq39 => ?_) (fun czq39 => absurd (bI_f (fun z => absurd (wIs_one (L := L) (x := x) (st := st) (i := 1) (j := 2) (by decide) (by decide) z hw) (by decide))) czq39)
  skip
  refine z_iinc (2) [1, 2, 0] [(0, .ref 3), (1, .null), (2, .int 2)] dX5_readCommand_48 (j := 2) rfl (by decide) (by decide) rfl ?_
  refine z_goto (tgt := 4) dX5_readCommand_51 (by decide) ?_
  refine z_iload_n (j := 2) dX5_readCommand_4 rfl ?_
  refine z_getsN (v := .ref (zB + 300)) (host := "NeighbourHash") kZ_cm (List.mem_of_getElem? (i := 5) rfl) dX5_readCommand_5 ?_
  refine z_alenC (v := 10) kT_cm rfl dX5_readCommand_8 ?_
  refine z_icmp_ge (tgt := 54) dX5_readCommand_9 (by decide) (fun czq9 => absurd czq9 (by decide)) (fun czq9 => ?_)
  refine z_aload_nN (j := 1) dX5_readCommand_12 rfl ?_
  refine z_ifnonnullN dX5_readCommand_13 ?_
  refine z_getsN (v := .ref (zB + 300)) (host := "NeighbourHash") kZ_cm (List.mem_of_getElem? (i := 5) rfl) dX5_readCommand_16 ?_
  refine z_iload_n (j := 2) dX5_readCommand_19 rfl ?_
  refine z_aaldC kT_cm (show vp_in (nI 2) 10 from vp_in_nI (by decide) (by decide)) dX5_readCommand_20 ?_
  refine z_ifnull dX5_readCommand_21 ?_
  refine z_aload_n (j := 0) dX5_readCommand_24 rfl ?_
  refine z_get (v := .ref 1) (by omega) gW_3 fX5_32 rfl dX5_readCommand_25 ?_
  refine z_getsN (v := .ref (zB + 300)) (host := "NeighbourHash") kZ_cm (List.mem_of_getElem? (i := 5) rfl) dX5_readCommand_28 ?_
  refine z_iload_n (j := 2) dX5_readCommand_31 rfl ?_
  refine z_aaldC kT_cm (show vp_in (nI 2) 10 from vp_in_nI (by decide) (by decide)) dX5_readCommand_32 ?_
  refine z_getC (v := .ref (zB + 14 + 2)) (by decide +kernel) fX5_168 dX5_readCommand_33 ?_
  refine z_kV [.ref ((zB + 14 + 2))] 0 0 kc ks yoX3_isWord yvX3_isWord rfl (by decide) lX5_75 (by omega) gW_1 rfl rfl (Nat.le_of_ble_eq_true rfl) (Nat.le_of_ble_eq_true rfl) dX5_readCommand_36 (by omega) (by omega) (z_room (by omega) (Nat.le_refl _) (Nat.le_refl _) (w_isWord (d := 0) (w := 2) hn hL h11 hu hx (by decide) h12 h13 h14 hst ⟨rfl, ?_⟩))
  refine z_if_eq (tgt := 48) dX5_readCommand_39 (by decide) (fun czq39 => absurd czq39 (fun z => bI_0.mp z hw)) (fun czq39 => ?_)
  refine z_getsN (v := .ref (zB + 300)) (host := "NeighbourHash") kZ_cm (List.mem_of_getElem? (i := 5) rfl) dX5_readCommand_42 ?_
  refine z_iload_n (j := 2) dX5_readCommand_45 rfl ?_
  refine z_aaldC kT_cm (show vp_in (nI 2) 10 from vp_in_nI (by decide) (by decide)) dX5_readCommand_46 ?_
  refine z_astore_n [1, 0, 2] [(0, .ref 3), (1, .ref ((zB + 200 + 2))), (2, .int 2)] dX5_readCommand_47 (by decide) rfl ?_
  skip
  refine z_iinc (3) [1, 2, 0] [(0, .ref 3), (1, .ref ((zB + 200 + 2))), (2, .int 3)] dX5_readCommand_48 (j := 2) rfl (by decide) (by decide) rfl ?_
  refine z_goto (tgt := 4) dX5_readCommand_51 (by decide) ?_
  refine z_iload_n (j := 2) dX5_readCommand_4 rfl ?_
  refine z_getsN (v := .ref (zB + 300)) (host := "NeighbourHash") kZ_cm (List.mem_of_getElem? (i := 5) rfl) dX5_readCommand_5 ?_
  refine z_alenC (v := 10) kT_cm rfl dX5_readCommand_8 ?_
  refine z_icmp_ge (tgt := 54) dX5_readCommand_9 (by decide) (fun czq9 => absurd czq9 (by decide)) (fun czq9 => ?_)
  refine z_aload_n (j := 1) dX5_readCommand_12 rfl ?_
  refine z_ifnonnull (tgt := 54) dX5_readCommand_13 (by decide) ?_
  refine z_aload_n (j := 1) dX5_readCommand_54 rfl ?_
  refine z_ifnonnull (tgt := 64) dX5_readCommand_55 (by decide) ?_
  refine z_aload_n (j := 0) dX5_readCommand_64 rfl ?_
  refine z_get (v := .int (o 2 6)) (by omega) gW_3 fX5_44 rfl dX5_readCommand_65 ?_
  refine z_sipush (v := 200) dX5_readCommand_68 (by decide) ?_
  rw [show (o 2 6) = nI ex from h6]
  refine z_icmp_lt (tgt := 80) dX5_readCommand_71 (by decide) (fun czq71 => ?_) (fun czq71 => ?_)
  · have hexn : ¬ ex = 200 := fun z => absurd czq71 (by rw [z]; decide)
    refine z_iconst (v := 0) dX5_readCommand_80 (by decide) ?_
    refine z_istore_n [1, 2, 0] [(0, .ref 3), (1, .ref ((zB + 200 + 2))), (2, .int 0)] dX5_readCommand_81 (by decide) rfl ?_
    refine z_iload_n (j := 2) dX5_readCommand_82 rfl ?_
    refine z_aload_n (j := 1) dX5_readCommand_83 rfl ?_
    refine z_getC (v := .int 3) (by decide +kernel) fX5_172 dX5_readCommand_84 ?_
    refine z_icmp_ge (tgt := 143) dX5_readCommand_87 (by decide) (fun czq87 => absurd czq87 (by decide)) (fun czq87 => ?_)
    refine z_iload_n (j := 2) dX5_readCommand_90 rfl ?_
    refine z_aload_n (j := 0) dX5_readCommand_91 rfl ?_
    refine z_get (v := .ref 10) (by omega) gW_3 fX5_18 rfl dX5_readCommand_92 ?_
    refine z_alen (by omega) gW_10 (by decide) rfl dX5_readCommand_95 ?_
    refine z_icmp_ge (tgt := 143) dX5_readCommand_96 (by decide) (fun czq96 => absurd czq96 (by decide)) (fun czq96 => ?_)
    refine z_aload_n (j := 0) dX5_readCommand_99 rfl ?_
    refine z_get (v := .int (o 2 10)) (by omega) gW_3 fX5_54 rfl dX5_readCommand_100 ?_
    refine z_if_ne (tgt := 143) dX5_readCommand_103 (by decide) (fun czq103 => absurd czq103 (fun z => z h10)) (fun czq103 => ?_)
    refine z_aload_n (j := 0) dX5_readCommand_106 rfl ?_
    refine z_get (v := .ref 10) (by omega) gW_3 fX5_18 rfl dX5_readCommand_107 ?_
    refine z_iload_n (j := 2) dX5_readCommand_110 rfl ?_
    refine z_aload_n (j := 0) dX5_readCommand_111 rfl ?_
    refine z_kV [] 0 0 kc ks yoX5_readNumber yvX5_readNumber rfl (by decide) lX5_142 (by omega) gW_3 rfl rfl (Nat.le_of_ble_eq_true rfl) (Nat.le_of_ble_eq_true rfl) dX5_readCommand_112 (by omega) (by omega) (z_room (by omega) (Nat.le_refl _) (Nat.le_refl _) (w_readNumber (d := 0) hn hL h11 hu hx ((tE_le' hst).2) h12 h10 (fun hk0 o0 q2_0 q3_0 hf0 => ⟨rfl, ?_⟩) (fun hk0 o0 he0 => ⟨rfl, ?_⟩)))
    · have h11_0 : o0 1 1 = nI L := (hf0.2 1 (by decide)).trans h11
      have h10_0 : o0 2 10 = 0 := by rw [hf0.1 2 (by decide)]; exact h10
      have hfc_0 : fp (fun j => 2 ≤ j) o o0 := fp.rf.tr hf0
      have hV0 := tV_lt hk0
      refine g_ast 1 (by decide) rfl (by omega) (show vp_in (nI 0) 3 from vp_in_nI (by decide) (by decide)) dX5_readCommand_115 ?_
      obtain ⟨u0, eu0⟩ : ∃ u0, u0 = (va_up u 1 (va_up (u 1) (0 : Int32).toNatClampNeg (nI (tV L x (tS L x (tE L x st)))))) := ⟨_, rfl⟩
      rw [← eu0]
      have hu0 : ∀ i, i < L → u0 0 i = nI (x i) := fun i hi => by rw [eu0, up_ne (by decide)]; exact hu i hi
      have hv0_0 : u0 1 0 = (nI (tV L x (tS L x (tE L x st)))) := by rw [eu0, up_eq]; first | done | exact up_eq
      have hw0 : ∀ j, j ≠ 1 → u0 j = u j := fun j hj => by rw [eu0, up_ne hj]; first | done | exact (show ∀ j, j ≠ 1 → u j = u j from fun _ _ => rfl) j hj
      refine z_aload_n (j := 0) dX5_readCommand_116 rfl ?_
      refine z_get (v := .int (o0 2 10)) (by omega) gW_3 fX5_54 rfl dX5_readCommand_117 ?_
      refine z_if_ne (tgt := 137) dX5_readCommand_120 (by decide) (fun czq120 => absurd czq120 (fun z => z h10_0)) (fun czq120 => ?_)
      refine z_aload_n (j := 0) dX5_readCommand_123 rfl ?_
      refine z_aload_n (j := 1) dX5_readCommand_124 rfl ?_
      refine z_iload_n (j := 2) dX5_readCommand_125 rfl ?_
      refine z_kV [.ref ((zB + 200 + 2)), .int 0] 0 0 kc ks yoX5_fits yvX5_fits rfl (by decide) lX5_174 (by omega) gW_3 rfl rfl (Nat.le_of_ble_eq_true rfl) (Nat.le_of_ble_eq_true rfl) dX5_readCommand_126 (by omega) (by omega) (z_room (by omega) (Nat.le_refl _) (Nat.le_refl _) (w_fits2_0 (d := 0) (S := S) hn hv0_0 hV0 ⟨rfl, ?_⟩))
      refine z_if_ne (tgt := 137) dX5_readCommand_129 (by decide) (fun czq129 => ?_) (fun czq129 => ?_)
      · have hok0 := bI_n.mp czq129
        skip
        refine z_iinc (1) [1, 2, 0] [(0, .ref 3), (1, .ref ((zB + 200 + 2))), (2, .int 1)] dX5_readCommand_137 (j := 2) rfl (by decide) (by decide) rfl ?_
        refine z_goto (tgt := 82) dX5_readCommand_140 (by decide) ?_
        refine z_iload_n (j := 2) dX5_readCommand_82 rfl ?_
        refine z_aload_n (j := 1) dX5_readCommand_83 rfl ?_
        refine z_getC (v := .int 3) (by decide +kernel) fX5_172 dX5_readCommand_84 ?_
        refine z_icmp_ge (tgt := 143) dX5_readCommand_87 (by decide) (fun czq87 => absurd czq87 (by decide)) (fun czq87 => ?_)
        refine z_iload_n (j := 2) dX5_readCommand_90 rfl ?_
        refine z_aload_n (j := 0) dX5_readCommand_91 rfl ?_
        refine z_get (v := .ref 10) (by omega) gW_3 fX5_18 rfl dX5_readCommand_92 ?_
        refine z_alen (by omega) gW_10 (by decide) rfl dX5_readCommand_95 ?_
        refine z_icmp_ge (tgt := 143) dX5_readCommand_96 (by decide) (fun czq96 => absurd czq96 (by decide)) (fun czq96 => ?_)
        refine z_aload_n (j := 0) dX5_readCommand_99 rfl ?_
        refine z_get (v := .int (o0 2 10)) (by omega) gW_3 fX5_54 rfl dX5_readCommand_100 ?_
        refine z_if_ne (tgt := 143) dX5_readCommand_103 (by decide) (fun czq103 => absurd czq103 (fun z => z h10_0)) (fun czq103 => ?_)
        refine z_aload_n (j := 0) dX5_readCommand_106 rfl ?_
        refine z_get (v := .ref 10) (by omega) gW_3 fX5_18 rfl dX5_readCommand_107 ?_
        refine z_iload_n (j := 2) dX5_readCommand_110 rfl ?_
        refine z_aload_n (j := 0) dX5_readCommand_111 rfl ?_
        refine z_kV [] 0 0 kc ks yoX5_readNumber yvX5_readNumber rfl (by decide) lX5_142 (by omega) gW_3 rfl rfl (Nat.le_of_ble_eq_true rfl) (Nat.le_of_ble_eq_true rfl) dX5_readCommand_112 (by omega) (by omega) (z_room (by omega) (Nat.le_refl _) (Nat.le_refl _) (w_readNumber (d := 0) hn hL h11_0 hu0 hx ((nx_le ((tE_le' hst).2)).2) q2_0 h10_0 (fun hk1 o1 q2_1 q3_1 hf1 => ⟨rfl, ?_⟩) (fun hk1 o1 he1 => ⟨rfl, ?_⟩)))
        · have h11_1 : o1 1 1 = nI L := (hf1.2 1 (by decide)).trans h11_0
          have h10_1 : o1 2 10 = 0 := by rw [hf1.1 2 (by decide)]; exact h10_0
          have hfc_1 : fp (fun j => 2 ≤ j) o o1 := hfc_0.tr hf1
          have hV1 := tV_lt hk1
          refine g_ast 1 (by decide) rfl (by omega) (show vp_in (nI 1) 3 from vp_in_nI (by decide) (by decide)) dX5_readCommand_115 ?_
          obtain ⟨u1, eu1⟩ : ∃ u1, u1 = (va_up u0 1 (va_up (u0 1) (1 : Int32).toNatClampNeg (nI (tV L x (tS L x (nx L x (tE L x st))))))) := ⟨_, rfl⟩
          rw [← eu1]
          have hu1 : ∀ i, i < L → u1 0 i = nI (x i) := fun i hi => by rw [eu1, up_ne (by decide)]; exact hu0 i hi
          have hv1_1 : u1 1 1 = (nI (tV L x (tS L x (nx L x (tE L x st))))) := by rw [eu1, up_eq]; first | done | exact up_eq
          have hv1_0 : u1 1 0 = (nI (tV L x (tS L x (tE L x st)))) := by rw [eu1, up_eq, up_ne (show (0 : Nat) ≠ (1 : Int32).toNatClampNeg by decide)]; exact hv0_0
          have hw1 : ∀ j, j ≠ 1 → u1 j = u j := fun j hj => by rw [eu1, up_ne hj]; first | done | exact hw0 j hj
          refine z_aload_n (j := 0) dX5_readCommand_116 rfl ?_
          refine z_get (v := .int (o1 2 10)) (by omega) gW_3 fX5_54 rfl dX5_readCommand_117 ?_
          refine z_if_ne (tgt := 137) dX5_readCommand_120 (by decide) (fun czq120 => absurd czq120 (fun z => z h10_1)) (fun czq120 => ?_)
          refine z_aload_n (j := 0) dX5_readCommand_123 rfl ?_
          refine z_aload_n (j := 1) dX5_readCommand_124 rfl ?_
          refine z_iload_n (j := 2) dX5_readCommand_125 rfl ?_
          refine z_kV [.ref ((zB + 200 + 2)), .int 1] 0 0 kc ks yoX5_fits yvX5_fits rfl (by decide) lX5_174 (by omega) gW_3 rfl rfl (Nat.le_of_ble_eq_true rfl) (Nat.le_of_ble_eq_true rfl) dX5_readCommand_126 (by omega) (by omega) (z_room (by omega) (Nat.le_refl _) (Nat.le_refl _) (w_fits2_1 (d := 0) (S := S) hn hv1_0 hV0 hv1_1 hV1 ⟨rfl, ?_⟩))
          refine z_if_ne (tgt := 137) dX5_readCommand_129 (by decide) (fun czq129 => ?_) (fun czq129 => ?_)
          · have hok1 := bI_n.mp czq129
            have hst9 : (tV L x (tS L x (nx L x (tE L x st)))) ≤ 999 := by
              have h9 := hok1
              simp only [oIn, Bool.and_eq_true, decide_eq_true_eq] at h9
              exact h9.2
            skip
            refine z_iinc (2) [1, 2, 0] [(0, .ref 3), (1, .ref ((zB + 200 + 2))), (2, .int 2)] dX5_readCommand_137 (j := 2) rfl (by decide) (by decide) rfl ?_
            refine z_goto (tgt := 82) dX5_readCommand_140 (by decide) ?_
            refine z_iload_n (j := 2) dX5_readCommand_82 rfl ?_
            refine z_aload_n (j := 1) dX5_readCommand_83 rfl ?_
            refine z_getC (v := .int 3) (by decide +kernel) fX5_172 dX5_readCommand_84 ?_
            refine z_icmp_ge (tgt := 143) dX5_readCommand_87 (by decide) (fun czq87 => absurd czq87 (by decide)) (fun czq87 => ?_)
            refine z_iload_n (j := 2) dX5_readCommand_90 rfl ?_
            refine z_aload_n (j := 0) dX5_readCommand_91 rfl ?_
            refine z_get (v := .ref 10) (by omega) gW_3 fX5_18 rfl dX5_readCommand_92 ?_
            refine z_alen (by omega) gW_10 (by decide) rfl dX5_readCommand_95 ?_
            refine z_icmp_ge (tgt := 143) dX5_readCommand_96 (by decide) (fun czq96 => absurd czq96 (by decide)) (fun czq96 => ?_)
            refine z_aload_n (j := 0) dX5_readCommand_99 rfl ?_
            refine z_get (v := .int (o1 2 10)) (by omega) gW_3 fX5_54 rfl dX5_readCommand_100 ?_
            refine z_if_ne (tgt := 143) dX5_readCommand_103 (by decide) (fun czq103 => absurd czq103 (fun z => z h10_1)) (fun czq103 => ?_)
            refine z_aload_n (j := 0) dX5_readCommand_106 rfl ?_
            refine z_get (v := .ref 10) (by omega) gW_3 fX5_18 rfl dX5_readCommand_107 ?_
            refine z_iload_n (j := 2) dX5_readCommand_110 rfl ?_
            refine z_aload_n (j := 0) dX5_readCommand_111 rfl ?_
            refine z_kV [] 0 0 kc ks yoX5_readNumber yvX5_readNumber rfl (by decide) lX5_142 (by omega) gW_3 rfl rfl (Nat.le_of_ble_eq_true rfl) (Nat.le_of_ble_eq_true rfl) dX5_readCommand_112 (by omega) (by omega) (z_room (by omega) (Nat.le_refl _) (Nat.le_refl _) (w_readNumber (d := 0) hn hL h11_1 hu1 hx ((nx_le ((nx_le ((tE_le' hst).2)).2)).2) q2_1 h10_1 (fun hk2 o2 q2_2 q3_2 hf2 => ⟨rfl, ?_⟩) (fun hk2 o2 he2 => ⟨rfl, ?_⟩)))
            · have h11_2 : o2 1 1 = nI L := (hf2.2 1 (by decide)).trans h11_1
              have h10_2 : o2 2 10 = 0 := by rw [hf2.1 2 (by decide)]; exact h10_1
              have hfc_2 : fp (fun j => 2 ≤ j) o o2 := hfc_1.tr hf2
              have hV2 := tV_lt hk2
              refine g_ast 1 (by decide) rfl (by omega) (show vp_in (nI 2) 3 from vp_in_nI (by decide) (by decide)) dX5_readCommand_115 ?_
              obtain ⟨u2, eu2⟩ : ∃ u2, u2 = (va_up u1 1 (va_up (u1 1) (2 : Int32).toNatClampNeg (nI (tV L x (tS L x (nx L x (nx L x (tE L x st)))))))) := ⟨_, rfl⟩
              rw [← eu2]
              have hu2 : ∀ i, i < L → u2 0 i = nI (x i) := fun i hi => by rw [eu2, up_ne (by decide)]; exact hu1 i hi
              have hv2_2 : u2 1 2 = (nI (tV L x (tS L x (nx L x (nx L x (tE L x st)))))) := by rw [eu2, up_eq]; first | done | exact up_eq
              have hv2_0 : u2 1 0 = (nI (tV L x (tS L x (tE L x st)))) := by rw [eu2, up_eq, up_ne (show (0 : Nat) ≠ (2 : Int32).toNatClampNeg by decide)]; exact hv1_0
              have hv2_1 : u2 1 1 = (nI (tV L x (tS L x (nx L x (tE L x st))))) := by rw [eu2, up_eq, up_ne (show (1 : Nat) ≠ (2 : Int32).toNatClampNeg by decide)]; exact hv1_1
              have hw2 : ∀ j, j ≠ 1 → u2 j = u j := fun j hj => by rw [eu2, up_ne hj]; first | done | exact hw1 j hj
              refine z_aload_n (j := 0) dX5_readCommand_116 rfl ?_
              refine z_get (v := .int (o2 2 10)) (by omega) gW_3 fX5_54 rfl dX5_readCommand_117 ?_
              refine z_if_ne (tgt := 137) dX5_readCommand_120 (by decide) (fun czq120 => absurd czq120 (fun z => z h10_2)) (fun czq120 => ?_)
              refine z_aload_n (j := 0) dX5_readCommand_123 rfl ?_
              refine z_aload_n (j := 1) dX5_readCommand_124 rfl ?_
              refine z_iload_n (j := 2) dX5_readCommand_125 rfl ?_
              refine z_kV [.ref ((zB + 200 + 2)), .int 2] 0 0 kc ks yoX5_fits yvX5_fits rfl (by decide) lX5_174 (by omega) gW_3 rfl rfl (Nat.le_of_ble_eq_true rfl) (Nat.le_of_ble_eq_true rfl) dX5_readCommand_126 (by omega) (by omega) (z_room (by omega) (Nat.le_refl _) (Nat.le_refl _) (w_fits2_2 (d := 0) (S := S) hn hv2_0 hV0 hv2_1 hV1 hv2_2 hV2 hst9 ⟨rfl, ?_⟩))
              refine z_if_ne (tgt := 137) dX5_readCommand_129 (by decide) (fun czq129 => ?_) (fun czq129 => ?_)
              · have hok2 := bI_n.mp czq129
                skip
                refine z_iinc (3) [1, 2, 0] [(0, .ref 3), (1, .ref ((zB + 200 + 2))), (2, .int 3)] dX5_readCommand_137 (j := 2) rfl (by decide) (by decide) rfl ?_
                refine z_goto (tgt := 82) dX5_readCommand_140 (by decide) ?_
                refine z_iload_n (j := 2) dX5_readCommand_82 rfl ?_
                refine z_aload_n (j := 1) dX5_readCommand_83 rfl ?_
                refine z_getC (v := .int 3) (by decide +kernel) fX5_172 dX5_readCommand_84 ?_
                refine z_icmp_ge (tgt := 143) dX5_readCommand_87 (by decide) (fun czq87 => ?_) (fun czq87 => absurd (by decide) czq87)
                refine z_aload_n (j := 0) dX5_readCommand_143 rfl ?_
                refine z_iconst (v := 5) dX5_readCommand_144 (by decide) ?_
                refine z_kV [.int 5] 0 0 kc ks yoX5_expect yvX5_expect rfl (by decide) lX5_148 (by omega) gW_3 rfl rfl (Nat.le_of_ble_eq_true rfl) (Nat.le_of_ble_eq_true rfl) dX5_readCommand_145 (by omega) (by omega) (z_room (by omega) (Nat.le_refl _) (Nat.le_refl _) (w_expect (d := 0) (k := 5) hn hL h11_2 hu2 hx ((nx_le ((nx_le ((nx_le ((tE_le' hst).2)).2)).2)).2) q2_2 h10_2 (by decide) (fun hk3 o3 q2_3 q3_3 q5_3 hf3 => ⟨rfl, ?_⟩) (fun hk3 o3 he3 => ⟨rfl, ?_⟩)))
                · have h11_3 : o3 1 1 = nI L := (hf3.2 1 (by decide)).trans h11_2
                  have h10_3 : o3 2 10 = 0 := by rw [hf3.1 2 (by decide)]; exact h10_2
                  have hfc_3 : fp (fun j => 2 ≤ j) o o3 := hfc_2.tr hf3
                  refine z_aload_n (j := 0) dX5_readCommand_148 rfl ?_
                  refine z_aload_n (j := 1) dX5_readCommand_149 rfl ?_
                  refine g_putc (Nat.le_trans (Nat.le_add_right _ _) (Nat.le_add_right _ _)) (by omega) fX5_57 dX5_readCommand_150 ?_
                  exact z_vret rfl dX5_readCommand_153 (by
                      exact hqY (tV L x (tS L x (tE L x st))) (tV L x (tS L x (nx L x (tE L x st)))) (tV L x (tS L x (nx L x (nx L x (tE L x st))))) (nx L x (nx L x (nx L x (tE L x st)))) ((nx_le ((nx_le ((nx_le ((tE_le' hst).2)).2)).2)).2) hexn (by
                        unfold smp
                        simp only [rdN_3 (ok := oKey) hk0 hok0, rdN_3 (ok := (oIn 1 999)) hk1 hok1, rdN_3 (ok := (oCnt (tV L x (tS L x (tE L x st))) (tV L x (tS L x (nx L x (tE L x st)))))) hk2 hok2]) hk3 _ _ q2_3 q3_3 hfc_3 h11_3 hok0 hV0 hv2_0 hok1 hV1 hv2_1 hok2 hV2 hv2_2 hw2)
                · refine z_aload_n (j := 0) dX5_readCommand_148 rfl ?_
                  refine z_aload_n (j := 1) dX5_readCommand_149 rfl ?_
                  refine g_putc (Nat.le_trans (Nat.le_add_right _ _) (Nat.le_add_right _ _)) (by omega) fX5_57 dX5_readCommand_150 ?_
                  exact z_vret rfl dX5_readCommand_153 (by
                      exact hqN 1 (tS L x (nx L x (nx L x (nx L x (tE L x st))))) (by
                        unfold cS
                        rw [if_neg hexn]
                        unfold smp
                        simp only [rdN_3 (ok := oKey) hk0 hok0, rdN_3 (ok := (oIn 1 999)) hk1 hok1, rdN_3 (ok := (oCnt (tV L x (tS L x (tE L x st))) (tV L x (tS L x (nx L x (tE L x st)))))) hk2 hok2, fin, rdT_1 hk3]) (by decide) (.ref (zB + 200 + 2)) (Or.inr ⟨_, rfl⟩) o3 u2 (hw2 4 (by decide)) (he3.fp hfc_2))
              · have hno2 := bI_0.mp czq129
                refine z_aload_n (j := 0) dX5_readCommand_132 rfl ?_
                refine z_iconst (v := 2) dX5_readCommand_133 (by decide) ?_
                refine z_kV [.int 2] 0 0 kc ks yoX5_fail yvX5_fail rfl (by decide) lX5_137 (by omega) gW_3 rfl rfl (Nat.le_of_ble_eq_true rfl) (Nat.le_of_ble_eq_true rfl) dX5_readCommand_134 (by omega) (by omega) (z_room (by omega) (Nat.le_refl _) (Nat.le_refl _) (w_fail (d := 0) (k := 2) hn q3_2 (fun of hef => ⟨rfl, ?_⟩)))
                skip
                skip
                refine z_iinc (3) [1, 2, 0] [(0, .ref 3), (1, .ref ((zB + 200 + 2))), (2, .int 3)] dX5_readCommand_137 (j := 2) rfl (by decide) (by decide) rfl ?_
                refine z_goto (tgt := 82) dX5_readCommand_140 (by decide) ?_
                refine z_iload_n (j := 2) dX5_readCommand_82 rfl ?_
                refine z_aload_n (j := 1) dX5_readCommand_83 rfl ?_
                refine z_getC (v := .int 3) (by decide +kernel) fX5_172 dX5_readCommand_84 ?_
                refine z_icmp_ge (tgt := 143) dX5_readCommand_87 (by decide) (fun czq87 => ?_) (fun czq87 => absurd (by decide) czq87)
                refine z_aload_n (j := 0) dX5_readCommand_143 rfl ?_
                refine z_iconst (v := 5) dX5_readCommand_144 (by decide) ?_
                refine z_kV [.int 5] 0 0 kc ks yoX5_expect yvX5_expect rfl (by decide) lX5_148 (by omega) gW_3 rfl rfl (Nat.le_of_ble_eq_true rfl) (Nat.le_of_ble_eq_true rfl) dX5_readCommand_145 (by omega) (by omega) (z_room (by omega) (Nat.le_refl _) (Nat.le_refl _) (w_expectE (d := 0) hn (er.ne (hef.fp hfc_2) (by decide) (by decide)) ⟨rfl, ?_⟩))
                refine z_aload_n (j := 0) dX5_readCommand_148 rfl ?_
                refine z_aload_n (j := 1) dX5_readCommand_149 rfl ?_
                refine g_putc (Nat.le_trans (Nat.le_add_right _ _) (Nat.le_add_right _ _)) (by omega) fX5_57 dX5_readCommand_150 ?_
                exact z_vret rfl dX5_readCommand_153 (by
                    exact hqN 2 (tS L x (nx L x (nx L x (tE L x st)))) (by
                      unfold cS
                      rw [if_neg hexn]
                      unfold smp
                      simp only [rdN_3 (ok := oKey) hk0 hok0, rdN_3 (ok := (oIn 1 999)) hk1 hok1, rdN_2 (ok := (oCnt (tV L x (tS L x (tE L x st))) (tV L x (tS L x (nx L x (tE L x st)))))) hk2 hno2]) (by decide) (.ref (zB + 200 + 2)) (Or.inr ⟨_, rfl⟩) of u2 (hw2 4 (by decide)) (hef.fp hfc_2))
            · refine g_ast 1 (by decide) rfl (by omega) (show vp_in (nI 2) 3 from vp_in_nI (by decide) (by decide)) dX5_readCommand_115 ?_
              obtain ⟨u2, eu2⟩ : ∃ u2, u2 = (va_up u1 1 (va_up (u1 1) (2 : Int32).toNatClampNeg (o2 1 5))) := ⟨_, rfl⟩
              rw [← eu2]
              have hu2 : ∀ i, i < L → u2 0 i = nI (x i) := fun i hi => by rw [eu2, up_ne (by decide)]; exact hu1 i hi
              have hv2_2 : u2 1 2 = (o2 1 5) := by rw [eu2, up_eq]; first | done | exact up_eq
              have hv2_0 : u2 1 0 = (nI (tV L x (tS L x (tE L x st)))) := by rw [eu2, up_eq, up_ne (show (0 : Nat) ≠ (2 : Int32).toNatClampNeg by decide)]; exact hv1_0
              have hv2_1 : u2 1 1 = (nI (tV L x (tS L x (nx L x (tE L x st))))) := by rw [eu2, up_eq, up_ne (show (1 : Nat) ≠ (2 : Int32).toNatClampNeg by decide)]; exact hv1_1
              have hw2 : ∀ j, j ≠ 1 → u2 j = u j := fun j hj => by rw [eu2, up_ne hj]; first | done | exact hw1 j hj
              refine z_aload_n (j := 0) dX5_readCommand_116 rfl ?_
              refine z_get (v := .int (o2 2 10)) (by omega) gW_3 fX5_54 rfl dX5_readCommand_117 ?_
              refine z_if_ne (tgt := 137) dX5_readCommand_120 (by decide) (fun czq120 => ?_) (fun czq120 => absurd czq120 (er.ne (he2.fp hfc_1) (by decide) (by decide)))
              skip
              skip
              refine z_iinc (3) [1, 2, 0] [(0, .ref 3), (1, .ref ((zB + 200 + 2))), (2, .int 3)] dX5_readCommand_137 (j := 2) rfl (by decide) (by decide) rfl ?_
              refine z_goto (tgt := 82) dX5_readCommand_140 (by decide) ?_
              refine z_iload_n (j := 2) dX5_readCommand_82 rfl ?_
              refine z_aload_n (j := 1) dX5_readCommand_83 rfl ?_
              refine z_getC (v := .int 3) (by decide +kernel) fX5_172 dX5_readCommand_84 ?_
              refine z_icmp_ge (tgt := 143) dX5_readCommand_87 (by decide) (fun czq87 => ?_) (fun czq87 => absurd (by decide) czq87)
              refine z_aload_n (j := 0) dX5_readCommand_143 rfl ?_
              refine z_iconst (v := 5) dX5_readCommand_144 (by decide) ?_
              refine z_kV [.int 5] 0 0 kc ks yoX5_expect yvX5_expect rfl (by decide) lX5_148 (by omega) gW_3 rfl rfl (Nat.le_of_ble_eq_true rfl) (Nat.le_of_ble_eq_true rfl) dX5_readCommand_145 (by omega) (by omega) (z_room (by omega) (Nat.le_refl _) (Nat.le_refl _) (w_expectE (d := 0) hn (er.ne (he2.fp hfc_1) (by decide) (by decide)) ⟨rfl, ?_⟩))
              refine z_aload_n (j := 0) dX5_readCommand_148 rfl ?_
              refine z_aload_n (j := 1) dX5_readCommand_149 rfl ?_
              refine g_putc (Nat.le_trans (Nat.le_add_right _ _) (Nat.le_add_right _ _)) (by omega) fX5_57 dX5_readCommand_150 ?_
              exact z_vret rfl dX5_readCommand_153 (by
                  exact hqN 1 (tS L x (nx L x (nx L x (tE L x st)))) (by
                    unfold cS
                    rw [if_neg hexn]
                    unfold smp
                    simp only [rdN_3 (ok := oKey) hk0 hok0, rdN_3 (ok := (oIn 1 999)) hk1 hok1, rdN_1 (ok := (oCnt (tV L x (tS L x (tE L x st))) (tV L x (tS L x (nx L x (tE L x st)))))) hk2]) (by decide) (.ref (zB + 200 + 2)) (Or.inr ⟨_, rfl⟩) o2 u2 (hw2 4 (by decide)) (he2.fp hfc_1))
          · have hno1 := bI_0.mp czq129
            refine z_aload_n (j := 0) dX5_readCommand_132 rfl ?_
            refine z_iconst (v := 2) dX5_readCommand_133 (by decide) ?_
            refine z_kV [.int 2] 0 0 kc ks yoX5_fail yvX5_fail rfl (by decide) lX5_137 (by omega) gW_3 rfl rfl (Nat.le_of_ble_eq_true rfl) (Nat.le_of_ble_eq_true rfl) dX5_readCommand_134 (by omega) (by omega) (z_room (by omega) (Nat.le_refl _) (Nat.le_refl _) (w_fail (d := 0) (k := 2) hn q3_1 (fun of hef => ⟨rfl, ?_⟩)))
            skip
            skip
            refine z_iinc (2) [1, 2, 0] [(0, .ref 3), (1, .ref ((zB + 200 + 2))), (2, .int 2)] dX5_readCommand_137 (j := 2) rfl (by decide) (by decide) rfl ?_
            refine z_goto (tgt := 82) dX5_readCommand_140 (by decide) ?_
            refine z_iload_n (j := 2) dX5_readCommand_82 rfl ?_
            refine z_aload_n (j := 1) dX5_readCommand_83 rfl ?_
            refine z_getC (v := .int 3) (by decide +kernel) fX5_172 dX5_readCommand_84 ?_
            refine z_icmp_ge (tgt := 143) dX5_readCommand_87 (by decide) (fun czq87 => absurd czq87 (by decide)) (fun czq87 => ?_)
            refine z_iload_n (j := 2) dX5_readCommand_90 rfl ?_
            refine z_aload_n (j := 0) dX5_readCommand_91 rfl ?_
            refine z_get (v := .ref 10) (by omega) gW_3 fX5_18 rfl dX5_readCommand_92 ?_
            refine z_alen (by omega) gW_10 (by decide) rfl dX5_readCommand_95 ?_
            refine z_icmp_ge (tgt := 143) dX5_readCommand_96 (by decide) (fun czq96 => absurd czq96 (by decide)) (fun czq96 => ?_)
            refine z_aload_n (j := 0) dX5_readCommand_99 rfl ?_
            refine z_get (v := .int (of 2 10)) (by omega) gW_3 fX5_54 rfl dX5_readCommand_100 ?_
            refine z_if_ne (tgt := 143) dX5_readCommand_103 (by decide) (fun czq103 => ?_) (fun czq103 => absurd czq103 (er.ne (hef.fp hfc_1) (by decide) (by decide)))
            refine z_aload_n (j := 0) dX5_readCommand_143 rfl ?_
            refine z_iconst (v := 5) dX5_readCommand_144 (by decide) ?_
            refine z_kV [.int 5] 0 0 kc ks yoX5_expect yvX5_expect rfl (by decide) lX5_148 (by omega) gW_3 rfl rfl (Nat.le_of_ble_eq_true rfl) (Nat.le_of_ble_eq_true rfl) dX5_readCommand_145 (by omega) (by omega) (z_room (by omega) (Nat.le_refl _) (Nat.le_refl _) (w_expectE (d := 0) hn (er.ne (hef.fp hfc_1) (by decide) (by decide)) ⟨rfl, ?_⟩))
            refine z_aload_n (j := 0) dX5_readCommand_148 rfl ?_
            refine z_aload_n (j := 1) dX5_readCommand_149 rfl ?_
            refine g_putc (Nat.le_trans (Nat.le_add_right _ _) (Nat.le_add_right _ _)) (by omega) fX5_57 dX5_readCommand_150 ?_
            exact z_vret rfl dX5_readCommand_153 (by
                exact hqN 2 (tS L x (nx L x (tE L x st))) (by
                  unfold cS
                  rw [if_neg hexn]
                  unfold smp
                  simp only [rdN_3 (ok := oKey) hk0 hok0, rdN_2 (ok := (oIn 1 999)) hk1 hno1]) (by decide) (.ref (zB + 200 + 2)) (Or.inr ⟨_, rfl⟩) of u1 (hw1 4 (by decide)) (hef.fp hfc_1))
        · refine g_ast 1 (by decide) rfl (by omega) (show vp_in (nI 1) 3 from vp_in_nI (by decide) (by decide)) dX5_readCommand_115 ?_
          obtain ⟨u1, eu1⟩ : ∃ u1, u1 = (va_up u0 1 (va_up (u0 1) (1 : Int32).toNatClampNeg (o1 1 5))) := ⟨_, rfl⟩
          rw [← eu1]
          have hu1 : ∀ i, i < L → u1 0 i = nI (x i) := fun i hi => by rw [eu1, up_ne (by decide)]; exact hu0 i hi
          have hv1_1 : u1 1 1 = (o1 1 5) := by rw [eu1, up_eq]; first | done | exact up_eq
          have hv1_0 : u1 1 0 = (nI (tV L x (tS L x (tE L x st)))) := by rw [eu1, up_eq, up_ne (show (0 : Nat) ≠ (1 : Int32).toNatClampNeg by decide)]; exact hv0_0
          have hw1 : ∀ j, j ≠ 1 → u1 j = u j := fun j hj => by rw [eu1, up_ne hj]; first | done | exact hw0 j hj
          refine z_aload_n (j := 0) dX5_readCommand_116 rfl ?_
          refine z_get (v := .int (o1 2 10)) (by omega) gW_3 fX5_54 rfl dX5_readCommand_117 ?_
          refine z_if_ne (tgt := 137) dX5_readCommand_120 (by decide) (fun czq120 => ?_) (fun czq120 => absurd czq120 (er.ne (he1.fp hfc_0) (by decide) (by decide)))
          skip
          skip
          refine z_iinc (2) [1, 2, 0] [(0, .ref 3), (1, .ref ((zB + 200 + 2))), (2, .int 2)] dX5_readCommand_137 (j := 2) rfl (by decide) (by decide) rfl ?_
          refine z_goto (tgt := 82) dX5_readCommand_140 (by decide) ?_
          refine z_iload_n (j := 2) dX5_readCommand_82 rfl ?_
          refine z_aload_n (j := 1) dX5_readCommand_83 rfl ?_
          refine z_getC (v := .int 3) (by decide +kernel) fX5_172 dX5_readCommand_84 ?_
          refine z_icmp_ge (tgt := 143) dX5_readCommand_87 (by decide) (fun czq87 => absurd czq87 (by decide)) (fun czq87 => ?_)
          refine z_iload_n (j := 2) dX5_readCommand_90 rfl ?_
          refine z_aload_n (j := 0) dX5_readCommand_91 rfl ?_
          refine z_get (v := .ref 10) (by omega) gW_3 fX5_18 rfl dX5_readCommand_92 ?_
          refine z_alen (by omega) gW_10 (by decide) rfl dX5_readCommand_95 ?_
          refine z_icmp_ge (tgt := 143) dX5_readCommand_96 (by decide) (fun czq96 => absurd czq96 (by decide)) (fun czq96 => ?_)
          refine z_aload_n (j := 0) dX5_readCommand_99 rfl ?_
          refine z_get (v := .int (o1 2 10)) (by omega) gW_3 fX5_54 rfl dX5_readCommand_100 ?_
          refine z_if_ne (tgt := 143) dX5_readCommand_103 (by decide) (fun czq103 => ?_) (fun czq103 => absurd czq103 (er.ne (he1.fp hfc_0) (by decide) (by decide)))
          refine z_aload_n (j := 0) dX5_readCommand_143 rfl ?_
          refine z_iconst (v := 5) dX5_readCommand_144 (by decide) ?_
          refine z_kV [.int 5] 0 0 kc ks yoX5_expect yvX5_expect rfl (by decide) lX5_148 (by omega) gW_3 rfl rfl (Nat.le_of_ble_eq_true rfl) (Nat.le_of_ble_eq_true rfl) dX5_readCommand_145 (by omega) (by omega) (z_room (by omega) (Nat.le_refl _) (Nat.le_refl _) (w_expectE (d := 0) hn (er.ne (he1.fp hfc_0) (by decide) (by decide)) ⟨rfl, ?_⟩))
          refine z_aload_n (j := 0) dX5_readCommand_148 rfl ?_
          refine z_aload_n (j := 1) dX5_readCommand_149 rfl ?_
          refine g_putc (Nat.le_trans (Nat.le_add_right _ _) (Nat.le_add_right _ _)) (by omega) fX5_57 dX5_readCommand_150 ?_
          exact z_vret rfl dX5_readCommand_153 (by
              exact hqN 1 (tS L x (nx L x (tE L x st))) (by
                unfold cS
                rw [if_neg hexn]
                unfold smp
                simp only [rdN_3 (ok := oKey) hk0 hok0, rdN_1 (ok := (oIn 1 999)) hk1]) (by decide) (.ref (zB + 200 + 2)) (Or.inr ⟨_, rfl⟩) o1 u1 (hw1 4 (by decide)) (he1.fp hfc_0))
      · have hno0 := bI_0.mp czq129
        refine z_aload_n (j := 0) dX5_readCommand_132 rfl ?_
        refine z_iconst (v := 2) dX5_readCommand_133 (by decide) ?_
        refine z_kV [.int 2] 0 0 kc ks yoX5_fail yvX5_fail rfl (by decide) lX5_137 (by omega) gW_3 rfl rfl (Nat.le_of_ble_eq_true rfl) (Nat.le_of_ble_eq_true rfl) dX5_readCommand_134 (by omega) (by omega) (z_room (by omega) (Nat.le_refl _) (Nat.le_refl _) (w_fail (d := 0) (k := 2) hn q3_0 (fun of hef => ⟨rfl, ?_⟩)))
        skip
        skip
        refine z_iinc (1) [1, 2, 0] [(0, .ref 3), (1, .ref ((zB + 200 + 2))), (2, .int 1)] dX5_readCommand_137 (j := 2) rfl (by decide) (by decide) rfl ?_
        refine z_goto (tgt := 82) dX5_readCommand_140 (by decide) ?_
        refine z_iload_n (j := 2) dX5_readCommand_82 rfl ?_
        refine z_aload_n (j := 1) dX5_readCommand_83 rfl ?_
        refine z_getC (v := .int 3) (by decide +kernel) fX5_172 dX5_readCommand_84 ?_
        refine z_icmp_ge (tgt := 143) dX5_readCommand_87 (by decide) (fun czq87 => absurd czq87 (by decide)) (fun czq87 => ?_)
        refine z_iload_n (j := 2) dX5_readCommand_90 rfl ?_
        refine z_aload_n (j := 0) dX5_readCommand_91 rfl ?_
        refine z_get (v := .ref 10) (by omega) gW_3 fX5_18 rfl dX5_readCommand_92 ?_
        refine z_alen (by omega) gW_10 (by decide) rfl dX5_readCommand_95 ?_
        refine z_icmp_ge (tgt := 143) dX5_readCommand_96 (by decide) (fun czq96 => absurd czq96 (by decide)) (fun czq96 => ?_)
        refine z_aload_n (j := 0) dX5_readCommand_99 rfl ?_
        refine z_get (v := .int (of 2 10)) (by omega) gW_3 fX5_54 rfl dX5_readCommand_100 ?_
        refine z_if_ne (tgt := 143) dX5_readCommand_103 (by decide) (fun czq103 => ?_) (fun czq103 => absurd czq103 (er.ne (hef.fp hfc_0) (by decide) (by decide)))
        refine z_aload_n (j := 0) dX5_readCommand_143 rfl ?_
        refine z_iconst (v := 5) dX5_readCommand_144 (by decide) ?_
        refine z_kV [.int 5] 0 0 kc ks yoX5_expect yvX5_expect rfl (by decide) lX5_148 (by omega) gW_3 rfl rfl (Nat.le_of_ble_eq_true rfl) (Nat.le_of_ble_eq_true rfl) dX5_readCommand_145 (by omega) (by omega) (z_room (by omega) (Nat.le_refl _) (Nat.le_refl _) (w_expectE (d := 0) hn (er.ne (hef.fp hfc_0) (by decide) (by decide)) ⟨rfl, ?_⟩))
        refine z_aload_n (j := 0) dX5_readCommand_148 rfl ?_
        refine z_aload_n (j := 1) dX5_readCommand_149 rfl ?_
        refine g_putc (Nat.le_trans (Nat.le_add_right _ _) (Nat.le_add_right _ _)) (by omega) fX5_57 dX5_readCommand_150 ?_
        exact z_vret rfl dX5_readCommand_153 (by
            exact hqN 2 (tS L x (tE L x st)) (by
              unfold cS
              rw [if_neg hexn]
              unfold smp
              simp only [rdN_2 (ok := oKey) hk0 hno0]) (by decide) (.ref (zB + 200 + 2)) (Or.inr ⟨_, rfl⟩) of u0 (hw0 4 (by decide)) (hef.fp hfc_0))
    · refine g_ast 1 (by decide) rfl (by omega) (show vp_in (nI 0) 3 from vp_in_nI (by decide) (by decide)) dX5_readCommand_115 ?_
      obtain ⟨u0, eu0⟩ : ∃ u0, u0 = (va_up u 1 (va_up (u 1) (0 : Int32).toNatClampNeg (o0 1 5))) := ⟨_, rfl⟩
      rw [← eu0]
      have hu0 : ∀ i, i < L → u0 0 i = nI (x i) := fun i hi => by rw [eu0, up_ne (by decide)]; exact hu i hi
      have hv0_0 : u0 1 0 = (o0 1 5) := by rw [eu0, up_eq]; first | done | exact up_eq
      have hw0 : ∀ j, j ≠ 1 → u0 j = u j := fun j hj => by rw [eu0, up_ne hj]; first | done | exact (show ∀ j, j ≠ 1 → u j = u j from fun _ _ => rfl) j hj
      refine z_aload_n (j := 0) dX5_readCommand_116 rfl ?_
      refine z_get (v := .int (o0 2 10)) (by omega) gW_3 fX5_54 rfl dX5_readCommand_117 ?_
      refine z_if_ne (tgt := 137) dX5_readCommand_120 (by decide) (fun czq120 => ?_) (fun czq120 => absurd czq120 (er.ne (he0.fp fp.rf) (by decide) (by decide)))
      skip
      skip
      refine z_iinc (1) [1, 2, 0] [(0, .ref 3), (1, .ref ((zB + 200 + 2))), (2, .int 1)] dX5_readCommand_137 (j := 2) rfl (by decide) (by decide) rfl ?_
      refine z_goto (tgt := 82) dX5_readCommand_140 (by decide) ?_
      refine z_iload_n (j := 2) dX5_readCommand_82 rfl ?_
      refine z_aload_n (j := 1) dX5_readCommand_83 rfl ?_
      refine z_getC (v := .int 3) (by decide +kernel) fX5_172 dX5_readCommand_84 ?_
      refine z_icmp_ge (tgt := 143) dX5_readCommand_87 (by decide) (fun czq87 => absurd czq87 (by decide)) (fun czq87 => ?_)
      refine z_iload_n (j := 2) dX5_readCommand_90 rfl ?_
      refine z_aload_n (j := 0) dX5_readCommand_91 rfl ?_
      refine z_get (v := .ref 10) (by omega) gW_3 fX5_18 rfl dX5_readCommand_92 ?_
      refine z_alen (by omega) gW_10 (by decide) rfl dX5_readCommand_95 ?_
      refine z_icmp_ge (tgt := 143) dX5_readCommand_96 (by decide) (fun czq96 => absurd czq96 (by decide)) (fun czq96 => ?_)
      refine z_aload_n (j := 0) dX5_readCommand_99 rfl ?_
      refine z_get (v := .int (o0 2 10)) (by omega) gW_3 fX5_54 rfl dX5_readCommand_100 ?_
      refine z_if_ne (tgt := 143) dX5_readCommand_103 (by decide) (fun czq103 => ?_) (fun czq103 => absurd czq103 (er.ne (he0.fp fp.rf) (by decide) (by decide)))
      refine z_aload_n (j := 0) dX5_readCommand_143 rfl ?_
      refine z_iconst (v := 5) dX5_readCommand_144 (by decide) ?_
      refine z_kV [.int 5] 0 0 kc ks yoX5_expect yvX5_expect rfl (by decide) lX5_148 (by omega) gW_3 rfl rfl (Nat.le_of_ble_eq_true rfl) (Nat.le_of_ble_eq_true rfl) dX5_readCommand_145 (by omega) (by omega) (z_room (by omega) (Nat.le_refl _) (Nat.le_refl _) (w_expectE (d := 0) hn (er.ne (he0.fp fp.rf) (by decide) (by decide)) ⟨rfl, ?_⟩))
      refine z_aload_n (j := 0) dX5_readCommand_148 rfl ?_
      refine z_aload_n (j := 1) dX5_readCommand_149 rfl ?_
      refine g_putc (Nat.le_trans (Nat.le_add_right _ _) (Nat.le_add_right _ _)) (by omega) fX5_57 dX5_readCommand_150 ?_
      exact z_vret rfl dX5_readCommand_153 (by
          exact hqN 1 (tS L x (tE L x st)) (by
            unfold cS
            rw [if_neg hexn]
            unfold smp
            simp only [rdN_1 (ok := oKey) hk0]) (by decide) (.ref (zB + 200 + 2)) (Or.inr ⟨_, rfl⟩) o0 u0 (hw0 4 (by decide)) (he0.fp fp.rf))
  · have hex2 : ex = 200 := by
      have : ¬ ex < 200 := fun z => czq71 (nI_lt (b := 200) z (by decide))
      omega
    refine z_aload_n (j := 0) dX5_readCommand_74 rfl ?_
    refine z_iconst (v := 5) dX5_readCommand_75 (by decide) ?_
    refine z_kV [.int 5] 0 0 kc ks yoX5_fail yvX5_fail rfl (by decide) lX5_137 (by omega) gW_3 rfl rfl (Nat.le_of_ble_eq_true rfl) (Nat.le_of_ble_eq_true rfl) dX5_readCommand_76 (by omega) (by omega) (z_room (by omega) (Nat.le_refl _) (Nat.le_refl _) (w_fail (d := 0) (k := 5) hn h13 (fun o1 he => ⟨rfl, ?_⟩)))
    exact z_vret rfl dX5_readCommand_79 (hqN 5 st (by unfold cS; exact if_pos hex2) (by decide) cm (Or.inl rfl) o1 u rfl he)

set_option maxHeartbeats 4000000 in
set_option maxRecDepth 100000 in
theorem w_read3 {l : zL} {d kc ks n : Nat} {h : Nat → va_E} {cm : Value} {o u : Nat → Nat → Int32} {s : Nat → Nat → Int32} {a : Nat → Nat → Nat → Int32} {L : Nat} {x : Nat → Nat} {st ex : Nat} {S : zS} {Q : zQ} (hn : 89 ≤ n) (hL : L ≤ 600) (h11 : o 1 1 = nI L) (hu : ∀ i, i < L → u 0 i = nI (x i)) (hx : ∀ i, x i < 256) (hst : st ≤ L) (h12 : o 1 2 = nI (tE L x st)) (h13 : o 1 3 = nI st) (h14 : o 1 4 = nI (tKd L x st)) (h10 : o 2 10 = 0) (h6 : o 2 6 = nI ex) (hex : ex ≤ 200) (hT : cT S (s 0) (a 0)) (hw : wIs L x st 3 = true) (hqY : ∀ v0 ps, ps ≤ L → ¬ ex = 200 → smp L x 3 (tE L x st) S = fin L x ps (oRem S v0) → tKd L x (tS L x ps) = 5 → ∀ o' u', o' 1 2 = nI (nx L x ps) → o' 1 3 = nI (tS L x ps) → fp (fun j => 2 ≤ j) o o' → o' 1 1 = nI L → (sFind S v0).isSome = true → v0 ≤ 9999 → u' 1 0 = nI v0 → (∀ j, j ≠ 1 → u' j = u j) → Q (.inl none) n (gW h (.ref (zB + 200 + 3)) o' u' s a)) (hqN : ∀ k off, cS L x 3 st ex S = .inl (k, off) → (k ≠ 0 ∧ k < 10) → ∀ cm', (cm' = cm ∨ ∃ q, cm' = .ref q) → ∀ o' u', u' 4 = u 4 → er o o' k off → Q (.inl none) n (gW h cm' o' u' s a)) : Zj l mX5_readCommand (d + 5) kc ks 0 [(0, .ref 3)] [] n (gW h cm o u s a) Q := by
  refine z_null dX5_readCommand_0 ?_
  refine z_astore_nN [1, 0] [(0, .ref 3), (1, .null)] dX5_readCommand_1 (by decide) rfl ?_
  refine z_iconst (v := 0) dX5_readCommand_2 (by decide) ?_
  refine z_istore_n [1, 2, 0] [(0, .ref 3), (1, .null), (2, .int 0)] dX5_readCommand_3 (by decide) rfl ?_
  refine z_iload_n (j := 2) dX5_readCommand_4 rfl ?_
  refine z_getsN (v := .ref (zB + 300)) (host := "NeighbourHash") kZ_cm (List.mem_of_getElem? (i := 5) rfl) dX5_readCommand_5 ?_
  refine z_alenC (v := 10) kT_cm rfl dX5_readCommand_8 ?_
  refine z_icmp_ge (tgt := 54) dX5_readCommand_9 (by decide) (fun czq9 => absurd czq9 (by decide)) (fun czq9 => ?_)
  refine z_aload_nN (j := 1) dX5_readCommand_12 rfl ?_
  refine z_ifnonnullN dX5_readCommand_13 ?_
  refine z_getsN (v := .ref (zB + 300)) (host := "NeighbourHash") kZ_cm (List.mem_of_getElem? (i := 5) rfl) dX5_readCommand_16 ?_
  refine z_iload_n (j := 2) dX5_readCommand_19 rfl ?_
  refine z_aaldC kT_cm (show vp_in (nI 0) 10 from vp_in_nI (by decide) (by decide)) dX5_readCommand_20 ?_
  refine z_ifnull dX5_readCommand_21 ?_
  refine z_aload_n (j := 0) dX5_readCommand_24 rfl ?_
  refine z_get (v := .ref 1) (by omega) gW_3 fX5_32 rfl dX5_readCommand_25 ?_
  refine z_getsN (v := .ref (zB + 300)) (host := "NeighbourHash") kZ_cm (List.mem_of_getElem? (i := 5) rfl) dX5_readCommand_28 ?_
  refine z_iload_n (j := 2) dX5_readCommand_31 rfl ?_
  refine z_aaldC kT_cm (show vp_in (nI 0) 10 from vp_in_nI (by decide) (by decide)) dX5_readCommand_32 ?_
  refine z_getC (v := .ref (zB + 14 + 0)) (by decide +kernel) fX5_168 dX5_readCommand_33 ?_
  refine z_kV [.ref ((zB + 14 + 0))] 0 0 kc ks yoX3_isWord yvX3_isWord rfl (by decide) lX5_75 (by omega) gW_1 rfl rfl (Nat.le_of_ble_eq_true rfl) (Nat.le_of_ble_eq_true rfl) dX5_readCommand_36 (by omega) (by omega) (z_room (by omega) (Nat.le_refl _) (Nat.le_refl _) (w_isWord (d := 0) (w := 0) hn hL h11 hu hx (by decide) h12 h13 h14 hst ⟨rfl, ?_⟩))
  refine z_if_eq (tgt := 48) dX5_readCommand_39 (by decide) (fun czq39 => ?_) (fun czq39 => absurd (bI_f (fun z => absurd (wIs_one (L := L) (x := x) (st := st) (i := 0) (j := 3) (by decide) (by decide) z hw) (by decide))) czq39)
  skip
  refine z_iinc (1) [1, 2, 0] [(0, .ref 3), (1, .null), (2, .int 1)] dX5_readCommand_48 (j := 2) rfl (by decide) (by decide) rfl ?_
  refine z_goto (tgt := 4) dX5_readCommand_51 (by decide) ?_
  refine z_iload_n (j := 2) dX5_readCommand_4 rfl ?_
  refine z_getsN (v := .ref (zB + 300)) (host := "NeighbourHash") kZ_cm (List.mem_of_getElem? (i := 5) rfl) dX5_readCommand_5 ?_
  refine z_alenC (v := 10) kT_cm rfl dX5_readCommand_8 ?_
  refine z_icmp_ge (tgt := 54) dX5_readCommand_9 (by decide) (fun czq9 => absurd czq9 (by decide)) (fun czq9 => ?_)
  refine z_aload_nN (j := 1) dX5_readCommand_12 rfl ?_
  refine z_ifnonnullN dX5_readCommand_13 ?_
  refine z_getsN (v := .ref (zB + 300)) (host := "NeighbourHash") kZ_cm (List.mem_of_getElem? (i := 5) rfl) dX5_readCommand_16 ?_
  refine z_iload_n (j := 2) dX5_readCommand_19 rfl ?_
  refine z_aaldC kT_cm (show vp_in (nI 1) 10 from vp_in_nI (by decide) (by decide)) dX5_readCommand_20 ?_
  refine z_ifnull dX5_readCommand_21 ?_
  refine z_aload_n (j := 0) dX5_readCommand_24 rfl ?_
  refine z_get (v := .ref 1) (by omega) gW_3 fX5_32 rfl dX5_readCommand_25 ?_
  refine z_getsN (v := .ref (zB + 300)) (host := "NeighbourHash") kZ_cm (List.mem_of_getElem? (i := 5) rfl) dX5_readCommand_28 ?_
  refine z_iload_n (j := 2) dX5_readCommand_31 rfl ?_
  refine z_aaldC kT_cm (show vp_in (nI 1) 10 from vp_in_nI (by decide) (by decide)) dX5_readCommand_32 ?_
  refine z_getC (v := .ref (zB + 14 + 1)) (by decide +kernel) fX5_168 dX5_readCommand_33 ?_
  refine z_kV [.ref ((zB + 14 + 1))] 0 0 kc ks yoX3_isWord yvX3_isWord rfl (by decide) lX5_75 (by omega) gW_1 rfl rfl (Nat.le_of_ble_eq_true rfl) (Nat.le_of_ble_eq_true rfl) dX5_readCommand_36 (by omega) (by omega) (z_room (by omega) (Nat.le_refl _) (Nat.le_refl _) (w_isWord (d := 0) (w := 1) hn hL h11 hu hx (by decide) h12 h13 h14 hst ⟨rfl, ?_⟩))
  refine z_if_eq (tgt := 48) dX5_readCommand_39 (by decide) (fun czq39 => ?_) (fun czq39 => absurd (bI_f (fun z => absurd (wIs_one (L := L) (x := x) (st := st) (i := 1) (j := 3) (by decide) (by decide) z hw) (by decide))) czq39)
  skip
  refine z_iinc (2) [1, 2, 0] [(0, .ref 3), (1, .null), (2, .int 2)] dX5_readCommand_48 (j := 2) rfl (by decide) (by decide) rfl ?_
  refine z_goto (tgt := 4) dX5_readCommand_51 (by decide) ?_
  refine z_iload_n (j := 2) dX5_readCommand_4 rfl ?_
  refine z_getsN (v := .ref (zB + 300)) (host := "NeighbourHash") kZ_cm (List.mem_of_getElem? (i := 5) rfl) dX5_readCommand_5 ?_
  refine z_alenC (v := 10) kT_cm rfl dX5_readCommand_8 ?_
  refine z_icmp_ge (tgt := 54) dX5_readCommand_9 (by decide) (fun czq9 => absurd czq9 (by decide)) (fun czq9 => ?_)
  refine z_aload_nN (j := 1) dX5_readCommand_12 rfl ?_
  refine z_ifnonnullN dX5_readCommand_13 ?_
  refine z_getsN (v := .ref (zB + 300)) (host := "NeighbourHash") kZ_cm (List.mem_of_getElem? (i := 5) rfl) dX5_readCommand_16 ?_
  refine z_iload_n (j := 2) dX5_readCommand_19 rfl ?_
  refine z_aaldC kT_cm (show vp_in (nI 2) 10 from vp_in_nI (by decide) (by decide)) dX5_readCommand_20 ?_
  refine z_ifnull dX5_readCommand_21 ?_
  refine z_aload_n (j := 0) dX5_readCommand_24 rfl ?_
  refine z_get (v := .ref 1) (by omega) gW_3 fX5_32 rfl dX5_readCommand_25 ?_
  refine z_getsN (v := .ref (zB + 300)) (host := "NeighbourHash") kZ_cm (List.mem_of_getElem? (i := 5) rfl) dX5_readCommand_28 ?_
  refine z_iload_n (j := 2) dX5_readCommand_31 rfl ?_
  refine z_aaldC kT_cm (show vp_in (nI 2) 10 from vp_in_nI (by decide) (by decide)) dX5_readCommand_32 ?_
  refine z_getC (v := .ref (zB + 14 + 2)) (by decide +kernel) fX5_168 dX5_readCommand_33 ?_
  refine z_kV [.ref ((zB + 14 + 2))] 0 0 kc ks yoX3_isWord yvX3_isWord rfl (by decide) lX5_75 (by omega) gW_1 rfl rfl (Nat.le_of_ble_eq_true rfl) (Nat.le_of_ble_eq_true rfl) dX5_readCommand_36 (by omega) (by omega) (z_room (by omega) (Nat.le_refl _) (Nat.le_refl _) (w_isWord (d := 0) (w := 2) hn hL h11 hu hx (by decide) h12 h13 h14 hst ⟨rfl, ?_⟩))
  refine z_if_eq (tgt := 48) dX5_readCommand_39 (by decide) (fun czq39 => ?_) (fun czq39 => absurd (bI_f (fun z => absurd (wIs_one (L := L) (x := x) (st := st) (i := 2) (j := 3) (by decide) (by decide) z hw) (by decide))) czq39)
  skip
  refine z_iinc (3) [1, 2, 0] [(0, .ref 3), (1, .null), (2, .int 3)] dX5_readCommand_48 (j := 2) rfl (by decide) (by decide) rfl ?_
  refine z_goto (tgt := 4) dX5_readCommand_51 (by decide) ?_
  refine z_iload_n (j := 2) dX5_readCommand_4 rfl ?_
  refine z_getsN (v := .ref (zB + 300)) (host := "NeighbourHash") kZ_cm (List.mem_of_getElem? (i := 5) rfl) dX5_readCommand_5 ?_
  refine z_alenC (v := 10) kT_cm rfl dX5_readCommand_8 ?_
  refine z_icmp_ge (tgt := 54) dX5_readCommand_9 (by decide) (fun czq9 => absurd czq9 (by decide)) (fun czq9 => ?_)
  refine z_aload_nN (j := 1) dX5_readCommand_12 rfl ?_
  refine z_ifnonnullN dX5_readCommand_13 ?_
  refine z_getsN (v := .ref (zB + 300)) (host := "NeighbourHash") kZ_cm (List.mem_of_getElem? (i := 5) rfl) dX5_readCommand_16 ?_
  refine z_iload_n (j := 2) dX5_readCommand_19 rfl ?_
  refine z_aaldC kT_cm (show vp_in (nI 3) 10 from vp_in_nI (by decide) (by decide)) dX5_readCommand_20 ?_
  refine z_ifnull dX5_readCommand_21 ?_
  refine z_aload_n (j := 0) dX5_readCommand_24 rfl ?_
  refine z_get (v := .ref 1) (by omega) gW_3 fX5_32 rfl dX5_readCommand_25 ?_
  refine z_getsN (v := .ref (zB + 300)) (host := "NeighbourHash") kZ_cm (List.mem_of_getElem? (i := 5) rfl) dX5_readCommand_28 ?_
  refine z_iload_n (j := 2) dX5_readCommand_31 rfl ?_
  refine z_aaldC kT_cm (show vp_in (nI 3) 10 from vp_in_nI (by decide) (by decide)) dX5_readCommand_32 ?_
  refine z_getC (v := .ref (zB + 14 + 3)) (by decide +kernel) fX5_168 dX5_readCommand_33 ?_
  refine z_kV [.ref ((zB + 14 + 3))] 0 0 kc ks yoX3_isWord yvX3_isWord rfl (by decide) lX5_75 (by omega) gW_1 rfl rfl (Nat.le_of_ble_eq_true rfl) (Nat.le_of_ble_eq_true rfl) dX5_readCommand_36 (by omega) (by omega) (z_room (by omega) (Nat.le_refl _) (Nat.le_refl _) (w_isWord (d := 0) (w := 3) hn hL h11 hu hx (by decide) h12 h13 h14 hst ⟨rfl, ?_⟩))
  refine z_if_eq (tgt := 48) dX5_readCommand_39 (by decide) (fun czq39 => absurd czq39 (fun z => bI_0.mp z hw)) (fun czq39 => ?_)
  refine z_getsN (v := .ref (zB + 300)) (host := "NeighbourHash") kZ_cm (List.mem_of_getElem? (i := 5) rfl) dX5_readCommand_42 ?_
  refine z_iload_n (j := 2) dX5_readCommand_45 rfl ?_
  refine z_aaldC kT_cm (show vp_in (nI 3) 10 from vp_in_nI (by decide) (by decide)) dX5_readCommand_46 ?_
  refine z_astore_n [1, 0, 2] [(0, .ref 3), (1, .ref ((zB + 200 + 3))), (2, .int 3)] dX5_readCommand_47 (by decide) rfl ?_
  skip
  refine z_iinc (4) [1, 2, 0] [(0, .ref 3), (1, .ref ((zB + 200 + 3))), (2, .int 4)] dX5_readCommand_48 (j := 2) rfl (by decide) (by decide) rfl ?_
  refine z_goto (tgt := 4) dX5_readCommand_51 (by decide) ?_
  refine z_iload_n (j := 2) dX5_readCommand_4 rfl ?_
  refine z_getsN (v := .ref (zB + 300)) (host := "NeighbourHash") kZ_cm (List.mem_of_getElem? (i := 5) rfl) dX5_readCommand_5 ?_
  refine z_alenC (v := 10) kT_cm rfl dX5_readCommand_8 ?_
  refine z_icmp_ge (tgt := 54) dX5_readCommand_9 (by decide) (fun czq9 => absurd czq9 (by decide)) (fun czq9 => ?_)
  refine z_aload_n (j := 1) dX5_readCommand_12 rfl ?_
  refine z_ifnonnull (tgt := 54) dX5_readCommand_13 (by decide) ?_
  refine z_aload_n (j := 1) dX5_readCommand_54 rfl ?_
  refine z_ifnonnull (tgt := 64) dX5_readCommand_55 (by decide) ?_
  refine z_aload_n (j := 0) dX5_readCommand_64 rfl ?_
  refine z_get (v := .int (o 2 6)) (by omega) gW_3 fX5_44 rfl dX5_readCommand_65 ?_
  refine z_sipush (v := 200) dX5_readCommand_68 (by decide) ?_
  rw [show (o 2 6) = nI ex from h6]
  refine z_icmp_lt (tgt := 80) dX5_readCommand_71 (by decide) (fun czq71 => ?_) (fun czq71 => ?_)
  · have hexn : ¬ ex = 200 := fun z => absurd czq71 (by rw [z]; decide)
    refine z_iconst (v := 0) dX5_readCommand_80 (by decide) ?_
    refine z_istore_n [1, 2, 0] [(0, .ref 3), (1, .ref ((zB + 200 + 3))), (2, .int 0)] dX5_readCommand_81 (by decide) rfl ?_
    refine z_iload_n (j := 2) dX5_readCommand_82 rfl ?_
    refine z_aload_n (j := 1) dX5_readCommand_83 rfl ?_
    refine z_getC (v := .int 1) (by decide +kernel) fX5_172 dX5_readCommand_84 ?_
    refine z_icmp_ge (tgt := 143) dX5_readCommand_87 (by decide) (fun czq87 => absurd czq87 (by decide)) (fun czq87 => ?_)
    refine z_iload_n (j := 2) dX5_readCommand_90 rfl ?_
    refine z_aload_n (j := 0) dX5_readCommand_91 rfl ?_
    refine z_get (v := .ref 10) (by omega) gW_3 fX5_18 rfl dX5_readCommand_92 ?_
    refine z_alen (by omega) gW_10 (by decide) rfl dX5_readCommand_95 ?_
    refine z_icmp_ge (tgt := 143) dX5_readCommand_96 (by decide) (fun czq96 => absurd czq96 (by decide)) (fun czq96 => ?_)
    refine z_aload_n (j := 0) dX5_readCommand_99 rfl ?_
    refine z_get (v := .int (o 2 10)) (by omega) gW_3 fX5_54 rfl dX5_readCommand_100 ?_
    refine z_if_ne (tgt := 143) dX5_readCommand_103 (by decide) (fun czq103 => absurd czq103 (fun z => z h10)) (fun czq103 => ?_)
    refine z_aload_n (j := 0) dX5_readCommand_106 rfl ?_
    refine z_get (v := .ref 10) (by omega) gW_3 fX5_18 rfl dX5_readCommand_107 ?_
    refine z_iload_n (j := 2) dX5_readCommand_110 rfl ?_
    refine z_aload_n (j := 0) dX5_readCommand_111 rfl ?_
    refine z_kV [] 0 0 kc ks yoX5_readNumber yvX5_readNumber rfl (by decide) lX5_142 (by omega) gW_3 rfl rfl (Nat.le_of_ble_eq_true rfl) (Nat.le_of_ble_eq_true rfl) dX5_readCommand_112 (by omega) (by omega) (z_room (by omega) (Nat.le_refl _) (Nat.le_refl _) (w_readNumber (d := 0) hn hL h11 hu hx ((tE_le' hst).2) h12 h10 (fun hk0 o0 q2_0 q3_0 hf0 => ⟨rfl, ?_⟩) (fun hk0 o0 he0 => ⟨rfl, ?_⟩)))
    · have h11_0 : o0 1 1 = nI L := (hf0.2 1 (by decide)).trans h11
      have h10_0 : o0 2 10 = 0 := by rw [hf0.1 2 (by decide)]; exact h10
      have hfc_0 : fp (fun j => 2 ≤ j) o o0 := fp.rf.tr hf0
      have hV0 := tV_lt hk0
      refine g_ast 1 (by decide) rfl (by omega) (show vp_in (nI 0) 3 from vp_in_nI (by decide) (by decide)) dX5_readCommand_115 ?_
      obtain ⟨u0, eu0⟩ : ∃ u0, u0 = (va_up u 1 (va_up (u 1) (0 : Int32).toNatClampNeg (nI (tV L x (tS L x (tE L x st)))))) := ⟨_, rfl⟩
      rw [← eu0]
      have hu0 : ∀ i, i < L → u0 0 i = nI (x i) := fun i hi => by rw [eu0, up_ne (by decide)]; exact hu i hi
      have hv0_0 : u0 1 0 = (nI (tV L x (tS L x (tE L x st)))) := by rw [eu0, up_eq]; first | done | exact up_eq
      have hw0 : ∀ j, j ≠ 1 → u0 j = u j := fun j hj => by rw [eu0, up_ne hj]; first | done | exact (show ∀ j, j ≠ 1 → u j = u j from fun _ _ => rfl) j hj
      refine z_aload_n (j := 0) dX5_readCommand_116 rfl ?_
      refine z_get (v := .int (o0 2 10)) (by omega) gW_3 fX5_54 rfl dX5_readCommand_117 ?_
      refine z_if_ne (tgt := 137) dX5_readCommand_120 (by decide) (fun czq120 => absurd czq120 (fun z => z h10_0)) (fun czq120 => ?_)
      refine z_aload_n (j := 0) dX5_readCommand_123 rfl ?_
      refine z_aload_n (j := 1) dX5_readCommand_124 rfl ?_
      refine z_iload_n (j := 2) dX5_readCommand_125 rfl ?_
      refine z_kV [.ref ((zB + 200 + 3)), .int 0] 0 0 kc ks yoX5_fits yvX5_fits rfl (by decide) lX5_174 (by omega) gW_3 rfl rfl (Nat.le_of_ble_eq_true rfl) (Nat.le_of_ble_eq_true rfl) dX5_readCommand_126 (by omega) (by omega) (z_room (by omega) (Nat.le_refl _) (Nat.le_refl _) (w_fits3_0 (d := 0) (S := S) hn hv0_0 hV0 hT ⟨rfl, ?_⟩))
      refine z_if_ne (tgt := 137) dX5_readCommand_129 (by decide) (fun czq129 => ?_) (fun czq129 => ?_)
      · have hok0 := bI_n.mp czq129
        skip
        refine z_iinc (1) [1, 2, 0] [(0, .ref 3), (1, .ref ((zB + 200 + 3))), (2, .int 1)] dX5_readCommand_137 (j := 2) rfl (by decide) (by decide) rfl ?_
        refine z_goto (tgt := 82) dX5_readCommand_140 (by decide) ?_
        refine z_iload_n (j := 2) dX5_readCommand_82 rfl ?_
        refine z_aload_n (j := 1) dX5_readCommand_83 rfl ?_
        refine z_getC (v := .int 1) (by decide +kernel) fX5_172 dX5_readCommand_84 ?_
        refine z_icmp_ge (tgt := 143) dX5_readCommand_87 (by decide) (fun czq87 => ?_) (fun czq87 => absurd (by decide) czq87)
        refine z_aload_n (j := 0) dX5_readCommand_143 rfl ?_
        refine z_iconst (v := 5) dX5_readCommand_144 (by decide) ?_
        refine z_kV [.int 5] 0 0 kc ks yoX5_expect yvX5_expect rfl (by decide) lX5_148 (by omega) gW_3 rfl rfl (Nat.le_of_ble_eq_true rfl) (Nat.le_of_ble_eq_true rfl) dX5_readCommand_145 (by omega) (by omega) (z_room (by omega) (Nat.le_refl _) (Nat.le_refl _) (w_expect (d := 0) (k := 5) hn hL h11_0 hu0 hx ((nx_le ((tE_le' hst).2)).2) q2_0 h10_0 (by decide) (fun hk1 o1 q2_1 q3_1 q5_1 hf1 => ⟨rfl, ?_⟩) (fun hk1 o1 he1 => ⟨rfl, ?_⟩)))
        · have h11_1 : o1 1 1 = nI L := (hf1.2 1 (by decide)).trans h11_0
          have h10_1 : o1 2 10 = 0 := by rw [hf1.1 2 (by decide)]; exact h10_0
          have hfc_1 : fp (fun j => 2 ≤ j) o o1 := hfc_0.tr hf1
          refine z_aload_n (j := 0) dX5_readCommand_148 rfl ?_
          refine z_aload_n (j := 1) dX5_readCommand_149 rfl ?_
          refine g_putc (Nat.le_trans (Nat.le_add_right _ _) (Nat.le_add_right _ _)) (by omega) fX5_57 dX5_readCommand_150 ?_
          exact z_vret rfl dX5_readCommand_153 (by
              exact hqY (tV L x (tS L x (tE L x st))) (nx L x (tE L x st)) ((nx_le ((tE_le' hst).2)).2) hexn (by
                unfold smp
                simp only [rdN_3 (ok := (fun k => (sFind S k).isSome)) hk0 hok0]) hk1 _ _ q2_1 q3_1 hfc_1 h11_1 hok0 hV0 hv0_0 hw0)
        · refine z_aload_n (j := 0) dX5_readCommand_148 rfl ?_
          refine z_aload_n (j := 1) dX5_readCommand_149 rfl ?_
          refine g_putc (Nat.le_trans (Nat.le_add_right _ _) (Nat.le_add_right _ _)) (by omega) fX5_57 dX5_readCommand_150 ?_
          exact z_vret rfl dX5_readCommand_153 (by
              exact hqN 1 (tS L x (nx L x (tE L x st))) (by
                unfold cS
                rw [if_neg hexn]
                unfold smp
                simp only [rdN_3 (ok := (fun k => (sFind S k).isSome)) hk0 hok0, fin, rdT_1 hk1]) (by decide) (.ref (zB + 200 + 3)) (Or.inr ⟨_, rfl⟩) o1 u0 (hw0 4 (by decide)) (he1.fp hfc_0))
      · have hno0 := bI_0.mp czq129
        refine z_aload_n (j := 0) dX5_readCommand_132 rfl ?_
        refine z_iconst (v := 2) dX5_readCommand_133 (by decide) ?_
        refine z_kV [.int 2] 0 0 kc ks yoX5_fail yvX5_fail rfl (by decide) lX5_137 (by omega) gW_3 rfl rfl (Nat.le_of_ble_eq_true rfl) (Nat.le_of_ble_eq_true rfl) dX5_readCommand_134 (by omega) (by omega) (z_room (by omega) (Nat.le_refl _) (Nat.le_refl _) (w_fail (d := 0) (k := 2) hn q3_0 (fun of hef => ⟨rfl, ?_⟩)))
        skip
        skip
        refine z_iinc (1) [1, 2, 0] [(0, .ref 3), (1, .ref ((zB + 200 + 3))), (2, .int 1)] dX5_readCommand_137 (j := 2) rfl (by decide) (by decide) rfl ?_
        refine z_goto (tgt := 82) dX5_readCommand_140 (by decide) ?_
        refine z_iload_n (j := 2) dX5_readCommand_82 rfl ?_
        refine z_aload_n (j := 1) dX5_readCommand_83 rfl ?_
        refine z_getC (v := .int 1) (by decide +kernel) fX5_172 dX5_readCommand_84 ?_
        refine z_icmp_ge (tgt := 143) dX5_readCommand_87 (by decide) (fun czq87 => ?_) (fun czq87 => absurd (by decide) czq87)
        refine z_aload_n (j := 0) dX5_readCommand_143 rfl ?_
        refine z_iconst (v := 5) dX5_readCommand_144 (by decide) ?_
        refine z_kV [.int 5] 0 0 kc ks yoX5_expect yvX5_expect rfl (by decide) lX5_148 (by omega) gW_3 rfl rfl (Nat.le_of_ble_eq_true rfl) (Nat.le_of_ble_eq_true rfl) dX5_readCommand_145 (by omega) (by omega) (z_room (by omega) (Nat.le_refl _) (Nat.le_refl _) (w_expectE (d := 0) hn (er.ne (hef.fp hfc_0) (by decide) (by decide)) ⟨rfl, ?_⟩))
        refine z_aload_n (j := 0) dX5_readCommand_148 rfl ?_
        refine z_aload_n (j := 1) dX5_readCommand_149 rfl ?_
        refine g_putc (Nat.le_trans (Nat.le_add_right _ _) (Nat.le_add_right _ _)) (by omega) fX5_57 dX5_readCommand_150 ?_
        exact z_vret rfl dX5_readCommand_153 (by
            exact hqN 2 (tS L x (tE L x st)) (by
              unfold cS
              rw [if_neg hexn]
              unfold smp
              simp only [rdN_2 (ok := (fun k => (sFind S k).isSome)) hk0 hno0]) (by decide) (.ref (zB + 200 + 3)) (Or.inr ⟨_, rfl⟩) of u0 (hw0 4 (by decide)) (hef.fp hfc_0))
    · refine g_ast 1 (by decide) rfl (by omega) (show vp_in (nI 0) 3 from vp_in_nI (by decide) (by decide)) dX5_readCommand_115 ?_
      obtain ⟨u0, eu0⟩ : ∃ u0, u0 = (va_up u 1 (va_up (u 1) (0 : Int32).toNatClampNeg (o0 1 5))) := ⟨_, rfl⟩
      rw [← eu0]
      have hu0 : ∀ i, i < L → u0 0 i = nI (x i) := fun i hi => by rw [eu0, up_ne (by decide)]; exact hu i hi
      have hv0_0 : u0 1 0 = (o0 1 5) := by rw [eu0, up_eq]; first | done | exact up_eq
      have hw0 : ∀ j, j ≠ 1 → u0 j = u j := fun j hj => by rw [eu0, up_ne hj]; first | done | exact (show ∀ j, j ≠ 1 → u j = u j from fun _ _ => rfl) j hj
      refine z_aload_n (j := 0) dX5_readCommand_116 rfl ?_
      refine z_get (v := .int (o0 2 10)) (by omega) gW_3 fX5_54 rfl dX5_readCommand_117 ?_
      refine z_if_ne (tgt := 137) dX5_readCommand_120 (by decide) (fun czq120 => ?_) (fun czq120 => absurd czq120 (er.ne (he0.fp fp.rf) (by decide) (by decide)))
      skip
      skip
      refine z_iinc (1) [1, 2, 0] [(0, .ref 3), (1, .ref ((zB + 200 + 3))), (2, .int 1)] dX5_readCommand_137 (j := 2) rfl (by decide) (by decide) rfl ?_
      refine z_goto (tgt := 82) dX5_readCommand_140 (by decide) ?_
      refine z_iload_n (j := 2) dX5_readCommand_82 rfl ?_
      refine z_aload_n (j := 1) dX5_readCommand_83 rfl ?_
      refine z_getC (v := .int 1) (by decide +kernel) fX5_172 dX5_readCommand_84 ?_
      refine z_icmp_ge (tgt := 143) dX5_readCommand_87 (by decide) (fun czq87 => ?_) (fun czq87 => absurd (by decide) czq87)
      refine z_aload_n (j := 0) dX5_readCommand_143 rfl ?_
      refine z_iconst (v := 5) dX5_readCommand_144 (by decide) ?_
      refine z_kV [.int 5] 0 0 kc ks yoX5_expect yvX5_expect rfl (by decide) lX5_148 (by omega) gW_3 rfl rfl (Nat.le_of_ble_eq_true rfl) (Nat.le_of_ble_eq_true rfl) dX5_readCommand_145 (by omega) (by omega) (z_room (by omega) (Nat.le_refl _) (Nat.le_refl _) (w_expectE (d := 0) hn (er.ne (he0.fp fp.rf) (by decide) (by decide)) ⟨rfl, ?_⟩))
      refine z_aload_n (j := 0) dX5_readCommand_148 rfl ?_
      refine z_aload_n (j := 1) dX5_readCommand_149 rfl ?_
      refine g_putc (Nat.le_trans (Nat.le_add_right _ _) (Nat.le_add_right _ _)) (by omega) fX5_57 dX5_readCommand_150 ?_
      exact z_vret rfl dX5_readCommand_153 (by
          exact hqN 1 (tS L x (tE L x st)) (by
            unfold cS
            rw [if_neg hexn]
            unfold smp
            simp only [rdN_1 (ok := (fun k => (sFind S k).isSome)) hk0]) (by decide) (.ref (zB + 200 + 3)) (Or.inr ⟨_, rfl⟩) o0 u0 (hw0 4 (by decide)) (he0.fp fp.rf))
  · have hex2 : ex = 200 := by
      have : ¬ ex < 200 := fun z => czq71 (nI_lt (b := 200) z (by decide))
      omega
    refine z_aload_n (j := 0) dX5_readCommand_74 rfl ?_
    refine z_iconst (v := 5) dX5_readCommand_75 (by decide) ?_
    refine z_kV [.int 5] 0 0 kc ks yoX5_fail yvX5_fail rfl (by decide) lX5_137 (by omega) gW_3 rfl rfl (Nat.le_of_ble_eq_true rfl) (Nat.le_of_ble_eq_true rfl) dX5_readCommand_76 (by omega) (by omega) (z_room (by omega) (Nat.le_refl _) (Nat.le_refl _) (w_fail (d := 0) (k := 5) hn h13 (fun o1 he => ⟨rfl, ?_⟩)))
    exact z_vret rfl dX5_readCommand_79 (hqN 5 st (by unfold cS; exact if_pos hex2) (by decide) cm (Or.inl rfl) o1 u rfl he)

set_option maxHeartbeats 4000000 in
set_option maxRecDepth 100000 in
theorem w_read4 {l : zL} {d kc ks n : Nat} {h : Nat → va_E} {cm : Value} {o u : Nat → Nat → Int32} {s : Nat → Nat → Int32} {a : Nat → Nat → Nat → Int32} {L : Nat} {x : Nat → Nat} {st ex : Nat} {S : zS} {Q : zQ} (hn : 89 ≤ n) (hL : L ≤ 600) (h11 : o 1 1 = nI L) (hu : ∀ i, i < L → u 0 i = nI (x i)) (hx : ∀ i, x i < 256) (hst : st ≤ L) (h12 : o 1 2 = nI (tE L x st)) (h13 : o 1 3 = nI st) (h14 : o 1 4 = nI (tKd L x st)) (h10 : o 2 10 = 0) (h6 : o 2 6 = nI ex) (hex : ex ≤ 200) (hT : cT S (s 0) (a 0)) (hw : wIs L x st 4 = true) (hqY : ∀ v0 ps, ps ≤ L → ¬ ex = 200 → smp L x 4 (tE L x st) S = fin L x ps (sNear S v0) → tKd L x (tS L x ps) = 5 → ∀ o' u', o' 1 2 = nI (nx L x ps) → o' 1 3 = nI (tS L x ps) → fp (fun j => 2 ≤ j) o o' → o' 1 1 = nI L → (oIn 2 6) v0 = true → v0 ≤ 9999 → u' 1 0 = nI v0 → (∀ j, j ≠ 1 → u' j = u j) → Q (.inl none) n (gW h (.ref (zB + 200 + 4)) o' u' s a)) (hqN : ∀ k off, cS L x 4 st ex S = .inl (k, off) → (k ≠ 0 ∧ k < 10) → ∀ cm', (cm' = cm ∨ ∃ q, cm' = .ref q) → ∀ o' u', u' 4 = u 4 → er o o' k off → Q (.inl none) n (gW h cm' o' u' s a)) : Zj l mX5_readCommand (d + 5) kc ks 0 [(0, .ref 3)] [] n (gW h cm o u s a) Q := by
  refine z_null dX5_readCommand_0 ?_
  refine z_astore_nN [1, 0] [(0, .ref 3), (1, .null)] dX5_readCommand_1 (by decide) rfl ?_
  refine z_iconst (v := 0) dX5_readCommand_2 (by decide) ?_
  refine z_istore_n [1, 2, 0] [(0, .ref 3), (1, .null), (2, .int 0)] dX5_readCommand_3 (by decide) rfl ?_
  refine z_iload_n (j := 2) dX5_readCommand_4 rfl ?_
  refine z_getsN (v := .ref (zB + 300)) (host := "NeighbourHash") kZ_cm (List.mem_of_getElem? (i := 5) rfl) dX5_readCommand_5 ?_
  refine z_alenC (v := 10) kT_cm rfl dX5_readCommand_8 ?_
  refine z_icmp_ge (tgt := 54) dX5_readCommand_9 (by decide) (fun czq9 => absurd czq9 (by decide)) (fun czq9 => ?_)
  refine z_aload_nN (j := 1) dX5_readCommand_12 rfl ?_
  refine z_ifnonnullN dX5_readCommand_13 ?_
  refine z_getsN (v := .ref (zB + 300)) (host := "NeighbourHash") kZ_cm (List.mem_of_getElem? (i := 5) rfl) dX5_readCommand_16 ?_
  refine z_iload_n (j := 2) dX5_readCommand_19 rfl ?_
  refine z_aaldC kT_cm (show vp_in (nI 0) 10 from vp_in_nI (by decide) (by decide)) dX5_readCommand_20 ?_
  refine z_ifnull dX5_readCommand_21 ?_
  refine z_aload_n (j := 0) dX5_readCommand_24 rfl ?_
  refine z_get (v := .ref 1) (by omega) gW_3 fX5_32 rfl dX5_readCommand_25 ?_
  refine z_getsN (v := .ref (zB + 300)) (host := "NeighbourHash") kZ_cm (List.mem_of_getElem? (i := 5) rfl) dX5_readCommand_28 ?_
  refine z_iload_n (j := 2) dX5_readCommand_31 rfl ?_
  refine z_aaldC kT_cm (show vp_in (nI 0) 10 from vp_in_nI (by decide) (by decide)) dX5_readCommand_32 ?_
  refine z_getC (v := .ref (zB + 14 + 0)) (by decide +kernel) fX5_168 dX5_readCommand_33 ?_
  refine z_kV [.ref ((zB + 14 + 0))] 0 0 kc ks yoX3_isWord yvX3_isWord rfl (by decide) lX5_75 (by omega) gW_1 rfl rfl (Nat.le_of_ble_eq_true rfl) (Nat.le_of_ble_eq_true rfl) dX5_readCommand_36 (by omega) (by omega) (z_room (by omega) (Nat.le_refl _) (Nat.le_refl _) (w_isWord (d := 0) (w := 0) hn hL h11 hu hx (by decide) h12 h13 h14 hst ⟨rfl, ?_⟩))
  refine z_if_eq (tgt := 48) dX5_readCommand_39 (by decide) (fun czq39 => ?_) (fun czq39 => absurd (bI_f (fun z => absurd (wIs_one (L := L) (x := x) (st := st) (i := 0) (j := 4) (by decide) (by decide) z hw) (by decide))) czq39)
  skip
  refine z_iinc (1) [1, 2, 0] [(0, .ref 3), (1, .null), (2, .int 1)] dX5_readCommand_48 (j := 2) rfl (by decide) (by decide) rfl ?_
  refine z_goto (tgt := 4) dX5_readCommand_51 (by decide) ?_
  refine z_iload_n (j := 2) dX5_readCommand_4 rfl ?_
  refine z_getsN (v := .ref (zB + 300)) (host := "NeighbourHash") kZ_cm (List.mem_of_getElem? (i := 5) rfl) dX5_readCommand_5 ?_
  refine z_alenC (v := 10) kT_cm rfl dX5_readCommand_8 ?_
  refine z_icmp_ge (tgt := 54) dX5_readCommand_9 (by decide) (fun czq9 => absurd czq9 (by decide)) (fun czq9 => ?_)
  refine z_aload_nN (j := 1) dX5_readCommand_12 rfl ?_
  refine z_ifnonnullN dX5_readCommand_13 ?_
  refine z_getsN (v := .ref (zB + 300)) (host := "NeighbourHash") kZ_cm (List.mem_of_getElem? (i := 5) rfl) dX5_readCommand_16 ?_
  refine z_iload_n (j := 2) dX5_readCommand_19 rfl ?_
  refine z_aaldC kT_cm (show vp_in (nI 1) 10 from vp_in_nI (by decide) (by decide)) dX5_readCommand_20 ?_
  refine z_ifnull dX5_readCommand_21 ?_
  refine z_aload_n (j := 0) dX5_readCommand_24 rfl ?_
  refine z_get (v := .ref 1) (by omega) gW_3 fX5_32 rfl dX5_readCommand_25 ?_
  refine z_getsN (v := .ref (zB + 300)) (host := "NeighbourHash") kZ_cm (List.mem_of_getElem? (i := 5) rfl) dX5_readCommand_28 ?_
  refine z_iload_n (j := 2) dX5_readCommand_31 rfl ?_
  refine z_aaldC kT_cm (show vp_in (nI 1) 10 from vp_in_nI (by decide) (by decide)) dX5_readCommand_32 ?_
  refine z_getC (v := .ref (zB + 14 + 1)) (by decide +kernel) fX5_168 dX5_readCommand_33 ?_
  refine z_kV [.ref ((zB + 14 + 1))] 0 0 kc ks yoX3_isWord yvX3_isWord rfl (by decide) lX5_75 (by omega) gW_1 rfl rfl (Nat.le_of_ble_eq_true rfl) (Nat.le_of_ble_eq_true rfl) dX5_readCommand_36 (by omega) (by omega) (z_room (by omega) (Nat.le_refl _) (Nat.le_refl _) (w_isWord (d := 0) (w := 1) hn hL h11 hu hx (by decide) h12 h13 h14 hst ⟨rfl, ?_⟩))
  refine z_if_eq (tgt := 48) dX5_readCommand_39 (by decide) (fun czq39 => ?_) (fun czq39 => absurd (bI_f (fun z => absurd (wIs_one (L := L) (x := x) (st := st) (i := 1) (j := 4) (by decide) (by decide) z hw) (by decide))) czq39)
  skip
  refine z_iinc (2) [1, 2, 0] [(0, .ref 3), (1, .null), (2, .int 2)] dX5_readCommand_48 (j := 2) rfl (by decide) (by decide) rfl ?_
  refine z_goto (tgt := 4) dX5_readCommand_51 (by decide) ?_
  refine z_iload_n (j := 2) dX5_readCommand_4 rfl ?_
  refine z_getsN (v := .ref (zB + 300)) (host := "NeighbourHash") kZ_cm (List.mem_of_getElem? (i := 5) rfl) dX5_readCommand_5 ?_
  refine z_alenC (v := 10) kT_cm rfl dX5_readCommand_8 ?_
  refine z_icmp_ge (tgt := 54) dX5_readCommand_9 (by decide) (fun czq9 => absurd czq9 (by decide)) (fun czq9 => ?_)
  refine z_aload_nN (j := 1) dX5_readCommand_12 rfl ?_
  refine z_ifnonnullN dX5_readCommand_13 ?_
  refine z_getsN (v := .ref (zB + 300)) (host := "NeighbourHash") kZ_cm (List.mem_of_getElem? (i := 5) rfl) dX5_readCommand_16 ?_
  refine z_iload_n (j := 2) dX5_readCommand_19 rfl ?_
  refine z_aaldC kT_cm (show vp_in (nI 2) 10 from vp_in_nI (by decide) (by decide)) dX5_readCommand_20 ?_
  refine z_ifnull dX5_readCommand_21 ?_
  refine z_aload_n (j := 0) dX5_readCommand_24 rfl ?_
  refine z_get (v := .ref 1) (by omega) gW_3 fX5_32 rfl dX5_readCommand_25 ?_
  refine z_getsN (v := .ref (zB + 300)) (host := "NeighbourHash") kZ_cm (List.mem_of_getElem? (i := 5) rfl) dX5_readCommand_28 ?_
  refine z_iload_n (j := 2) dX5_readCommand_31 rfl ?_
  refine z_aaldC kT_cm (show vp_in (nI 2) 10 from vp_in_nI (by decide) (by decide)) dX5_readCommand_32 ?_
  refine z_getC (v := .ref (zB + 14 + 2)) (by decide +kernel) fX5_168 dX5_readCommand_33 ?_
  refine z_kV [.ref ((zB + 14 + 2))] 0 0 kc ks yoX3_isWord yvX3_isWord rfl (by decide) lX5_75 (by omega) gW_1 rfl rfl (Nat.le_of_ble_eq_true rfl) (Nat.le_of_ble_eq_true rfl) dX5_readCommand_36 (by omega) (by omega) (z_room (by omega) (Nat.le_refl _) (Nat.le_refl _) (w_isWord (d := 0) (w := 2) hn hL h11 hu hx (by decide) h12 h13 h14 hst ⟨rfl, ?_⟩))
  refine z_if_eq (tgt := 48) dX5_readCommand_39 (by decide) (fun czq39 => ?_) (fun czq39 => absurd (bI_f (fun z => absurd (wIs_one (L := L) (x := x) (st := st) (i := 2) (j := 4) (by decide) (by decide) z hw) (by decide))) czq39)
  skip
  refine z_iinc (3) [1, 2, 0] [(0, .ref 3), (1, .null), (2, .int 3)] dX5_readCommand_48 (j := 2) rfl (by decide) (by decide) rfl ?_
  refine z_goto (tgt := 4) dX5_readCommand_51 (by decide) ?_
  refine z_iload_n (j := 2) dX5_readCommand_4 rfl ?_
  refine z_getsN (v := .ref (zB + 300)) (host := "NeighbourHash") kZ_cm (List.mem_of_getElem? (i := 5) rfl) dX5_readCommand_5 ?_
  refine z_alenC (v := 10) kT_cm rfl dX5_readCommand_8 ?_
  refine z_icmp_ge (tgt := 54) dX5_readCommand_9 (by decide) (fun czq9 => absurd czq9 (by decide)) (fun czq9 => ?_)
  refine z_aload_nN (j := 1) dX5_readCommand_12 rfl ?_
  refine z_ifnonnullN dX5_readCommand_13 ?_
  refine z_getsN (v := .ref (zB + 300)) (host := "NeighbourHash") kZ_cm (List.mem_of_getElem? (i := 5) rfl) dX5_readCommand_16 ?_
  refine z_iload_n (j := 2) dX5_readCommand_19 rfl ?_
  refine z_aaldC kT_cm (show vp_in (nI 3) 10 from vp_in_nI (by decide) (by decide)) dX5_readCommand_20 ?_
  refine z_ifnull dX5_readCommand_21 ?_
  refine z_aload_n (j := 0) dX5_readCommand_24 rfl ?_
  refine z_get (v := .ref 1) (by omega) gW_3 fX5_32 rfl dX5_readCommand_25 ?_
  refine z_getsN (v := .ref (zB + 300)) (host := "NeighbourHash") kZ_cm (List.mem_of_getElem? (i := 5) rfl) dX5_readCommand_28 ?_
  refine z_iload_n (j := 2) dX5_readCommand_31 rfl ?_
  refine z_aaldC kT_cm (show vp_in (nI 3) 10 from vp_in_nI (by decide) (by decide)) dX5_readCommand_32 ?_
  refine z_getC (v := .ref (zB + 14 + 3)) (by decide +kernel) fX5_168 dX5_readCommand_33 ?_
  refine z_kV [.ref ((zB + 14 + 3))] 0 0 kc ks yoX3_isWord yvX3_isWord rfl (by decide) lX5_75 (by omega) gW_1 rfl rfl (Nat.le_of_ble_eq_true rfl) (Nat.le_of_ble_eq_true rfl) dX5_readCommand_36 (by omega) (by omega) (z_room (by omega) (Nat.le_refl _) (Nat.le_refl _) (w_isWord (d := 0) (w := 3) hn hL h11 hu hx (by decide) h12 h13 h14 hst ⟨rfl, ?_⟩))
  refine z_if_eq (tgt := 48) dX5_readCommand_39 (by decide) (fun czq39 => ?_) (fun czq39 => absurd (bI_f (fun z => absurd (wIs_one (L := L) (x := x) (st := st) (i := 3) (j := 4) (by decide) (by decide) z hw) (by decide))) czq39)
  skip
  refine z_iinc (4) [1, 2, 0] [(0, .ref 3), (1, .null), (2, .int 4)] dX5_readCommand_48 (j := 2) rfl (by decide) (by decide) rfl ?_
  refine z_goto (tgt := 4) dX5_readCommand_51 (by decide) ?_
  refine z_iload_n (j := 2) dX5_readCommand_4 rfl ?_
  refine z_getsN (v := .ref (zB + 300)) (host := "NeighbourHash") kZ_cm (List.mem_of_getElem? (i := 5) rfl) dX5_readCommand_5 ?_
  refine z_alenC (v := 10) kT_cm rfl dX5_readCommand_8 ?_
  refine z_icmp_ge (tgt := 54) dX5_readCommand_9 (by decide) (fun czq9 => absurd czq9 (by decide)) (fun czq9 => ?_)
  refine z_aload_nN (j := 1) dX5_readCommand_12 rfl ?_
  refine z_ifnonnullN dX5_readCommand_13 ?_
  refine z_getsN (v := .ref (zB + 300)) (host := "NeighbourHash") kZ_cm (List.mem_of_getElem? (i := 5) rfl) dX5_readCommand_16 ?_
  refine z_iload_n (j := 2) dX5_readCommand_19 rfl ?_
  refine z_aaldC kT_cm (show vp_in (nI 4) 10 from vp_in_nI (by decide) (by decide)) dX5_readCommand_20 ?_
  refine z_ifnull dX5_readCommand_21 ?_
  refine z_aload_n (j := 0) dX5_readCommand_24 rfl ?_
  refine z_get (v := .ref 1) (by omega) gW_3 fX5_32 rfl dX5_readCommand_25 ?_
  refine z_getsN (v := .ref (zB + 300)) (host := "NeighbourHash") kZ_cm (List.mem_of_getElem? (i := 5) rfl) dX5_readCommand_28 ?_
  refine z_iload_n (j := 2) dX5_readCommand_31 rfl ?_
  refine z_aaldC kT_cm (show vp_in (nI 4) 10 from vp_in_nI (by decide) (by decide)) dX5_readCommand_32 ?_
  refine z_getC (v := .ref (zB + 14 + 4)) (by decide +kernel) fX5_168 dX5_readCommand_33 ?_
  refine z_kV [.ref ((zB + 14 + 4))] 0 0 kc ks yoX3_isWord yvX3_isWord rfl (by decide) lX5_75 (by omega) gW_1 rfl rfl (Nat.le_of_ble_eq_true rfl) (Nat.le_of_ble_eq_true rfl) dX5_readCommand_36 (by omega) (by omega) (z_room (by omega) (Nat.le_refl _) (Nat.le_refl _) (w_isWord (d := 0) (w := 4) hn hL h11 hu hx (by decide) h12 h13 h14 hst ⟨rfl, ?_⟩))
  refine z_if_eq (tgt := 48) dX5_readCommand_39 (by decide) (fun czq39 => absurd czq39 (fun z => bI_0.mp z hw)) (fun czq39 => ?_)
  refine z_getsN (v := .ref (zB + 300)) (host := "NeighbourHash") kZ_cm (List.mem_of_getElem? (i := 5) rfl) dX5_readCommand_42 ?_
  refine z_iload_n (j := 2) dX5_readCommand_45 rfl ?_
  refine z_aaldC kT_cm (show vp_in (nI 4) 10 from vp_in_nI (by decide) (by decide)) dX5_readCommand_46 ?_
  refine z_astore_n [1, 0, 2] [(0, .ref 3), (1, .ref ((zB + 200 + 4))), (2, .int 4)] dX5_readCommand_47 (by decide) rfl ?_
  skip
  refine z_iinc (5) [1, 2, 0] [(0, .ref 3), (1, .ref ((zB + 200 + 4))), (2, .int 5)] dX5_readCommand_48 (j := 2) rfl (by decide) (by decide) rfl ?_
  refine z_goto (tgt := 4) dX5_readCommand_51 (by decide) ?_
  refine z_iload_n (j := 2) dX5_readCommand_4 rfl ?_
  refine z_getsN (v := .ref (zB + 300)) (host := "NeighbourHash") kZ_cm (List.mem_of_getElem? (i := 5) rfl) dX5_readCommand_5 ?_
  refine z_alenC (v := 10) kT_cm rfl dX5_readCommand_8 ?_
  refine z_icmp_ge (tgt := 54) dX5_readCommand_9 (by decide) (fun czq9 => absurd czq9 (by decide)) (fun czq9 => ?_)
  refine z_aload_n (j := 1) dX5_readCommand_12 rfl ?_
  refine z_ifnonnull (tgt := 54) dX5_readCommand_13 (by decide) ?_
  refine z_aload_n (j := 1) dX5_readCommand_54 rfl ?_
  refine z_ifnonnull (tgt := 64) dX5_readCommand_55 (by decide) ?_
  refine z_aload_n (j := 0) dX5_readCommand_64 rfl ?_
  refine z_get (v := .int (o 2 6)) (by omega) gW_3 fX5_44 rfl dX5_readCommand_65 ?_
  refine z_sipush (v := 200) dX5_readCommand_68 (by decide) ?_
  rw [show (o 2 6) = nI ex from h6]
  refine z_icmp_lt (tgt := 80) dX5_readCommand_71 (by decide) (fun czq71 => ?_) (fun czq71 => ?_)
  · have hexn : ¬ ex = 200 := fun z => absurd czq71 (by rw [z]; decide)
    refine z_iconst (v := 0) dX5_readCommand_80 (by decide) ?_
    refine z_istore_n [1, 2, 0] [(0, .ref 3), (1, .ref ((zB + 200 + 4))), (2, .int 0)] dX5_readCommand_81 (by decide) rfl ?_
    refine z_iload_n (j := 2) dX5_readCommand_82 rfl ?_
    refine z_aload_n (j := 1) dX5_readCommand_83 rfl ?_
    refine z_getC (v := .int 1) (by decide +kernel) fX5_172 dX5_readCommand_84 ?_
    refine z_icmp_ge (tgt := 143) dX5_readCommand_87 (by decide) (fun czq87 => absurd czq87 (by decide)) (fun czq87 => ?_)
    refine z_iload_n (j := 2) dX5_readCommand_90 rfl ?_
    refine z_aload_n (j := 0) dX5_readCommand_91 rfl ?_
    refine z_get (v := .ref 10) (by omega) gW_3 fX5_18 rfl dX5_readCommand_92 ?_
    refine z_alen (by omega) gW_10 (by decide) rfl dX5_readCommand_95 ?_
    refine z_icmp_ge (tgt := 143) dX5_readCommand_96 (by decide) (fun czq96 => absurd czq96 (by decide)) (fun czq96 => ?_)
    refine z_aload_n (j := 0) dX5_readCommand_99 rfl ?_
    refine z_get (v := .int (o 2 10)) (by omega) gW_3 fX5_54 rfl dX5_readCommand_100 ?_
    refine z_if_ne (tgt := 143) dX5_readCommand_103 (by decide) (fun czq103 => absurd czq103 (fun z => z h10)) (fun czq103 => ?_)
    refine z_aload_n (j := 0) dX5_readCommand_106 rfl ?_
    refine z_get (v := .ref 10) (by omega) gW_3 fX5_18 rfl dX5_readCommand_107 ?_
    refine z_iload_n (j := 2) dX5_readCommand_110 rfl ?_
    refine z_aload_n (j := 0) dX5_readCommand_111 rfl ?_
    refine z_kV [] 0 0 kc ks yoX5_readNumber yvX5_readNumber rfl (by decide) lX5_142 (by omega) gW_3 rfl rfl (Nat.le_of_ble_eq_true rfl) (Nat.le_of_ble_eq_true rfl) dX5_readCommand_112 (by omega) (by omega) (z_room (by omega) (Nat.le_refl _) (Nat.le_refl _) (w_readNumber (d := 0) hn hL h11 hu hx ((tE_le' hst).2) h12 h10 (fun hk0 o0 q2_0 q3_0 hf0 => ⟨rfl, ?_⟩) (fun hk0 o0 he0 => ⟨rfl, ?_⟩)))
    · have h11_0 : o0 1 1 = nI L := (hf0.2 1 (by decide)).trans h11
      have h10_0 : o0 2 10 = 0 := by rw [hf0.1 2 (by decide)]; exact h10
      have hfc_0 : fp (fun j => 2 ≤ j) o o0 := fp.rf.tr hf0
      have hV0 := tV_lt hk0
      refine g_ast 1 (by decide) rfl (by omega) (show vp_in (nI 0) 3 from vp_in_nI (by decide) (by decide)) dX5_readCommand_115 ?_
      obtain ⟨u0, eu0⟩ : ∃ u0, u0 = (va_up u 1 (va_up (u 1) (0 : Int32).toNatClampNeg (nI (tV L x (tS L x (tE L x st)))))) := ⟨_, rfl⟩
      rw [← eu0]
      have hu0 : ∀ i, i < L → u0 0 i = nI (x i) := fun i hi => by rw [eu0, up_ne (by decide)]; exact hu i hi
      have hv0_0 : u0 1 0 = (nI (tV L x (tS L x (tE L x st)))) := by rw [eu0, up_eq]; first | done | exact up_eq
      have hw0 : ∀ j, j ≠ 1 → u0 j = u j := fun j hj => by rw [eu0, up_ne hj]; first | done | exact (show ∀ j, j ≠ 1 → u j = u j from fun _ _ => rfl) j hj
      refine z_aload_n (j := 0) dX5_readCommand_116 rfl ?_
      refine z_get (v := .int (o0 2 10)) (by omega) gW_3 fX5_54 rfl dX5_readCommand_117 ?_
      refine z_if_ne (tgt := 137) dX5_readCommand_120 (by decide) (fun czq120 => absurd czq120 (fun z => z h10_0)) (fun czq120 => ?_)
      refine z_aload_n (j := 0) dX5_readCommand_123 rfl ?_
      refine z_aload_n (j := 1) dX5_readCommand_124 rfl ?_
      refine z_iload_n (j := 2) dX5_readCommand_125 rfl ?_
      refine z_kV [.ref ((zB + 200 + 4)), .int 0] 0 0 kc ks yoX5_fits yvX5_fits rfl (by decide) lX5_174 (by omega) gW_3 rfl rfl (Nat.le_of_ble_eq_true rfl) (Nat.le_of_ble_eq_true rfl) dX5_readCommand_126 (by omega) (by omega) (z_room (by omega) (Nat.le_refl _) (Nat.le_refl _) (w_fits4_0 (d := 0) (S := S) hn hv0_0 hV0 ⟨rfl, ?_⟩))
      refine z_if_ne (tgt := 137) dX5_readCommand_129 (by decide) (fun czq129 => ?_) (fun czq129 => ?_)
      · have hok0 := bI_n.mp czq129
        skip
        refine z_iinc (1) [1, 2, 0] [(0, .ref 3), (1, .ref ((zB + 200 + 4))), (2, .int 1)] dX5_readCommand_137 (j := 2) rfl (by decide) (by decide) rfl ?_
        refine z_goto (tgt := 82) dX5_readCommand_140 (by decide) ?_
        refine z_iload_n (j := 2) dX5_readCommand_82 rfl ?_
        refine z_aload_n (j := 1) dX5_readCommand_83 rfl ?_
        refine z_getC (v := .int 1) (by decide +kernel) fX5_172 dX5_readCommand_84 ?_
        refine z_icmp_ge (tgt := 143) dX5_readCommand_87 (by decide) (fun czq87 => ?_) (fun czq87 => absurd (by decide) czq87)
        refine z_aload_n (j := 0) dX5_readCommand_143 rfl ?_
        refine z_iconst (v := 5) dX5_readCommand_144 (by decide) ?_
        refine z_kV [.int 5] 0 0 kc ks yoX5_expect yvX5_expect rfl (by decide) lX5_148 (by omega) gW_3 rfl rfl (Nat.le_of_ble_eq_true rfl) (Nat.le_of_ble_eq_true rfl) dX5_readCommand_145 (by omega) (by omega) (z_room (by omega) (Nat.le_refl _) (Nat.le_refl _) (w_expect (d := 0) (k := 5) hn hL h11_0 hu0 hx ((nx_le ((tE_le' hst).2)).2) q2_0 h10_0 (by decide) (fun hk1 o1 q2_1 q3_1 q5_1 hf1 => ⟨rfl, ?_⟩) (fun hk1 o1 he1 => ⟨rfl, ?_⟩)))
        · have h11_1 : o1 1 1 = nI L := (hf1.2 1 (by decide)).trans h11_0
          have h10_1 : o1 2 10 = 0 := by rw [hf1.1 2 (by decide)]; exact h10_0
          have hfc_1 : fp (fun j => 2 ≤ j) o o1 := hfc_0.tr hf1
          refine z_aload_n (j := 0) dX5_readCommand_148 rfl ?_
          refine z_aload_n (j := 1) dX5_readCommand_149 rfl ?_
          refine g_putc (Nat.le_trans (Nat.le_add_right _ _) (Nat.le_add_right _ _)) (by omega) fX5_57 dX5_readCommand_150 ?_
          exact z_vret rfl dX5_readCommand_153 (by
              exact hqY (tV L x (tS L x (tE L x st))) (nx L x (tE L x st)) ((nx_le ((tE_le' hst).2)).2) hexn (by
                unfold smp
                simp only [rdN_3 (ok := (oIn 2 6)) hk0 hok0]) hk1 _ _ q2_1 q3_1 hfc_1 h11_1 hok0 hV0 hv0_0 hw0)
        · refine z_aload_n (j := 0) dX5_readCommand_148 rfl ?_
          refine z_aload_n (j := 1) dX5_readCommand_149 rfl ?_
          refine g_putc (Nat.le_trans (Nat.le_add_right _ _) (Nat.le_add_right _ _)) (by omega) fX5_57 dX5_readCommand_150 ?_
          exact z_vret rfl dX5_readCommand_153 (by
              exact hqN 1 (tS L x (nx L x (tE L x st))) (by
                unfold cS
                rw [if_neg hexn]
                unfold smp
                simp only [rdN_3 (ok := (oIn 2 6)) hk0 hok0, fin, rdT_1 hk1]) (by decide) (.ref (zB + 200 + 4)) (Or.inr ⟨_, rfl⟩) o1 u0 (hw0 4 (by decide)) (he1.fp hfc_0))
      · have hno0 := bI_0.mp czq129
        refine z_aload_n (j := 0) dX5_readCommand_132 rfl ?_
        refine z_iconst (v := 2) dX5_readCommand_133 (by decide) ?_
        refine z_kV [.int 2] 0 0 kc ks yoX5_fail yvX5_fail rfl (by decide) lX5_137 (by omega) gW_3 rfl rfl (Nat.le_of_ble_eq_true rfl) (Nat.le_of_ble_eq_true rfl) dX5_readCommand_134 (by omega) (by omega) (z_room (by omega) (Nat.le_refl _) (Nat.le_refl _) (w_fail (d := 0) (k := 2) hn q3_0 (fun of hef => ⟨rfl, ?_⟩)))
        skip
        skip
        refine z_iinc (1) [1, 2, 0] [(0, .ref 3), (1, .ref ((zB + 200 + 4))), (2, .int 1)] dX5_readCommand_137 (j := 2) rfl (by decide) (by decide) rfl ?_
        refine z_goto (tgt := 82) dX5_readCommand_140 (by decide) ?_
        refine z_iload_n (j := 2) dX5_readCommand_82 rfl ?_
        refine z_aload_n (j := 1) dX5_readCommand_83 rfl ?_
        refine z_getC (v := .int 1) (by decide +kernel) fX5_172 dX5_readCommand_84 ?_
        refine z_icmp_ge (tgt := 143) dX5_readCommand_87 (by decide) (fun czq87 => ?_) (fun czq87 => absurd (by decide) czq87)
        refine z_aload_n (j := 0) dX5_readCommand_143 rfl ?_
        refine z_iconst (v := 5) dX5_readCommand_144 (by decide) ?_
        refine z_kV [.int 5] 0 0 kc ks yoX5_expect yvX5_expect rfl (by decide) lX5_148 (by omega) gW_3 rfl rfl (Nat.le_of_ble_eq_true rfl) (Nat.le_of_ble_eq_true rfl) dX5_readCommand_145 (by omega) (by omega) (z_room (by omega) (Nat.le_refl _) (Nat.le_refl _) (w_expectE (d := 0) hn (er.ne (hef.fp hfc_0) (by decide) (by decide)) ⟨rfl, ?_⟩))
        refine z_aload_n (j := 0) dX5_readCommand_148 rfl ?_
        refine z_aload_n (j := 1) dX5_readCommand_149 rfl ?_
        refine g_putc (Nat.le_trans (Nat.le_add_right _ _) (Nat.le_add_right _ _)) (by omega) fX5_57 dX5_readCommand_150 ?_
        exact z_vret rfl dX5_readCommand_153 (by
            exact hqN 2 (tS L x (tE L x st)) (by
              unfold cS
              rw [if_neg hexn]
              unfold smp
              simp only [rdN_2 (ok := (oIn 2 6)) hk0 hno0]) (by decide) (.ref (zB + 200 + 4)) (Or.inr ⟨_, rfl⟩) of u0 (hw0 4 (by decide)) (hef.fp hfc_0))
    · refine g_ast 1 (by decide) rfl (by omega) (show vp_in (nI 0) 3 from vp_in_nI (by decide) (by decide)) dX5_readCommand_115 ?_
      obtain ⟨u0, eu0⟩ : ∃ u0, u0 = (va_up u 1 (va_up (u 1) (0 : Int32).toNatClampNeg (o0 1 5))) := ⟨_, rfl⟩
      rw [← eu0]
      have hu0 : ∀ i, i < L → u0 0 i = nI (x i) := fun i hi => by rw [eu0, up_ne (by decide)]; exact hu i hi
      have hv0_0 : u0 1 0 = (o0 1 5) := by rw [eu0, up_eq]; first | done | exact up_eq
      have hw0 : ∀ j, j ≠ 1 → u0 j = u j := fun j hj => by rw [eu0, up_ne hj]; first | done | exact (show ∀ j, j ≠ 1 → u j = u j from fun _ _ => rfl) j hj
      refine z_aload_n (j := 0) dX5_readCommand_116 rfl ?_
      refine z_get (v := .int (o0 2 10)) (by omega) gW_3 fX5_54 rfl dX5_readCommand_117 ?_
      refine z_if_ne (tgt := 137) dX5_readCommand_120 (by decide) (fun czq120 => ?_) (fun czq120 => absurd czq120 (er.ne (he0.fp fp.rf) (by decide) (by decide)))
      skip
      skip
      refine z_iinc (1) [1, 2, 0] [(0, .ref 3), (1, .ref ((zB + 200 + 4))), (2, .int 1)] dX5_readCommand_137 (j := 2) rfl (by decide) (by decide) rfl ?_
      refine z_goto (tgt := 82) dX5_readCommand_140 (by decide) ?_
      refine z_iload_n (j := 2) dX5_readCommand_82 rfl ?_
      refine z_aload_n (j := 1) dX5_readCommand_83 rfl ?_
      refine z_getC (v := .int 1) (by decide +kernel) fX5_172 dX5_readCommand_84 ?_
      refine z_icmp_ge (tgt := 143) dX5_readCommand_87 (by decide) (fun czq87 => ?_) (fun czq87 => absurd (by decide) czq87)
      refine z_aload_n (j := 0) dX5_readCommand_143 rfl ?_
      refine z_iconst (v := 5) dX5_readCommand_144 (by decide) ?_
      refine z_kV [.int 5] 0 0 kc ks yoX5_expect yvX5_expect rfl (by decide) lX5_148 (by omega) gW_3 rfl rfl (Nat.le_of_ble_eq_true rfl) (Nat.le_of_ble_eq_true rfl) dX5_readCommand_145 (by omega) (by omega) (z_room (by omega) (Nat.le_refl _) (Nat.le_refl _) (w_expectE (d := 0) hn (er.ne (he0.fp fp.rf) (by decide) (by decide)) ⟨rfl, ?_⟩))
      refine z_aload_n (j := 0) dX5_readCommand_148 rfl ?_
      refine z_aload_n (j := 1) dX5_readCommand_149 rfl ?_
      refine g_putc (Nat.le_trans (Nat.le_add_right _ _) (Nat.le_add_right _ _)) (by omega) fX5_57 dX5_readCommand_150 ?_
      exact z_vret rfl dX5_readCommand_153 (by
          exact hqN 1 (tS L x (tE L x st)) (by
            unfold cS
            rw [if_neg hexn]
            unfold smp
            simp only [rdN_1 (ok := (oIn 2 6)) hk0]) (by decide) (.ref (zB + 200 + 4)) (Or.inr ⟨_, rfl⟩) o0 u0 (hw0 4 (by decide)) (he0.fp fp.rf))
  · have hex2 : ex = 200 := by
      have : ¬ ex < 200 := fun z => czq71 (nI_lt (b := 200) z (by decide))
      omega
    refine z_aload_n (j := 0) dX5_readCommand_74 rfl ?_
    refine z_iconst (v := 5) dX5_readCommand_75 (by decide) ?_
    refine z_kV [.int 5] 0 0 kc ks yoX5_fail yvX5_fail rfl (by decide) lX5_137 (by omega) gW_3 rfl rfl (Nat.le_of_ble_eq_true rfl) (Nat.le_of_ble_eq_true rfl) dX5_readCommand_76 (by omega) (by omega) (z_room (by omega) (Nat.le_refl _) (Nat.le_refl _) (w_fail (d := 0) (k := 5) hn h13 (fun o1 he => ⟨rfl, ?_⟩)))
    exact z_vret rfl dX5_readCommand_79 (hqN 5 st (by unfold cS; exact if_pos hex2) (by decide) cm (Or.inl rfl) o1 u rfl he)

set_option maxHeartbeats 4000000 in
set_option maxRecDepth 100000 in
theorem w_read5 {l : zL} {d kc ks n : Nat} {h : Nat → va_E} {cm : Value} {o u : Nat → Nat → Int32} {s : Nat → Nat → Int32} {a : Nat → Nat → Nat → Int32} {L : Nat} {x : Nat → Nat} {st ex : Nat} {S : zS} {Q : zQ} (hn : 89 ≤ n) (hL : L ≤ 600) (h11 : o 1 1 = nI L) (hu : ∀ i, i < L → u 0 i = nI (x i)) (hx : ∀ i, x i < 256) (hst : st ≤ L) (h12 : o 1 2 = nI (tE L x st)) (h13 : o 1 3 = nI st) (h14 : o 1 4 = nI (tKd L x st)) (h10 : o 2 10 = 0) (h6 : o 2 6 = nI ex) (hex : ex ≤ 200) (hT : cT S (s 0) (a 0)) (hw : wIs L x st 5 = true) (hqY : ∀ v0 ps, ps ≤ L → ¬ ex = 200 → smp L x 5 (tE L x st) S = fin L x ps (sTimes S v0) → tKd L x (tS L x ps) = 5 → ∀ o' u', o' 1 2 = nI (nx L x ps) → o' 1 3 = nI (tS L x ps) → fp (fun j => 2 ≤ j) o o' → o' 1 1 = nI L → (oIn 1 99) v0 = true → v0 ≤ 9999 → u' 1 0 = nI v0 → (∀ j, j ≠ 1 → u' j = u j) → Q (.inl none) n (gW h (.ref (zB + 200 + 5)) o' u' s a)) (hqN : ∀ k off, cS L x 5 st ex S = .inl (k, off) → (k ≠ 0 ∧ k < 10) → ∀ cm', (cm' = cm ∨ ∃ q, cm' = .ref q) → ∀ o' u', u' 4 = u 4 → er o o' k off → Q (.inl none) n (gW h cm' o' u' s a)) : Zj l mX5_readCommand (d + 5) kc ks 0 [(0, .ref 3)] [] n (gW h cm o u s a) Q := by
  refine z_null dX5_readCommand_0 ?_
  refine z_astore_nN [1, 0] [(0, .ref 3), (1, .null)] dX5_readCommand_1 (by decide) rfl ?_
  refine z_iconst (v := 0) dX5_readCommand_2 (by decide) ?_
  refine z_istore_n [1, 2, 0] [(0, .ref 3), (1, .null), (2, .int 0)] dX5_readCommand_3 (by decide) rfl ?_
  refine z_iload_n (j := 2) dX5_readCommand_4 rfl ?_
  refine z_getsN (v := .ref (zB + 300)) (host := "NeighbourHash") kZ_cm (List.mem_of_getElem? (i := 5) rfl) dX5_readCommand_5 ?_
  refine z_alenC (v := 10) kT_cm rfl dX5_readCommand_8 ?_
  refine z_icmp_ge (tgt := 54) dX5_readCommand_9 (by decide) (fun czq9 => absurd czq9 (by decide)) (fun czq9 => ?_)
  refine z_aload_nN (j := 1) dX5_readCommand_12 rfl ?_
  refine z_ifnonnullN dX5_readCommand_13 ?_
  refine z_getsN (v := .ref (zB + 300)) (host := "NeighbourHash") kZ_cm (List.mem_of_getElem? (i := 5) rfl) dX5_readCommand_16 ?_
  refine z_iload_n (j := 2) dX5_readCommand_19 rfl ?_
  refine z_aaldC kT_cm (show vp_in (nI 0) 10 from vp_in_nI (by decide) (by decide)) dX5_readCommand_20 ?_
  refine z_ifnull dX5_readCommand_21 ?_
  refine z_aload_n (j := 0) dX5_readCommand_24 rfl ?_
  refine z_get (v := .ref 1) (by omega) gW_3 fX5_32 rfl dX5_readCommand_25 ?_
  refine z_getsN (v := .ref (zB + 300)) (host := "NeighbourHash") kZ_cm (List.mem_of_getElem? (i := 5) rfl) dX5_readCommand_28 ?_
  refine z_iload_n (j := 2) dX5_readCommand_31 rfl ?_
  refine z_aaldC kT_cm (show vp_in (nI 0) 10 from vp_in_nI (by decide) (by decide)) dX5_readCommand_32 ?_
  refine z_getC (v := .ref (zB + 14 + 0)) (by decide +kernel) fX5_168 dX5_readCommand_33 ?_
  refine z_kV [.ref ((zB + 14 + 0))] 0 0 kc ks yoX3_isWord yvX3_isWord rfl (by decide) lX5_75 (by omega) gW_1 rfl rfl (Nat.le_of_ble_eq_true rfl) (Nat.le_of_ble_eq_true rfl) dX5_readCommand_36 (by omega) (by omega) (z_room (by omega) (Nat.le_refl _) (Nat.le_refl _) (w_isWord (d := 0) (w := 0) hn hL h11 hu hx (by decide) h12 h13 h14 hst ⟨rfl, ?_⟩))
  refine z_if_eq (tgt := 48) dX5_readCommand_39 (by decide) (fun czq39 => ?_) (fun czq39 => absurd (bI_f (fun z => absurd (wIs_one (L := L) (x := x) (st := st) (i := 0) (j := 5) (by decide) (by decide) z hw) (by decide))) czq39)
  skip
  refine z_iinc (1) [1, 2, 0] [(0, .ref 3), (1, .null), (2, .int 1)] dX5_readCommand_48 (j := 2) rfl (by decide) (by decide) rfl ?_
  refine z_goto (tgt := 4) dX5_readCommand_51 (by decide) ?_
  refine z_iload_n (j := 2) dX5_readCommand_4 rfl ?_
  refine z_getsN (v := .ref (zB + 300)) (host := "NeighbourHash") kZ_cm (List.mem_of_getElem? (i := 5) rfl) dX5_readCommand_5 ?_
  refine z_alenC (v := 10) kT_cm rfl dX5_readCommand_8 ?_
  refine z_icmp_ge (tgt := 54) dX5_readCommand_9 (by decide) (fun czq9 => absurd czq9 (by decide)) (fun czq9 => ?_)
  refine z_aload_nN (j := 1) dX5_readCommand_12 rfl ?_
  refine z_ifnonnullN dX5_readCommand_13 ?_
  refine z_getsN (v := .ref (zB + 300)) (host := "NeighbourHash") kZ_cm (List.mem_of_getElem? (i := 5) rfl) dX5_readCommand_16 ?_
  refine z_iload_n (j := 2) dX5_readCommand_19 rfl ?_
  refine z_aaldC kT_cm (show vp_in (nI 1) 10 from vp_in_nI (by decide) (by decide)) dX5_readCommand_20 ?_
  refine z_ifnull dX5_readCommand_21 ?_
  refine z_aload_n (j := 0) dX5_readCommand_24 rfl ?_
  refine z_get (v := .ref 1) (by omega) gW_3 fX5_32 rfl dX5_readCommand_25 ?_
  refine z_getsN (v := .ref (zB + 300)) (host := "NeighbourHash") kZ_cm (List.mem_of_getElem? (i := 5) rfl) dX5_readCommand_28 ?_
  refine z_iload_n (j := 2) dX5_readCommand_31 rfl ?_
  refine z_aaldC kT_cm (show vp_in (nI 1) 10 from vp_in_nI (by decide) (by decide)) dX5_readCommand_32 ?_
  refine z_getC (v := .ref (zB + 14 + 1)) (by decide +kernel) fX5_168 dX5_readCommand_33 ?_
  refine z_kV [.ref ((zB + 14 + 1))] 0 0 kc ks yoX3_isWord yvX3_isWord rfl (by decide) lX5_75 (by omega) gW_1 rfl rfl (Nat.le_of_ble_eq_true rfl) (Nat.le_of_ble_eq_true rfl) dX5_readCommand_36 (by omega) (by omega) (z_room (by omega) (Nat.le_refl _) (Nat.le_refl _) (w_isWord (d := 0) (w := 1) hn hL h11 hu hx (by decide) h12 h13 h14 hst ⟨rfl, ?_⟩))
  refine z_if_eq (tgt := 48) dX5_readCommand_39 (by decide) (fun czq39 => ?_) (fun czq39 => absurd (bI_f (fun z => absurd (wIs_one (L := L) (x := x) (st := st) (i := 1) (j := 5) (by decide) (by decide) z hw) (by decide))) czq39)
  skip
  refine z_iinc (2) [1, 2, 0] [(0, .ref 3), (1, .null), (2, .int 2)] dX5_readCommand_48 (j := 2) rfl (by decide) (by decide) rfl ?_
  refine z_goto (tgt := 4) dX5_readCommand_51 (by decide) ?_
  refine z_iload_n (j := 2) dX5_readCommand_4 rfl ?_
  refine z_getsN (v := .ref (zB + 300)) (host := "NeighbourHash") kZ_cm (List.mem_of_getElem? (i := 5) rfl) dX5_readCommand_5 ?_
  refine z_alenC (v := 10) kT_cm rfl dX5_readCommand_8 ?_
  refine z_icmp_ge (tgt := 54) dX5_readCommand_9 (by decide) (fun czq9 => absurd czq9 (by decide)) (fun czq9 => ?_)
  refine z_aload_nN (j := 1) dX5_readCommand_12 rfl ?_
  refine z_ifnonnullN dX5_readCommand_13 ?_
  refine z_getsN (v := .ref (zB + 300)) (host := "NeighbourHash") kZ_cm (List.mem_of_getElem? (i := 5) rfl) dX5_readCommand_16 ?_
  refine z_iload_n (j := 2) dX5_readCommand_19 rfl ?_
  refine z_aaldC kT_cm (show vp_in (nI 2) 10 from vp_in_nI (by decide) (by decide)) dX5_readCommand_20 ?_
  refine z_ifnull dX5_readCommand_21 ?_
  refine z_aload_n (j := 0) dX5_readCommand_24 rfl ?_
  refine z_get (v := .ref 1) (by omega) gW_3 fX5_32 rfl dX5_readCommand_25 ?_
  refine z_getsN (v := .ref (zB + 300)) (host := "NeighbourHash") kZ_cm (List.mem_of_getElem? (i := 5) rfl) dX5_readCommand_28 ?_
  refine z_iload_n (j := 2) dX5_readCommand_31 rfl ?_
  refine z_aaldC kT_cm (show vp_in (nI 2) 10 from vp_in_nI (by decide) (by decide)) dX5_readCommand_32 ?_
  refine z_getC (v := .ref (zB + 14 + 2)) (by decide +kernel) fX5_168 dX5_readCommand_33 ?_
  refine z_kV [.ref ((zB + 14 + 2))] 0 0 kc ks yoX3_isWord yvX3_isWord rfl (by decide) lX5_75 (by omega) gW_1 rfl rfl (Nat.le_of_ble_eq_true rfl) (Nat.le_of_ble_eq_true rfl) dX5_readCommand_36 (by omega) (by omega) (z_room (by omega) (Nat.le_refl _) (Nat.le_refl _) (w_isWord (d := 0) (w := 2) hn hL h11 hu hx (by decide) h12 h13 h14 hst ⟨rfl, ?_⟩))
  refine z_if_eq (tgt := 48) dX5_readCommand_39 (by decide) (fun czq39 => ?_) (fun czq39 => absurd (bI_f (fun z => absurd (wIs_one (L := L) (x := x) (st := st) (i := 2) (j := 5) (by decide) (by decide) z hw) (by decide))) czq39)
  skip
  refine z_iinc (3) [1, 2, 0] [(0, .ref 3), (1, .null), (2, .int 3)] dX5_readCommand_48 (j := 2) rfl (by decide) (by decide) rfl ?_
  refine z_goto (tgt := 4) dX5_readCommand_51 (by decide) ?_
  refine z_iload_n (j := 2) dX5_readCommand_4 rfl ?_
  refine z_getsN (v := .ref (zB + 300)) (host := "NeighbourHash") kZ_cm (List.mem_of_getElem? (i := 5) rfl) dX5_readCommand_5 ?_
  refine z_alenC (v := 10) kT_cm rfl dX5_readCommand_8 ?_
  refine z_icmp_ge (tgt := 54) dX5_readCommand_9 (by decide) (fun czq9 => absurd czq9 (by decide)) (fun czq9 => ?_)
  refine z_aload_nN (j := 1) dX5_readCommand_12 rfl ?_
  refine z_ifnonnullN dX5_readCommand_13 ?_
  refine z_getsN (v := .ref (zB + 300)) (host := "NeighbourHash") kZ_cm (List.mem_of_getElem? (i := 5) rfl) dX5_readCommand_16 ?_
  refine z_iload_n (j := 2) dX5_readCommand_19 rfl ?_
  refine z_aaldC kT_cm (show vp_in (nI 3) 10 from vp_in_nI (by decide) (by decide)) dX5_readCommand_20 ?_
  refine z_ifnull dX5_readCommand_21 ?_
  refine z_aload_n (j := 0) dX5_readCommand_24 rfl ?_
  refine z_get (v := .ref 1) (by omega) gW_3 fX5_32 rfl dX5_readCommand_25 ?_
  refine z_getsN (v := .ref (zB + 300)) (host := "NeighbourHash") kZ_cm (List.mem_of_getElem? (i := 5) rfl) dX5_readCommand_28 ?_
  refine z_iload_n (j := 2) dX5_readCommand_31 rfl ?_
  refine z_aaldC kT_cm (show vp_in (nI 3) 10 from vp_in_nI (by decide) (by decide)) dX5_readCommand_32 ?_
  refine z_getC (v := .ref (zB + 14 + 3)) (by decide +kernel) fX5_168 dX5_readCommand_33 ?_
  refine z_kV [.ref ((zB + 14 + 3))] 0 0 kc ks yoX3_isWord yvX3_isWord rfl (by decide) lX5_75 (by omega) gW_1 rfl rfl (Nat.le_of_ble_eq_true rfl) (Nat.le_of_ble_eq_true rfl) dX5_readCommand_36 (by omega) (by omega) (z_room (by omega) (Nat.le_refl _) (Nat.le_refl _) (w_isWord (d := 0) (w := 3) hn hL h11 hu hx (by decide) h12 h13 h14 hst ⟨rfl, ?_⟩))
  refine z_if_eq (tgt := 48) dX5_readCommand_39 (by decide) (fun czq39 => ?_) (fun czq39 => absurd (bI_f (fun z => absurd (wIs_one (L := L) (x := x) (st := st) (i := 3) (j := 5) (by decide) (by decide) z hw) (by decide))) czq39)
  skip
  refine z_iinc (4) [1, 2, 0] [(0, .ref 3), (1, .null), (2, .int 4)] dX5_readCommand_48 (j := 2) rfl (by decide) (by decide) rfl ?_
  refine z_goto (tgt := 4) dX5_readCommand_51 (by decide) ?_
  refine z_iload_n (j := 2) dX5_readCommand_4 rfl ?_
  refine z_getsN (v := .ref (zB + 300)) (host := "NeighbourHash") kZ_cm (List.mem_of_getElem? (i := 5) rfl) dX5_readCommand_5 ?_
  refine z_alenC (v := 10) kT_cm rfl dX5_readCommand_8 ?_
  refine z_icmp_ge (tgt := 54) dX5_readCommand_9 (by decide) (fun czq9 => absurd czq9 (by decide)) (fun czq9 => ?_)
  refine z_aload_nN (j := 1) dX5_readCommand_12 rfl ?_
  refine z_ifnonnullN dX5_readCommand_13 ?_
  refine z_getsN (v := .ref (zB + 300)) (host := "NeighbourHash") kZ_cm (List.mem_of_getElem? (i := 5) rfl) dX5_readCommand_16 ?_
  refine z_iload_n (j := 2) dX5_readCommand_19 rfl ?_
  refine z_aaldC kT_cm (show vp_in (nI 4) 10 from vp_in_nI (by decide) (by decide)) dX5_readCommand_20 ?_
  refine z_ifnull dX5_readCommand_21 ?_
  refine z_aload_n (j := 0) dX5_readCommand_24 rfl ?_
  refine z_get (v := .ref 1) (by omega) gW_3 fX5_32 rfl dX5_readCommand_25 ?_
  refine z_getsN (v := .ref (zB + 300)) (host := "NeighbourHash") kZ_cm (List.mem_of_getElem? (i := 5) rfl) dX5_readCommand_28 ?_
  refine z_iload_n (j := 2) dX5_readCommand_31 rfl ?_
  refine z_aaldC kT_cm (show vp_in (nI 4) 10 from vp_in_nI (by decide) (by decide)) dX5_readCommand_32 ?_
  refine z_getC (v := .ref (zB + 14 + 4)) (by decide +kernel) fX5_168 dX5_readCommand_33 ?_
  refine z_kV [.ref ((zB + 14 + 4))] 0 0 kc ks yoX3_isWord yvX3_isWord rfl (by decide) lX5_75 (by omega) gW_1 rfl rfl (Nat.le_of_ble_eq_true rfl) (Nat.le_of_ble_eq_true rfl) dX5_readCommand_36 (by omega) (by omega) (z_room (by omega) (Nat.le_refl _) (Nat.le_refl _) (w_isWord (d := 0) (w := 4) hn hL h11 hu hx (by decide) h12 h13 h14 hst ⟨rfl, ?_⟩))
  refine z_if_eq (tgt := 48) dX5_readCommand_39 (by decide) (fun czq39 => ?_) (fun czq39 => absurd (bI_f (fun z => absurd (wIs_one (L := L) (x := x) (st := st) (i := 4) (j := 5) (by decide) (by decide) z hw) (by decide))) czq39)
  skip
  refine z_iinc (5) [1, 2, 0] [(0, .ref 3), (1, .null), (2, .int 5)] dX5_readCommand_48 (j := 2) rfl (by decide) (by decide) rfl ?_
  refine z_goto (tgt := 4) dX5_readCommand_51 (by decide) ?_
  refine z_iload_n (j := 2) dX5_readCommand_4 rfl ?_
  refine z_getsN (v := .ref (zB + 300)) (host := "NeighbourHash") kZ_cm (List.mem_of_getElem? (i := 5) rfl) dX5_readCommand_5 ?_
  refine z_alenC (v := 10) kT_cm rfl dX5_readCommand_8 ?_
  refine z_icmp_ge (tgt := 54) dX5_readCommand_9 (by decide) (fun czq9 => absurd czq9 (by decide)) (fun czq9 => ?_)
  refine z_aload_nN (j := 1) dX5_readCommand_12 rfl ?_
  refine z_ifnonnullN dX5_readCommand_13 ?_
  refine z_getsN (v := .ref (zB + 300)) (host := "NeighbourHash") kZ_cm (List.mem_of_getElem? (i := 5) rfl) dX5_readCommand_16 ?_
  refine z_iload_n (j := 2) dX5_readCommand_19 rfl ?_
  refine z_aaldC kT_cm (show vp_in (nI 5) 10 from vp_in_nI (by decide) (by decide)) dX5_readCommand_20 ?_
  refine z_ifnull dX5_readCommand_21 ?_
  refine z_aload_n (j := 0) dX5_readCommand_24 rfl ?_
  refine z_get (v := .ref 1) (by omega) gW_3 fX5_32 rfl dX5_readCommand_25 ?_
  refine z_getsN (v := .ref (zB + 300)) (host := "NeighbourHash") kZ_cm (List.mem_of_getElem? (i := 5) rfl) dX5_readCommand_28 ?_
  refine z_iload_n (j := 2) dX5_readCommand_31 rfl ?_
  refine z_aaldC kT_cm (show vp_in (nI 5) 10 from vp_in_nI (by decide) (by decide)) dX5_readCommand_32 ?_
  refine z_getC (v := .ref (zB + 14 + 5)) (by decide +kernel) fX5_168 dX5_readCommand_33 ?_
  refine z_kV [.ref ((zB + 14 + 5))] 0 0 kc ks yoX3_isWord yvX3_isWord rfl (by decide) lX5_75 (by omega) gW_1 rfl rfl (Nat.le_of_ble_eq_true rfl) (Nat.le_of_ble_eq_true rfl) dX5_readCommand_36 (by omega) (by omega) (z_room (by omega) (Nat.le_refl _) (Nat.le_refl _) (w_isWord (d := 0) (w := 5) hn hL h11 hu hx (by decide) h12 h13 h14 hst ⟨rfl, ?_⟩))
  refine z_if_eq (tgt := 48) dX5_readCommand_39 (by decide) (fun czq39 => absurd czq39 (fun z => bI_0.mp z hw)) (fun czq39 => ?_)
  refine z_getsN (v := .ref (zB + 300)) (host := "NeighbourHash") kZ_cm (List.mem_of_getElem? (i := 5) rfl) dX5_readCommand_42 ?_
  refine z_iload_n (j := 2) dX5_readCommand_45 rfl ?_
  refine z_aaldC kT_cm (show vp_in (nI 5) 10 from vp_in_nI (by decide) (by decide)) dX5_readCommand_46 ?_
  refine z_astore_n [1, 0, 2] [(0, .ref 3), (1, .ref ((zB + 200 + 5))), (2, .int 5)] dX5_readCommand_47 (by decide) rfl ?_
  skip
  refine z_iinc (6) [1, 2, 0] [(0, .ref 3), (1, .ref ((zB + 200 + 5))), (2, .int 6)] dX5_readCommand_48 (j := 2) rfl (by decide) (by decide) rfl ?_
  refine z_goto (tgt := 4) dX5_readCommand_51 (by decide) ?_
  refine z_iload_n (j := 2) dX5_readCommand_4 rfl ?_
  refine z_getsN (v := .ref (zB + 300)) (host := "NeighbourHash") kZ_cm (List.mem_of_getElem? (i := 5) rfl) dX5_readCommand_5 ?_
  refine z_alenC (v := 10) kT_cm rfl dX5_readCommand_8 ?_
  refine z_icmp_ge (tgt := 54) dX5_readCommand_9 (by decide) (fun czq9 => absurd czq9 (by decide)) (fun czq9 => ?_)
  refine z_aload_n (j := 1) dX5_readCommand_12 rfl ?_
  refine z_ifnonnull (tgt := 54) dX5_readCommand_13 (by decide) ?_
  refine z_aload_n (j := 1) dX5_readCommand_54 rfl ?_
  refine z_ifnonnull (tgt := 64) dX5_readCommand_55 (by decide) ?_
  refine z_aload_n (j := 0) dX5_readCommand_64 rfl ?_
  refine z_get (v := .int (o 2 6)) (by omega) gW_3 fX5_44 rfl dX5_readCommand_65 ?_
  refine z_sipush (v := 200) dX5_readCommand_68 (by decide) ?_
  rw [show (o 2 6) = nI ex from h6]
  refine z_icmp_lt (tgt := 80) dX5_readCommand_71 (by decide) (fun czq71 => ?_) (fun czq71 => ?_)
  · have hexn : ¬ ex = 200 := fun z => absurd czq71 (by rw [z]; decide)
    refine z_iconst (v := 0) dX5_readCommand_80 (by decide) ?_
    refine z_istore_n [1, 2, 0] [(0, .ref 3), (1, .ref ((zB + 200 + 5))), (2, .int 0)] dX5_readCommand_81 (by decide) rfl ?_
    refine z_iload_n (j := 2) dX5_readCommand_82 rfl ?_
    refine z_aload_n (j := 1) dX5_readCommand_83 rfl ?_
    refine z_getC (v := .int 1) (by decide +kernel) fX5_172 dX5_readCommand_84 ?_
    refine z_icmp_ge (tgt := 143) dX5_readCommand_87 (by decide) (fun czq87 => absurd czq87 (by decide)) (fun czq87 => ?_)
    refine z_iload_n (j := 2) dX5_readCommand_90 rfl ?_
    refine z_aload_n (j := 0) dX5_readCommand_91 rfl ?_
    refine z_get (v := .ref 10) (by omega) gW_3 fX5_18 rfl dX5_readCommand_92 ?_
    refine z_alen (by omega) gW_10 (by decide) rfl dX5_readCommand_95 ?_
    refine z_icmp_ge (tgt := 143) dX5_readCommand_96 (by decide) (fun czq96 => absurd czq96 (by decide)) (fun czq96 => ?_)
    refine z_aload_n (j := 0) dX5_readCommand_99 rfl ?_
    refine z_get (v := .int (o 2 10)) (by omega) gW_3 fX5_54 rfl dX5_readCommand_100 ?_
    refine z_if_ne (tgt := 143) dX5_readCommand_103 (by decide) (fun czq103 => absurd czq103 (fun z => z h10)) (fun czq103 => ?_)
    refine z_aload_n (j := 0) dX5_readCommand_106 rfl ?_
    refine z_get (v := .ref 10) (by omega) gW_3 fX5_18 rfl dX5_readCommand_107 ?_
    refine z_iload_n (j := 2) dX5_readCommand_110 rfl ?_
    refine z_aload_n (j := 0) dX5_readCommand_111 rfl ?_
    refine z_kV [] 0 0 kc ks yoX5_readNumber yvX5_readNumber rfl (by decide) lX5_142 (by omega) gW_3 rfl rfl (Nat.le_of_ble_eq_true rfl) (Nat.le_of_ble_eq_true rfl) dX5_readCommand_112 (by omega) (by omega) (z_room (by omega) (Nat.le_refl _) (Nat.le_refl _) (w_readNumber (d := 0) hn hL h11 hu hx ((tE_le' hst).2) h12 h10 (fun hk0 o0 q2_0 q3_0 hf0 => ⟨rfl, ?_⟩) (fun hk0 o0 he0 => ⟨rfl, ?_⟩)))
    · have h11_0 : o0 1 1 = nI L := (hf0.2 1 (by decide)).trans h11
      have h10_0 : o0 2 10 = 0 := by rw [hf0.1 2 (by decide)]; exact h10
      have hfc_0 : fp (fun j => 2 ≤ j) o o0 := fp.rf.tr hf0
      have hV0 := tV_lt hk0
      refine g_ast 1 (by decide) rfl (by omega) (show vp_in (nI 0) 3 from vp_in_nI (by decide) (by decide)) dX5_readCommand_115 ?_
      obtain ⟨u0, eu0⟩ : ∃ u0, u0 = (va_up u 1 (va_up (u 1) (0 : Int32).toNatClampNeg (nI (tV L x (tS L x (tE L x st)))))) := ⟨_, rfl⟩
      rw [← eu0]
      have hu0 : ∀ i, i < L → u0 0 i = nI (x i) := fun i hi => by rw [eu0, up_ne (by decide)]; exact hu i hi
      have hv0_0 : u0 1 0 = (nI (tV L x (tS L x (tE L x st)))) := by rw [eu0, up_eq]; first | done | exact up_eq
      have hw0 : ∀ j, j ≠ 1 → u0 j = u j := fun j hj => by rw [eu0, up_ne hj]; first | done | exact (show ∀ j, j ≠ 1 → u j = u j from fun _ _ => rfl) j hj
      refine z_aload_n (j := 0) dX5_readCommand_116 rfl ?_
      refine z_get (v := .int (o0 2 10)) (by omega) gW_3 fX5_54 rfl dX5_readCommand_117 ?_
      refine z_if_ne (tgt := 137) dX5_readCommand_120 (by decide) (fun czq120 => absurd czq120 (fun z => z h10_0)) (fun czq120 => ?_)
      refine z_aload_n (j := 0) dX5_readCommand_123 rfl ?_
      refine z_aload_n (j := 1) dX5_readCommand_124 rfl ?_
      refine z_iload_n (j := 2) dX5_readCommand_125 rfl ?_
      refine z_kV [.ref ((zB + 200 + 5)), .int 0] 0 0 kc ks yoX5_fits yvX5_fits rfl (by decide) lX5_174 (by omega) gW_3 rfl rfl (Nat.le_of_ble_eq_true rfl) (Nat.le_of_ble_eq_true rfl) dX5_readCommand_126 (by omega) (by omega) (z_room (by omega) (Nat.le_refl _) (Nat.le_refl _) (w_fits5_0 (d := 0) (S := S) hn hv0_0 hV0 ⟨rfl, ?_⟩))
      refine z_if_ne (tgt := 137) dX5_readCommand_129 (by decide) (fun czq129 => ?_) (fun czq129 => ?_)
      · have hok0 := bI_n.mp czq129
        skip
        refine z_iinc (1) [1, 2, 0] [(0, .ref 3), (1, .ref ((zB + 200 + 5))), (2, .int 1)] dX5_readCommand_137 (j := 2) rfl (by decide) (by decide) rfl ?_
        refine z_goto (tgt := 82) dX5_readCommand_140 (by decide) ?_
        refine z_iload_n (j := 2) dX5_readCommand_82 rfl ?_
        refine z_aload_n (j := 1) dX5_readCommand_83 rfl ?_
        refine z_getC (v := .int 1) (by decide +kernel) fX5_172 dX5_readCommand_84 ?_
        refine z_icmp_ge (tgt := 143) dX5_readCommand_87 (by decide) (fun czq87 => ?_) (fun czq87 => absurd (by decide) czq87)
        refine z_aload_n (j := 0) dX5_readCommand_143 rfl ?_
        refine z_iconst (v := 5) dX5_readCommand_144 (by decide) ?_
        refine z_kV [.int 5] 0 0 kc ks yoX5_expect yvX5_expect rfl (by decide) lX5_148 (by omega) gW_3 rfl rfl (Nat.le_of_ble_eq_true rfl) (Nat.le_of_ble_eq_true rfl) dX5_readCommand_145 (by omega) (by omega) (z_room (by omega) (Nat.le_refl _) (Nat.le_refl _) (w_expect (d := 0) (k := 5) hn hL h11_0 hu0 hx ((nx_le ((tE_le' hst).2)).2) q2_0 h10_0 (by decide) (fun hk1 o1 q2_1 q3_1 q5_1 hf1 => ⟨rfl, ?_⟩) (fun hk1 o1 he1 => ⟨rfl, ?_⟩)))
        · have h11_1 : o1 1 1 = nI L := (hf1.2 1 (by decide)).trans h11_0
          have h10_1 : o1 2 10 = 0 := by rw [hf1.1 2 (by decide)]; exact h10_0
          have hfc_1 : fp (fun j => 2 ≤ j) o o1 := hfc_0.tr hf1
          refine z_aload_n (j := 0) dX5_readCommand_148 rfl ?_
          refine z_aload_n (j := 1) dX5_readCommand_149 rfl ?_
          refine g_putc (Nat.le_trans (Nat.le_add_right _ _) (Nat.le_add_right _ _)) (by omega) fX5_57 dX5_readCommand_150 ?_
          exact z_vret rfl dX5_readCommand_153 (by
              exact hqY (tV L x (tS L x (tE L x st))) (nx L x (tE L x st)) ((nx_le ((tE_le' hst).2)).2) hexn (by
                unfold smp
                simp only [rdN_3 (ok := (oIn 1 99)) hk0 hok0]) hk1 _ _ q2_1 q3_1 hfc_1 h11_1 hok0 hV0 hv0_0 hw0)
        · refine z_aload_n (j := 0) dX5_readCommand_148 rfl ?_
          refine z_aload_n (j := 1) dX5_readCommand_149 rfl ?_
          refine g_putc (Nat.le_trans (Nat.le_add_right _ _) (Nat.le_add_right _ _)) (by omega) fX5_57 dX5_readCommand_150 ?_
          exact z_vret rfl dX5_readCommand_153 (by
              exact hqN 1 (tS L x (nx L x (tE L x st))) (by
                unfold cS
                rw [if_neg hexn]
                unfold smp
                simp only [rdN_3 (ok := (oIn 1 99)) hk0 hok0, fin, rdT_1 hk1]) (by decide) (.ref (zB + 200 + 5)) (Or.inr ⟨_, rfl⟩) o1 u0 (hw0 4 (by decide)) (he1.fp hfc_0))
      · have hno0 := bI_0.mp czq129
        refine z_aload_n (j := 0) dX5_readCommand_132 rfl ?_
        refine z_iconst (v := 2) dX5_readCommand_133 (by decide) ?_
        refine z_kV [.int 2] 0 0 kc ks yoX5_fail yvX5_fail rfl (by decide) lX5_137 (by omega) gW_3 rfl rfl (Nat.le_of_ble_eq_true rfl) (Nat.le_of_ble_eq_true rfl) dX5_readCommand_134 (by omega) (by omega) (z_room (by omega) (Nat.le_refl _) (Nat.le_refl _) (w_fail (d := 0) (k := 2) hn q3_0 (fun of hef => ⟨rfl, ?_⟩)))
        skip
        skip
        refine z_iinc (1) [1, 2, 0] [(0, .ref 3), (1, .ref ((zB + 200 + 5))), (2, .int 1)] dX5_readCommand_137 (j := 2) rfl (by decide) (by decide) rfl ?_
        refine z_goto (tgt := 82) dX5_readCommand_140 (by decide) ?_
        refine z_iload_n (j := 2) dX5_readCommand_82 rfl ?_
        refine z_aload_n (j := 1) dX5_readCommand_83 rfl ?_
        refine z_getC (v := .int 1) (by decide +kernel) fX5_172 dX5_readCommand_84 ?_
        refine z_icmp_ge (tgt := 143) dX5_readCommand_87 (by decide) (fun czq87 => ?_) (fun czq87 => absurd (by decide) czq87)
        refine z_aload_n (j := 0) dX5_readCommand_143 rfl ?_
        refine z_iconst (v := 5) dX5_readCommand_144 (by decide) ?_
        refine z_kV [.int 5] 0 0 kc ks yoX5_expect yvX5_expect rfl (by decide) lX5_148 (by omega) gW_3 rfl rfl (Nat.le_of_ble_eq_true rfl) (Nat.le_of_ble_eq_true rfl) dX5_readCommand_145 (by omega) (by omega) (z_room (by omega) (Nat.le_refl _) (Nat.le_refl _) (w_expectE (d := 0) hn (er.ne (hef.fp hfc_0) (by decide) (by decide)) ⟨rfl, ?_⟩))
        refine z_aload_n (j := 0) dX5_readCommand_148 rfl ?_
        refine z_aload_n (j := 1) dX5_readCommand_149 rfl ?_
        refine g_putc (Nat.le_trans (Nat.le_add_right _ _) (Nat.le_add_right _ _)) (by omega) fX5_57 dX5_readCommand_150 ?_
        exact z_vret rfl dX5_readCommand_153 (by
            exact hqN 2 (tS L x (tE L x st)) (by
              unfold cS
              rw [if_neg hexn]
              unfold smp
              simp only [rdN_2 (ok := (oIn 1 99)) hk0 hno0]) (by decide) (.ref (zB + 200 + 5)) (Or.inr ⟨_, rfl⟩) of u0 (hw0 4 (by decide)) (hef.fp hfc_0))
    · refine g_ast 1 (by decide) rfl (by omega) (show vp_in (nI 0) 3 from vp_in_nI (by decide) (by decide)) dX5_readCommand_115 ?_
      obtain ⟨u0, eu0⟩ : ∃ u0, u0 = (va_up u 1 (va_up (u 1) (0 : Int32).toNatClampNeg (o0 1 5))) := ⟨_, rfl⟩
      rw [← eu0]
      have hu0 : ∀ i, i < L → u0 0 i = nI (x i) := fun i hi => by rw [eu0, up_ne (by decide)]; exact hu i hi
      have hv0_0 : u0 1 0 = (o0 1 5) := by rw [eu0, up_eq]; first | done | exact up_eq
      have hw0 : ∀ j, j ≠ 1 → u0 j = u j := fun j hj => by rw [eu0, up_ne hj]; first | done | exact (show ∀ j, j ≠ 1 → u j = u j from fun _ _ => rfl) j hj
      refine z_aload_n (j := 0) dX5_readCommand_116 rfl ?_
      refine z_get (v := .int (o0 2 10)) (by omega) gW_3 fX5_54 rfl dX5_readCommand_117 ?_
      refine z_if_ne (tgt := 137) dX5_readCommand_120 (by decide) (fun czq120 => ?_) (fun czq120 => absurd czq120 (er.ne (he0.fp fp.rf) (by decide) (by decide)))
      skip
      skip
      refine z_iinc (1) [1, 2, 0] [(0, .ref 3), (1, .ref ((zB + 200 + 5))), (2, .int 1)] dX5_readCommand_137 (j := 2) rfl (by decide) (by decide) rfl ?_
      refine z_goto (tgt := 82) dX5_readCommand_140 (by decide) ?_
      refine z_iload_n (j := 2) dX5_readCommand_82 rfl ?_
      refine z_aload_n (j := 1) dX5_readCommand_83 rfl ?_
      refine z_getC (v := .int 1) (by decide +kernel) fX5_172 dX5_readCommand_84 ?_
      refine z_icmp_ge (tgt := 143) dX5_readCommand_87 (by decide) (fun czq87 => ?_) (fun czq87 => absurd (by decide) czq87)
      refine z_aload_n (j := 0) dX5_readCommand_143 rfl ?_
      refine z_iconst (v := 5) dX5_readCommand_144 (by decide) ?_
      refine z_kV [.int 5] 0 0 kc ks yoX5_expect yvX5_expect rfl (by decide) lX5_148 (by omega) gW_3 rfl rfl (Nat.le_of_ble_eq_true rfl) (Nat.le_of_ble_eq_true rfl) dX5_readCommand_145 (by omega) (by omega) (z_room (by omega) (Nat.le_refl _) (Nat.le_refl _) (w_expectE (d := 0) hn (er.ne (he0.fp fp.rf) (by decide) (by decide)) ⟨rfl, ?_⟩))
      refine z_aload_n (j := 0) dX5_readCommand_148 rfl ?_
      refine z_aload_n (j := 1) dX5_readCommand_149 rfl ?_
      refine g_putc (Nat.le_trans (Nat.le_add_right _ _) (Nat.le_add_right _ _)) (by omega) fX5_57 dX5_readCommand_150 ?_
      exact z_vret rfl dX5_readCommand_153 (by
          exact hqN 1 (tS L x (tE L x st)) (by
            unfold cS
            rw [if_neg hexn]
            unfold smp
            simp only [rdN_1 (ok := (oIn 1 99)) hk0]) (by decide) (.ref (zB + 200 + 5)) (Or.inr ⟨_, rfl⟩) o0 u0 (hw0 4 (by decide)) (he0.fp fp.rf))
  · have hex2 : ex = 200 := by
      have : ¬ ex < 200 := fun z => czq71 (nI_lt (b := 200) z (by decide))
      omega
    refine z_aload_n (j := 0) dX5_readCommand_74 rfl ?_
    refine z_iconst (v := 5) dX5_readCommand_75 (by decide) ?_
    refine z_kV [.int 5] 0 0 kc ks yoX5_fail yvX5_fail rfl (by decide) lX5_137 (by omega) gW_3 rfl rfl (Nat.le_of_ble_eq_true rfl) (Nat.le_of_ble_eq_true rfl) dX5_readCommand_76 (by omega) (by omega) (z_room (by omega) (Nat.le_refl _) (Nat.le_refl _) (w_fail (d := 0) (k := 5) hn h13 (fun o1 he => ⟨rfl, ?_⟩)))
    exact z_vret rfl dX5_readCommand_79 (hqN 5 st (by unfold cS; exact if_pos hex2) (by decide) cm (Or.inl rfl) o1 u rfl he)

set_option maxHeartbeats 4000000 in
set_option maxRecDepth 100000 in
theorem w_read6 {l : zL} {d kc ks n : Nat} {h : Nat → va_E} {cm : Value} {o u : Nat → Nat → Int32} {s : Nat → Nat → Int32} {a : Nat → Nat → Nat → Int32} {L : Nat} {x : Nat → Nat} {st ex : Nat} {S : zS} {Q : zQ} (hn : 89 ≤ n) (hL : L ≤ 600) (h11 : o 1 1 = nI L) (hu : ∀ i, i < L → u 0 i = nI (x i)) (hx : ∀ i, x i < 256) (hst : st ≤ L) (h12 : o 1 2 = nI (tE L x st)) (h13 : o 1 3 = nI st) (h14 : o 1 4 = nI (tKd L x st)) (h10 : o 2 10 = 0) (h6 : o 2 6 = nI ex) (hex : ex ≤ 200) (hT : cT S (s 0) (a 0)) (hw : wIs L x st 6 = true) (hqY : ∀ ps, ps ≤ L → ¬ ex = 200 → smp L x 6 (tE L x st) S = fin L x ps (some (sPull S 1)) → tKd L x (tS L x ps) = 5 → ∀ o' u', o' 1 2 = nI (nx L x ps) → o' 1 3 = nI (tS L x ps) → fp (fun j => 2 ≤ j) o o' → o' 1 1 = nI L → (∀ j, j ≠ 1 → u' j = u j) → Q (.inl none) n (gW h (.ref (zB + 200 + 6)) o' u' s a)) (hqN : ∀ k off, cS L x 6 st ex S = .inl (k, off) → (k ≠ 0 ∧ k < 10) → ∀ cm', (cm' = cm ∨ ∃ q, cm' = .ref q) → ∀ o' u', u' 4 = u 4 → er o o' k off → Q (.inl none) n (gW h cm' o' u' s a)) : Zj l mX5_readCommand (d + 5) kc ks 0 [(0, .ref 3)] [] n (gW h cm o u s a) Q := by
  refine z_null dX5_readCommand_0 ?_
  refine z_astore_nN [1, 0] [(0, .ref 3), (1, .null)] dX5_readCommand_1 (by decide) rfl ?_
  refine z_iconst (v := 0) dX5_readCommand_2 (by decide) ?_
  refine z_istore_n [1, 2, 0] [(0, .ref 3), (1, .null), (2, .int 0)] dX5_readCommand_3 (by decide) rfl ?_
  refine z_iload_n (j := 2) dX5_readCommand_4 rfl ?_
  refine z_getsN (v := .ref (zB + 300)) (host := "NeighbourHash") kZ_cm (List.mem_of_getElem? (i := 5) rfl) dX5_readCommand_5 ?_
  refine z_alenC (v := 10) kT_cm rfl dX5_readCommand_8 ?_
  refine z_icmp_ge (tgt := 54) dX5_readCommand_9 (by decide) (fun czq9 => absurd czq9 (by decide)) (fun czq9 => ?_)
  refine z_aload_nN (j := 1) dX5_readCommand_12 rfl ?_
  refine z_ifnonnullN dX5_readCommand_13 ?_
  refine z_getsN (v := .ref (zB + 300)) (host := "NeighbourHash") kZ_cm (List.mem_of_getElem? (i := 5) rfl) dX5_readCommand_16 ?_
  refine z_iload_n (j := 2) dX5_readCommand_19 rfl ?_
  refine z_aaldC kT_cm (show vp_in (nI 0) 10 from vp_in_nI (by decide) (by decide)) dX5_readCommand_20 ?_
  refine z_ifnull dX5_readCommand_21 ?_
  refine z_aload_n (j := 0) dX5_readCommand_24 rfl ?_
  refine z_get (v := .ref 1) (by omega) gW_3 fX5_32 rfl dX5_readCommand_25 ?_
  refine z_getsN (v := .ref (zB + 300)) (host := "NeighbourHash") kZ_cm (List.mem_of_getElem? (i := 5) rfl) dX5_readCommand_28 ?_
  refine z_iload_n (j := 2) dX5_readCommand_31 rfl ?_
  refine z_aaldC kT_cm (show vp_in (nI 0) 10 from vp_in_nI (by decide) (by decide)) dX5_readCommand_32 ?_
  refine z_getC (v := .ref (zB + 14 + 0)) (by decide +kernel) fX5_168 dX5_readCommand_33 ?_
  refine z_kV [.ref ((zB + 14 + 0))] 0 0 kc ks yoX3_isWord yvX3_isWord rfl (by decide) lX5_75 (by omega) gW_1 rfl rfl (Nat.le_of_ble_eq_true rfl) (Nat.le_of_ble_eq_true rfl) dX5_readCommand_36 (by omega) (by omega) (z_room (by omega) (Nat.le_refl _) (Nat.le_refl _) (w_isWord (d := 0) (w := 0) hn hL h11 hu hx (by decide) h12 h13 h14 hst ⟨rfl, ?_⟩))
  refine z_if_eq (tgt := 48) dX5_readCommand_39 (by decide) (fun czq39 => ?_) (fun czq39 => absurd (bI_f (fun z => absurd (wIs_one (L := L) (x := x) (st := st) (i := 0) (j := 6) (by decide) (by decide) z hw) (by decide))) czq39)
  skip
  refine z_iinc (1) [1, 2, 0] [(0, .ref 3), (1, .null), (2, .int 1)] dX5_readCommand_48 (j := 2) rfl (by decide) (by decide) rfl ?_
  refine z_goto (tgt := 4) dX5_readCommand_51 (by decide) ?_
  refine z_iload_n (j := 2) dX5_readCommand_4 rfl ?_
  refine z_getsN (v := .ref (zB + 300)) (host := "NeighbourHash") kZ_cm (List.mem_of_getElem? (i := 5) rfl) dX5_readCommand_5 ?_
  refine z_alenC (v := 10) kT_cm rfl dX5_readCommand_8 ?_
  refine z_icmp_ge (tgt := 54) dX5_readCommand_9 (by decide) (fun czq9 => absurd czq9 (by decide)) (fun czq9 => ?_)
  refine z_aload_nN (j := 1) dX5_readCommand_12 rfl ?_
  refine z_ifnonnullN dX5_readCommand_13 ?_
  refine z_getsN (v := .ref (zB + 300)) (host := "NeighbourHash") kZ_cm (List.mem_of_getElem? (i := 5) rfl) dX5_readCommand_16 ?_
  refine z_iload_n (j := 2) dX5_readCommand_19 rfl ?_
  refine z_aaldC kT_cm (show vp_in (nI 1) 10 from vp_in_nI (by decide) (by decide)) dX5_readCommand_20 ?_
  refine z_ifnull dX5_readCommand_21 ?_
  refine z_aload_n (j := 0) dX5_readCommand_24 rfl ?_
  refine z_get (v := .ref 1) (by omega) gW_3 fX5_32 rfl dX5_readCommand_25 ?_
  refine z_getsN (v := .ref (zB + 300)) (host := "NeighbourHash") kZ_cm (List.mem_of_getElem? (i := 5) rfl) dX5_readCommand_28 ?_
  refine z_iload_n (j := 2) dX5_readCommand_31 rfl ?_
  refine z_aaldC kT_cm (show vp_in (nI 1) 10 from vp_in_nI (by decide) (by decide)) dX5_readCommand_32 ?_
  refine z_getC (v := .ref (zB + 14 + 1)) (by decide +kernel) fX5_168 dX5_readCommand_33 ?_
  refine z_kV [.ref ((zB + 14 + 1))] 0 0 kc ks yoX3_isWord yvX3_isWord rfl (by decide) lX5_75 (by omega) gW_1 rfl rfl (Nat.le_of_ble_eq_true rfl) (Nat.le_of_ble_eq_true rfl) dX5_readCommand_36 (by omega) (by omega) (z_room (by omega) (Nat.le_refl _) (Nat.le_refl _) (w_isWord (d := 0) (w := 1) hn hL h11 hu hx (by decide) h12 h13 h14 hst ⟨rfl, ?_⟩))
  refine z_if_eq (tgt := 48) dX5_readCommand_39 (by decide) (fun czq39 => ?_) (fun czq39 => absurd (bI_f (fun z => absurd (wIs_one (L := L) (x := x) (st := st) (i := 1) (j := 6) (by decide) (by decide) z hw) (by decide))) czq39)
  skip
  refine z_iinc (2) [1, 2, 0] [(0, .ref 3), (1, .null), (2, .int 2)] dX5_readCommand_48 (j := 2) rfl (by decide) (by decide) rfl ?_
  refine z_goto (tgt := 4) dX5_readCommand_51 (by decide) ?_
  refine z_iload_n (j := 2) dX5_readCommand_4 rfl ?_
  refine z_getsN (v := .ref (zB + 300)) (host := "NeighbourHash") kZ_cm (List.mem_of_getElem? (i := 5) rfl) dX5_readCommand_5 ?_
  refine z_alenC (v := 10) kT_cm rfl dX5_readCommand_8 ?_
  refine z_icmp_ge (tgt := 54) dX5_readCommand_9 (by decide) (fun czq9 => absurd czq9 (by decide)) (fun czq9 => ?_)
  refine z_aload_nN (j := 1) dX5_readCommand_12 rfl ?_
  refine z_ifnonnullN dX5_readCommand_13 ?_
  refine z_getsN (v := .ref (zB + 300)) (host := "NeighbourHash") kZ_cm (List.mem_of_getElem? (i := 5) rfl) dX5_readCommand_16 ?_
  refine z_iload_n (j := 2) dX5_readCommand_19 rfl ?_
  refine z_aaldC kT_cm (show vp_in (nI 2) 10 from vp_in_nI (by decide) (by decide)) dX5_readCommand_20 ?_
  refine z_ifnull dX5_readCommand_21 ?_
  refine z_aload_n (j := 0) dX5_readCommand_24 rfl ?_
  refine z_get (v := .ref 1) (by omega) gW_3 fX5_32 rfl dX5_readCommand_25 ?_
  refine z_getsN (v := .ref (zB + 300)) (host := "NeighbourHash") kZ_cm (List.mem_of_getElem? (i := 5) rfl) dX5_readCommand_28 ?_
  refine z_iload_n (j := 2) dX5_readCommand_31 rfl ?_
  refine z_aaldC kT_cm (show vp_in (nI 2) 10 from vp_in_nI (by decide) (by decide)) dX5_readCommand_32 ?_
  refine z_getC (v := .ref (zB + 14 + 2)) (by decide +kernel) fX5_168 dX5_readCommand_33 ?_
  refine z_kV [.ref ((zB + 14 + 2))] 0 0 kc ks yoX3_isWord yvX3_isWord rfl (by decide) lX5_75 (by omega) gW_1 rfl rfl (Nat.le_of_ble_eq_true rfl) (Nat.le_of_ble_eq_true rfl) dX5_readCommand_36 (by omega) (by omega) (z_room (by omega) (Nat.le_refl _) (Nat.le_refl _) (w_isWord (d := 0) (w := 2) hn hL h11 hu hx (by decide) h12 h13 h14 hst ⟨rfl, ?_⟩))
  refine z_if_eq (tgt := 48) dX5_readCommand_39 (by decide) (fun czq39 => ?_) (fun czq39 => absurd (bI_f (fun z => absurd (wIs_one (L := L) (x := x) (st := st) (i := 2) (j := 6) (by decide) (by decide) z hw) (by decide))) czq39)
  skip
  refine z_iinc (3) [1, 2, 0] [(0, .ref 3), (1, .null), (2, .int 3)] dX5_readCommand_48 (j := 2) rfl (by decide) (by decide) rfl ?_
  refine z_goto (tgt := 4) dX5_readCommand_51 (by decide) ?_
  refine z_iload_n (j := 2) dX5_readCommand_4 rfl ?_
  refine z_getsN (v := .ref (zB + 300)) (host := "NeighbourHash") kZ_cm (List.mem_of_getElem? (i := 5) rfl) dX5_readCommand_5 ?_
  refine z_alenC (v := 10) kT_cm rfl dX5_readCommand_8 ?_
  refine z_icmp_ge (tgt := 54) dX5_readCommand_9 (by decide) (fun czq9 => absurd czq9 (by decide)) (fun czq9 => ?_)
  refine z_aload_nN (j := 1) dX5_readCommand_12 rfl ?_
  refine z_ifnonnullN dX5_readCommand_13 ?_
  refine z_getsN (v := .ref (zB + 300)) (host := "NeighbourHash") kZ_cm (List.mem_of_getElem? (i := 5) rfl) dX5_readCommand_16 ?_
  refine z_iload_n (j := 2) dX5_readCommand_19 rfl ?_
  refine z_aaldC kT_cm (show vp_in (nI 3) 10 from vp_in_nI (by decide) (by decide)) dX5_readCommand_20 ?_
  refine z_ifnull dX5_readCommand_21 ?_
  refine z_aload_n (j := 0) dX5_readCommand_24 rfl ?_
  refine z_get (v := .ref 1) (by omega) gW_3 fX5_32 rfl dX5_readCommand_25 ?_
  refine z_getsN (v := .ref (zB + 300)) (host := "NeighbourHash") kZ_cm (List.mem_of_getElem? (i := 5) rfl) dX5_readCommand_28 ?_
  refine z_iload_n (j := 2) dX5_readCommand_31 rfl ?_
  refine z_aaldC kT_cm (show vp_in (nI 3) 10 from vp_in_nI (by decide) (by decide)) dX5_readCommand_32 ?_
  refine z_getC (v := .ref (zB + 14 + 3)) (by decide +kernel) fX5_168 dX5_readCommand_33 ?_
  refine z_kV [.ref ((zB + 14 + 3))] 0 0 kc ks yoX3_isWord yvX3_isWord rfl (by decide) lX5_75 (by omega) gW_1 rfl rfl (Nat.le_of_ble_eq_true rfl) (Nat.le_of_ble_eq_true rfl) dX5_readCommand_36 (by omega) (by omega) (z_room (by omega) (Nat.le_refl _) (Nat.le_refl _) (w_isWord (d := 0) (w := 3) hn hL h11 hu hx (by decide) h12 h13 h14 hst ⟨rfl, ?_⟩))
  refine z_if_eq (tgt := 48) dX5_readCommand_39 (by decide) (fun czq39 => ?_) (fun czq39 => absurd (bI_f (fun z => absurd (wIs_one (L := L) (x := x) (st := st) (i := 3) (j := 6) (by decide) (by decide) z hw) (by decide))) czq39)
  skip
  refine z_iinc (4) [1, 2, 0] [(0, .ref 3), (1, .null), (2, .int 4)] dX5_readCommand_48 (j := 2) rfl (by decide) (by decide) rfl ?_
  refine z_goto (tgt := 4) dX5_readCommand_51 (by decide) ?_
  refine z_iload_n (j := 2) dX5_readCommand_4 rfl ?_
  refine z_getsN (v := .ref (zB + 300)) (host := "NeighbourHash") kZ_cm (List.mem_of_getElem? (i := 5) rfl) dX5_readCommand_5 ?_
  refine z_alenC (v := 10) kT_cm rfl dX5_readCommand_8 ?_
  refine z_icmp_ge (tgt := 54) dX5_readCommand_9 (by decide) (fun czq9 => absurd czq9 (by decide)) (fun czq9 => ?_)
  refine z_aload_nN (j := 1) dX5_readCommand_12 rfl ?_
  refine z_ifnonnullN dX5_readCommand_13 ?_
  refine z_getsN (v := .ref (zB + 300)) (host := "NeighbourHash") kZ_cm (List.mem_of_getElem? (i := 5) rfl) dX5_readCommand_16 ?_
  refine z_iload_n (j := 2) dX5_readCommand_19 rfl ?_
  refine z_aaldC kT_cm (show vp_in (nI 4) 10 from vp_in_nI (by decide) (by decide)) dX5_readCommand_20 ?_
  refine z_ifnull dX5_readCommand_21 ?_
  refine z_aload_n (j := 0) dX5_readCommand_24 rfl ?_
  refine z_get (v := .ref 1) (by omega) gW_3 fX5_32 rfl dX5_readCommand_25 ?_
  refine z_getsN (v := .ref (zB + 300)) (host := "NeighbourHash") kZ_cm (List.mem_of_getElem? (i := 5) rfl) dX5_readCommand_28 ?_
  refine z_iload_n (j := 2) dX5_readCommand_31 rfl ?_
  refine z_aaldC kT_cm (show vp_in (nI 4) 10 from vp_in_nI (by decide) (by decide)) dX5_readCommand_32 ?_
  refine z_getC (v := .ref (zB + 14 + 4)) (by decide +kernel) fX5_168 dX5_readCommand_33 ?_
  refine z_kV [.ref ((zB + 14 + 4))] 0 0 kc ks yoX3_isWord yvX3_isWord rfl (by decide) lX5_75 (by omega) gW_1 rfl rfl (Nat.le_of_ble_eq_true rfl) (Nat.le_of_ble_eq_true rfl) dX5_readCommand_36 (by omega) (by omega) (z_room (by omega) (Nat.le_refl _) (Nat.le_refl _) (w_isWord (d := 0) (w := 4) hn hL h11 hu hx (by decide) h12 h13 h14 hst ⟨rfl, ?_⟩))
  refine z_if_eq (tgt := 48) dX5_readCommand_39 (by decide) (fun czq39 => ?_) (fun czq39 => absurd (bI_f (fun z => absurd (wIs_one (L := L) (x := x) (st := st) (i := 4) (j := 6) (by decide) (by decide) z hw) (by decide))) czq39)
  skip
  refine z_iinc (5) [1, 2, 0] [(0, .ref 3), (1, .null), (2, .int 5)] dX5_readCommand_48 (j := 2) rfl (by decide) (by decide) rfl ?_
  refine z_goto (tgt := 4) dX5_readCommand_51 (by decide) ?_
  refine z_iload_n (j := 2) dX5_readCommand_4 rfl ?_
  refine z_getsN (v := .ref (zB + 300)) (host := "NeighbourHash") kZ_cm (List.mem_of_getElem? (i := 5) rfl) dX5_readCommand_5 ?_
  refine z_alenC (v := 10) kT_cm rfl dX5_readCommand_8 ?_
  refine z_icmp_ge (tgt := 54) dX5_readCommand_9 (by decide) (fun czq9 => absurd czq9 (by decide)) (fun czq9 => ?_)
  refine z_aload_nN (j := 1) dX5_readCommand_12 rfl ?_
  refine z_ifnonnullN dX5_readCommand_13 ?_
  refine z_getsN (v := .ref (zB + 300)) (host := "NeighbourHash") kZ_cm (List.mem_of_getElem? (i := 5) rfl) dX5_readCommand_16 ?_
  refine z_iload_n (j := 2) dX5_readCommand_19 rfl ?_
  refine z_aaldC kT_cm (show vp_in (nI 5) 10 from vp_in_nI (by decide) (by decide)) dX5_readCommand_20 ?_
  refine z_ifnull dX5_readCommand_21 ?_
  refine z_aload_n (j := 0) dX5_readCommand_24 rfl ?_
  refine z_get (v := .ref 1) (by omega) gW_3 fX5_32 rfl dX5_readCommand_25 ?_
  refine z_getsN (v := .ref (zB + 300)) (host := "NeighbourHash") kZ_cm (List.mem_of_getElem? (i := 5) rfl) dX5_readCommand_28 ?_
  refine z_iload_n (j := 2) dX5_readCommand_31 rfl ?_
  refine z_aaldC kT_cm (show vp_in (nI 5) 10 from vp_in_nI (by decide) (by decide)) dX5_readCommand_32 ?_
  refine z_getC (v := .ref (zB + 14 + 5)) (by decide +kernel) fX5_168 dX5_readCommand_33 ?_
  refine z_kV [.ref ((zB + 14 + 5))] 0 0 kc ks yoX3_isWord yvX3_isWord rfl (by decide) lX5_75 (by omega) gW_1 rfl rfl (Nat.le_of_ble_eq_true rfl) (Nat.le_of_ble_eq_true rfl) dX5_readCommand_36 (by omega) (by omega) (z_room (by omega) (Nat.le_refl _) (Nat.le_refl _) (w_isWord (d := 0) (w := 5) hn hL h11 hu hx (by decide) h12 h13 h14 hst ⟨rfl, ?_⟩))
  refine z_if_eq (tgt := 48) dX5_readCommand_39 (by decide) (fun czq39 => ?_) (fun czq39 => absurd (bI_f (fun z => absurd (wIs_one (L := L) (x := x) (st := st) (i := 5) (j := 6) (by decide) (by decide) z hw) (by decide))) czq39)
  skip
  refine z_iinc (6) [1, 2, 0] [(0, .ref 3), (1, .null), (2, .int 6)] dX5_readCommand_48 (j := 2) rfl (by decide) (by decide) rfl ?_
  refine z_goto (tgt := 4) dX5_readCommand_51 (by decide) ?_
  refine z_iload_n (j := 2) dX5_readCommand_4 rfl ?_
  refine z_getsN (v := .ref (zB + 300)) (host := "NeighbourHash") kZ_cm (List.mem_of_getElem? (i := 5) rfl) dX5_readCommand_5 ?_
  refine z_alenC (v := 10) kT_cm rfl dX5_readCommand_8 ?_
  refine z_icmp_ge (tgt := 54) dX5_readCommand_9 (by decide) (fun czq9 => absurd czq9 (by decide)) (fun czq9 => ?_)
  refine z_aload_nN (j := 1) dX5_readCommand_12 rfl ?_
  refine z_ifnonnullN dX5_readCommand_13 ?_
  refine z_getsN (v := .ref (zB + 300)) (host := "NeighbourHash") kZ_cm (List.mem_of_getElem? (i := 5) rfl) dX5_readCommand_16 ?_
  refine z_iload_n (j := 2) dX5_readCommand_19 rfl ?_
  refine z_aaldC kT_cm (show vp_in (nI 6) 10 from vp_in_nI (by decide) (by decide)) dX5_readCommand_20 ?_
  refine z_ifnull dX5_readCommand_21 ?_
  refine z_aload_n (j := 0) dX5_readCommand_24 rfl ?_
  refine z_get (v := .ref 1) (by omega) gW_3 fX5_32 rfl dX5_readCommand_25 ?_
  refine z_getsN (v := .ref (zB + 300)) (host := "NeighbourHash") kZ_cm (List.mem_of_getElem? (i := 5) rfl) dX5_readCommand_28 ?_
  refine z_iload_n (j := 2) dX5_readCommand_31 rfl ?_
  refine z_aaldC kT_cm (show vp_in (nI 6) 10 from vp_in_nI (by decide) (by decide)) dX5_readCommand_32 ?_
  refine z_getC (v := .ref (zB + 14 + 6)) (by decide +kernel) fX5_168 dX5_readCommand_33 ?_
  refine z_kV [.ref ((zB + 14 + 6))] 0 0 kc ks yoX3_isWord yvX3_isWord rfl (by decide) lX5_75 (by omega) gW_1 rfl rfl (Nat.le_of_ble_eq_true rfl) (Nat.le_of_ble_eq_true rfl) dX5_readCommand_36 (by omega) (by omega) (z_room (by omega) (Nat.le_refl _) (Nat.le_refl _) (w_isWord (d := 0) (w := 6) hn hL h11 hu hx (by decide) h12 h13 h14 hst ⟨rfl, ?_⟩))
  refine z_if_eq (tgt := 48) dX5_readCommand_39 (by decide) (fun czq39 => absurd czq39 (fun z => bI_0.mp z hw)) (fun czq39 => ?_)
  refine z_getsN (v := .ref (zB + 300)) (host := "NeighbourHash") kZ_cm (List.mem_of_getElem? (i := 5) rfl) dX5_readCommand_42 ?_
  refine z_iload_n (j := 2) dX5_readCommand_45 rfl ?_
  refine z_aaldC kT_cm (show vp_in (nI 6) 10 from vp_in_nI (by decide) (by decide)) dX5_readCommand_46 ?_
  refine z_astore_n [1, 0, 2] [(0, .ref 3), (1, .ref ((zB + 200 + 6))), (2, .int 6)] dX5_readCommand_47 (by decide) rfl ?_
  skip
  refine z_iinc (7) [1, 2, 0] [(0, .ref 3), (1, .ref ((zB + 200 + 6))), (2, .int 7)] dX5_readCommand_48 (j := 2) rfl (by decide) (by decide) rfl ?_
  refine z_goto (tgt := 4) dX5_readCommand_51 (by decide) ?_
  refine z_iload_n (j := 2) dX5_readCommand_4 rfl ?_
  refine z_getsN (v := .ref (zB + 300)) (host := "NeighbourHash") kZ_cm (List.mem_of_getElem? (i := 5) rfl) dX5_readCommand_5 ?_
  refine z_alenC (v := 10) kT_cm rfl dX5_readCommand_8 ?_
  refine z_icmp_ge (tgt := 54) dX5_readCommand_9 (by decide) (fun czq9 => absurd czq9 (by decide)) (fun czq9 => ?_)
  refine z_aload_n (j := 1) dX5_readCommand_12 rfl ?_
  refine z_ifnonnull (tgt := 54) dX5_readCommand_13 (by decide) ?_
  refine z_aload_n (j := 1) dX5_readCommand_54 rfl ?_
  refine z_ifnonnull (tgt := 64) dX5_readCommand_55 (by decide) ?_
  refine z_aload_n (j := 0) dX5_readCommand_64 rfl ?_
  refine z_get (v := .int (o 2 6)) (by omega) gW_3 fX5_44 rfl dX5_readCommand_65 ?_
  refine z_sipush (v := 200) dX5_readCommand_68 (by decide) ?_
  rw [show (o 2 6) = nI ex from h6]
  refine z_icmp_lt (tgt := 80) dX5_readCommand_71 (by decide) (fun czq71 => ?_) (fun czq71 => ?_)
  · have hexn : ¬ ex = 200 := fun z => absurd czq71 (by rw [z]; decide)
    refine z_iconst (v := 0) dX5_readCommand_80 (by decide) ?_
    refine z_istore_n [1, 2, 0] [(0, .ref 3), (1, .ref ((zB + 200 + 6))), (2, .int 0)] dX5_readCommand_81 (by decide) rfl ?_
    refine z_iload_n (j := 2) dX5_readCommand_82 rfl ?_
    refine z_aload_n (j := 1) dX5_readCommand_83 rfl ?_
    refine z_getC (v := .int 0) (by decide +kernel) fX5_172 dX5_readCommand_84 ?_
    refine z_icmp_ge (tgt := 143) dX5_readCommand_87 (by decide) (fun czq87 => ?_) (fun czq87 => absurd (by decide) czq87)
    refine z_aload_n (j := 0) dX5_readCommand_143 rfl ?_
    refine z_iconst (v := 5) dX5_readCommand_144 (by decide) ?_
    refine z_kV [.int 5] 0 0 kc ks yoX5_expect yvX5_expect rfl (by decide) lX5_148 (by omega) gW_3 rfl rfl (Nat.le_of_ble_eq_true rfl) (Nat.le_of_ble_eq_true rfl) dX5_readCommand_145 (by omega) (by omega) (z_room (by omega) (Nat.le_refl _) (Nat.le_refl _) (w_expect (d := 0) (k := 5) hn hL h11 hu hx ((tE_le' hst).2) h12 h10 (by decide) (fun hk0 o0 q2_0 q3_0 q5_0 hf0 => ⟨rfl, ?_⟩) (fun hk0 o0 he0 => ⟨rfl, ?_⟩)))
    · have h11_0 : o0 1 1 = nI L := (hf0.2 1 (by decide)).trans h11
      have h10_0 : o0 2 10 = 0 := by rw [hf0.1 2 (by decide)]; exact h10
      have hfc_0 : fp (fun j => 2 ≤ j) o o0 := fp.rf.tr hf0
      refine z_aload_n (j := 0) dX5_readCommand_148 rfl ?_
      refine z_aload_n (j := 1) dX5_readCommand_149 rfl ?_
      refine g_putc (Nat.le_trans (Nat.le_add_right _ _) (Nat.le_add_right _ _)) (by omega) fX5_57 dX5_readCommand_150 ?_
      exact z_vret rfl dX5_readCommand_153 (by
          exact hqY  (tE L x st) ((tE_le' hst).2) hexn rfl hk0 _ _ q2_0 q3_0 hfc_0 h11_0  (show ∀ j, j ≠ 1 → u j = u j from fun _ _ => rfl))
    · refine z_aload_n (j := 0) dX5_readCommand_148 rfl ?_
      refine z_aload_n (j := 1) dX5_readCommand_149 rfl ?_
      refine g_putc (Nat.le_trans (Nat.le_add_right _ _) (Nat.le_add_right _ _)) (by omega) fX5_57 dX5_readCommand_150 ?_
      exact z_vret rfl dX5_readCommand_153 (by
          exact hqN 1 (tS L x (tE L x st)) (by
            unfold cS
            rw [if_neg hexn]
            unfold smp
            simp only [fin, rdT_1 hk0]) (by decide) (.ref (zB + 200 + 6)) (Or.inr ⟨_, rfl⟩) o0 u ((show ∀ j, j ≠ 1 → u j = u j from fun _ _ => rfl) 4 (by decide)) (he0.fp fp.rf))
  · have hex2 : ex = 200 := by
      have : ¬ ex < 200 := fun z => czq71 (nI_lt (b := 200) z (by decide))
      omega
    refine z_aload_n (j := 0) dX5_readCommand_74 rfl ?_
    refine z_iconst (v := 5) dX5_readCommand_75 (by decide) ?_
    refine z_kV [.int 5] 0 0 kc ks yoX5_fail yvX5_fail rfl (by decide) lX5_137 (by omega) gW_3 rfl rfl (Nat.le_of_ble_eq_true rfl) (Nat.le_of_ble_eq_true rfl) dX5_readCommand_76 (by omega) (by omega) (z_room (by omega) (Nat.le_refl _) (Nat.le_refl _) (w_fail (d := 0) (k := 5) hn h13 (fun o1 he => ⟨rfl, ?_⟩)))
    exact z_vret rfl dX5_readCommand_79 (hqN 5 st (by unfold cS; exact if_pos hex2) (by decide) cm (Or.inl rfl) o1 u rfl he)

set_option maxHeartbeats 4000000 in
set_option maxRecDepth 100000 in
theorem w_read7 {l : zL} {d kc ks n : Nat} {h : Nat → va_E} {cm : Value} {o u : Nat → Nat → Int32} {s : Nat → Nat → Int32} {a : Nat → Nat → Nat → Int32} {L : Nat} {x : Nat → Nat} {st ex : Nat} {S : zS} {Q : zQ} (hn : 89 ≤ n) (hL : L ≤ 600) (h11 : o 1 1 = nI L) (hu : ∀ i, i < L → u 0 i = nI (x i)) (hx : ∀ i, x i < 256) (hst : st ≤ L) (h12 : o 1 2 = nI (tE L x st)) (h13 : o 1 3 = nI st) (h14 : o 1 4 = nI (tKd L x st)) (h10 : o 2 10 = 0) (h6 : o 2 6 = nI ex) (hex : ex ≤ 200) (hT : cT S (s 0) (a 0)) (hw : wIs L x st 7 = true) (hqY : ∀ ps, ps ≤ L → ¬ ex = 200 → smp L x 7 (tE L x st) S = fin L x ps (some (sPull S 0)) → tKd L x (tS L x ps) = 5 → ∀ o' u', o' 1 2 = nI (nx L x ps) → o' 1 3 = nI (tS L x ps) → fp (fun j => 2 ≤ j) o o' → o' 1 1 = nI L → (∀ j, j ≠ 1 → u' j = u j) → Q (.inl none) n (gW h (.ref (zB + 200 + 7)) o' u' s a)) (hqN : ∀ k off, cS L x 7 st ex S = .inl (k, off) → (k ≠ 0 ∧ k < 10) → ∀ cm', (cm' = cm ∨ ∃ q, cm' = .ref q) → ∀ o' u', u' 4 = u 4 → er o o' k off → Q (.inl none) n (gW h cm' o' u' s a)) : Zj l mX5_readCommand (d + 5) kc ks 0 [(0, .ref 3)] [] n (gW h cm o u s a) Q := by
  refine z_null dX5_readCommand_0 ?_
  refine z_astore_nN [1, 0] [(0, .ref 3), (1, .null)] dX5_readCommand_1 (by decide) rfl ?_
  refine z_iconst (v := 0) dX5_readCommand_2 (by decide) ?_
  refine z_istore_n [1, 2, 0] [(0, .ref 3), (1, .null), (2, .int 0)] dX5_readCommand_3 (by decide) rfl ?_
  refine z_iload_n (j := 2) dX5_readCommand_4 rfl ?_
  refine z_getsN (v := .ref (zB + 300)) (host := "NeighbourHash") kZ_cm (List.mem_of_getElem? (i := 5) rfl) dX5_readCommand_5 ?_
  refine z_alenC (v := 10) kT_cm rfl dX5_readCommand_8 ?_
  refine z_icmp_ge (tgt := 54) dX5_readCommand_9 (by decide) (fun czq9 => absurd czq9 (by decide)) (fun czq9 => ?_)
  refine z_aload_nN (j := 1) dX5_readCommand_12 rfl ?_
  refine z_ifnonnullN dX5_readCommand_13 ?_
  refine z_getsN (v := .ref (zB + 300)) (host := "NeighbourHash") kZ_cm (List.mem_of_getElem? (i := 5) rfl) dX5_readCommand_16 ?_
  refine z_iload_n (j := 2) dX5_readCommand_19 rfl ?_
  refine z_aaldC kT_cm (show vp_in (nI 0) 10 from vp_in_nI (by decide) (by decide)) dX5_readCommand_20 ?_
  refine z_ifnull dX5_readCommand_21 ?_
  refine z_aload_n (j := 0) dX5_readCommand_24 rfl ?_
  refine z_get (v := .ref 1) (by omega) gW_3 fX5_32 rfl dX5_readCommand_25 ?_
  refine z_getsN (v := .ref (zB + 300)) (host := "NeighbourHash") kZ_cm (List.mem_of_getElem? (i := 5) rfl) dX5_readCommand_28 ?_
  refine z_iload_n (j := 2) dX5_readCommand_31 rfl ?_
  refine z_aaldC kT_cm (show vp_in (nI 0) 10 from vp_in_nI (by decide) (by decide)) dX5_readCommand_32 ?_
  refine z_getC (v := .ref (zB + 14 + 0)) (by decide +kernel) fX5_168 dX5_readCommand_33 ?_
  refine z_kV [.ref ((zB + 14 + 0))] 0 0 kc ks yoX3_isWord yvX3_isWord rfl (by decide) lX5_75 (by omega) gW_1 rfl rfl (Nat.le_of_ble_eq_true rfl) (Nat.le_of_ble_eq_true rfl) dX5_readCommand_36 (by omega) (by omega) (z_room (by omega) (Nat.le_refl _) (Nat.le_refl _) (w_isWord (d := 0) (w := 0) hn hL h11 hu hx (by decide) h12 h13 h14 hst ⟨rfl, ?_⟩))
  refine z_if_eq (tgt := 48) dX5_readCommand_39 (by decide) (fun czq39 => ?_) (fun czq39 => absurd (bI_f (fun z => absurd (wIs_one (L := L) (x := x) (st := st) (i := 0) (j := 7) (by decide) (by decide) z hw) (by decide))) czq39)
  skip
  refine z_iinc (1) [1, 2, 0] [(0, .ref 3), (1, .null), (2, .int 1)] dX5_readCommand_48 (j := 2) rfl (by decide) (by decide) rfl ?_
  refine z_goto (tgt := 4) dX5_readCommand_51 (by decide) ?_
  refine z_iload_n (j := 2) dX5_readCommand_4 rfl ?_
  refine z_getsN (v := .ref (zB + 300)) (host := "NeighbourHash") kZ_cm (List.mem_of_getElem? (i := 5) rfl) dX5_readCommand_5 ?_
  refine z_alenC (v := 10) kT_cm rfl dX5_readCommand_8 ?_
  refine z_icmp_ge (tgt := 54) dX5_readCommand_9 (by decide) (fun czq9 => absurd czq9 (by decide)) (fun czq9 => ?_)
  refine z_aload_nN (j := 1) dX5_readCommand_12 rfl ?_
  refine z_ifnonnullN dX5_readCommand_13 ?_
  refine z_getsN (v := .ref (zB + 300)) (host := "NeighbourHash") kZ_cm (List.mem_of_getElem? (i := 5) rfl) dX5_readCommand_16 ?_
  refine z_iload_n (j := 2) dX5_readCommand_19 rfl ?_
  refine z_aaldC kT_cm (show vp_in (nI 1) 10 from vp_in_nI (by decide) (by decide)) dX5_readCommand_20 ?_
  refine z_ifnull dX5_readCommand_21 ?_
  refine z_aload_n (j := 0) dX5_readCommand_24 rfl ?_
  refine z_get (v := .ref 1) (by omega) gW_3 fX5_32 rfl dX5_readCommand_25 ?_
  refine z_getsN (v := .ref (zB + 300)) (host := "NeighbourHash") kZ_cm (List.mem_of_getElem? (i := 5) rfl) dX5_readCommand_28 ?_
  refine z_iload_n (j := 2) dX5_readCommand_31 rfl ?_
  refine z_aaldC kT_cm (show vp_in (nI 1) 10 from vp_in_nI (by decide) (by decide)) dX5_readCommand_32 ?_
  refine z_getC (v := .ref (zB + 14 + 1)) (by decide +kernel) fX5_168 dX5_readCommand_33 ?_
  refine z_kV [.ref ((zB + 14 + 1))] 0 0 kc ks yoX3_isWord yvX3_isWord rfl (by decide) lX5_75 (by omega) gW_1 rfl rfl (Nat.le_of_ble_eq_true rfl) (Nat.le_of_ble_eq_true rfl) dX5_readCommand_36 (by omega) (by omega) (z_room (by omega) (Nat.le_refl _) (Nat.le_refl _) (w_isWord (d := 0) (w := 1) hn hL h11 hu hx (by decide) h12 h13 h14 hst ⟨rfl, ?_⟩))
  refine z_if_eq (tgt := 48) dX5_readCommand_39 (by decide) (fun czq39 => ?_) (fun czq39 => absurd (bI_f (fun z => absurd (wIs_one (L := L) (x := x) (st := st) (i := 1) (j := 7) (by decide) (by decide) z hw) (by decide))) czq39)
  skip
  refine z_iinc (2) [1, 2, 0] [(0, .ref 3), (1, .null), (2, .int 2)] dX5_readCommand_48 (j := 2) rfl (by decide) (by decide) rfl ?_
  refine z_goto (tgt := 4) dX5_readCommand_51 (by decide) ?_
  refine z_iload_n (j := 2) dX5_readCommand_4 rfl ?_
  refine z_getsN (v := .ref (zB + 300)) (host := "NeighbourHash") kZ_cm (List.mem_of_getElem? (i := 5) rfl) dX5_readCommand_5 ?_
  refine z_alenC (v := 10) kT_cm rfl dX5_readCommand_8 ?_
  refine z_icmp_ge (tgt := 54) dX5_readCommand_9 (by decide) (fun czq9 => absurd czq9 (by decide)) (fun czq9 => ?_)
  refine z_aload_nN (j := 1) dX5_readCommand_12 rfl ?_
  refine z_ifnonnullN dX5_readCommand_13 ?_
  refine z_getsN (v := .ref (zB + 300)) (host := "NeighbourHash") kZ_cm (List.mem_of_getElem? (i := 5) rfl) dX5_readCommand_16 ?_
  refine z_iload_n (j := 2) dX5_readCommand_19 rfl ?_
  refine z_aaldC kT_cm (show vp_in (nI 2) 10 from vp_in_nI (by decide) (by decide)) dX5_readCommand_20 ?_
  refine z_ifnull dX5_readCommand_21 ?_
  refine z_aload_n (j := 0) dX5_readCommand_24 rfl ?_
  refine z_get (v := .ref 1) (by omega) gW_3 fX5_32 rfl dX5_readCommand_25 ?_
  refine z_getsN (v := .ref (zB + 300)) (host := "NeighbourHash") kZ_cm (List.mem_of_getElem? (i := 5) rfl) dX5_readCommand_28 ?_
  refine z_iload_n (j := 2) dX5_readCommand_31 rfl ?_
  refine z_aaldC kT_cm (show vp_in (nI 2) 10 from vp_in_nI (by decide) (by decide)) dX5_readCommand_32 ?_
  refine z_getC (v := .ref (zB + 14 + 2)) (by decide +kernel) fX5_168 dX5_readCommand_33 ?_
  refine z_kV [.ref ((zB + 14 + 2))] 0 0 kc ks yoX3_isWord yvX3_isWord rfl (by decide) lX5_75 (by omega) gW_1 rfl rfl (Nat.le_of_ble_eq_true rfl) (Nat.le_of_ble_eq_true rfl) dX5_readCommand_36 (by omega) (by omega) (z_room (by omega) (Nat.le_refl _) (Nat.le_refl _) (w_isWord (d := 0) (w := 2) hn hL h11 hu hx (by decide) h12 h13 h14 hst ⟨rfl, ?_⟩))
  refine z_if_eq (tgt := 48) dX5_readCommand_39 (by decide) (fun czq39 => ?_) (fun czq39 => absurd (bI_f (fun z => absurd (wIs_one (L := L) (x := x) (st := st) (i := 2) (j := 7) (by decide) (by decide) z hw) (by decide))) czq39)
  skip
  refine z_iinc (3) [1, 2, 0] [(0, .ref 3), (1, .null), (2, .int 3)] dX5_readCommand_48 (j := 2) rfl (by decide) (by decide) rfl ?_
  refine z_goto (tgt := 4) dX5_readCommand_51 (by decide) ?_
  refine z_iload_n (j := 2) dX5_readCommand_4 rfl ?_
  refine z_getsN (v := .ref (zB + 300)) (host := "NeighbourHash") kZ_cm (List.mem_of_getElem? (i := 5) rfl) dX5_readCommand_5 ?_
  refine z_alenC (v := 10) kT_cm rfl dX5_readCommand_8 ?_
  refine z_icmp_ge (tgt := 54) dX5_readCommand_9 (by decide) (fun czq9 => absurd czq9 (by decide)) (fun czq9 => ?_)
  refine z_aload_nN (j := 1) dX5_readCommand_12 rfl ?_
  refine z_ifnonnullN dX5_readCommand_13 ?_
  refine z_getsN (v := .ref (zB + 300)) (host := "NeighbourHash") kZ_cm (List.mem_of_getElem? (i := 5) rfl) dX5_readCommand_16 ?_
  refine z_iload_n (j := 2) dX5_readCommand_19 rfl ?_
  refine z_aaldC kT_cm (show vp_in (nI 3) 10 from vp_in_nI (by decide) (by decide)) dX5_readCommand_20 ?_
  refine z_ifnull dX5_readCommand_21 ?_
  refine z_aload_n (j := 0) dX5_readCommand_24 rfl ?_
  refine z_get (v := .ref 1) (by omega) gW_3 fX5_32 rfl dX5_readCommand_25 ?_
  refine z_getsN (v := .ref (zB + 300)) (host := "NeighbourHash") kZ_cm (List.mem_of_getElem? (i := 5) rfl) dX5_readCommand_28 ?_
  refine z_iload_n (j := 2) dX5_readCommand_31 rfl ?_
  refine z_aaldC kT_cm (show vp_in (nI 3) 10 from vp_in_nI (by decide) (by decide)) dX5_readCommand_32 ?_
  refine z_getC (v := .ref (zB + 14 + 3)) (by decide +kernel) fX5_168 dX5_readCommand_33 ?_
  refine z_kV [.ref ((zB + 14 + 3))] 0 0 kc ks yoX3_isWord yvX3_isWord rfl (by decide) lX5_75 (by omega) gW_1 rfl rfl (Nat.le_of_ble_eq_true rfl) (Nat.le_of_ble_eq_true rfl) dX5_readCommand_36 (by omega) (by omega) (z_room (by omega) (Nat.le_refl _) (Nat.le_refl _) (w_isWord (d := 0) (w := 3) hn hL h11 hu hx (by decide) h12 h13 h14 hst ⟨rfl, ?_⟩))
  refine z_if_eq (tgt := 48) dX5_readCommand_39 (by decide) (fun czq39 => ?_) (fun czq39 => absurd (bI_f (fun z => absurd (wIs_one (L := L) (x := x) (st := st) (i := 3) (j := 7) (by decide) (by decide) z hw) (by decide))) czq39)
  skip
  refine z_iinc (4) [1, 2, 0] [(0, .ref 3), (1, .null), (2, .int 4)] dX5_readCommand_48 (j := 2) rfl (by decide) (by decide) rfl ?_
  refine z_goto (tgt := 4) dX5_readCommand_51 (by decide) ?_
  refine z_iload_n (j := 2) dX5_readCommand_4 rfl ?_
  refine z_getsN (v := .ref (zB + 300)) (host := "NeighbourHash") kZ_cm (List.mem_of_getElem? (i := 5) rfl) dX5_readCommand_5 ?_
  refine z_alenC (v := 10) kT_cm rfl dX5_readCommand_8 ?_
  refine z_icmp_ge (tgt := 54) dX5_readCommand_9 (by decide) (fun czq9 => absurd czq9 (by decide)) (fun czq9 => ?_)
  refine z_aload_nN (j := 1) dX5_readCommand_12 rfl ?_
  refine z_ifnonnullN dX5_readCommand_13 ?_
  refine z_getsN (v := .ref (zB + 300)) (host := "NeighbourHash") kZ_cm (List.mem_of_getElem? (i := 5) rfl) dX5_readCommand_16 ?_
  refine z_iload_n (j := 2) dX5_readCommand_19 rfl ?_
  refine z_aaldC kT_cm (show vp_in (nI 4) 10 from vp_in_nI (by decide) (by decide)) dX5_readCommand_20 ?_
  refine z_ifnull dX5_readCommand_21 ?_
  refine z_aload_n (j := 0) dX5_readCommand_24 rfl ?_
  refine z_get (v := .ref 1) (by omega) gW_3 fX5_32 rfl dX5_readCommand_25 ?_
  refine z_getsN (v := .ref (zB + 300)) (host := "NeighbourHash") kZ_cm (List.mem_of_getElem? (i := 5) rfl) dX5_readCommand_28 ?_
  refine z_iload_n (j := 2) dX5_readCommand_31 rfl ?_
  refine z_aaldC kT_cm (show vp_in (nI 4) 10 from vp_in_nI (by decide) (by decide)) dX5_readCommand_32 ?_
  refine z_getC (v := .ref (zB + 14 + 4)) (by decide +kernel) fX5_168 dX5_readCommand_33 ?_
  refine z_kV [.ref ((zB + 14 + 4))] 0 0 kc ks yoX3_isWord yvX3_isWord rfl (by decide) lX5_75 (by omega) gW_1 rfl rfl (Nat.le_of_ble_eq_true rfl) (Nat.le_of_ble_eq_true rfl) dX5_readCommand_36 (by omega) (by omega) (z_room (by omega) (Nat.le_refl _) (Nat.le_refl _) (w_isWord (d := 0) (w := 4) hn hL h11 hu hx (by decide) h12 h13 h14 hst ⟨rfl, ?_⟩))
  refine z_if_eq (tgt := 48) dX5_readCommand_39 (by decide) (fun czq39 => ?_) (fun czq39 => absurd (bI_f (fun z => absurd (wIs_one (L := L) (x := x) (st := st) (i := 4) (j := 7) (by decide) (by decide) z hw) (by decide))) czq39)
  skip
  refine z_iinc (5) [1, 2, 0] [(0, .ref 3), (1, .null), (2, .int 5)] dX5_readCommand_48 (j := 2) rfl (by decide) (by decide) rfl ?_
  refine z_goto (tgt := 4) dX5_readCommand_51 (by decide) ?_
  refine z_iload_n (j := 2) dX5_readCommand_4 rfl ?_
  refine z_getsN (v := .ref (zB + 300)) (host := "NeighbourHash") kZ_cm (List.mem_of_getElem? (i := 5) rfl) dX5_readCommand_5 ?_
  refine z_alenC (v := 10) kT_cm rfl dX5_readCommand_8 ?_
  refine z_icmp_ge (tgt := 54) dX5_readCommand_9 (by decide) (fun czq9 => absurd czq9 (by decide)) (fun czq9 => ?_)
  refine z_aload_nN (j := 1) dX5_readCommand_12 rfl ?_
  refine z_ifnonnullN dX5_readCommand_13 ?_
  refine z_getsN (v := .ref (zB + 300)) (host := "NeighbourHash") kZ_cm (List.mem_of_getElem? (i := 5) rfl) dX5_readCommand_16 ?_
  refine z_iload_n (j := 2) dX5_readCommand_19 rfl ?_
  refine z_aaldC kT_cm (show vp_in (nI 5) 10 from vp_in_nI (by decide) (by decide)) dX5_readCommand_20 ?_
  refine z_ifnull dX5_readCommand_21 ?_
  refine z_aload_n (j := 0) dX5_readCommand_24 rfl ?_
  refine z_get (v := .ref 1) (by omega) gW_3 fX5_32 rfl dX5_readCommand_25 ?_
  refine z_getsN (v := .ref (zB + 300)) (host := "NeighbourHash") kZ_cm (List.mem_of_getElem? (i := 5) rfl) dX5_readCommand_28 ?_
  refine z_iload_n (j := 2) dX5_readCommand_31 rfl ?_
  refine z_aaldC kT_cm (show vp_in (nI 5) 10 from vp_in_nI (by decide) (by decide)) dX5_readCommand_32 ?_
  refine z_getC (v := .ref (zB + 14 + 5)) (by decide +kernel) fX5_168 dX5_readCommand_33 ?_
  refine z_kV [.ref ((zB + 14 + 5))] 0 0 kc ks yoX3_isWord yvX3_isWord rfl (by decide) lX5_75 (by omega) gW_1 rfl rfl (Nat.le_of_ble_eq_true rfl) (Nat.le_of_ble_eq_true rfl) dX5_readCommand_36 (by omega) (by omega) (z_room (by omega) (Nat.le_refl _) (Nat.le_refl _) (w_isWord (d := 0) (w := 5) hn hL h11 hu hx (by decide) h12 h13 h14 hst ⟨rfl, ?_⟩))
  refine z_if_eq (tgt := 48) dX5_readCommand_39 (by decide) (fun czq39 => ?_) (fun czq39 => absurd (bI_f (fun z => absurd (wIs_one (L := L) (x := x) (st := st) (i := 5) (j := 7) (by decide) (by decide) z hw) (by decide))) czq39)
  skip
  refine z_iinc (6) [1, 2, 0] [(0, .ref 3), (1, .null), (2, .int 6)] dX5_readCommand_48 (j := 2) rfl (by decide) (by decide) rfl ?_
  refine z_goto (tgt := 4) dX5_readCommand_51 (by decide) ?_
  refine z_iload_n (j := 2) dX5_readCommand_4 rfl ?_
  refine z_getsN (v := .ref (zB + 300)) (host := "NeighbourHash") kZ_cm (List.mem_of_getElem? (i := 5) rfl) dX5_readCommand_5 ?_
  refine z_alenC (v := 10) kT_cm rfl dX5_readCommand_8 ?_
  refine z_icmp_ge (tgt := 54) dX5_readCommand_9 (by decide) (fun czq9 => absurd czq9 (by decide)) (fun czq9 => ?_)
  refine z_aload_nN (j := 1) dX5_readCommand_12 rfl ?_
  refine z_ifnonnullN dX5_readCommand_13 ?_
  refine z_getsN (v := .ref (zB + 300)) (host := "NeighbourHash") kZ_cm (List.mem_of_getElem? (i := 5) rfl) dX5_readCommand_16 ?_
  refine z_iload_n (j := 2) dX5_readCommand_19 rfl ?_
  refine z_aaldC kT_cm (show vp_in (nI 6) 10 from vp_in_nI (by decide) (by decide)) dX5_readCommand_20 ?_
  refine z_ifnull dX5_readCommand_21 ?_
  refine z_aload_n (j := 0) dX5_readCommand_24 rfl ?_
  refine z_get (v := .ref 1) (by omega) gW_3 fX5_32 rfl dX5_readCommand_25 ?_
  refine z_getsN (v := .ref (zB + 300)) (host := "NeighbourHash") kZ_cm (List.mem_of_getElem? (i := 5) rfl) dX5_readCommand_28 ?_
  refine z_iload_n (j := 2) dX5_readCommand_31 rfl ?_
  refine z_aaldC kT_cm (show vp_in (nI 6) 10 from vp_in_nI (by decide) (by decide)) dX5_readCommand_32 ?_
  refine z_getC (v := .ref (zB + 14 + 6)) (by decide +kernel) fX5_168 dX5_readCommand_33 ?_
  refine z_kV [.ref ((zB + 14 + 6))] 0 0 kc ks yoX3_isWord yvX3_isWord rfl (by decide) lX5_75 (by omega) gW_1 rfl rfl (Nat.le_of_ble_eq_true rfl) (Nat.le_of_ble_eq_true rfl) dX5_readCommand_36 (by omega) (by omega) (z_room (by omega) (Nat.le_refl _) (Nat.le_refl _) (w_isWord (d := 0) (w := 6) hn hL h11 hu hx (by decide) h12 h13 h14 hst ⟨rfl, ?_⟩))
  refine z_if_eq (tgt := 48) dX5_readCommand_39 (by decide) (fun czq39 => ?_) (fun czq39 => absurd (bI_f (fun z => absurd (wIs_one (L := L) (x := x) (st := st) (i := 6) (j := 7) (by decide) (by decide) z hw) (by decide))) czq39)
  skip
  refine z_iinc (7) [1, 2, 0] [(0, .ref 3), (1, .null), (2, .int 7)] dX5_readCommand_48 (j := 2) rfl (by decide) (by decide) rfl ?_
  refine z_goto (tgt := 4) dX5_readCommand_51 (by decide) ?_
  refine z_iload_n (j := 2) dX5_readCommand_4 rfl ?_
  refine z_getsN (v := .ref (zB + 300)) (host := "NeighbourHash") kZ_cm (List.mem_of_getElem? (i := 5) rfl) dX5_readCommand_5 ?_
  refine z_alenC (v := 10) kT_cm rfl dX5_readCommand_8 ?_
  refine z_icmp_ge (tgt := 54) dX5_readCommand_9 (by decide) (fun czq9 => absurd czq9 (by decide)) (fun czq9 => ?_)
  refine z_aload_nN (j := 1) dX5_readCommand_12 rfl ?_
  refine z_ifnonnullN dX5_readCommand_13 ?_
  refine z_getsN (v := .ref (zB + 300)) (host := "NeighbourHash") kZ_cm (List.mem_of_getElem? (i := 5) rfl) dX5_readCommand_16 ?_
  refine z_iload_n (j := 2) dX5_readCommand_19 rfl ?_
  refine z_aaldC kT_cm (show vp_in (nI 7) 10 from vp_in_nI (by decide) (by decide)) dX5_readCommand_20 ?_
  refine z_ifnull dX5_readCommand_21 ?_
  refine z_aload_n (j := 0) dX5_readCommand_24 rfl ?_
  refine z_get (v := .ref 1) (by omega) gW_3 fX5_32 rfl dX5_readCommand_25 ?_
  refine z_getsN (v := .ref (zB + 300)) (host := "NeighbourHash") kZ_cm (List.mem_of_getElem? (i := 5) rfl) dX5_readCommand_28 ?_
  refine z_iload_n (j := 2) dX5_readCommand_31 rfl ?_
  refine z_aaldC kT_cm (show vp_in (nI 7) 10 from vp_in_nI (by decide) (by decide)) dX5_readCommand_32 ?_
  refine z_getC (v := .ref (zB + 14 + 7)) (by decide +kernel) fX5_168 dX5_readCommand_33 ?_
  refine z_kV [.ref ((zB + 14 + 7))] 0 0 kc ks yoX3_isWord yvX3_isWord rfl (by decide) lX5_75 (by omega) gW_1 rfl rfl (Nat.le_of_ble_eq_true rfl) (Nat.le_of_ble_eq_true rfl) dX5_readCommand_36 (by omega) (by omega) (z_room (by omega) (Nat.le_refl _) (Nat.le_refl _) (w_isWord (d := 0) (w := 7) hn hL h11 hu hx (by decide) h12 h13 h14 hst ⟨rfl, ?_⟩))
  refine z_if_eq (tgt := 48) dX5_readCommand_39 (by decide) (fun czq39 => absurd czq39 (fun z => bI_0.mp z hw)) (fun czq39 => ?_)
  refine z_getsN (v := .ref (zB + 300)) (host := "NeighbourHash") kZ_cm (List.mem_of_getElem? (i := 5) rfl) dX5_readCommand_42 ?_
  refine z_iload_n (j := 2) dX5_readCommand_45 rfl ?_
  refine z_aaldC kT_cm (show vp_in (nI 7) 10 from vp_in_nI (by decide) (by decide)) dX5_readCommand_46 ?_
  refine z_astore_n [1, 0, 2] [(0, .ref 3), (1, .ref ((zB + 200 + 7))), (2, .int 7)] dX5_readCommand_47 (by decide) rfl ?_
  skip
  refine z_iinc (8) [1, 2, 0] [(0, .ref 3), (1, .ref ((zB + 200 + 7))), (2, .int 8)] dX5_readCommand_48 (j := 2) rfl (by decide) (by decide) rfl ?_
  refine z_goto (tgt := 4) dX5_readCommand_51 (by decide) ?_
  refine z_iload_n (j := 2) dX5_readCommand_4 rfl ?_
  refine z_getsN (v := .ref (zB + 300)) (host := "NeighbourHash") kZ_cm (List.mem_of_getElem? (i := 5) rfl) dX5_readCommand_5 ?_
  refine z_alenC (v := 10) kT_cm rfl dX5_readCommand_8 ?_
  refine z_icmp_ge (tgt := 54) dX5_readCommand_9 (by decide) (fun czq9 => absurd czq9 (by decide)) (fun czq9 => ?_)
  refine z_aload_n (j := 1) dX5_readCommand_12 rfl ?_
  refine z_ifnonnull (tgt := 54) dX5_readCommand_13 (by decide) ?_
  refine z_aload_n (j := 1) dX5_readCommand_54 rfl ?_
  refine z_ifnonnull (tgt := 64) dX5_readCommand_55 (by decide) ?_
  refine z_aload_n (j := 0) dX5_readCommand_64 rfl ?_
  refine z_get (v := .int (o 2 6)) (by omega) gW_3 fX5_44 rfl dX5_readCommand_65 ?_
  refine z_sipush (v := 200) dX5_readCommand_68 (by decide) ?_
  rw [show (o 2 6) = nI ex from h6]
  refine z_icmp_lt (tgt := 80) dX5_readCommand_71 (by decide) (fun czq71 => ?_) (fun czq71 => ?_)
  · have hexn : ¬ ex = 200 := fun z => absurd czq71 (by rw [z]; decide)
    refine z_iconst (v := 0) dX5_readCommand_80 (by decide) ?_
    refine z_istore_n [1, 2, 0] [(0, .ref 3), (1, .ref ((zB + 200 + 7))), (2, .int 0)] dX5_readCommand_81 (by decide) rfl ?_
    refine z_iload_n (j := 2) dX5_readCommand_82 rfl ?_
    refine z_aload_n (j := 1) dX5_readCommand_83 rfl ?_
    refine z_getC (v := .int 0) (by decide +kernel) fX5_172 dX5_readCommand_84 ?_
    refine z_icmp_ge (tgt := 143) dX5_readCommand_87 (by decide) (fun czq87 => ?_) (fun czq87 => absurd (by decide) czq87)
    refine z_aload_n (j := 0) dX5_readCommand_143 rfl ?_
    refine z_iconst (v := 5) dX5_readCommand_144 (by decide) ?_
    refine z_kV [.int 5] 0 0 kc ks yoX5_expect yvX5_expect rfl (by decide) lX5_148 (by omega) gW_3 rfl rfl (Nat.le_of_ble_eq_true rfl) (Nat.le_of_ble_eq_true rfl) dX5_readCommand_145 (by omega) (by omega) (z_room (by omega) (Nat.le_refl _) (Nat.le_refl _) (w_expect (d := 0) (k := 5) hn hL h11 hu hx ((tE_le' hst).2) h12 h10 (by decide) (fun hk0 o0 q2_0 q3_0 q5_0 hf0 => ⟨rfl, ?_⟩) (fun hk0 o0 he0 => ⟨rfl, ?_⟩)))
    · have h11_0 : o0 1 1 = nI L := (hf0.2 1 (by decide)).trans h11
      have h10_0 : o0 2 10 = 0 := by rw [hf0.1 2 (by decide)]; exact h10
      have hfc_0 : fp (fun j => 2 ≤ j) o o0 := fp.rf.tr hf0
      refine z_aload_n (j := 0) dX5_readCommand_148 rfl ?_
      refine z_aload_n (j := 1) dX5_readCommand_149 rfl ?_
      refine g_putc (Nat.le_trans (Nat.le_add_right _ _) (Nat.le_add_right _ _)) (by omega) fX5_57 dX5_readCommand_150 ?_
      exact z_vret rfl dX5_readCommand_153 (by
          exact hqY  (tE L x st) ((tE_le' hst).2) hexn rfl hk0 _ _ q2_0 q3_0 hfc_0 h11_0  (show ∀ j, j ≠ 1 → u j = u j from fun _ _ => rfl))
    · refine z_aload_n (j := 0) dX5_readCommand_148 rfl ?_
      refine z_aload_n (j := 1) dX5_readCommand_149 rfl ?_
      refine g_putc (Nat.le_trans (Nat.le_add_right _ _) (Nat.le_add_right _ _)) (by omega) fX5_57 dX5_readCommand_150 ?_
      exact z_vret rfl dX5_readCommand_153 (by
          exact hqN 1 (tS L x (tE L x st)) (by
            unfold cS
            rw [if_neg hexn]
            unfold smp
            simp only [fin, rdT_1 hk0]) (by decide) (.ref (zB + 200 + 7)) (Or.inr ⟨_, rfl⟩) o0 u ((show ∀ j, j ≠ 1 → u j = u j from fun _ _ => rfl) 4 (by decide)) (he0.fp fp.rf))
  · have hex2 : ex = 200 := by
      have : ¬ ex < 200 := fun z => czq71 (nI_lt (b := 200) z (by decide))
      omega
    refine z_aload_n (j := 0) dX5_readCommand_74 rfl ?_
    refine z_iconst (v := 5) dX5_readCommand_75 (by decide) ?_
    refine z_kV [.int 5] 0 0 kc ks yoX5_fail yvX5_fail rfl (by decide) lX5_137 (by omega) gW_3 rfl rfl (Nat.le_of_ble_eq_true rfl) (Nat.le_of_ble_eq_true rfl) dX5_readCommand_76 (by omega) (by omega) (z_room (by omega) (Nat.le_refl _) (Nat.le_refl _) (w_fail (d := 0) (k := 5) hn h13 (fun o1 he => ⟨rfl, ?_⟩)))
    exact z_vret rfl dX5_readCommand_79 (hqN 5 st (by unfold cS; exact if_pos hex2) (by decide) cm (Or.inl rfl) o1 u rfl he)

set_option maxHeartbeats 4000000 in
set_option maxRecDepth 100000 in
theorem w_read8 {l : zL} {d kc ks n : Nat} {h : Nat → va_E} {cm : Value} {o u : Nat → Nat → Int32} {s : Nat → Nat → Int32} {a : Nat → Nat → Nat → Int32} {L : Nat} {x : Nat → Nat} {st ex : Nat} {S : zS} {Q : zQ} (hn : 89 ≤ n) (hL : L ≤ 600) (h11 : o 1 1 = nI L) (hu : ∀ i, i < L → u 0 i = nI (x i)) (hx : ∀ i, x i < 256) (hst : st ≤ L) (h12 : o 1 2 = nI (tE L x st)) (h13 : o 1 3 = nI st) (h14 : o 1 4 = nI (tKd L x st)) (h10 : o 2 10 = 0) (h6 : o 2 6 = nI ex) (hex : ex ≤ 200) (hT : cT S (s 0) (a 0)) (hw : wIs L x st 8 = true) (hqY : ∀ ps, ps ≤ L → ¬ ex = 200 → smp L x 8 (tE L x st) S = fin L x ps (sGrow S) → tKd L x (tS L x ps) = 5 → ∀ o' u', o' 1 2 = nI (nx L x ps) → o' 1 3 = nI (tS L x ps) → fp (fun j => 2 ≤ j) o o' → o' 1 1 = nI L → (∀ j, j ≠ 1 → u' j = u j) → Q (.inl none) n (gW h (.ref (zB + 200 + 8)) o' u' s a)) (hqN : ∀ k off, cS L x 8 st ex S = .inl (k, off) → (k ≠ 0 ∧ k < 10) → ∀ cm', (cm' = cm ∨ ∃ q, cm' = .ref q) → ∀ o' u', u' 4 = u 4 → er o o' k off → Q (.inl none) n (gW h cm' o' u' s a)) : Zj l mX5_readCommand (d + 5) kc ks 0 [(0, .ref 3)] [] n (gW h cm o u s a) Q := by
  refine z_null dX5_readCommand_0 ?_
  refine z_astore_nN [1, 0] [(0, .ref 3), (1, .null)] dX5_readCommand_1 (by decide) rfl ?_
  refine z_iconst (v := 0) dX5_readCommand_2 (by decide) ?_
  refine z_istore_n [1, 2, 0] [(0, .ref 3), (1, .null), (2, .int 0)] dX5_readCommand_3 (by decide) rfl ?_
  refine z_iload_n (j := 2) dX5_readCommand_4 rfl ?_
  refine z_getsN (v := .ref (zB + 300)) (host := "NeighbourHash") kZ_cm (List.mem_of_getElem? (i := 5) rfl) dX5_readCommand_5 ?_
  refine z_alenC (v := 10) kT_cm rfl dX5_readCommand_8 ?_
  refine z_icmp_ge (tgt := 54) dX5_readCommand_9 (by decide) (fun czq9 => absurd czq9 (by decide)) (fun czq9 => ?_)
  refine z_aload_nN (j := 1) dX5_readCommand_12 rfl ?_
  refine z_ifnonnullN dX5_readCommand_13 ?_
  refine z_getsN (v := .ref (zB + 300)) (host := "NeighbourHash") kZ_cm (List.mem_of_getElem? (i := 5) rfl) dX5_readCommand_16 ?_
  refine z_iload_n (j := 2) dX5_readCommand_19 rfl ?_
  refine z_aaldC kT_cm (show vp_in (nI 0) 10 from vp_in_nI (by decide) (by decide)) dX5_readCommand_20 ?_
  refine z_ifnull dX5_readCommand_21 ?_
  refine z_aload_n (j := 0) dX5_readCommand_24 rfl ?_
  refine z_get (v := .ref 1) (by omega) gW_3 fX5_32 rfl dX5_readCommand_25 ?_
  refine z_getsN (v := .ref (zB + 300)) (host := "NeighbourHash") kZ_cm (List.mem_of_getElem? (i := 5) rfl) dX5_readCommand_28 ?_
  refine z_iload_n (j := 2) dX5_readCommand_31 rfl ?_
  refine z_aaldC kT_cm (show vp_in (nI 0) 10 from vp_in_nI (by decide) (by decide)) dX5_readCommand_32 ?_
  refine z_getC (v := .ref (zB + 14 + 0)) (by decide +kernel) fX5_168 dX5_readCommand_33 ?_
  refine z_kV [.ref ((zB + 14 + 0))] 0 0 kc ks yoX3_isWord yvX3_isWord rfl (by decide) lX5_75 (by omega) gW_1 rfl rfl (Nat.le_of_ble_eq_true rfl) (Nat.le_of_ble_eq_true rfl) dX5_readCommand_36 (by omega) (by omega) (z_room (by omega) (Nat.le_refl _) (Nat.le_refl _) (w_isWord (d := 0) (w := 0) hn hL h11 hu hx (by decide) h12 h13 h14 hst ⟨rfl, ?_⟩))
  refine z_if_eq (tgt := 48) dX5_readCommand_39 (by decide) (fun czq39 => ?_) (fun czq39 => absurd (bI_f (fun z => absurd (wIs_one (L := L) (x := x) (st := st) (i := 0) (j := 8) (by decide) (by decide) z hw) (by decide))) czq39)
  skip
  refine z_iinc (1) [1, 2, 0] [(0, .ref 3), (1, .null), (2, .int 1)] dX5_readCommand_48 (j := 2) rfl (by decide) (by decide) rfl ?_
  refine z_goto (tgt := 4) dX5_readCommand_51 (by decide) ?_
  refine z_iload_n (j := 2) dX5_readCommand_4 rfl ?_
  refine z_getsN (v := .ref (zB + 300)) (host := "NeighbourHash") kZ_cm (List.mem_of_getElem? (i := 5) rfl) dX5_readCommand_5 ?_
  refine z_alenC (v := 10) kT_cm rfl dX5_readCommand_8 ?_
  refine z_icmp_ge (tgt := 54) dX5_readCommand_9 (by decide) (fun czq9 => absurd czq9 (by decide)) (fun czq9 => ?_)
  refine z_aload_nN (j := 1) dX5_readCommand_12 rfl ?_
  refine z_ifnonnullN dX5_readCommand_13 ?_
  refine z_getsN (v := .ref (zB + 300)) (host := "NeighbourHash") kZ_cm (List.mem_of_getElem? (i := 5) rfl) dX5_readCommand_16 ?_
  refine z_iload_n (j := 2) dX5_readCommand_19 rfl ?_
  refine z_aaldC kT_cm (show vp_in (nI 1) 10 from vp_in_nI (by decide) (by decide)) dX5_readCommand_20 ?_
  refine z_ifnull dX5_readCommand_21 ?_
  refine z_aload_n (j := 0) dX5_readCommand_24 rfl ?_
  refine z_get (v := .ref 1) (by omega) gW_3 fX5_32 rfl dX5_readCommand_25 ?_
  refine z_getsN (v := .ref (zB + 300)) (host := "NeighbourHash") kZ_cm (List.mem_of_getElem? (i := 5) rfl) dX5_readCommand_28 ?_
  refine z_iload_n (j := 2) dX5_readCommand_31 rfl ?_
  refine z_aaldC kT_cm (show vp_in (nI 1) 10 from vp_in_nI (by decide) (by decide)) dX5_readCommand_32 ?_
  refine z_getC (v := .ref (zB + 14 + 1)) (by decide +kernel) fX5_168 dX5_readCommand_33 ?_
  refine z_kV [.ref ((zB + 14 + 1))] 0 0 kc ks yoX3_isWord yvX3_isWord rfl (by decide) lX5_75 (by omega) gW_1 rfl rfl (Nat.le_of_ble_eq_true rfl) (Nat.le_of_ble_eq_true rfl) dX5_readCommand_36 (by omega) (by omega) (z_room (by omega) (Nat.le_refl _) (Nat.le_refl _) (w_isWord (d := 0) (w := 1) hn hL h11 hu hx (by decide) h12 h13 h14 hst ⟨rfl, ?_⟩))
  refine z_if_eq (tgt := 48) dX5_readCommand_39 (by decide) (fun czq39 => ?_) (fun czq39 => absurd (bI_f (fun z => absurd (wIs_one (L := L) (x := x) (st := st) (i := 1) (j := 8) (by decide) (by decide) z hw) (by decide))) czq39)
  skip
  refine z_iinc (2) [1, 2, 0] [(0, .ref 3), (1, .null), (2, .int 2)] dX5_readCommand_48 (j := 2) rfl (by decide) (by decide) rfl ?_
  refine z_goto (tgt := 4) dX5_readCommand_51 (by decide) ?_
  refine z_iload_n (j := 2) dX5_readCommand_4 rfl ?_
  refine z_getsN (v := .ref (zB + 300)) (host := "NeighbourHash") kZ_cm (List.mem_of_getElem? (i := 5) rfl) dX5_readCommand_5 ?_
  refine z_alenC (v := 10) kT_cm rfl dX5_readCommand_8 ?_
  refine z_icmp_ge (tgt := 54) dX5_readCommand_9 (by decide) (fun czq9 => absurd czq9 (by decide)) (fun czq9 => ?_)
  refine z_aload_nN (j := 1) dX5_readCommand_12 rfl ?_
  refine z_ifnonnullN dX5_readCommand_13 ?_
  refine z_getsN (v := .ref (zB + 300)) (host := "NeighbourHash") kZ_cm (List.mem_of_getElem? (i := 5) rfl) dX5_readCommand_16 ?_
  refine z_iload_n (j := 2) dX5_readCommand_19 rfl ?_
  refine z_aaldC kT_cm (show vp_in (nI 2) 10 from vp_in_nI (by decide) (by decide)) dX5_readCommand_20 ?_
  refine z_ifnull dX5_readCommand_21 ?_
  refine z_aload_n (j := 0) dX5_readCommand_24 rfl ?_
  refine z_get (v := .ref 1) (by omega) gW_3 fX5_32 rfl dX5_readCommand_25 ?_
  refine z_getsN (v := .ref (zB + 300)) (host := "NeighbourHash") kZ_cm (List.mem_of_getElem? (i := 5) rfl) dX5_readCommand_28 ?_
  refine z_iload_n (j := 2) dX5_readCommand_31 rfl ?_
  refine z_aaldC kT_cm (show vp_in (nI 2) 10 from vp_in_nI (by decide) (by decide)) dX5_readCommand_32 ?_
  refine z_getC (v := .ref (zB + 14 + 2)) (by decide +kernel) fX5_168 dX5_readCommand_33 ?_
  refine z_kV [.ref ((zB + 14 + 2))] 0 0 kc ks yoX3_isWord yvX3_isWord rfl (by decide) lX5_75 (by omega) gW_1 rfl rfl (Nat.le_of_ble_eq_true rfl) (Nat.le_of_ble_eq_true rfl) dX5_readCommand_36 (by omega) (by omega) (z_room (by omega) (Nat.le_refl _) (Nat.le_refl _) (w_isWord (d := 0) (w := 2) hn hL h11 hu hx (by decide) h12 h13 h14 hst ⟨rfl, ?_⟩))
  refine z_if_eq (tgt := 48) dX5_readCommand_39 (by decide) (fun czq39 => ?_) (fun czq39 => absurd (bI_f (fun z => absurd (wIs_one (L := L) (x := x) (st := st) (i := 2) (j := 8) (by decide) (by decide) z hw) (by decide))) czq39)
  skip
  refine z_iinc (3) [1, 2, 0] [(0, .ref 3), (1, .null), (2, .int 3)] dX5_readCommand_48 (j := 2) rfl (by decide) (by decide) rfl ?_
  refine z_goto (tgt := 4) dX5_readCommand_51 (by decide) ?_
  refine z_iload_n (j := 2) dX5_readCommand_4 rfl ?_
  refine z_getsN (v := .ref (zB + 300)) (host := "NeighbourHash") kZ_cm (List.mem_of_getElem? (i := 5) rfl) dX5_readCommand_5 ?_
  refine z_alenC (v := 10) kT_cm rfl dX5_readCommand_8 ?_
  refine z_icmp_ge (tgt := 54) dX5_readCommand_9 (by decide) (fun czq9 => absurd czq9 (by decide)) (fun czq9 => ?_)
  refine z_aload_nN (j := 1) dX5_readCommand_12 rfl ?_
  refine z_ifnonnullN dX5_readCommand_13 ?_
  refine z_getsN (v := .ref (zB + 300)) (host := "NeighbourHash") kZ_cm (List.mem_of_getElem? (i := 5) rfl) dX5_readCommand_16 ?_
  refine z_iload_n (j := 2) dX5_readCommand_19 rfl ?_
  refine z_aaldC kT_cm (show vp_in (nI 3) 10 from vp_in_nI (by decide) (by decide)) dX5_readCommand_20 ?_
  refine z_ifnull dX5_readCommand_21 ?_
  refine z_aload_n (j := 0) dX5_readCommand_24 rfl ?_
  refine z_get (v := .ref 1) (by omega) gW_3 fX5_32 rfl dX5_readCommand_25 ?_
  refine z_getsN (v := .ref (zB + 300)) (host := "NeighbourHash") kZ_cm (List.mem_of_getElem? (i := 5) rfl) dX5_readCommand_28 ?_
  refine z_iload_n (j := 2) dX5_readCommand_31 rfl ?_
  refine z_aaldC kT_cm (show vp_in (nI 3) 10 from vp_in_nI (by decide) (by decide)) dX5_readCommand_32 ?_
  refine z_getC (v := .ref (zB + 14 + 3)) (by decide +kernel) fX5_168 dX5_readCommand_33 ?_
  refine z_kV [.ref ((zB + 14 + 3))] 0 0 kc ks yoX3_isWord yvX3_isWord rfl (by decide) lX5_75 (by omega) gW_1 rfl rfl (Nat.le_of_ble_eq_true rfl) (Nat.le_of_ble_eq_true rfl) dX5_readCommand_36 (by omega) (by omega) (z_room (by omega) (Nat.le_refl _) (Nat.le_refl _) (w_isWord (d := 0) (w := 3) hn hL h11 hu hx (by decide) h12 h13 h14 hst ⟨rfl, ?_⟩))
  refine z_if_eq (tgt := 48) dX5_readCommand_39 (by decide) (fun czq39 => ?_) (fun czq39 => absurd (bI_f (fun z => absurd (wIs_one (L := L) (x := x) (st := st) (i := 3) (j := 8) (by decide) (by decide) z hw) (by decide))) czq39)
  skip
  refine z_iinc (4) [1, 2, 0] [(0, .ref 3), (1, .null), (2, .int 4)] dX5_readCommand_48 (j := 2) rfl (by decide) (by decide) rfl ?_
  refine z_goto (tgt := 4) dX5_readCommand_51 (by decide) ?_
  refine z_iload_n (j := 2) dX5_readCommand_4 rfl ?_
  refine z_getsN (v := .ref (zB + 300)) (host := "NeighbourHash") kZ_cm (List.mem_of_getElem? (i := 5) rfl) dX5_readCommand_5 ?_
  refine z_alenC (v := 10) kT_cm rfl dX5_readCommand_8 ?_
  refine z_icmp_ge (tgt := 54) dX5_readCommand_9 (by decide) (fun czq9 => absurd czq9 (by decide)) (fun czq9 => ?_)
  refine z_aload_nN (j := 1) dX5_readCommand_12 rfl ?_
  refine z_ifnonnullN dX5_readCommand_13 ?_
  refine z_getsN (v := .ref (zB + 300)) (host := "NeighbourHash") kZ_cm (List.mem_of_getElem? (i := 5) rfl) dX5_readCommand_16 ?_
  refine z_iload_n (j := 2) dX5_readCommand_19 rfl ?_
  refine z_aaldC kT_cm (show vp_in (nI 4) 10 from vp_in_nI (by decide) (by decide)) dX5_readCommand_20 ?_
  refine z_ifnull dX5_readCommand_21 ?_
  refine z_aload_n (j := 0) dX5_readCommand_24 rfl ?_
  refine z_get (v := .ref 1) (by omega) gW_3 fX5_32 rfl dX5_readCommand_25 ?_
  refine z_getsN (v := .ref (zB + 300)) (host := "NeighbourHash") kZ_cm (List.mem_of_getElem? (i := 5) rfl) dX5_readCommand_28 ?_
  refine z_iload_n (j := 2) dX5_readCommand_31 rfl ?_
  refine z_aaldC kT_cm (show vp_in (nI 4) 10 from vp_in_nI (by decide) (by decide)) dX5_readCommand_32 ?_
  refine z_getC (v := .ref (zB + 14 + 4)) (by decide +kernel) fX5_168 dX5_readCommand_33 ?_
  refine z_kV [.ref ((zB + 14 + 4))] 0 0 kc ks yoX3_isWord yvX3_isWord rfl (by decide) lX5_75 (by omega) gW_1 rfl rfl (Nat.le_of_ble_eq_true rfl) (Nat.le_of_ble_eq_true rfl) dX5_readCommand_36 (by omega) (by omega) (z_room (by omega) (Nat.le_refl _) (Nat.le_refl _) (w_isWord (d := 0) (w := 4) hn hL h11 hu hx (by decide) h12 h13 h14 hst ⟨rfl, ?_⟩))
  refine z_if_eq (tgt := 48) dX5_readCommand_39 (by decide) (fun czq39 => ?_) (fun czq39 => absurd (bI_f (fun z => absurd (wIs_one (L := L) (x := x) (st := st) (i := 4) (j := 8) (by decide) (by decide) z hw) (by decide))) czq39)
  skip
  refine z_iinc (5) [1, 2, 0] [(0, .ref 3), (1, .null), (2, .int 5)] dX5_readCommand_48 (j := 2) rfl (by decide) (by decide) rfl ?_
  refine z_goto (tgt := 4) dX5_readCommand_51 (by decide) ?_
  refine z_iload_n (j := 2) dX5_readCommand_4 rfl ?_
  refine z_getsN (v := .ref (zB + 300)) (host := "NeighbourHash") kZ_cm (List.mem_of_getElem? (i := 5) rfl) dX5_readCommand_5 ?_
  refine z_alenC (v := 10) kT_cm rfl dX5_readCommand_8 ?_
  refine z_icmp_ge (tgt := 54) dX5_readCommand_9 (by decide) (fun czq9 => absurd czq9 (by decide)) (fun czq9 => ?_)
  refine z_aload_nN (j := 1) dX5_readCommand_12 rfl ?_
  refine z_ifnonnullN dX5_readCommand_13 ?_
  refine z_getsN (v := .ref (zB + 300)) (host := "NeighbourHash") kZ_cm (List.mem_of_getElem? (i := 5) rfl) dX5_readCommand_16 ?_
  refine z_iload_n (j := 2) dX5_readCommand_19 rfl ?_
  refine z_aaldC kT_cm (show vp_in (nI 5) 10 from vp_in_nI (by decide) (by decide)) dX5_readCommand_20 ?_
  refine z_ifnull dX5_readCommand_21 ?_
  refine z_aload_n (j := 0) dX5_readCommand_24 rfl ?_
  refine z_get (v := .ref 1) (by omega) gW_3 fX5_32 rfl dX5_readCommand_25 ?_
  refine z_getsN (v := .ref (zB + 300)) (host := "NeighbourHash") kZ_cm (List.mem_of_getElem? (i := 5) rfl) dX5_readCommand_28 ?_
  refine z_iload_n (j := 2) dX5_readCommand_31 rfl ?_
  refine z_aaldC kT_cm (show vp_in (nI 5) 10 from vp_in_nI (by decide) (by decide)) dX5_readCommand_32 ?_
  refine z_getC (v := .ref (zB + 14 + 5)) (by decide +kernel) fX5_168 dX5_readCommand_33 ?_
  refine z_kV [.ref ((zB + 14 + 5))] 0 0 kc ks yoX3_isWord yvX3_isWord rfl (by decide) lX5_75 (by omega) gW_1 rfl rfl (Nat.le_of_ble_eq_true rfl) (Nat.le_of_ble_eq_true rfl) dX5_readCommand_36 (by omega) (by omega) (z_room (by omega) (Nat.le_refl _) (Nat.le_refl _) (w_isWord (d := 0) (w := 5) hn hL h11 hu hx (by decide) h12 h13 h14 hst ⟨rfl, ?_⟩))
  refine z_if_eq (tgt := 48) dX5_readCommand_39 (by decide) (fun czq39 => ?_) (fun czq39 => absurd (bI_f (fun z => absurd (wIs_one (L := L) (x := x) (st := st) (i := 5) (j := 8) (by decide) (by decide) z hw) (by decide))) czq39)
  skip
  refine z_iinc (6) [1, 2, 0] [(0, .ref 3), (1, .null), (2, .int 6)] dX5_readCommand_48 (j := 2) rfl (by decide) (by decide) rfl ?_
  refine z_goto (tgt := 4) dX5_readCommand_51 (by decide) ?_
  refine z_iload_n (j := 2) dX5_readCommand_4 rfl ?_
  refine z_getsN (v := .ref (zB + 300)) (host := "NeighbourHash") kZ_cm (List.mem_of_getElem? (i := 5) rfl) dX5_readCommand_5 ?_
  refine z_alenC (v := 10) kT_cm rfl dX5_readCommand_8 ?_
  refine z_icmp_ge (tgt := 54) dX5_readCommand_9 (by decide) (fun czq9 => absurd czq9 (by decide)) (fun czq9 => ?_)
  refine z_aload_nN (j := 1) dX5_readCommand_12 rfl ?_
  refine z_ifnonnullN dX5_readCommand_13 ?_
  refine z_getsN (v := .ref (zB + 300)) (host := "NeighbourHash") kZ_cm (List.mem_of_getElem? (i := 5) rfl) dX5_readCommand_16 ?_
  refine z_iload_n (j := 2) dX5_readCommand_19 rfl ?_
  refine z_aaldC kT_cm (show vp_in (nI 6) 10 from vp_in_nI (by decide) (by decide)) dX5_readCommand_20 ?_
  refine z_ifnull dX5_readCommand_21 ?_
  refine z_aload_n (j := 0) dX5_readCommand_24 rfl ?_
  refine z_get (v := .ref 1) (by omega) gW_3 fX5_32 rfl dX5_readCommand_25 ?_
  refine z_getsN (v := .ref (zB + 300)) (host := "NeighbourHash") kZ_cm (List.mem_of_getElem? (i := 5) rfl) dX5_readCommand_28 ?_
  refine z_iload_n (j := 2) dX5_readCommand_31 rfl ?_
  refine z_aaldC kT_cm (show vp_in (nI 6) 10 from vp_in_nI (by decide) (by decide)) dX5_readCommand_32 ?_
  refine z_getC (v := .ref (zB + 14 + 6)) (by decide +kernel) fX5_168 dX5_readCommand_33 ?_
  refine z_kV [.ref ((zB + 14 + 6))] 0 0 kc ks yoX3_isWord yvX3_isWord rfl (by decide) lX5_75 (by omega) gW_1 rfl rfl (Nat.le_of_ble_eq_true rfl) (Nat.le_of_ble_eq_true rfl) dX5_readCommand_36 (by omega) (by omega) (z_room (by omega) (Nat.le_refl _) (Nat.le_refl _) (w_isWord (d := 0) (w := 6) hn hL h11 hu hx (by decide) h12 h13 h14 hst ⟨rfl, ?_⟩))
  refine z_if_eq (tgt := 48) dX5_readCommand_39 (by decide) (fun czq39 => ?_) (fun czq39 => absurd (bI_f (fun z => absurd (wIs_one (L := L) (x := x) (st := st) (i := 6) (j := 8) (by decide) (by decide) z hw) (by decide))) czq39)
  skip
  refine z_iinc (7) [1, 2, 0] [(0, .ref 3), (1, .null), (2, .int 7)] dX5_readCommand_48 (j := 2) rfl (by decide) (by decide) rfl ?_
  refine z_goto (tgt := 4) dX5_readCommand_51 (by decide) ?_
  refine z_iload_n (j := 2) dX5_readCommand_4 rfl ?_
  refine z_getsN (v := .ref (zB + 300)) (host := "NeighbourHash") kZ_cm (List.mem_of_getElem? (i := 5) rfl) dX5_readCommand_5 ?_
  refine z_alenC (v := 10) kT_cm rfl dX5_readCommand_8 ?_
  refine z_icmp_ge (tgt := 54) dX5_readCommand_9 (by decide) (fun czq9 => absurd czq9 (by decide)) (fun czq9 => ?_)
  refine z_aload_nN (j := 1) dX5_readCommand_12 rfl ?_
  refine z_ifnonnullN dX5_readCommand_13 ?_
  refine z_getsN (v := .ref (zB + 300)) (host := "NeighbourHash") kZ_cm (List.mem_of_getElem? (i := 5) rfl) dX5_readCommand_16 ?_
  refine z_iload_n (j := 2) dX5_readCommand_19 rfl ?_
  refine z_aaldC kT_cm (show vp_in (nI 7) 10 from vp_in_nI (by decide) (by decide)) dX5_readCommand_20 ?_
  refine z_ifnull dX5_readCommand_21 ?_
  refine z_aload_n (j := 0) dX5_readCommand_24 rfl ?_
  refine z_get (v := .ref 1) (by omega) gW_3 fX5_32 rfl dX5_readCommand_25 ?_
  refine z_getsN (v := .ref (zB + 300)) (host := "NeighbourHash") kZ_cm (List.mem_of_getElem? (i := 5) rfl) dX5_readCommand_28 ?_
  refine z_iload_n (j := 2) dX5_readCommand_31 rfl ?_
  refine z_aaldC kT_cm (show vp_in (nI 7) 10 from vp_in_nI (by decide) (by decide)) dX5_readCommand_32 ?_
  refine z_getC (v := .ref (zB + 14 + 7)) (by decide +kernel) fX5_168 dX5_readCommand_33 ?_
  refine z_kV [.ref ((zB + 14 + 7))] 0 0 kc ks yoX3_isWord yvX3_isWord rfl (by decide) lX5_75 (by omega) gW_1 rfl rfl (Nat.le_of_ble_eq_true rfl) (Nat.le_of_ble_eq_true rfl) dX5_readCommand_36 (by omega) (by omega) (z_room (by omega) (Nat.le_refl _) (Nat.le_refl _) (w_isWord (d := 0) (w := 7) hn hL h11 hu hx (by decide) h12 h13 h14 hst ⟨rfl, ?_⟩))
  refine z_if_eq (tgt := 48) dX5_readCommand_39 (by decide) (fun czq39 => ?_) (fun czq39 => absurd (bI_f (fun z => absurd (wIs_one (L := L) (x := x) (st := st) (i := 7) (j := 8) (by decide) (by decide) z hw) (by decide))) czq39)
  skip
  refine z_iinc (8) [1, 2, 0] [(0, .ref 3), (1, .null), (2, .int 8)] dX5_readCommand_48 (j := 2) rfl (by decide) (by decide) rfl ?_
  refine z_goto (tgt := 4) dX5_readCommand_51 (by decide) ?_
  refine z_iload_n (j := 2) dX5_readCommand_4 rfl ?_
  refine z_getsN (v := .ref (zB + 300)) (host := "NeighbourHash") kZ_cm (List.mem_of_getElem? (i := 5) rfl) dX5_readCommand_5 ?_
  refine z_alenC (v := 10) kT_cm rfl dX5_readCommand_8 ?_
  refine z_icmp_ge (tgt := 54) dX5_readCommand_9 (by decide) (fun czq9 => absurd czq9 (by decide)) (fun czq9 => ?_)
  refine z_aload_nN (j := 1) dX5_readCommand_12 rfl ?_
  refine z_ifnonnullN dX5_readCommand_13 ?_
  refine z_getsN (v := .ref (zB + 300)) (host := "NeighbourHash") kZ_cm (List.mem_of_getElem? (i := 5) rfl) dX5_readCommand_16 ?_
  refine z_iload_n (j := 2) dX5_readCommand_19 rfl ?_
  refine z_aaldC kT_cm (show vp_in (nI 8) 10 from vp_in_nI (by decide) (by decide)) dX5_readCommand_20 ?_
  refine z_ifnull dX5_readCommand_21 ?_
  refine z_aload_n (j := 0) dX5_readCommand_24 rfl ?_
  refine z_get (v := .ref 1) (by omega) gW_3 fX5_32 rfl dX5_readCommand_25 ?_
  refine z_getsN (v := .ref (zB + 300)) (host := "NeighbourHash") kZ_cm (List.mem_of_getElem? (i := 5) rfl) dX5_readCommand_28 ?_
  refine z_iload_n (j := 2) dX5_readCommand_31 rfl ?_
  refine z_aaldC kT_cm (show vp_in (nI 8) 10 from vp_in_nI (by decide) (by decide)) dX5_readCommand_32 ?_
  refine z_getC (v := .ref (zB + 14 + 8)) (by decide +kernel) fX5_168 dX5_readCommand_33 ?_
  refine z_kV [.ref ((zB + 14 + 8))] 0 0 kc ks yoX3_isWord yvX3_isWord rfl (by decide) lX5_75 (by omega) gW_1 rfl rfl (Nat.le_of_ble_eq_true rfl) (Nat.le_of_ble_eq_true rfl) dX5_readCommand_36 (by omega) (by omega) (z_room (by omega) (Nat.le_refl _) (Nat.le_refl _) (w_isWord (d := 0) (w := 8) hn hL h11 hu hx (by decide) h12 h13 h14 hst ⟨rfl, ?_⟩))
  refine z_if_eq (tgt := 48) dX5_readCommand_39 (by decide) (fun czq39 => absurd czq39 (fun z => bI_0.mp z hw)) (fun czq39 => ?_)
  refine z_getsN (v := .ref (zB + 300)) (host := "NeighbourHash") kZ_cm (List.mem_of_getElem? (i := 5) rfl) dX5_readCommand_42 ?_
  refine z_iload_n (j := 2) dX5_readCommand_45 rfl ?_
  refine z_aaldC kT_cm (show vp_in (nI 8) 10 from vp_in_nI (by decide) (by decide)) dX5_readCommand_46 ?_
  refine z_astore_n [1, 0, 2] [(0, .ref 3), (1, .ref ((zB + 200 + 8))), (2, .int 8)] dX5_readCommand_47 (by decide) rfl ?_
  skip
  refine z_iinc (9) [1, 2, 0] [(0, .ref 3), (1, .ref ((zB + 200 + 8))), (2, .int 9)] dX5_readCommand_48 (j := 2) rfl (by decide) (by decide) rfl ?_
  refine z_goto (tgt := 4) dX5_readCommand_51 (by decide) ?_
  refine z_iload_n (j := 2) dX5_readCommand_4 rfl ?_
  refine z_getsN (v := .ref (zB + 300)) (host := "NeighbourHash") kZ_cm (List.mem_of_getElem? (i := 5) rfl) dX5_readCommand_5 ?_
  refine z_alenC (v := 10) kT_cm rfl dX5_readCommand_8 ?_
  refine z_icmp_ge (tgt := 54) dX5_readCommand_9 (by decide) (fun czq9 => absurd czq9 (by decide)) (fun czq9 => ?_)
  refine z_aload_n (j := 1) dX5_readCommand_12 rfl ?_
  refine z_ifnonnull (tgt := 54) dX5_readCommand_13 (by decide) ?_
  refine z_aload_n (j := 1) dX5_readCommand_54 rfl ?_
  refine z_ifnonnull (tgt := 64) dX5_readCommand_55 (by decide) ?_
  refine z_aload_n (j := 0) dX5_readCommand_64 rfl ?_
  refine z_get (v := .int (o 2 6)) (by omega) gW_3 fX5_44 rfl dX5_readCommand_65 ?_
  refine z_sipush (v := 200) dX5_readCommand_68 (by decide) ?_
  rw [show (o 2 6) = nI ex from h6]
  refine z_icmp_lt (tgt := 80) dX5_readCommand_71 (by decide) (fun czq71 => ?_) (fun czq71 => ?_)
  · have hexn : ¬ ex = 200 := fun z => absurd czq71 (by rw [z]; decide)
    refine z_iconst (v := 0) dX5_readCommand_80 (by decide) ?_
    refine z_istore_n [1, 2, 0] [(0, .ref 3), (1, .ref ((zB + 200 + 8))), (2, .int 0)] dX5_readCommand_81 (by decide) rfl ?_
    refine z_iload_n (j := 2) dX5_readCommand_82 rfl ?_
    refine z_aload_n (j := 1) dX5_readCommand_83 rfl ?_
    refine z_getC (v := .int 0) (by decide +kernel) fX5_172 dX5_readCommand_84 ?_
    refine z_icmp_ge (tgt := 143) dX5_readCommand_87 (by decide) (fun czq87 => ?_) (fun czq87 => absurd (by decide) czq87)
    refine z_aload_n (j := 0) dX5_readCommand_143 rfl ?_
    refine z_iconst (v := 5) dX5_readCommand_144 (by decide) ?_
    refine z_kV [.int 5] 0 0 kc ks yoX5_expect yvX5_expect rfl (by decide) lX5_148 (by omega) gW_3 rfl rfl (Nat.le_of_ble_eq_true rfl) (Nat.le_of_ble_eq_true rfl) dX5_readCommand_145 (by omega) (by omega) (z_room (by omega) (Nat.le_refl _) (Nat.le_refl _) (w_expect (d := 0) (k := 5) hn hL h11 hu hx ((tE_le' hst).2) h12 h10 (by decide) (fun hk0 o0 q2_0 q3_0 q5_0 hf0 => ⟨rfl, ?_⟩) (fun hk0 o0 he0 => ⟨rfl, ?_⟩)))
    · have h11_0 : o0 1 1 = nI L := (hf0.2 1 (by decide)).trans h11
      have h10_0 : o0 2 10 = 0 := by rw [hf0.1 2 (by decide)]; exact h10
      have hfc_0 : fp (fun j => 2 ≤ j) o o0 := fp.rf.tr hf0
      refine z_aload_n (j := 0) dX5_readCommand_148 rfl ?_
      refine z_aload_n (j := 1) dX5_readCommand_149 rfl ?_
      refine g_putc (Nat.le_trans (Nat.le_add_right _ _) (Nat.le_add_right _ _)) (by omega) fX5_57 dX5_readCommand_150 ?_
      exact z_vret rfl dX5_readCommand_153 (by
          exact hqY  (tE L x st) ((tE_le' hst).2) hexn rfl hk0 _ _ q2_0 q3_0 hfc_0 h11_0  (show ∀ j, j ≠ 1 → u j = u j from fun _ _ => rfl))
    · refine z_aload_n (j := 0) dX5_readCommand_148 rfl ?_
      refine z_aload_n (j := 1) dX5_readCommand_149 rfl ?_
      refine g_putc (Nat.le_trans (Nat.le_add_right _ _) (Nat.le_add_right _ _)) (by omega) fX5_57 dX5_readCommand_150 ?_
      exact z_vret rfl dX5_readCommand_153 (by
          exact hqN 1 (tS L x (tE L x st)) (by
            unfold cS
            rw [if_neg hexn]
            unfold smp
            simp only [fin, rdT_1 hk0]) (by decide) (.ref (zB + 200 + 8)) (Or.inr ⟨_, rfl⟩) o0 u ((show ∀ j, j ≠ 1 → u j = u j from fun _ _ => rfl) 4 (by decide)) (he0.fp fp.rf))
  · have hex2 : ex = 200 := by
      have : ¬ ex < 200 := fun z => czq71 (nI_lt (b := 200) z (by decide))
      omega
    refine z_aload_n (j := 0) dX5_readCommand_74 rfl ?_
    refine z_iconst (v := 5) dX5_readCommand_75 (by decide) ?_
    refine z_kV [.int 5] 0 0 kc ks yoX5_fail yvX5_fail rfl (by decide) lX5_137 (by omega) gW_3 rfl rfl (Nat.le_of_ble_eq_true rfl) (Nat.le_of_ble_eq_true rfl) dX5_readCommand_76 (by omega) (by omega) (z_room (by omega) (Nat.le_refl _) (Nat.le_refl _) (w_fail (d := 0) (k := 5) hn h13 (fun o1 he => ⟨rfl, ?_⟩)))
    exact z_vret rfl dX5_readCommand_79 (hqN 5 st (by unfold cS; exact if_pos hex2) (by decide) cm (Or.inl rfl) o1 u rfl he)

set_option maxHeartbeats 4000000 in
set_option maxRecDepth 100000 in
theorem w_read9 {l : zL} {d kc ks n : Nat} {h : Nat → va_E} {cm : Value} {o u : Nat → Nat → Int32} {s : Nat → Nat → Int32} {a : Nat → Nat → Nat → Int32} {L : Nat} {x : Nat → Nat} {st ex : Nat} {S : zS} {Q : zQ} (hn : 89 ≤ n) (hL : L ≤ 600) (h11 : o 1 1 = nI L) (hu : ∀ i, i < L → u 0 i = nI (x i)) (hx : ∀ i, x i < 256) (hst : st ≤ L) (h12 : o 1 2 = nI (tE L x st)) (h13 : o 1 3 = nI st) (h14 : o 1 4 = nI (tKd L x st)) (h10 : o 2 10 = 0) (h6 : o 2 6 = nI ex) (hex : ex ≤ 200) (hT : cT S (s 0) (a 0)) (hw : wIs L x st 9 = true) (hqY : ∀ ps, ps ≤ L → ¬ ex = 200 → smp L x 9 (tE L x st) S = fin L x ps (some (sClear S)) → tKd L x (tS L x ps) = 5 → ∀ o' u', o' 1 2 = nI (nx L x ps) → o' 1 3 = nI (tS L x ps) → fp (fun j => 2 ≤ j) o o' → o' 1 1 = nI L → (∀ j, j ≠ 1 → u' j = u j) → Q (.inl none) n (gW h (.ref (zB + 200 + 9)) o' u' s a)) (hqN : ∀ k off, cS L x 9 st ex S = .inl (k, off) → (k ≠ 0 ∧ k < 10) → ∀ cm', (cm' = cm ∨ ∃ q, cm' = .ref q) → ∀ o' u', u' 4 = u 4 → er o o' k off → Q (.inl none) n (gW h cm' o' u' s a)) : Zj l mX5_readCommand (d + 5) kc ks 0 [(0, .ref 3)] [] n (gW h cm o u s a) Q := by
  refine z_null dX5_readCommand_0 ?_
  refine z_astore_nN [1, 0] [(0, .ref 3), (1, .null)] dX5_readCommand_1 (by decide) rfl ?_
  refine z_iconst (v := 0) dX5_readCommand_2 (by decide) ?_
  refine z_istore_n [1, 2, 0] [(0, .ref 3), (1, .null), (2, .int 0)] dX5_readCommand_3 (by decide) rfl ?_
  refine z_iload_n (j := 2) dX5_readCommand_4 rfl ?_
  refine z_getsN (v := .ref (zB + 300)) (host := "NeighbourHash") kZ_cm (List.mem_of_getElem? (i := 5) rfl) dX5_readCommand_5 ?_
  refine z_alenC (v := 10) kT_cm rfl dX5_readCommand_8 ?_
  refine z_icmp_ge (tgt := 54) dX5_readCommand_9 (by decide) (fun czq9 => absurd czq9 (by decide)) (fun czq9 => ?_)
  refine z_aload_nN (j := 1) dX5_readCommand_12 rfl ?_
  refine z_ifnonnullN dX5_readCommand_13 ?_
  refine z_getsN (v := .ref (zB + 300)) (host := "NeighbourHash") kZ_cm (List.mem_of_getElem? (i := 5) rfl) dX5_readCommand_16 ?_
  refine z_iload_n (j := 2) dX5_readCommand_19 rfl ?_
  refine z_aaldC kT_cm (show vp_in (nI 0) 10 from vp_in_nI (by decide) (by decide)) dX5_readCommand_20 ?_
  refine z_ifnull dX5_readCommand_21 ?_
  refine z_aload_n (j := 0) dX5_readCommand_24 rfl ?_
  refine z_get (v := .ref 1) (by omega) gW_3 fX5_32 rfl dX5_readCommand_25 ?_
  refine z_getsN (v := .ref (zB + 300)) (host := "NeighbourHash") kZ_cm (List.mem_of_getElem? (i := 5) rfl) dX5_readCommand_28 ?_
  refine z_iload_n (j := 2) dX5_readCommand_31 rfl ?_
  refine z_aaldC kT_cm (show vp_in (nI 0) 10 from vp_in_nI (by decide) (by decide)) dX5_readCommand_32 ?_
  refine z_getC (v := .ref (zB + 14 + 0)) (by decide +kernel) fX5_168 dX5_readCommand_33 ?_
  refine z_kV [.ref ((zB + 14 + 0))] 0 0 kc ks yoX3_isWord yvX3_isWord rfl (by decide) lX5_75 (by omega) gW_1 rfl rfl (Nat.le_of_ble_eq_true rfl) (Nat.le_of_ble_eq_true rfl) dX5_readCommand_36 (by omega) (by omega) (z_room (by omega) (Nat.le_refl _) (Nat.le_refl _) (w_isWord (d := 0) (w := 0) hn hL h11 hu hx (by decide) h12 h13 h14 hst ⟨rfl, ?_⟩))
  refine z_if_eq (tgt := 48) dX5_readCommand_39 (by decide) (fun czq39 => ?_) (fun czq39 => absurd (bI_f (fun z => absurd (wIs_one (L := L) (x := x) (st := st) (i := 0) (j := 9) (by decide) (by decide) z hw) (by decide))) czq39)
  skip
  refine z_iinc (1) [1, 2, 0] [(0, .ref 3), (1, .null), (2, .int 1)] dX5_readCommand_48 (j := 2) rfl (by decide) (by decide) rfl ?_
  refine z_goto (tgt := 4) dX5_readCommand_51 (by decide) ?_
  refine z_iload_n (j := 2) dX5_readCommand_4 rfl ?_
  refine z_getsN (v := .ref (zB + 300)) (host := "NeighbourHash") kZ_cm (List.mem_of_getElem? (i := 5) rfl) dX5_readCommand_5 ?_
  refine z_alenC (v := 10) kT_cm rfl dX5_readCommand_8 ?_
  refine z_icmp_ge (tgt := 54) dX5_readCommand_9 (by decide) (fun czq9 => absurd czq9 (by decide)) (fun czq9 => ?_)
  refine z_aload_nN (j := 1) dX5_readCommand_12 rfl ?_
  refine z_ifnonnullN dX5_readCommand_13 ?_
  refine z_getsN (v := .ref (zB + 300)) (host := "NeighbourHash") kZ_cm (List.mem_of_getElem? (i := 5) rfl) dX5_readCommand_16 ?_
  refine z_iload_n (j := 2) dX5_readCommand_19 rfl ?_
  refine z_aaldC kT_cm (show vp_in (nI 1) 10 from vp_in_nI (by decide) (by decide)) dX5_readCommand_20 ?_
  refine z_ifnull dX5_readCommand_21 ?_
  refine z_aload_n (j := 0) dX5_readCommand_24 rfl ?_
  refine z_get (v := .ref 1) (by omega) gW_3 fX5_32 rfl dX5_readCommand_25 ?_
  refine z_getsN (v := .ref (zB + 300)) (host := "NeighbourHash") kZ_cm (List.mem_of_getElem? (i := 5) rfl) dX5_readCommand_28 ?_
  refine z_iload_n (j := 2) dX5_readCommand_31 rfl ?_
  refine z_aaldC kT_cm (show vp_in (nI 1) 10 from vp_in_nI (by decide) (by decide)) dX5_readCommand_32 ?_
  refine z_getC (v := .ref (zB + 14 + 1)) (by decide +kernel) fX5_168 dX5_readCommand_33 ?_
  refine z_kV [.ref ((zB + 14 + 1))] 0 0 kc ks yoX3_isWord yvX3_isWord rfl (by decide) lX5_75 (by omega) gW_1 rfl rfl (Nat.le_of_ble_eq_true rfl) (Nat.le_of_ble_eq_true rfl) dX5_readCommand_36 (by omega) (by omega) (z_room (by omega) (Nat.le_refl _) (Nat.le_refl _) (w_isWord (d := 0) (w := 1) hn hL h11 hu hx (by decide) h12 h13 h14 hst ⟨rfl, ?_⟩))
  refine z_if_eq (tgt := 48) dX5_readCommand_39 (by decide) (fun czq39 => ?_) (fun czq39 => absurd (bI_f (fun z => absurd (wIs_one (L := L) (x := x) (st := st) (i := 1) (j := 9) (by decide) (by decide) z hw) (by decide))) czq39)
  skip
  refine z_iinc (2) [1, 2, 0] [(0, .ref 3), (1, .null), (2, .int 2)] dX5_readCommand_48 (j := 2) rfl (by decide) (by decide) rfl ?_
  refine z_goto (tgt := 4) dX5_readCommand_51 (by decide) ?_
  refine z_iload_n (j := 2) dX5_readCommand_4 rfl ?_
  refine z_getsN (v := .ref (zB + 300)) (host := "NeighbourHash") kZ_cm (List.mem_of_getElem? (i := 5) rfl) dX5_readCommand_5 ?_
  refine z_alenC (v := 10) kT_cm rfl dX5_readCommand_8 ?_
  refine z_icmp_ge (tgt := 54) dX5_readCommand_9 (by decide) (fun czq9 => absurd czq9 (by decide)) (fun czq9 => ?_)
  refine z_aload_nN (j := 1) dX5_readCommand_12 rfl ?_
  refine z_ifnonnullN dX5_readCommand_13 ?_
  refine z_getsN (v := .ref (zB + 300)) (host := "NeighbourHash") kZ_cm (List.mem_of_getElem? (i := 5) rfl) dX5_readCommand_16 ?_
  refine z_iload_n (j := 2) dX5_readCommand_19 rfl ?_
  refine z_aaldC kT_cm (show vp_in (nI 2) 10 from vp_in_nI (by decide) (by decide)) dX5_readCommand_20 ?_
  refine z_ifnull dX5_readCommand_21 ?_
  refine z_aload_n (j := 0) dX5_readCommand_24 rfl ?_
  refine z_get (v := .ref 1) (by omega) gW_3 fX5_32 rfl dX5_readCommand_25 ?_
  refine z_getsN (v := .ref (zB + 300)) (host := "NeighbourHash") kZ_cm (List.mem_of_getElem? (i := 5) rfl) dX5_readCommand_28 ?_
  refine z_iload_n (j := 2) dX5_readCommand_31 rfl ?_
  refine z_aaldC kT_cm (show vp_in (nI 2) 10 from vp_in_nI (by decide) (by decide)) dX5_readCommand_32 ?_
  refine z_getC (v := .ref (zB + 14 + 2)) (by decide +kernel) fX5_168 dX5_readCommand_33 ?_
  refine z_kV [.ref ((zB + 14 + 2))] 0 0 kc ks yoX3_isWord yvX3_isWord rfl (by decide) lX5_75 (by omega) gW_1 rfl rfl (Nat.le_of_ble_eq_true rfl) (Nat.le_of_ble_eq_true rfl) dX5_readCommand_36 (by omega) (by omega) (z_room (by omega) (Nat.le_refl _) (Nat.le_refl _) (w_isWord (d := 0) (w := 2) hn hL h11 hu hx (by decide) h12 h13 h14 hst ⟨rfl, ?_⟩))
  refine z_if_eq (tgt := 48) dX5_readCommand_39 (by decide) (fun czq39 => ?_) (fun czq39 => absurd (bI_f (fun z => absurd (wIs_one (L := L) (x := x) (st := st) (i := 2) (j := 9) (by decide) (by decide) z hw) (by decide))) czq39)
  skip
  refine z_iinc (3) [1, 2, 0] [(0, .ref 3), (1, .null), (2, .int 3)] dX5_readCommand_48 (j := 2) rfl (by decide) (by decide) rfl ?_
  refine z_goto (tgt := 4) dX5_readCommand_51 (by decide) ?_
  refine z_iload_n (j := 2) dX5_readCommand_4 rfl ?_
  refine z_getsN (v := .ref (zB + 300)) (host := "NeighbourHash") kZ_cm (List.mem_of_getElem? (i := 5) rfl) dX5_readCommand_5 ?_
  refine z_alenC (v := 10) kT_cm rfl dX5_readCommand_8 ?_
  refine z_icmp_ge (tgt := 54) dX5_readCommand_9 (by decide) (fun czq9 => absurd czq9 (by decide)) (fun czq9 => ?_)
  refine z_aload_nN (j := 1) dX5_readCommand_12 rfl ?_
  refine z_ifnonnullN dX5_readCommand_13 ?_
  refine z_getsN (v := .ref (zB + 300)) (host := "NeighbourHash") kZ_cm (List.mem_of_getElem? (i := 5) rfl) dX5_readCommand_16 ?_
  refine z_iload_n (j := 2) dX5_readCommand_19 rfl ?_
  refine z_aaldC kT_cm (show vp_in (nI 3) 10 from vp_in_nI (by decide) (by decide)) dX5_readCommand_20 ?_
  refine z_ifnull dX5_readCommand_21 ?_
  refine z_aload_n (j := 0) dX5_readCommand_24 rfl ?_
  refine z_get (v := .ref 1) (by omega) gW_3 fX5_32 rfl dX5_readCommand_25 ?_
  refine z_getsN (v := .ref (zB + 300)) (host := "NeighbourHash") kZ_cm (List.mem_of_getElem? (i := 5) rfl) dX5_readCommand_28 ?_
  refine z_iload_n (j := 2) dX5_readCommand_31 rfl ?_
  refine z_aaldC kT_cm (show vp_in (nI 3) 10 from vp_in_nI (by decide) (by decide)) dX5_readCommand_32 ?_
  refine z_getC (v := .ref (zB + 14 + 3)) (by decide +kernel) fX5_168 dX5_readCommand_33 ?_
  refine z_kV [.ref ((zB + 14 + 3))] 0 0 kc ks yoX3_isWord yvX3_isWord rfl (by decide) lX5_75 (by omega) gW_1 rfl rfl (Nat.le_of_ble_eq_true rfl) (Nat.le_of_ble_eq_true rfl) dX5_readCommand_36 (by omega) (by omega) (z_room (by omega) (Nat.le_refl _) (Nat.le_refl _) (w_isWord (d := 0) (w := 3) hn hL h11 hu hx (by decide) h12 h13 h14 hst ⟨rfl, ?_⟩))
  refine z_if_eq (tgt := 48) dX5_readCommand_39 (by decide) (fun czq39 => ?_) (fun czq39 => absurd (bI_f (fun z => absurd (wIs_one (L := L) (x := x) (st := st) (i := 3) (j := 9) (by decide) (by decide) z hw) (by decide))) czq39)
  skip
  refine z_iinc (4) [1, 2, 0] [(0, .ref 3), (1, .null), (2, .int 4)] dX5_readCommand_48 (j := 2) rfl (by decide) (by decide) rfl ?_
  refine z_goto (tgt := 4) dX5_readCommand_51 (by decide) ?_
  refine z_iload_n (j := 2) dX5_readCommand_4 rfl ?_
  refine z_getsN (v := .ref (zB + 300)) (host := "NeighbourHash") kZ_cm (List.mem_of_getElem? (i := 5) rfl) dX5_readCommand_5 ?_
  refine z_alenC (v := 10) kT_cm rfl dX5_readCommand_8 ?_
  refine z_icmp_ge (tgt := 54) dX5_readCommand_9 (by decide) (fun czq9 => absurd czq9 (by decide)) (fun czq9 => ?_)
  refine z_aload_nN (j := 1) dX5_readCommand_12 rfl ?_
  refine z_ifnonnullN dX5_readCommand_13 ?_
  refine z_getsN (v := .ref (zB + 300)) (host := "NeighbourHash") kZ_cm (List.mem_of_getElem? (i := 5) rfl) dX5_readCommand_16 ?_
  refine z_iload_n (j := 2) dX5_readCommand_19 rfl ?_
  refine z_aaldC kT_cm (show vp_in (nI 4) 10 from vp_in_nI (by decide) (by decide)) dX5_readCommand_20 ?_
  refine z_ifnull dX5_readCommand_21 ?_
  refine z_aload_n (j := 0) dX5_readCommand_24 rfl ?_
  refine z_get (v := .ref 1) (by omega) gW_3 fX5_32 rfl dX5_readCommand_25 ?_
  refine z_getsN (v := .ref (zB + 300)) (host := "NeighbourHash") kZ_cm (List.mem_of_getElem? (i := 5) rfl) dX5_readCommand_28 ?_
  refine z_iload_n (j := 2) dX5_readCommand_31 rfl ?_
  refine z_aaldC kT_cm (show vp_in (nI 4) 10 from vp_in_nI (by decide) (by decide)) dX5_readCommand_32 ?_
  refine z_getC (v := .ref (zB + 14 + 4)) (by decide +kernel) fX5_168 dX5_readCommand_33 ?_
  refine z_kV [.ref ((zB + 14 + 4))] 0 0 kc ks yoX3_isWord yvX3_isWord rfl (by decide) lX5_75 (by omega) gW_1 rfl rfl (Nat.le_of_ble_eq_true rfl) (Nat.le_of_ble_eq_true rfl) dX5_readCommand_36 (by omega) (by omega) (z_room (by omega) (Nat.le_refl _) (Nat.le_refl _) (w_isWord (d := 0) (w := 4) hn hL h11 hu hx (by decide) h12 h13 h14 hst ⟨rfl, ?_⟩))
  refine z_if_eq (tgt := 48) dX5_readCommand_39 (by decide) (fun czq39 => ?_) (fun czq39 => absurd (bI_f (fun z => absurd (wIs_one (L := L) (x := x) (st := st) (i := 4) (j := 9) (by decide) (by decide) z hw) (by decide))) czq39)
  skip
  refine z_iinc (5) [1, 2, 0] [(0, .ref 3), (1, .null), (2, .int 5)] dX5_readCommand_48 (j := 2) rfl (by decide) (by decide) rfl ?_
  refine z_goto (tgt := 4) dX5_readCommand_51 (by decide) ?_
  refine z_iload_n (j := 2) dX5_readCommand_4 rfl ?_
  refine z_getsN (v := .ref (zB + 300)) (host := "NeighbourHash") kZ_cm (List.mem_of_getElem? (i := 5) rfl) dX5_readCommand_5 ?_
  refine z_alenC (v := 10) kT_cm rfl dX5_readCommand_8 ?_
  refine z_icmp_ge (tgt := 54) dX5_readCommand_9 (by decide) (fun czq9 => absurd czq9 (by decide)) (fun czq9 => ?_)
  refine z_aload_nN (j := 1) dX5_readCommand_12 rfl ?_
  refine z_ifnonnullN dX5_readCommand_13 ?_
  refine z_getsN (v := .ref (zB + 300)) (host := "NeighbourHash") kZ_cm (List.mem_of_getElem? (i := 5) rfl) dX5_readCommand_16 ?_
  refine z_iload_n (j := 2) dX5_readCommand_19 rfl ?_
  refine z_aaldC kT_cm (show vp_in (nI 5) 10 from vp_in_nI (by decide) (by decide)) dX5_readCommand_20 ?_
  refine z_ifnull dX5_readCommand_21 ?_
  refine z_aload_n (j := 0) dX5_readCommand_24 rfl ?_
  refine z_get (v := .ref 1) (by omega) gW_3 fX5_32 rfl dX5_readCommand_25 ?_
  refine z_getsN (v := .ref (zB + 300)) (host := "NeighbourHash") kZ_cm (List.mem_of_getElem? (i := 5) rfl) dX5_readCommand_28 ?_
  refine z_iload_n (j := 2) dX5_readCommand_31 rfl ?_
  refine z_aaldC kT_cm (show vp_in (nI 5) 10 from vp_in_nI (by decide) (by decide)) dX5_readCommand_32 ?_
  refine z_getC (v := .ref (zB + 14 + 5)) (by decide +kernel) fX5_168 dX5_readCommand_33 ?_
  refine z_kV [.ref ((zB + 14 + 5))] 0 0 kc ks yoX3_isWord yvX3_isWord rfl (by decide) lX5_75 (by omega) gW_1 rfl rfl (Nat.le_of_ble_eq_true rfl) (Nat.le_of_ble_eq_true rfl) dX5_readCommand_36 (by omega) (by omega) (z_room (by omega) (Nat.le_refl _) (Nat.le_refl _) (w_isWord (d := 0) (w := 5) hn hL h11 hu hx (by decide) h12 h13 h14 hst ⟨rfl, ?_⟩))
  refine z_if_eq (tgt := 48) dX5_readCommand_39 (by decide) (fun czq39 => ?_) (fun czq39 => absurd (bI_f (fun z => absurd (wIs_one (L := L) (x := x) (st := st) (i := 5) (j := 9) (by decide) (by decide) z hw) (by decide))) czq39)
  skip
  refine z_iinc (6) [1, 2, 0] [(0, .ref 3), (1, .null), (2, .int 6)] dX5_readCommand_48 (j := 2) rfl (by decide) (by decide) rfl ?_
  refine z_goto (tgt := 4) dX5_readCommand_51 (by decide) ?_
  refine z_iload_n (j := 2) dX5_readCommand_4 rfl ?_
  refine z_getsN (v := .ref (zB + 300)) (host := "NeighbourHash") kZ_cm (List.mem_of_getElem? (i := 5) rfl) dX5_readCommand_5 ?_
  refine z_alenC (v := 10) kT_cm rfl dX5_readCommand_8 ?_
  refine z_icmp_ge (tgt := 54) dX5_readCommand_9 (by decide) (fun czq9 => absurd czq9 (by decide)) (fun czq9 => ?_)
  refine z_aload_nN (j := 1) dX5_readCommand_12 rfl ?_
  refine z_ifnonnullN dX5_readCommand_13 ?_
  refine z_getsN (v := .ref (zB + 300)) (host := "NeighbourHash") kZ_cm (List.mem_of_getElem? (i := 5) rfl) dX5_readCommand_16 ?_
  refine z_iload_n (j := 2) dX5_readCommand_19 rfl ?_
  refine z_aaldC kT_cm (show vp_in (nI 6) 10 from vp_in_nI (by decide) (by decide)) dX5_readCommand_20 ?_
  refine z_ifnull dX5_readCommand_21 ?_
  refine z_aload_n (j := 0) dX5_readCommand_24 rfl ?_
  refine z_get (v := .ref 1) (by omega) gW_3 fX5_32 rfl dX5_readCommand_25 ?_
  refine z_getsN (v := .ref (zB + 300)) (host := "NeighbourHash") kZ_cm (List.mem_of_getElem? (i := 5) rfl) dX5_readCommand_28 ?_
  refine z_iload_n (j := 2) dX5_readCommand_31 rfl ?_
  refine z_aaldC kT_cm (show vp_in (nI 6) 10 from vp_in_nI (by decide) (by decide)) dX5_readCommand_32 ?_
  refine z_getC (v := .ref (zB + 14 + 6)) (by decide +kernel) fX5_168 dX5_readCommand_33 ?_
  refine z_kV [.ref ((zB + 14 + 6))] 0 0 kc ks yoX3_isWord yvX3_isWord rfl (by decide) lX5_75 (by omega) gW_1 rfl rfl (Nat.le_of_ble_eq_true rfl) (Nat.le_of_ble_eq_true rfl) dX5_readCommand_36 (by omega) (by omega) (z_room (by omega) (Nat.le_refl _) (Nat.le_refl _) (w_isWord (d := 0) (w := 6) hn hL h11 hu hx (by decide) h12 h13 h14 hst ⟨rfl, ?_⟩))
  refine z_if_eq (tgt := 48) dX5_readCommand_39 (by decide) (fun czq39 => ?_) (fun czq39 => absurd (bI_f (fun z => absurd (wIs_one (L := L) (x := x) (st := st) (i := 6) (j := 9) (by decide) (by decide) z hw) (by decide))) czq39)
  skip
  refine z_iinc (7) [1, 2, 0] [(0, .ref 3), (1, .null), (2, .int 7)] dX5_readCommand_48 (j := 2) rfl (by decide) (by decide) rfl ?_
  refine z_goto (tgt := 4) dX5_readCommand_51 (by decide) ?_
  refine z_iload_n (j := 2) dX5_readCommand_4 rfl ?_
  refine z_getsN (v := .ref (zB + 300)) (host := "NeighbourHash") kZ_cm (List.mem_of_getElem? (i := 5) rfl) dX5_readCommand_5 ?_
  refine z_alenC (v := 10) kT_cm rfl dX5_readCommand_8 ?_
  refine z_icmp_ge (tgt := 54) dX5_readCommand_9 (by decide) (fun czq9 => absurd czq9 (by decide)) (fun czq9 => ?_)
  refine z_aload_nN (j := 1) dX5_readCommand_12 rfl ?_
  refine z_ifnonnullN dX5_readCommand_13 ?_
  refine z_getsN (v := .ref (zB + 300)) (host := "NeighbourHash") kZ_cm (List.mem_of_getElem? (i := 5) rfl) dX5_readCommand_16 ?_
  refine z_iload_n (j := 2) dX5_readCommand_19 rfl ?_
  refine z_aaldC kT_cm (show vp_in (nI 7) 10 from vp_in_nI (by decide) (by decide)) dX5_readCommand_20 ?_
  refine z_ifnull dX5_readCommand_21 ?_
  refine z_aload_n (j := 0) dX5_readCommand_24 rfl ?_
  refine z_get (v := .ref 1) (by omega) gW_3 fX5_32 rfl dX5_readCommand_25 ?_
  refine z_getsN (v := .ref (zB + 300)) (host := "NeighbourHash") kZ_cm (List.mem_of_getElem? (i := 5) rfl) dX5_readCommand_28 ?_
  refine z_iload_n (j := 2) dX5_readCommand_31 rfl ?_
  refine z_aaldC kT_cm (show vp_in (nI 7) 10 from vp_in_nI (by decide) (by decide)) dX5_readCommand_32 ?_
  refine z_getC (v := .ref (zB + 14 + 7)) (by decide +kernel) fX5_168 dX5_readCommand_33 ?_
  refine z_kV [.ref ((zB + 14 + 7))] 0 0 kc ks yoX3_isWord yvX3_isWord rfl (by decide) lX5_75 (by omega) gW_1 rfl rfl (Nat.le_of_ble_eq_true rfl) (Nat.le_of_ble_eq_true rfl) dX5_readCommand_36 (by omega) (by omega) (z_room (by omega) (Nat.le_refl _) (Nat.le_refl _) (w_isWord (d := 0) (w := 7) hn hL h11 hu hx (by decide) h12 h13 h14 hst ⟨rfl, ?_⟩))
  refine z_if_eq (tgt := 48) dX5_readCommand_39 (by decide) (fun czq39 => ?_) (fun czq39 => absurd (bI_f (fun z => absurd (wIs_one (L := L) (x := x) (st := st) (i := 7) (j := 9) (by decide) (by decide) z hw) (by decide))) czq39)
  skip
  refine z_iinc (8) [1, 2, 0] [(0, .ref 3), (1, .null), (2, .int 8)] dX5_readCommand_48 (j := 2) rfl (by decide) (by decide) rfl ?_
  refine z_goto (tgt := 4) dX5_readCommand_51 (by decide) ?_
  refine z_iload_n (j := 2) dX5_readCommand_4 rfl ?_
  refine z_getsN (v := .ref (zB + 300)) (host := "NeighbourHash") kZ_cm (List.mem_of_getElem? (i := 5) rfl) dX5_readCommand_5 ?_
  refine z_alenC (v := 10) kT_cm rfl dX5_readCommand_8 ?_
  refine z_icmp_ge (tgt := 54) dX5_readCommand_9 (by decide) (fun czq9 => absurd czq9 (by decide)) (fun czq9 => ?_)
  refine z_aload_nN (j := 1) dX5_readCommand_12 rfl ?_
  refine z_ifnonnullN dX5_readCommand_13 ?_
  refine z_getsN (v := .ref (zB + 300)) (host := "NeighbourHash") kZ_cm (List.mem_of_getElem? (i := 5) rfl) dX5_readCommand_16 ?_
  refine z_iload_n (j := 2) dX5_readCommand_19 rfl ?_
  refine z_aaldC kT_cm (show vp_in (nI 8) 10 from vp_in_nI (by decide) (by decide)) dX5_readCommand_20 ?_
  refine z_ifnull dX5_readCommand_21 ?_
  refine z_aload_n (j := 0) dX5_readCommand_24 rfl ?_
  refine z_get (v := .ref 1) (by omega) gW_3 fX5_32 rfl dX5_readCommand_25 ?_
  refine z_getsN (v := .ref (zB + 300)) (host := "NeighbourHash") kZ_cm (List.mem_of_getElem? (i := 5) rfl) dX5_readCommand_28 ?_
  refine z_iload_n (j := 2) dX5_readCommand_31 rfl ?_
  refine z_aaldC kT_cm (show vp_in (nI 8) 10 from vp_in_nI (by decide) (by decide)) dX5_readCommand_32 ?_
  refine z_getC (v := .ref (zB + 14 + 8)) (by decide +kernel) fX5_168 dX5_readCommand_33 ?_
  refine z_kV [.ref ((zB + 14 + 8))] 0 0 kc ks yoX3_isWord yvX3_isWord rfl (by decide) lX5_75 (by omega) gW_1 rfl rfl (Nat.le_of_ble_eq_true rfl) (Nat.le_of_ble_eq_true rfl) dX5_readCommand_36 (by omega) (by omega) (z_room (by omega) (Nat.le_refl _) (Nat.le_refl _) (w_isWord (d := 0) (w := 8) hn hL h11 hu hx (by decide) h12 h13 h14 hst ⟨rfl, ?_⟩))
  refine z_if_eq (tgt := 48) dX5_readCommand_39 (by decide) (fun czq39 => ?_) (fun czq39 => absurd (bI_f (fun z => absurd (wIs_one (L := L) (x := x) (st := st) (i := 8) (j := 9) (by decide) (by decide) z hw) (by decide))) czq39)
  skip
  refine z_iinc (9) [1, 2, 0] [(0, .ref 3), (1, .null), (2, .int 9)] dX5_readCommand_48 (j := 2) rfl (by decide) (by decide) rfl ?_
  refine z_goto (tgt := 4) dX5_readCommand_51 (by decide) ?_
  refine z_iload_n (j := 2) dX5_readCommand_4 rfl ?_
  refine z_getsN (v := .ref (zB + 300)) (host := "NeighbourHash") kZ_cm (List.mem_of_getElem? (i := 5) rfl) dX5_readCommand_5 ?_
  refine z_alenC (v := 10) kT_cm rfl dX5_readCommand_8 ?_
  refine z_icmp_ge (tgt := 54) dX5_readCommand_9 (by decide) (fun czq9 => absurd czq9 (by decide)) (fun czq9 => ?_)
  refine z_aload_nN (j := 1) dX5_readCommand_12 rfl ?_
  refine z_ifnonnullN dX5_readCommand_13 ?_
  refine z_getsN (v := .ref (zB + 300)) (host := "NeighbourHash") kZ_cm (List.mem_of_getElem? (i := 5) rfl) dX5_readCommand_16 ?_
  refine z_iload_n (j := 2) dX5_readCommand_19 rfl ?_
  refine z_aaldC kT_cm (show vp_in (nI 9) 10 from vp_in_nI (by decide) (by decide)) dX5_readCommand_20 ?_
  refine z_ifnull dX5_readCommand_21 ?_
  refine z_aload_n (j := 0) dX5_readCommand_24 rfl ?_
  refine z_get (v := .ref 1) (by omega) gW_3 fX5_32 rfl dX5_readCommand_25 ?_
  refine z_getsN (v := .ref (zB + 300)) (host := "NeighbourHash") kZ_cm (List.mem_of_getElem? (i := 5) rfl) dX5_readCommand_28 ?_
  refine z_iload_n (j := 2) dX5_readCommand_31 rfl ?_
  refine z_aaldC kT_cm (show vp_in (nI 9) 10 from vp_in_nI (by decide) (by decide)) dX5_readCommand_32 ?_
  refine z_getC (v := .ref (zB + 14 + 9)) (by decide +kernel) fX5_168 dX5_readCommand_33 ?_
  refine z_kV [.ref ((zB + 14 + 9))] 0 0 kc ks yoX3_isWord yvX3_isWord rfl (by decide) lX5_75 (by omega) gW_1 rfl rfl (Nat.le_of_ble_eq_true rfl) (Nat.le_of_ble_eq_true rfl) dX5_readCommand_36 (by omega) (by omega) (z_room (by omega) (Nat.le_refl _) (Nat.le_refl _) (w_isWord (d := 0) (w := 9) hn hL h11 hu hx (by decide) h12 h13 h14 hst ⟨rfl, ?_⟩))
  refine z_if_eq (tgt := 48) dX5_readCommand_39 (by decide) (fun czq39 => absurd czq39 (fun z => bI_0.mp z hw)) (fun czq39 => ?_)
  refine z_getsN (v := .ref (zB + 300)) (host := "NeighbourHash") kZ_cm (List.mem_of_getElem? (i := 5) rfl) dX5_readCommand_42 ?_
  refine z_iload_n (j := 2) dX5_readCommand_45 rfl ?_
  refine z_aaldC kT_cm (show vp_in (nI 9) 10 from vp_in_nI (by decide) (by decide)) dX5_readCommand_46 ?_
  refine z_astore_n [1, 0, 2] [(0, .ref 3), (1, .ref ((zB + 200 + 9))), (2, .int 9)] dX5_readCommand_47 (by decide) rfl ?_
  skip
  refine z_iinc (10) [1, 2, 0] [(0, .ref 3), (1, .ref ((zB + 200 + 9))), (2, .int 10)] dX5_readCommand_48 (j := 2) rfl (by decide) (by decide) rfl ?_
  refine z_goto (tgt := 4) dX5_readCommand_51 (by decide) ?_
  refine z_iload_n (j := 2) dX5_readCommand_4 rfl ?_
  refine z_getsN (v := .ref (zB + 300)) (host := "NeighbourHash") kZ_cm (List.mem_of_getElem? (i := 5) rfl) dX5_readCommand_5 ?_
  refine z_alenC (v := 10) kT_cm rfl dX5_readCommand_8 ?_
  refine z_icmp_ge (tgt := 54) dX5_readCommand_9 (by decide) (fun czq9 => ?_) (fun czq9 => absurd (by decide) czq9)
  refine z_aload_n (j := 1) dX5_readCommand_54 rfl ?_
  refine z_ifnonnull (tgt := 64) dX5_readCommand_55 (by decide) ?_
  refine z_aload_n (j := 0) dX5_readCommand_64 rfl ?_
  refine z_get (v := .int (o 2 6)) (by omega) gW_3 fX5_44 rfl dX5_readCommand_65 ?_
  refine z_sipush (v := 200) dX5_readCommand_68 (by decide) ?_
  rw [show (o 2 6) = nI ex from h6]
  refine z_icmp_lt (tgt := 80) dX5_readCommand_71 (by decide) (fun czq71 => ?_) (fun czq71 => ?_)
  · have hexn : ¬ ex = 200 := fun z => absurd czq71 (by rw [z]; decide)
    refine z_iconst (v := 0) dX5_readCommand_80 (by decide) ?_
    refine z_istore_n [1, 2, 0] [(0, .ref 3), (1, .ref ((zB + 200 + 9))), (2, .int 0)] dX5_readCommand_81 (by decide) rfl ?_
    refine z_iload_n (j := 2) dX5_readCommand_82 rfl ?_
    refine z_aload_n (j := 1) dX5_readCommand_83 rfl ?_
    refine z_getC (v := .int 0) (by decide +kernel) fX5_172 dX5_readCommand_84 ?_
    refine z_icmp_ge (tgt := 143) dX5_readCommand_87 (by decide) (fun czq87 => ?_) (fun czq87 => absurd (by decide) czq87)
    refine z_aload_n (j := 0) dX5_readCommand_143 rfl ?_
    refine z_iconst (v := 5) dX5_readCommand_144 (by decide) ?_
    refine z_kV [.int 5] 0 0 kc ks yoX5_expect yvX5_expect rfl (by decide) lX5_148 (by omega) gW_3 rfl rfl (Nat.le_of_ble_eq_true rfl) (Nat.le_of_ble_eq_true rfl) dX5_readCommand_145 (by omega) (by omega) (z_room (by omega) (Nat.le_refl _) (Nat.le_refl _) (w_expect (d := 0) (k := 5) hn hL h11 hu hx ((tE_le' hst).2) h12 h10 (by decide) (fun hk0 o0 q2_0 q3_0 q5_0 hf0 => ⟨rfl, ?_⟩) (fun hk0 o0 he0 => ⟨rfl, ?_⟩)))
    · have h11_0 : o0 1 1 = nI L := (hf0.2 1 (by decide)).trans h11
      have h10_0 : o0 2 10 = 0 := by rw [hf0.1 2 (by decide)]; exact h10
      have hfc_0 : fp (fun j => 2 ≤ j) o o0 := fp.rf.tr hf0
      refine z_aload_n (j := 0) dX5_readCommand_148 rfl ?_
      refine z_aload_n (j := 1) dX5_readCommand_149 rfl ?_
      refine g_putc (Nat.le_trans (Nat.le_add_right _ _) (Nat.le_add_right _ _)) (by omega) fX5_57 dX5_readCommand_150 ?_
      exact z_vret rfl dX5_readCommand_153 (by
          exact hqY  (tE L x st) ((tE_le' hst).2) hexn rfl hk0 _ _ q2_0 q3_0 hfc_0 h11_0  (show ∀ j, j ≠ 1 → u j = u j from fun _ _ => rfl))
    · refine z_aload_n (j := 0) dX5_readCommand_148 rfl ?_
      refine z_aload_n (j := 1) dX5_readCommand_149 rfl ?_
      refine g_putc (Nat.le_trans (Nat.le_add_right _ _) (Nat.le_add_right _ _)) (by omega) fX5_57 dX5_readCommand_150 ?_
      exact z_vret rfl dX5_readCommand_153 (by
          exact hqN 1 (tS L x (tE L x st)) (by
            unfold cS
            rw [if_neg hexn]
            unfold smp
            simp only [fin, rdT_1 hk0]) (by decide) (.ref (zB + 200 + 9)) (Or.inr ⟨_, rfl⟩) o0 u ((show ∀ j, j ≠ 1 → u j = u j from fun _ _ => rfl) 4 (by decide)) (he0.fp fp.rf))
  · have hex2 : ex = 200 := by
      have : ¬ ex < 200 := fun z => czq71 (nI_lt (b := 200) z (by decide))
      omega
    refine z_aload_n (j := 0) dX5_readCommand_74 rfl ?_
    refine z_iconst (v := 5) dX5_readCommand_75 (by decide) ?_
    refine z_kV [.int 5] 0 0 kc ks yoX5_fail yvX5_fail rfl (by decide) lX5_137 (by omega) gW_3 rfl rfl (Nat.le_of_ble_eq_true rfl) (Nat.le_of_ble_eq_true rfl) dX5_readCommand_76 (by omega) (by omega) (z_room (by omega) (Nat.le_refl _) (Nat.le_refl _) (w_fail (d := 0) (k := 5) hn h13 (fun o1 he => ⟨rfl, ?_⟩)))
    exact z_vret rfl dX5_readCommand_79 (hqN 5 st (by unfold cS; exact if_pos hex2) (by decide) cm (Or.inl rfl) o1 u rfl he)

set_option maxHeartbeats 4000000 in
set_option maxRecDepth 100000 in
theorem w_readNo {l : zL} {d kc ks n : Nat} {h : Nat → va_E} {cm : Value} {o u : Nat → Nat → Int32} {s : Nat → Nat → Int32} {a : Nat → Nat → Nat → Int32} {L : Nat} {x : Nat → Nat} {st ex : Nat} {S : zS} {Q : zQ} (hn : 89 ≤ n) (hL : L ≤ 600) (h11 : o 1 1 = nI L) (hu : ∀ i, i < L → u 0 i = nI (x i)) (hx : ∀ i, x i < 256) (hst : st ≤ L) (h12 : o 1 2 = nI (tE L x st)) (h13 : o 1 3 = nI st) (h14 : o 1 4 = nI (tKd L x st)) (h10 : o 2 10 = 0) (hno : ∀ j, j < 10 → ¬ wIs L x st j = true) (hqN : ∀ cm', (cm' = cm ∨ ∃ q, cm' = .ref q) → ∀ o' u', u' 4 = u 4 → er o o' 1 st → Q (.inl none) n (gW h cm' o' u' s a)) : Zj l mX5_readCommand (d + 5) kc ks 0 [(0, .ref 3)] [] n (gW h cm o u s a) Q := by
  refine z_null dX5_readCommand_0 ?_
  refine z_astore_nN [1, 0] [(0, .ref 3), (1, .null)] dX5_readCommand_1 (by decide) rfl ?_
  refine z_iconst (v := 0) dX5_readCommand_2 (by decide) ?_
  refine z_istore_n [1, 2, 0] [(0, .ref 3), (1, .null), (2, .int 0)] dX5_readCommand_3 (by decide) rfl ?_
  refine z_iload_n (j := 2) dX5_readCommand_4 rfl ?_
  refine z_getsN (v := .ref (zB + 300)) (host := "NeighbourHash") kZ_cm (List.mem_of_getElem? (i := 5) rfl) dX5_readCommand_5 ?_
  refine z_alenC (v := 10) kT_cm rfl dX5_readCommand_8 ?_
  refine z_icmp_ge (tgt := 54) dX5_readCommand_9 (by decide) (fun czq9 => absurd czq9 (by decide)) (fun czq9 => ?_)
  refine z_aload_nN (j := 1) dX5_readCommand_12 rfl ?_
  refine z_ifnonnullN dX5_readCommand_13 ?_
  refine z_getsN (v := .ref (zB + 300)) (host := "NeighbourHash") kZ_cm (List.mem_of_getElem? (i := 5) rfl) dX5_readCommand_16 ?_
  refine z_iload_n (j := 2) dX5_readCommand_19 rfl ?_
  refine z_aaldC kT_cm (show vp_in (nI 0) 10 from vp_in_nI (by decide) (by decide)) dX5_readCommand_20 ?_
  refine z_ifnull dX5_readCommand_21 ?_
  refine z_aload_n (j := 0) dX5_readCommand_24 rfl ?_
  refine z_get (v := .ref 1) (by omega) gW_3 fX5_32 rfl dX5_readCommand_25 ?_
  refine z_getsN (v := .ref (zB + 300)) (host := "NeighbourHash") kZ_cm (List.mem_of_getElem? (i := 5) rfl) dX5_readCommand_28 ?_
  refine z_iload_n (j := 2) dX5_readCommand_31 rfl ?_
  refine z_aaldC kT_cm (show vp_in (nI 0) 10 from vp_in_nI (by decide) (by decide)) dX5_readCommand_32 ?_
  refine z_getC (v := .ref (zB + 14 + 0)) (by decide +kernel) fX5_168 dX5_readCommand_33 ?_
  refine z_kV [.ref ((zB + 14 + 0))] 0 0 kc ks yoX3_isWord yvX3_isWord rfl (by decide) lX5_75 (by omega) gW_1 rfl rfl (Nat.le_of_ble_eq_true rfl) (Nat.le_of_ble_eq_true rfl) dX5_readCommand_36 (by omega) (by omega) (z_room (by omega) (Nat.le_refl _) (Nat.le_refl _) (w_isWord (d := 0) (w := 0) hn hL h11 hu hx (by decide) h12 h13 h14 hst ⟨rfl, ?_⟩))
  refine z_if_eq (tgt := 48) dX5_readCommand_39 (by decide) (fun czq39 => ?_) (fun czq39 => absurd (bI_f (hno 0 (by decide))) czq39)
  skip
  refine z_iinc (1) [1, 2, 0] [(0, .ref 3), (1, .null), (2, .int 1)] dX5_readCommand_48 (j := 2) rfl (by decide) (by decide) rfl ?_
  refine z_goto (tgt := 4) dX5_readCommand_51 (by decide) ?_
  refine z_iload_n (j := 2) dX5_readCommand_4 rfl ?_
  refine z_getsN (v := .ref (zB + 300)) (host := "NeighbourHash") kZ_cm (List.mem_of_getElem? (i := 5) rfl) dX5_readCommand_5 ?_
  refine z_alenC (v := 10) kT_cm rfl dX5_readCommand_8 ?_
  refine z_icmp_ge (tgt := 54) dX5_readCommand_9 (by decide) (fun czq9 => absurd czq9 (by decide)) (fun czq9 => ?_)
  refine z_aload_nN (j := 1) dX5_readCommand_12 rfl ?_
  refine z_ifnonnullN dX5_readCommand_13 ?_
  refine z_getsN (v := .ref (zB + 300)) (host := "NeighbourHash") kZ_cm (List.mem_of_getElem? (i := 5) rfl) dX5_readCommand_16 ?_
  refine z_iload_n (j := 2) dX5_readCommand_19 rfl ?_
  refine z_aaldC kT_cm (show vp_in (nI 1) 10 from vp_in_nI (by decide) (by decide)) dX5_readCommand_20 ?_
  refine z_ifnull dX5_readCommand_21 ?_
  refine z_aload_n (j := 0) dX5_readCommand_24 rfl ?_
  refine z_get (v := .ref 1) (by omega) gW_3 fX5_32 rfl dX5_readCommand_25 ?_
  refine z_getsN (v := .ref (zB + 300)) (host := "NeighbourHash") kZ_cm (List.mem_of_getElem? (i := 5) rfl) dX5_readCommand_28 ?_
  refine z_iload_n (j := 2) dX5_readCommand_31 rfl ?_
  refine z_aaldC kT_cm (show vp_in (nI 1) 10 from vp_in_nI (by decide) (by decide)) dX5_readCommand_32 ?_
  refine z_getC (v := .ref (zB + 14 + 1)) (by decide +kernel) fX5_168 dX5_readCommand_33 ?_
  refine z_kV [.ref ((zB + 14 + 1))] 0 0 kc ks yoX3_isWord yvX3_isWord rfl (by decide) lX5_75 (by omega) gW_1 rfl rfl (Nat.le_of_ble_eq_true rfl) (Nat.le_of_ble_eq_true rfl) dX5_readCommand_36 (by omega) (by omega) (z_room (by omega) (Nat.le_refl _) (Nat.le_refl _) (w_isWord (d := 0) (w := 1) hn hL h11 hu hx (by decide) h12 h13 h14 hst ⟨rfl, ?_⟩))
  refine z_if_eq (tgt := 48) dX5_readCommand_39 (by decide) (fun czq39 => ?_) (fun czq39 => absurd (bI_f (hno 1 (by decide))) czq39)
  skip
  refine z_iinc (2) [1, 2, 0] [(0, .ref 3), (1, .null), (2, .int 2)] dX5_readCommand_48 (j := 2) rfl (by decide) (by decide) rfl ?_
  refine z_goto (tgt := 4) dX5_readCommand_51 (by decide) ?_
  refine z_iload_n (j := 2) dX5_readCommand_4 rfl ?_
  refine z_getsN (v := .ref (zB + 300)) (host := "NeighbourHash") kZ_cm (List.mem_of_getElem? (i := 5) rfl) dX5_readCommand_5 ?_
  refine z_alenC (v := 10) kT_cm rfl dX5_readCommand_8 ?_
  refine z_icmp_ge (tgt := 54) dX5_readCommand_9 (by decide) (fun czq9 => absurd czq9 (by decide)) (fun czq9 => ?_)
  refine z_aload_nN (j := 1) dX5_readCommand_12 rfl ?_
  refine z_ifnonnullN dX5_readCommand_13 ?_
  refine z_getsN (v := .ref (zB + 300)) (host := "NeighbourHash") kZ_cm (List.mem_of_getElem? (i := 5) rfl) dX5_readCommand_16 ?_
  refine z_iload_n (j := 2) dX5_readCommand_19 rfl ?_
  refine z_aaldC kT_cm (show vp_in (nI 2) 10 from vp_in_nI (by decide) (by decide)) dX5_readCommand_20 ?_
  refine z_ifnull dX5_readCommand_21 ?_
  refine z_aload_n (j := 0) dX5_readCommand_24 rfl ?_
  refine z_get (v := .ref 1) (by omega) gW_3 fX5_32 rfl dX5_readCommand_25 ?_
  refine z_getsN (v := .ref (zB + 300)) (host := "NeighbourHash") kZ_cm (List.mem_of_getElem? (i := 5) rfl) dX5_readCommand_28 ?_
  refine z_iload_n (j := 2) dX5_readCommand_31 rfl ?_
  refine z_aaldC kT_cm (show vp_in (nI 2) 10 from vp_in_nI (by decide) (by decide)) dX5_readCommand_32 ?_
  refine z_getC (v := .ref (zB + 14 + 2)) (by decide +kernel) fX5_168 dX5_readCommand_33 ?_
  refine z_kV [.ref ((zB + 14 + 2))] 0 0 kc ks yoX3_isWord yvX3_isWord rfl (by decide) lX5_75 (by omega) gW_1 rfl rfl (Nat.le_of_ble_eq_true rfl) (Nat.le_of_ble_eq_true rfl) dX5_readCommand_36 (by omega) (by omega) (z_room (by omega) (Nat.le_refl _) (Nat.le_refl _) (w_isWord (d := 0) (w := 2) hn hL h11 hu hx (by decide) h12 h13 h14 hst ⟨rfl, ?_⟩))
  refine z_if_eq (tgt := 48) dX5_readCommand_39 (by decide) (fun czq39 => ?_) (fun czq39 => absurd (bI_f (hno 2 (by decide))) czq39)
  skip
  refine z_iinc (3) [1, 2, 0] [(0, .ref 3), (1, .null), (2, .int 3)] dX5_readCommand_48 (j := 2) rfl (by decide) (by decide) rfl ?_
  refine z_goto (tgt := 4) dX5_readCommand_51 (by decide) ?_
  refine z_iload_n (j := 2) dX5_readCommand_4 rfl ?_
  refine z_getsN (v := .ref (zB + 300)) (host := "NeighbourHash") kZ_cm (List.mem_of_getElem? (i := 5) rfl) dX5_readCommand_5 ?_
  refine z_alenC (v := 10) kT_cm rfl dX5_readCommand_8 ?_
  refine z_icmp_ge (tgt := 54) dX5_readCommand_9 (by decide) (fun czq9 => absurd czq9 (by decide)) (fun czq9 => ?_)
  refine z_aload_nN (j := 1) dX5_readCommand_12 rfl ?_
  refine z_ifnonnullN dX5_readCommand_13 ?_
  refine z_getsN (v := .ref (zB + 300)) (host := "NeighbourHash") kZ_cm (List.mem_of_getElem? (i := 5) rfl) dX5_readCommand_16 ?_
  refine z_iload_n (j := 2) dX5_readCommand_19 rfl ?_
  refine z_aaldC kT_cm (show vp_in (nI 3) 10 from vp_in_nI (by decide) (by decide)) dX5_readCommand_20 ?_
  refine z_ifnull dX5_readCommand_21 ?_
  refine z_aload_n (j := 0) dX5_readCommand_24 rfl ?_
  refine z_get (v := .ref 1) (by omega) gW_3 fX5_32 rfl dX5_readCommand_25 ?_
  refine z_getsN (v := .ref (zB + 300)) (host := "NeighbourHash") kZ_cm (List.mem_of_getElem? (i := 5) rfl) dX5_readCommand_28 ?_
  refine z_iload_n (j := 2) dX5_readCommand_31 rfl ?_
  refine z_aaldC kT_cm (show vp_in (nI 3) 10 from vp_in_nI (by decide) (by decide)) dX5_readCommand_32 ?_
  refine z_getC (v := .ref (zB + 14 + 3)) (by decide +kernel) fX5_168 dX5_readCommand_33 ?_
  refine z_kV [.ref ((zB + 14 + 3))] 0 0 kc ks yoX3_isWord yvX3_isWord rfl (by decide) lX5_75 (by omega) gW_1 rfl rfl (Nat.le_of_ble_eq_true rfl) (Nat.le_of_ble_eq_true rfl) dX5_readCommand_36 (by omega) (by omega) (z_room (by omega) (Nat.le_refl _) (Nat.le_refl _) (w_isWord (d := 0) (w := 3) hn hL h11 hu hx (by decide) h12 h13 h14 hst ⟨rfl, ?_⟩))
  refine z_if_eq (tgt := 48) dX5_readCommand_39 (by decide) (fun czq39 => ?_) (fun czq39 => absurd (bI_f (hno 3 (by decide))) czq39)
  skip
  refine z_iinc (4) [1, 2, 0] [(0, .ref 3), (1, .null), (2, .int 4)] dX5_readCommand_48 (j := 2) rfl (by decide) (by decide) rfl ?_
  refine z_goto (tgt := 4) dX5_readCommand_51 (by decide) ?_
  refine z_iload_n (j := 2) dX5_readCommand_4 rfl ?_
  refine z_getsN (v := .ref (zB + 300)) (host := "NeighbourHash") kZ_cm (List.mem_of_getElem? (i := 5) rfl) dX5_readCommand_5 ?_
  refine z_alenC (v := 10) kT_cm rfl dX5_readCommand_8 ?_
  refine z_icmp_ge (tgt := 54) dX5_readCommand_9 (by decide) (fun czq9 => absurd czq9 (by decide)) (fun czq9 => ?_)
  refine z_aload_nN (j := 1) dX5_readCommand_12 rfl ?_
  refine z_ifnonnullN dX5_readCommand_13 ?_
  refine z_getsN (v := .ref (zB + 300)) (host := "NeighbourHash") kZ_cm (List.mem_of_getElem? (i := 5) rfl) dX5_readCommand_16 ?_
  refine z_iload_n (j := 2) dX5_readCommand_19 rfl ?_
  refine z_aaldC kT_cm (show vp_in (nI 4) 10 from vp_in_nI (by decide) (by decide)) dX5_readCommand_20 ?_
  refine z_ifnull dX5_readCommand_21 ?_
  refine z_aload_n (j := 0) dX5_readCommand_24 rfl ?_
  refine z_get (v := .ref 1) (by omega) gW_3 fX5_32 rfl dX5_readCommand_25 ?_
  refine z_getsN (v := .ref (zB + 300)) (host := "NeighbourHash") kZ_cm (List.mem_of_getElem? (i := 5) rfl) dX5_readCommand_28 ?_
  refine z_iload_n (j := 2) dX5_readCommand_31 rfl ?_
  refine z_aaldC kT_cm (show vp_in (nI 4) 10 from vp_in_nI (by decide) (by decide)) dX5_readCommand_32 ?_
  refine z_getC (v := .ref (zB + 14 + 4)) (by decide +kernel) fX5_168 dX5_readCommand_33 ?_
  refine z_kV [.ref ((zB + 14 + 4))] 0 0 kc ks yoX3_isWord yvX3_isWord rfl (by decide) lX5_75 (by omega) gW_1 rfl rfl (Nat.le_of_ble_eq_true rfl) (Nat.le_of_ble_eq_true rfl) dX5_readCommand_36 (by omega) (by omega) (z_room (by omega) (Nat.le_refl _) (Nat.le_refl _) (w_isWord (d := 0) (w := 4) hn hL h11 hu hx (by decide) h12 h13 h14 hst ⟨rfl, ?_⟩))
  refine z_if_eq (tgt := 48) dX5_readCommand_39 (by decide) (fun czq39 => ?_) (fun czq39 => absurd (bI_f (hno 4 (by decide))) czq39)
  skip
  refine z_iinc (5) [1, 2, 0] [(0, .ref 3), (1, .null), (2, .int 5)] dX5_readCommand_48 (j := 2) rfl (by decide) (by decide) rfl ?_
  refine z_goto (tgt := 4) dX5_readCommand_51 (by decide) ?_
  refine z_iload_n (j := 2) dX5_readCommand_4 rfl ?_
  refine z_getsN (v := .ref (zB + 300)) (host := "NeighbourHash") kZ_cm (List.mem_of_getElem? (i := 5) rfl) dX5_readCommand_5 ?_
  refine z_alenC (v := 10) kT_cm rfl dX5_readCommand_8 ?_
  refine z_icmp_ge (tgt := 54) dX5_readCommand_9 (by decide) (fun czq9 => absurd czq9 (by decide)) (fun czq9 => ?_)
  refine z_aload_nN (j := 1) dX5_readCommand_12 rfl ?_
  refine z_ifnonnullN dX5_readCommand_13 ?_
  refine z_getsN (v := .ref (zB + 300)) (host := "NeighbourHash") kZ_cm (List.mem_of_getElem? (i := 5) rfl) dX5_readCommand_16 ?_
  refine z_iload_n (j := 2) dX5_readCommand_19 rfl ?_
  refine z_aaldC kT_cm (show vp_in (nI 5) 10 from vp_in_nI (by decide) (by decide)) dX5_readCommand_20 ?_
  refine z_ifnull dX5_readCommand_21 ?_
  refine z_aload_n (j := 0) dX5_readCommand_24 rfl ?_
  refine z_get (v := .ref 1) (by omega) gW_3 fX5_32 rfl dX5_readCommand_25 ?_
  refine z_getsN (v := .ref (zB + 300)) (host := "NeighbourHash") kZ_cm (List.mem_of_getElem? (i := 5) rfl) dX5_readCommand_28 ?_
  refine z_iload_n (j := 2) dX5_readCommand_31 rfl ?_
  refine z_aaldC kT_cm (show vp_in (nI 5) 10 from vp_in_nI (by decide) (by decide)) dX5_readCommand_32 ?_
  refine z_getC (v := .ref (zB + 14 + 5)) (by decide +kernel) fX5_168 dX5_readCommand_33 ?_
  refine z_kV [.ref ((zB + 14 + 5))] 0 0 kc ks yoX3_isWord yvX3_isWord rfl (by decide) lX5_75 (by omega) gW_1 rfl rfl (Nat.le_of_ble_eq_true rfl) (Nat.le_of_ble_eq_true rfl) dX5_readCommand_36 (by omega) (by omega) (z_room (by omega) (Nat.le_refl _) (Nat.le_refl _) (w_isWord (d := 0) (w := 5) hn hL h11 hu hx (by decide) h12 h13 h14 hst ⟨rfl, ?_⟩))
  refine z_if_eq (tgt := 48) dX5_readCommand_39 (by decide) (fun czq39 => ?_) (fun czq39 => absurd (bI_f (hno 5 (by decide))) czq39)
  skip
  refine z_iinc (6) [1, 2, 0] [(0, .ref 3), (1, .null), (2, .int 6)] dX5_readCommand_48 (j := 2) rfl (by decide) (by decide) rfl ?_
  refine z_goto (tgt := 4) dX5_readCommand_51 (by decide) ?_
  refine z_iload_n (j := 2) dX5_readCommand_4 rfl ?_
  refine z_getsN (v := .ref (zB + 300)) (host := "NeighbourHash") kZ_cm (List.mem_of_getElem? (i := 5) rfl) dX5_readCommand_5 ?_
  refine z_alenC (v := 10) kT_cm rfl dX5_readCommand_8 ?_
  refine z_icmp_ge (tgt := 54) dX5_readCommand_9 (by decide) (fun czq9 => absurd czq9 (by decide)) (fun czq9 => ?_)
  refine z_aload_nN (j := 1) dX5_readCommand_12 rfl ?_
  refine z_ifnonnullN dX5_readCommand_13 ?_
  refine z_getsN (v := .ref (zB + 300)) (host := "NeighbourHash") kZ_cm (List.mem_of_getElem? (i := 5) rfl) dX5_readCommand_16 ?_
  refine z_iload_n (j := 2) dX5_readCommand_19 rfl ?_
  refine z_aaldC kT_cm (show vp_in (nI 6) 10 from vp_in_nI (by decide) (by decide)) dX5_readCommand_20 ?_
  refine z_ifnull dX5_readCommand_21 ?_
  refine z_aload_n (j := 0) dX5_readCommand_24 rfl ?_
  refine z_get (v := .ref 1) (by omega) gW_3 fX5_32 rfl dX5_readCommand_25 ?_
  refine z_getsN (v := .ref (zB + 300)) (host := "NeighbourHash") kZ_cm (List.mem_of_getElem? (i := 5) rfl) dX5_readCommand_28 ?_
  refine z_iload_n (j := 2) dX5_readCommand_31 rfl ?_
  refine z_aaldC kT_cm (show vp_in (nI 6) 10 from vp_in_nI (by decide) (by decide)) dX5_readCommand_32 ?_
  refine z_getC (v := .ref (zB + 14 + 6)) (by decide +kernel) fX5_168 dX5_readCommand_33 ?_
  refine z_kV [.ref ((zB + 14 + 6))] 0 0 kc ks yoX3_isWord yvX3_isWord rfl (by decide) lX5_75 (by omega) gW_1 rfl rfl (Nat.le_of_ble_eq_true rfl) (Nat.le_of_ble_eq_true rfl) dX5_readCommand_36 (by omega) (by omega) (z_room (by omega) (Nat.le_refl _) (Nat.le_refl _) (w_isWord (d := 0) (w := 6) hn hL h11 hu hx (by decide) h12 h13 h14 hst ⟨rfl, ?_⟩))
  refine z_if_eq (tgt := 48) dX5_readCommand_39 (by decide) (fun czq39 => ?_) (fun czq39 => absurd (bI_f (hno 6 (by decide))) czq39)
  skip
  refine z_iinc (7) [1, 2, 0] [(0, .ref 3), (1, .null), (2, .int 7)] dX5_readCommand_48 (j := 2) rfl (by decide) (by decide) rfl ?_
  refine z_goto (tgt := 4) dX5_readCommand_51 (by decide) ?_
  refine z_iload_n (j := 2) dX5_readCommand_4 rfl ?_
  refine z_getsN (v := .ref (zB + 300)) (host := "NeighbourHash") kZ_cm (List.mem_of_getElem? (i := 5) rfl) dX5_readCommand_5 ?_
  refine z_alenC (v := 10) kT_cm rfl dX5_readCommand_8 ?_
  refine z_icmp_ge (tgt := 54) dX5_readCommand_9 (by decide) (fun czq9 => absurd czq9 (by decide)) (fun czq9 => ?_)
  refine z_aload_nN (j := 1) dX5_readCommand_12 rfl ?_
  refine z_ifnonnullN dX5_readCommand_13 ?_
  refine z_getsN (v := .ref (zB + 300)) (host := "NeighbourHash") kZ_cm (List.mem_of_getElem? (i := 5) rfl) dX5_readCommand_16 ?_
  refine z_iload_n (j := 2) dX5_readCommand_19 rfl ?_
  refine z_aaldC kT_cm (show vp_in (nI 7) 10 from vp_in_nI (by decide) (by decide)) dX5_readCommand_20 ?_
  refine z_ifnull dX5_readCommand_21 ?_
  refine z_aload_n (j := 0) dX5_readCommand_24 rfl ?_
  refine z_get (v := .ref 1) (by omega) gW_3 fX5_32 rfl dX5_readCommand_25 ?_
  refine z_getsN (v := .ref (zB + 300)) (host := "NeighbourHash") kZ_cm (List.mem_of_getElem? (i := 5) rfl) dX5_readCommand_28 ?_
  refine z_iload_n (j := 2) dX5_readCommand_31 rfl ?_
  refine z_aaldC kT_cm (show vp_in (nI 7) 10 from vp_in_nI (by decide) (by decide)) dX5_readCommand_32 ?_
  refine z_getC (v := .ref (zB + 14 + 7)) (by decide +kernel) fX5_168 dX5_readCommand_33 ?_
  refine z_kV [.ref ((zB + 14 + 7))] 0 0 kc ks yoX3_isWord yvX3_isWord rfl (by decide) lX5_75 (by omega) gW_1 rfl rfl (Nat.le_of_ble_eq_true rfl) (Nat.le_of_ble_eq_true rfl) dX5_readCommand_36 (by omega) (by omega) (z_room (by omega) (Nat.le_refl _) (Nat.le_refl _) (w_isWord (d := 0) (w := 7) hn hL h11 hu hx (by decide) h12 h13 h14 hst ⟨rfl, ?_⟩))
  refine z_if_eq (tgt := 48) dX5_readCommand_39 (by decide) (fun czq39 => ?_) (fun czq39 => absurd (bI_f (hno 7 (by decide))) czq39)
  skip
  refine z_iinc (8) [1, 2, 0] [(0, .ref 3), (1, .null), (2, .int 8)] dX5_readCommand_48 (j := 2) rfl (by decide) (by decide) rfl ?_
  refine z_goto (tgt := 4) dX5_readCommand_51 (by decide) ?_
  refine z_iload_n (j := 2) dX5_readCommand_4 rfl ?_
  refine z_getsN (v := .ref (zB + 300)) (host := "NeighbourHash") kZ_cm (List.mem_of_getElem? (i := 5) rfl) dX5_readCommand_5 ?_
  refine z_alenC (v := 10) kT_cm rfl dX5_readCommand_8 ?_
  refine z_icmp_ge (tgt := 54) dX5_readCommand_9 (by decide) (fun czq9 => absurd czq9 (by decide)) (fun czq9 => ?_)
  refine z_aload_nN (j := 1) dX5_readCommand_12 rfl ?_
  refine z_ifnonnullN dX5_readCommand_13 ?_
  refine z_getsN (v := .ref (zB + 300)) (host := "NeighbourHash") kZ_cm (List.mem_of_getElem? (i := 5) rfl) dX5_readCommand_16 ?_
  refine z_iload_n (j := 2) dX5_readCommand_19 rfl ?_
  refine z_aaldC kT_cm (show vp_in (nI 8) 10 from vp_in_nI (by decide) (by decide)) dX5_readCommand_20 ?_
  refine z_ifnull dX5_readCommand_21 ?_
  refine z_aload_n (j := 0) dX5_readCommand_24 rfl ?_
  refine z_get (v := .ref 1) (by omega) gW_3 fX5_32 rfl dX5_readCommand_25 ?_
  refine z_getsN (v := .ref (zB + 300)) (host := "NeighbourHash") kZ_cm (List.mem_of_getElem? (i := 5) rfl) dX5_readCommand_28 ?_
  refine z_iload_n (j := 2) dX5_readCommand_31 rfl ?_
  refine z_aaldC kT_cm (show vp_in (nI 8) 10 from vp_in_nI (by decide) (by decide)) dX5_readCommand_32 ?_
  refine z_getC (v := .ref (zB + 14 + 8)) (by decide +kernel) fX5_168 dX5_readCommand_33 ?_
  refine z_kV [.ref ((zB + 14 + 8))] 0 0 kc ks yoX3_isWord yvX3_isWord rfl (by decide) lX5_75 (by omega) gW_1 rfl rfl (Nat.le_of_ble_eq_true rfl) (Nat.le_of_ble_eq_true rfl) dX5_readCommand_36 (by omega) (by omega) (z_room (by omega) (Nat.le_refl _) (Nat.le_refl _) (w_isWord (d := 0) (w := 8) hn hL h11 hu hx (by decide) h12 h13 h14 hst ⟨rfl, ?_⟩))
  refine z_if_eq (tgt := 48) dX5_readCommand_39 (by decide) (fun czq39 => ?_) (fun czq39 => absurd (bI_f (hno 8 (by decide))) czq39)
  skip
  refine z_iinc (9) [1, 2, 0] [(0, .ref 3), (1, .null), (2, .int 9)] dX5_readCommand_48 (j := 2) rfl (by decide) (by decide) rfl ?_
  refine z_goto (tgt := 4) dX5_readCommand_51 (by decide) ?_
  refine z_iload_n (j := 2) dX5_readCommand_4 rfl ?_
  refine z_getsN (v := .ref (zB + 300)) (host := "NeighbourHash") kZ_cm (List.mem_of_getElem? (i := 5) rfl) dX5_readCommand_5 ?_
  refine z_alenC (v := 10) kT_cm rfl dX5_readCommand_8 ?_
  refine z_icmp_ge (tgt := 54) dX5_readCommand_9 (by decide) (fun czq9 => absurd czq9 (by decide)) (fun czq9 => ?_)
  refine z_aload_nN (j := 1) dX5_readCommand_12 rfl ?_
  refine z_ifnonnullN dX5_readCommand_13 ?_
  refine z_getsN (v := .ref (zB + 300)) (host := "NeighbourHash") kZ_cm (List.mem_of_getElem? (i := 5) rfl) dX5_readCommand_16 ?_
  refine z_iload_n (j := 2) dX5_readCommand_19 rfl ?_
  refine z_aaldC kT_cm (show vp_in (nI 9) 10 from vp_in_nI (by decide) (by decide)) dX5_readCommand_20 ?_
  refine z_ifnull dX5_readCommand_21 ?_
  refine z_aload_n (j := 0) dX5_readCommand_24 rfl ?_
  refine z_get (v := .ref 1) (by omega) gW_3 fX5_32 rfl dX5_readCommand_25 ?_
  refine z_getsN (v := .ref (zB + 300)) (host := "NeighbourHash") kZ_cm (List.mem_of_getElem? (i := 5) rfl) dX5_readCommand_28 ?_
  refine z_iload_n (j := 2) dX5_readCommand_31 rfl ?_
  refine z_aaldC kT_cm (show vp_in (nI 9) 10 from vp_in_nI (by decide) (by decide)) dX5_readCommand_32 ?_
  refine z_getC (v := .ref (zB + 14 + 9)) (by decide +kernel) fX5_168 dX5_readCommand_33 ?_
  refine z_kV [.ref ((zB + 14 + 9))] 0 0 kc ks yoX3_isWord yvX3_isWord rfl (by decide) lX5_75 (by omega) gW_1 rfl rfl (Nat.le_of_ble_eq_true rfl) (Nat.le_of_ble_eq_true rfl) dX5_readCommand_36 (by omega) (by omega) (z_room (by omega) (Nat.le_refl _) (Nat.le_refl _) (w_isWord (d := 0) (w := 9) hn hL h11 hu hx (by decide) h12 h13 h14 hst ⟨rfl, ?_⟩))
  refine z_if_eq (tgt := 48) dX5_readCommand_39 (by decide) (fun czq39 => ?_) (fun czq39 => absurd (bI_f (hno 9 (by decide))) czq39)
  skip
  refine z_iinc (10) [1, 2, 0] [(0, .ref 3), (1, .null), (2, .int 10)] dX5_readCommand_48 (j := 2) rfl (by decide) (by decide) rfl ?_
  refine z_goto (tgt := 4) dX5_readCommand_51 (by decide) ?_
  refine z_iload_n (j := 2) dX5_readCommand_4 rfl ?_
  refine z_getsN (v := .ref (zB + 300)) (host := "NeighbourHash") kZ_cm (List.mem_of_getElem? (i := 5) rfl) dX5_readCommand_5 ?_
  refine z_alenC (v := 10) kT_cm rfl dX5_readCommand_8 ?_
  refine z_icmp_ge (tgt := 54) dX5_readCommand_9 (by decide) (fun czq9 => ?_) (fun czq9 => absurd (by decide) czq9)
  refine z_aload_nN (j := 1) dX5_readCommand_54 rfl ?_
  refine z_ifnonnullN dX5_readCommand_55 ?_
  refine z_aload_n (j := 0) dX5_readCommand_58 rfl ?_
  refine z_iconst (v := 1) dX5_readCommand_59 (by decide) ?_
  refine z_kV [.int 1] 0 0 kc ks yoX5_fail yvX5_fail rfl (by decide) lX5_137 (by omega) gW_3 rfl rfl (Nat.le_of_ble_eq_true rfl) (Nat.le_of_ble_eq_true rfl) dX5_readCommand_60 (by omega) (by omega) (z_room (by omega) (Nat.le_refl _) (Nat.le_refl _) (w_fail (d := 0) (k := 1) hn h13 (fun o1 he => ⟨rfl, ?_⟩)))
  exact z_vret rfl dX5_readCommand_63 (hqN cm (Or.inl rfl) o1 u rfl he)
