/-! THE LAW'S isBuilt() -/
theorem dRel.same {g g' : zGs} (h : dRel g g') (h1 : gK g' ≤ gK g) (h8 : gK g < 8) : g'.1 = g.1 := by
  rcases h.2 with ⟨h2, -⟩ | ⟨h2, -⟩ | h2 | ⟨h2, h3⟩
  · exact h2
  · omega
  · omega
  · omega
theorem dRel.one {g g' : zGs} (h : dRel g g') (h1 : gK g' = gK g + 1) (h8 : gK g < 7) : gHi g' 0 = g.1 := by
  rcases h.2 with ⟨-, h2⟩ | ⟨-, h2⟩ | h2 | ⟨h2, h3⟩
  · omega
  · exact h2
  · omega
  · omega
theorem push_pos (g : zGs) (S' : zS) : 0 < gK (gPush g S') := by
  rw [push_k]
  split <;> omega
theorem un_push (g : zGs) (S' : zS) : (gUn (gPush g S')).1 = g.1 := by rw [un_t, push_h]

set_option maxHeartbeats 4000000 in
set_option maxRecDepth 100000 in
theorem B_145 {l : zL} {d kc ks n : Nat} {h : Nat → va_E} {cm : Value} {o u : Nat → Nat → Int32} {s : Nat → Nat → Int32} {a : Nat → Nat → Nat → Int32} {g : zGs} {Q : zQ} {w1 : Int64} (hn : 89 ≤ n) (hno : ∀ E n' h', ¬ Q (.inr E) n' h') (hC : cI g o u s a) (hcc : okc g.1) (hw1 : fSum g.1 = w1) (hq : ∀ g' cm' o' u' s' a', g'.1 = g.1 → cI g' o' u' s' a' → Q (.inl (some (.int 1))) n (gW h cm' o' u' s' a')) : Zj l mL_isBuilt (d + 9) kc ks 145 [(0, .ref 0), (3, .long w1), (9, .int 1)] [] n (gW h cm o u s a) Q := by
  refine z_iload (j := 2) dL_isBuilt_145 rfl ?_
  refine z_if_eq (tgt := 163) dL_isBuilt_147 (by decide) (fun czq147 => absurd czq147 (by decide)) (fun czq147 => ?_)
  refine z_aload_n (j := 0) dL_isBuilt_150 rfl ?_
  refine z_kS [.ref 0] 0 0 kc ks yoL_sum ysL_sum rfl (by decide) lL_138 rfl (Nat.le_of_ble_eq_true rfl) (Nat.le_of_ble_eq_true rfl) dL_isBuilt_151 (by omega) (by omega) (z_room (by omega) (Nat.le_refl _) (Nat.le_refl _) (W_sum (d := 0) (g := g) hn (zk_no hno) hC hw1 (fun cm3001 o3001 u3001 s3001 a3001 hC3001 => ⟨rfl, ?_⟩)))
  refine z_lload_n (j := 1) dL_isBuilt_154 rfl ?_
  refine z_lcmp dL_isBuilt_155 ?_
  refine z_if_ne (tgt := 163) dL_isBuilt_156 (by decide) (fun czq156 => absurd (lgc_same _) czq156) (fun czq156 => ?_)
  refine z_iconst (v := 1) dL_isBuilt_159 (by decide) ?_
  refine z_goto (tgt := 164) dL_isBuilt_160 (by decide) ?_
  exact z_zret rfl rfl dL_isBuilt_164 (hq _ _ _ _ _ _ rfl hC3001)

set_option maxHeartbeats 4000000 in
set_option maxRecDepth 100000 in
theorem B_81 {l : zL} {d kc ks n : Nat} {h : Nat → va_E} {cm : Value} {o u : Nat → Nat → Int32} {s : Nat → Nat → Int32} {a : Nat → Nat → Nat → Int32} {g : zGs} {Q : zQ} {w1 w2 : Int64} {M : Nat} (hM1 : 1 ≤ M) (hM3 : M ≤ 30) (hn : 89 ≤ n) (hno : ∀ E n' h', ¬ Q (.inr E) n' h') (hC : cI g o u s a) (hcc : okc g.1) (hw1 : fSum g.1 = w1) (hw2 : fCon g.1 = w2) (hq : ∀ g' cm' o' u' s' a', g'.1 = g.1 → cI g' o' u' s' a' → Q (.inl (some (.int 1))) n (gW h cm' o' u' s' a')) : Zj l mL_isBuilt (d + 9) kc ks 81 [(0, .ref 0), (2, .int ((nI M))), (3, .long w1), (5, .long w2), (9, .int 1)] [] n (gW h cm o u s a) Q := by
  refine z_aload_n (j := 0) dL_isBuilt_81 rfl ?_
  refine z_iload_n (j := 1) dL_isBuilt_82 rfl ?_
  refine z_kV [.int ((nI M))] 0 0 kc ks yoX7_bestMultiplier yvX7_bestMultiplier rfl (by decide) lL_45 (by omega) gW_0 rfl rfl (Nat.le_of_ble_eq_true rfl) (Nat.le_of_ble_eq_true rfl) dL_isBuilt_83 (by omega) (by omega) (z_room (by omega) (Nat.le_refl _) (Nat.le_refl _) (V2_best (d := 0) (g := g) (M := M) hM1 hM3 hn (zk_no hno) hC  (fun cm3002 o3002 u3002 s3002 a3002  hC3002 => ⟨rfl, ?_⟩) (fun r S1 cm3003 o3003 u3003 s3003 a3003 hr1 hr2 hs hB1 hC3003 => ⟨rfl, ?_⟩)))
  · refine z_istore [1, 2, 3, 4, 5, 0] [(0, .ref 0), (2, .int ((nI M))), (3, .long w1), (5, .long w2), (9, .int 1), (10, .int ((-1)))] dL_isBuilt_86 (by decide) rfl ?_
    refine z_iload (j := 5) dL_isBuilt_88 rfl ?_
    refine z_iconst (v := (-1)) dL_isBuilt_90 (by decide) ?_
    refine z_icmp_eq (tgt := 145) dL_isBuilt_91 (by decide) (fun czq91 => ?_) (fun czq91 => absurd rfl czq91)
    refine z_lv [(0, .ref 0), (3, .long w1), (9, .int 1)] [0, 2, 4] rfl ?_
    exact B_145 hn hno hC3002 hcc hw1 hq
  · have hkp := times_keeps hC.t hs
    refine z_istore [1, 2, 3, 4, 5, 0] [(0, .ref 0), (2, .int ((nI M))), (3, .long w1), (5, .long w2), (9, .int 1), (10, .int ((nI r)))] dL_isBuilt_86 (by decide) rfl ?_
    refine z_iload (j := 5) dL_isBuilt_88 rfl ?_
    refine z_iconst (v := (-1)) dL_isBuilt_90 (by decide) ?_
    refine z_icmp_eq (tgt := 145) dL_isBuilt_91 (by decide) (fun czq91 => absurd czq91 (nI_neg1 (by omega))) (fun czq91 => ?_)
    refine z_aload_n (j := 0) dL_isBuilt_94 rfl ?_
    refine z_kV [] 0 0 kc ks yoX7_bucketCount yvX7_bucketCount rfl (by decide) lL_13 (by omega) gW_0 rfl rfl (Nat.le_of_ble_eq_true rfl) (Nat.le_of_ble_eq_true rfl) dL_isBuilt_95 (by omega) (by omega) (z_room (by omega) (Nat.le_refl _) (Nat.le_refl _) (V_bucketCount (d := 0) (g := g) (g' := g) (v := (nI g.1.1)) hn (zk_no hno) hC3003 rfl (fun cm3004 o3004 u3004 s3004 a3004 hC3004 => ⟨rfl, ?_⟩)))
    refine z_istore [1, 2, 3, 4, 5, 6, 0] [(0, .ref 0), (2, .int ((nI M))), (3, .long w1), (5, .long w2), (9, .int 1), (10, .int ((nI r))), (11, .int ((nI g.1.1)))] dL_isBuilt_98 (by decide) rfl ?_
    refine z_iload (j := 4) dL_isBuilt_100 rfl ?_
    refine z_if_eq (tgt := 137) dL_isBuilt_102 (by decide) (fun czq102 => absurd czq102 (by decide)) (fun czq102 => ?_)
    refine z_aload_n (j := 0) dL_isBuilt_105 rfl ?_
    refine z_iload (j := 5) dL_isBuilt_106 rfl ?_
    refine z_kV [.int ((nI r))] 0 0 kc ks yoX7_setMultiplier yvX7_setMultiplier rfl (by decide) lL_48 (by omega) gW_0 rfl rfl (Nat.le_of_ble_eq_true rfl) (Nat.le_of_ble_eq_true rfl) dL_isBuilt_108 (by omega) (by omega) (z_room (by omega) (Nat.le_refl _) (Nat.le_refl _) (V_setMultiplier (d := 0) (g := g) (g' := (gPush g S1)) (v := (nI g.1.1)) hn (zk_no hno) hC3004 (by rw [fk_setM (g := g) hr1 (by omega) hs, hB1]) (fun cm3005 o3005 u3005 s3005 a3005 hC3005 => ⟨rfl, ?_⟩)))
    refine z_iload (j := 6) dL_isBuilt_111 rfl ?_
    refine z_icmp_ne (tgt := 137) dL_isBuilt_113 (by decide) (fun czq113 => absurd rfl czq113) (fun czq113 => ?_)
    refine z_aload_n (j := 0) dL_isBuilt_116 rfl ?_
    refine z_kS [.ref 0] 0 0 kc ks yoL_content ysL_content rfl (by decide) lL_142 rfl (Nat.le_of_ble_eq_true rfl) (Nat.le_of_ble_eq_true rfl) dL_isBuilt_117 (by omega) (by omega) (z_room (by omega) (Nat.le_refl _) (Nat.le_refl _) (W_content (d := 0) (g := (gPush g S1)) hn (zk_no hno) hC3005 (show fCon (gPush g S1).1 = w2 from by rw [push_t, hkp.1]; exact hw2) (fun cm3006 o3006 u3006 s3006 a3006 hC3006 => ⟨rfl, ?_⟩)))
    refine z_lload (j := 3) dL_isBuilt_120 rfl ?_
    refine z_lcmp dL_isBuilt_122 ?_
    refine z_if_ne (tgt := 137) dL_isBuilt_123 (by decide) (fun czq123 => absurd (lgc_same _) czq123) (fun czq123 => ?_)
    refine z_aload_n (j := 0) dL_isBuilt_126 rfl ?_
    refine z_kS [.ref 0] 0 0 kc ks yoL_holds ysL_holds rfl (by decide) lL_145 rfl (Nat.le_of_ble_eq_true rfl) (Nat.le_of_ble_eq_true rfl) dL_isBuilt_127 (by omega) (by omega) (z_room (by omega) (Nat.le_refl _) (Nat.le_refl _) (W_holds (d := 0) (g := (gPush g S1)) hn (zk_no hno) hC3006 (show okc (gPush g S1).1 from by rw [push_t]; exact hkp.2.2 hcc) (fun cm3007 o3007 u3007 s3007 a3007 hC3007 => ⟨rfl, ?_⟩)))
    refine z_if_eq (tgt := 137) dL_isBuilt_130 (by decide) (fun czq130 => absurd czq130 (by decide)) (fun czq130 => ?_)
    refine z_iconst (v := 1) dL_isBuilt_133 (by decide) ?_
    refine z_goto (tgt := 138) dL_isBuilt_134 (by decide) ?_
    refine z_istore [1, 2, 3, 4, 0, 5, 6] [(0, .ref 0), (2, .int ((nI M))), (3, .long w1), (5, .long w2), (9, .int 1), (10, .int ((nI r))), (11, .int ((nI g.1.1)))] dL_isBuilt_138 (by decide) rfl ?_
    refine z_aload_n (j := 0) dL_isBuilt_140 rfl ?_
    refine z_kV [] 0 0 kc ks yoX7_undo yvX7_undo rfl (by decide) lL_149 (by omega) gW_0 rfl rfl (Nat.le_of_ble_eq_true rfl) (Nat.le_of_ble_eq_true rfl) dL_isBuilt_141 (by omega) (by omega) (z_room (by omega) (Nat.le_refl _) (Nat.le_refl _) (V_undo (d := 0) (g := (gPush g S1)) (g' := (gUn (gPush g S1))) (v := (nI (gK (gPush g S1) - 1))) hn (zk_no hno) hC3007 (fk_undo (g := (gPush g S1)) (push_pos g S1)) (fun cm3008 o3008 u3008 s3008 a3008 hC3008 => ⟨rfl, ?_⟩)))
    refine z_pop rfl dL_isBuilt_144 ?_
    refine z_lv [(0, .ref 0), (3, .long w1), (9, .int 1)] [0, 2, 4] rfl ?_
    exact B_145 hn hno hC3008 (by rw [un_push]; exact hcc) (by rw [un_push]; exact hw1) (fun g' cm' o' u' s' a' e hC' => hq g' cm' o' u' s' a' (e.trans (un_push g S1)) hC')

set_option maxHeartbeats 4000000 in
set_option maxRecDepth 100000 in
theorem W_isBuilt {l : zL} {d kc ks n : Nat} {h : Nat → va_E} {cm : Value} {o u : Nat → Nat → Int32} {s : Nat → Nat → Int32} {a : Nat → Nat → Nat → Int32} {g : zGs} {Q : zQ} {N2 M : Nat} (h2 : 2 ≤ N2) (h6 : N2 ≤ 6) (hM1 : 1 ≤ M) (hM3 : M ≤ 30) (hn : 89 ≤ n) (hno : ∀ E n' h', ¬ Q (.inr E) n' h') (hC : cI g o u s a) (hcc : okc g.1) (hq : ∀ g' cm' o' u' s' a', g'.1 = g.1 → cI g' o' u' s' a' → Q (.inl (some (.int 1))) n (gW h cm' o' u' s' a')) : Zj l mL_isBuilt (d + 9) kc ks 0 [(0, .ref 0), (1, .int ((nI N2))), (2, .int ((nI M)))] [] n (gW h cm o u s a) Q := by
  refine z_aload_n (j := 0) dL_isBuilt_0 rfl ?_
  refine z_kS [.ref 0] 0 0 kc ks yoL_sum ysL_sum rfl (by decide) lL_138 rfl (Nat.le_of_ble_eq_true rfl) (Nat.le_of_ble_eq_true rfl) dL_isBuilt_1 (by omega) (by omega) (z_room (by omega) (Nat.le_refl _) (Nat.le_refl _) (W_sum (d := 0) (g := g) hn (zk_no hno) hC rfl (fun cm3009 o3009 u3009 s3009 a3009 hC3009 => ⟨rfl, ?_⟩)))
  refine z_lstore_n [1, 2, 3, 0] [(0, .ref 0), (1, .int ((nI N2))), (2, .int ((nI M))), (3, .long ((fSum g.1)))] dL_isBuilt_4 (by decide) rfl ?_
  refine z_aload_n (j := 0) dL_isBuilt_5 rfl ?_
  refine z_kS [.ref 0] 0 0 kc ks yoL_content ysL_content rfl (by decide) lL_142 rfl (Nat.le_of_ble_eq_true rfl) (Nat.le_of_ble_eq_true rfl) dL_isBuilt_6 (by omega) (by omega) (z_room (by omega) (Nat.le_refl _) (Nat.le_refl _) (W_content (d := 0) (g := g) hn (zk_no hno) hC3009 rfl (fun cm3010 o3010 u3010 s3010 a3010 hC3010 => ⟨rfl, ?_⟩)))
  refine z_lstore [1, 2, 3, 4, 0] [(0, .ref 0), (1, .int ((nI N2))), (2, .int ((nI M))), (3, .long ((fSum g.1))), (5, .long ((fCon g.1)))] dL_isBuilt_9 (by decide) rfl ?_
  refine z_aload_n (j := 0) dL_isBuilt_11 rfl ?_
  refine z_iload_n (j := 1) dL_isBuilt_12 rfl ?_
  refine z_kV [.int ((nI N2))] 0 0 kc ks yoX7_bucketsWith yvX7_bucketsWith rfl (by decide) lL_39 (by omega) gW_0 rfl rfl (Nat.le_of_ble_eq_true rfl) (Nat.le_of_ble_eq_true rfl) dL_isBuilt_13 (by omega) (by omega) (z_room (by omega) (Nat.le_refl _) (Nat.le_refl _) (V2_with (d := 0) (g := g) (H2 := N2) h2 h6 hn (zk_no hno) hC3010  (fun cm3011 o3011 u3011 s3011 a3011 hs hC3011 => ⟨rfl, ?_⟩) (fun S1 cm3012 o3012 u3012 s3012 a3012 hs hC3012 => ⟨rfl, ?_⟩)))
  · refine z_istore [1, 2, 3, 4, 5, 0] [(0, .ref 0), (1, .int ((nI N2))), (2, .int ((nI M))), (3, .long ((fSum g.1))), (5, .long ((fCon g.1))), (7, .int ((-1)))] dL_isBuilt_16 (by decide) rfl ?_
    refine z_aload_n (j := 0) dL_isBuilt_18 rfl ?_
    refine z_kV [] 0 0 kc ks yoX7_entryCount yvX7_entryCount rfl (by decide) lL_7 (by omega) gW_0 rfl rfl (Nat.le_of_ble_eq_true rfl) (Nat.le_of_ble_eq_true rfl) dL_isBuilt_19 (by omega) (by omega) (z_room (by omega) (Nat.le_refl _) (Nat.le_refl _) (V_entryCount (d := 0) (g := g) (g' := g) (v := (nI (sCnt g.1))) hn (zk_no hno) hC3011 rfl (fun cm3013 o3013 u3013 s3013 a3013 hC3013 => ⟨rfl, ?_⟩)))
    refine z_istore [1, 2, 3, 4, 5, 6, 0] [(0, .ref 0), (1, .int ((nI N2))), (2, .int ((nI M))), (3, .long ((fSum g.1))), (5, .long ((fCon g.1))), (7, .int ((-1))), (8, .int ((nI (sCnt g.1))))] dL_isBuilt_22 (by decide) rfl ?_
    refine z_iconst (v := 1) dL_isBuilt_24 (by decide) ?_
    refine z_istore [1, 2, 3, 4, 5, 6, 7, 0] [(0, .ref 0), (1, .int ((nI N2))), (2, .int ((nI M))), (3, .long ((fSum g.1))), (5, .long ((fCon g.1))), (7, .int ((-1))), (8, .int ((nI (sCnt g.1)))), (9, .int 1)] dL_isBuilt_25 (by decide) rfl ?_
    refine z_iload (j := 5) dL_isBuilt_27 rfl ?_
    refine z_iconst (v := (-1)) dL_isBuilt_29 (by decide) ?_
    refine z_icmp_eq (tgt := 81) dL_isBuilt_30 (by decide) (fun czq30 => ?_) (fun czq30 => absurd rfl czq30)
    refine z_lv [(0, .ref 0), (2, .int ((nI M))), (3, .long ((fSum g.1))), (5, .long ((fCon g.1))), (9, .int 1)] [0, 2, 3, 4, 7] rfl ?_
    exact B_81 hM1 hM3 hn hno hC3013 hcc rfl rfl hq
  · have hkp := near_keeps hC.t h6 hs
    refine z_istore [1, 2, 3, 4, 5, 0] [(0, .ref 0), (1, .int ((nI N2))), (2, .int ((nI M))), (3, .long ((fSum g.1))), (5, .long ((fCon g.1))), (7, .int ((nI S1.1)))] dL_isBuilt_16 (by decide) rfl ?_
    refine z_aload_n (j := 0) dL_isBuilt_18 rfl ?_
    refine z_kV [] 0 0 kc ks yoX7_entryCount yvX7_entryCount rfl (by decide) lL_7 (by omega) gW_0 rfl rfl (Nat.le_of_ble_eq_true rfl) (Nat.le_of_ble_eq_true rfl) dL_isBuilt_19 (by omega) (by omega) (z_room (by omega) (Nat.le_refl _) (Nat.le_refl _) (V_entryCount (d := 0) (g := g) (g' := g) (v := (nI (sCnt g.1))) hn (zk_no hno) hC3012 rfl (fun cm3014 o3014 u3014 s3014 a3014 hC3014 => ⟨rfl, ?_⟩)))
    refine z_istore [1, 2, 3, 4, 5, 6, 0] [(0, .ref 0), (1, .int ((nI N2))), (2, .int ((nI M))), (3, .long ((fSum g.1))), (5, .long ((fCon g.1))), (7, .int ((nI S1.1))), (8, .int ((nI (sCnt g.1))))] dL_isBuilt_22 (by decide) rfl ?_
    refine z_iconst (v := 1) dL_isBuilt_24 (by decide) ?_
    refine z_istore [1, 2, 3, 4, 5, 6, 7, 0] [(0, .ref 0), (1, .int ((nI N2))), (2, .int ((nI M))), (3, .long ((fSum g.1))), (5, .long ((fCon g.1))), (7, .int ((nI S1.1))), (8, .int ((nI (sCnt g.1)))), (9, .int 1)] dL_isBuilt_25 (by decide) rfl ?_
    refine z_iload (j := 5) dL_isBuilt_27 rfl ?_
    refine z_iconst (v := (-1)) dL_isBuilt_29 (by decide) ?_
    refine z_icmp_eq (tgt := 81) dL_isBuilt_30 (by decide) (fun czq30 => absurd czq30 (nI_neg1 (by have := near_B hC.t hs; omega))) (fun czq30 => ?_)
    refine z_aload_n (j := 0) dL_isBuilt_33 rfl ?_
    refine z_iload_n (j := 1) dL_isBuilt_34 rfl ?_
    refine z_kV [.int ((nI N2))] 0 0 kc ks yoX7_setNeighbourhood yvX7_setNeighbourhood rfl (by decide) lL_42 (by omega) gW_0 rfl rfl (Nat.le_of_ble_eq_true rfl) (Nat.le_of_ble_eq_true rfl) dL_isBuilt_35 (by omega) (by omega) (z_room (by omega) (Nat.le_refl _) (Nat.le_refl _) (V_setNeighbourhood (d := 0) (g := g) (g' := (gPush g S1)) (v := (nI S1.1)) hn (zk_no hno) hC3014 (fk_setN (g := g) h2 h6 hs) (fun cm3015 o3015 u3015 s3015 a3015 hC3015 => ⟨rfl, ?_⟩)))
    refine z_iload (j := 5) dL_isBuilt_38 rfl ?_
    refine z_icmp_ne (tgt := 73) dL_isBuilt_40 (by decide) (fun czq40 => absurd rfl czq40) (fun czq40 => ?_)
    refine z_aload_n (j := 0) dL_isBuilt_43 rfl ?_
    refine z_kS [.ref 0] 0 0 kc ks yoL_content ysL_content rfl (by decide) lL_142 rfl (Nat.le_of_ble_eq_true rfl) (Nat.le_of_ble_eq_true rfl) dL_isBuilt_44 (by omega) (by omega) (z_room (by omega) (Nat.le_refl _) (Nat.le_refl _) (W_content (d := 0) (g := (gPush g S1)) hn (zk_no hno) hC3015 (show fCon (gPush g S1).1 = fCon g.1 from by rw [push_t]; exact hkp.1) (fun cm3016 o3016 u3016 s3016 a3016 hC3016 => ⟨rfl, ?_⟩)))
    refine z_lload (j := 4) dL_isBuilt_47 rfl ?_
    refine z_lcmp dL_isBuilt_49 ?_
    refine z_if_ne (tgt := 73) dL_isBuilt_50 (by decide) (fun czq50 => absurd (lgc_same _) czq50) (fun czq50 => ?_)
    refine z_aload_n (j := 0) dL_isBuilt_53 rfl ?_
    refine z_kV [] 0 0 kc ks yoX7_entryCount yvX7_entryCount rfl (by decide) lL_7 (by omega) gW_0 rfl rfl (Nat.le_of_ble_eq_true rfl) (Nat.le_of_ble_eq_true rfl) dL_isBuilt_54 (by omega) (by omega) (z_room (by omega) (Nat.le_refl _) (Nat.le_refl _) (V_entryCount (d := 0) (g := (gPush g S1)) (g' := (gPush g S1)) (v := (nI (sCnt g.1))) hn (zk_no hno) hC3016 (show f_entryCount (gPush g S1) = (0, nI (sCnt g.1), (gPush g S1)) from by unfold f_entryCount; rw [push_t, hkp.2.1]) (fun cm3017 o3017 u3017 s3017 a3017 hC3017 => ⟨rfl, ?_⟩)))
    refine z_iload (j := 6) dL_isBuilt_57 rfl ?_
    refine z_icmp_ne (tgt := 73) dL_isBuilt_59 (by decide) (fun czq59 => absurd rfl czq59) (fun czq59 => ?_)
    refine z_aload_n (j := 0) dL_isBuilt_62 rfl ?_
    refine z_kS [.ref 0] 0 0 kc ks yoL_holds ysL_holds rfl (by decide) lL_145 rfl (Nat.le_of_ble_eq_true rfl) (Nat.le_of_ble_eq_true rfl) dL_isBuilt_63 (by omega) (by omega) (z_room (by omega) (Nat.le_refl _) (Nat.le_refl _) (W_holds (d := 0) (g := (gPush g S1)) hn (zk_no hno) hC3017 (show okc (gPush g S1).1 from by rw [push_t]; exact hkp.2.2 hcc) (fun cm3018 o3018 u3018 s3018 a3018 hC3018 => ⟨rfl, ?_⟩)))
    refine z_if_eq (tgt := 73) dL_isBuilt_66 (by decide) (fun czq66 => absurd czq66 (by decide)) (fun czq66 => ?_)
    refine z_iconst (v := 1) dL_isBuilt_69 (by decide) ?_
    refine z_goto (tgt := 74) dL_isBuilt_70 (by decide) ?_
    refine z_istore [1, 2, 3, 4, 5, 6, 7, 0] [(0, .ref 0), (1, .int ((nI N2))), (2, .int ((nI M))), (3, .long ((fSum g.1))), (5, .long ((fCon g.1))), (7, .int ((nI S1.1))), (8, .int ((nI (sCnt g.1)))), (9, .int 1)] dL_isBuilt_74 (by decide) rfl ?_
    refine z_aload_n (j := 0) dL_isBuilt_76 rfl ?_
    refine z_kV [] 0 0 kc ks yoX7_undo yvX7_undo rfl (by decide) lL_149 (by omega) gW_0 rfl rfl (Nat.le_of_ble_eq_true rfl) (Nat.le_of_ble_eq_true rfl) dL_isBuilt_77 (by omega) (by omega) (z_room (by omega) (Nat.le_refl _) (Nat.le_refl _) (V_undo (d := 0) (g := (gPush g S1)) (g' := (gUn (gPush g S1))) (v := (nI (gK (gPush g S1) - 1))) hn (zk_no hno) hC3018 (fk_undo (g := (gPush g S1)) (push_pos g S1)) (fun cm3019 o3019 u3019 s3019 a3019 hC3019 => ⟨rfl, ?_⟩)))
    refine z_pop rfl dL_isBuilt_80 ?_
    refine z_lv [(0, .ref 0), (2, .int ((nI M))), (3, .long ((fSum g.1))), (5, .long ((fCon g.1))), (9, .int 1)] [0, 2, 3, 4, 7] rfl ?_
    exact B_81 hM1 hM3 hn hno hC3019 (by rw [un_push]; exact hcc) (by rw [un_push]) (by rw [un_push]) (fun g' cm' o' u' s' a' e hC' => hq g' cm' o' u' s' a' (e.trans (un_push g S1)) hC')
