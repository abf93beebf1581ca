/-! THE LAW ITSELF -/
abbrev mL_law : zM := (yL_law, cL_law, 8, some .boolean, [])
set_option maxHeartbeats 4000000 in
set_option maxRecDepth 100000 in
theorem L_149 {l : zL} {d kc ks n : Nat} {h : Nat → va_E} {cm : Value} {o u : Nat → Nat → Int32} {s : Nat → Nat → Int32} {a : Nat → Nat → Nat → Int32} {g : zGs} {Q : zQ} {p : Int32} {k : Nat} (hk14 : k < 14) (hn : 89 ≤ n) (hno : ∀ E n' h', ¬ Q (.inr E) n' h') (hC : cI g o u s a) (hcc : okc g.1) (hk : ∀ g cm o u s a, okc g.1 → cI g o u s a → Zj l mL_law (d + 10) kc ks 19 [(0, .ref (zB + 500)), (1, .ref 0), (2, .int (nI (k + 1)))] [] n (gW h cm o u s a) Q) : Zj l mL_law (d + 10) kc ks 149 [(0, .ref (zB + 500)), (1, .ref 0), (2, .int ((nI k))), (3, .int p)] [] n (gW h cm o u s a) Q := by
  refine z_iload_n (j := 2) dL_law_149 rfl ?_
  refine z_iconst (v := 4) dL_law_150 (by decide) ?_
  refine z_irem (by decide) dL_law_151 ?_
  refine z_iconst (v := 3) dL_law_152 (by decide) ?_
  refine z_icmp_ne (tgt := 185) dL_law_153 (by decide) (fun czq153 => ?_) (fun czq153 => ?_)
  · skip
    refine z_iinc ((nI (k + 1))) [1, 2, 0, 3] [(0, .ref (zB + 500)), (1, .ref 0), (2, .int ((nI (k + 1)))), (3, .int p)] dL_law_185 (j := 2) rfl (nI_1 k) (by decide) rfl ?_
    refine z_goto (tgt := 19) dL_law_188 (by decide) ?_
    refine z_lv [(0, .ref (zB + 500)), (1, .ref 0), (2, .int ((nI (k + 1))))] [0, 1, 2] rfl ?_
    exact hk _ cm o u s a hcc hC
  · refine z_aload_n (j := 1) dL_law_156 rfl ?_
    refine z_iconst (v := 2) dL_law_157 (by decide) ?_
    refine z_iload_n (j := 3) dL_law_158 rfl ?_
    refine z_bipush (v := 6) dL_law_159 (by decide) ?_
    refine z_iushr dL_law_161 ?_
    refine z_bipush (v := 7) dL_law_162 (by decide) ?_
    refine z_iand dL_law_164 ?_
    obtain ⟨A, hA, eA⟩ := pk_andE (zushr p 6) (m := 7) 3 (by decide)
    rw [eA]
    have hA : A ≤ 7 := by have : 2 ^ 3 = 8 := rfl; omega
    refine z_iconst (v := 5) dL_law_165 (by decide) ?_
    refine z_irem (by decide) dL_law_166 ?_
    refine z_iadd dL_law_167 ?_
    rw [show (2 + ((nI A) - (nI A) / 5 * 5)) = (nI (2 + A % 5)) from by
      rw [show nI A - nI A / 5 * 5 = nI (A % 5) from pk_rem (a := A) (d := 5) (by omega) (by decide) (by decide)]
      exact nI_add 2 _]
    refine z_iconst (v := 1) dL_law_168 (by decide) ?_
    refine z_iload_n (j := 3) dL_law_169 rfl ?_
    refine z_bipush (v := 9) dL_law_170 (by decide) ?_
    refine z_iushr dL_law_172 ?_
    refine z_bipush (v := 15) dL_law_173 (by decide) ?_
    refine z_iand dL_law_175 ?_
    obtain ⟨F, hF, eF⟩ := pk_andE (zushr p 9) (m := 15) 4 (by decide)
    rw [eF]
    have hF : F ≤ 15 := by have : 2 ^ 4 = 16 := rfl; omega
    refine z_iadd dL_law_176 ?_
    rw [show (1 : Int32) + nI F = nI (1 + F) from nI_add 1 F]
    refine z_kS [.ref 0, .int ((nI (2 + A % 5))), .int ((nI (1 + F)))] 0 0 kc ks yoL_isBuilt ysL_isBuilt rfl (by decide) lL_164 rfl (Nat.le_of_ble_eq_true rfl) (Nat.le_of_ble_eq_true rfl) dL_law_177 (by omega) (by omega) (z_room (by omega) (Nat.le_refl _) (Nat.le_refl _) (W_isBuilt (d := 0) (g := g) (by omega) (by omega) (by omega) (by omega) hn (zk_no hno) hC hcc (fun g2 cm4001 o4001 u4001 s4001 a4001 he hC4001 => ⟨rfl, ?_⟩)))
    refine z_if_ne (tgt := 185) dL_law_180 (by decide) (fun czq180 => ?_) (fun czq180 => absurd czq180 (by decide))
    skip
    refine z_iinc ((nI (k + 1))) [1, 2, 0, 3] [(0, .ref (zB + 500)), (1, .ref 0), (2, .int ((nI (k + 1)))), (3, .int p)] dL_law_185 (j := 2) rfl (nI_1 k) (by decide) rfl ?_
    refine z_goto (tgt := 19) dL_law_188 (by decide) ?_
    refine z_lv [(0, .ref (zB + 500)), (1, .ref 0), (2, .int ((nI (k + 1))))] [0, 1, 2] rfl ?_
    exact hk _ cm4001 o4001 u4001 s4001 a4001 (by rw [he]; exact hcc) hC4001

set_option maxHeartbeats 4000000 in
set_option maxRecDepth 100000 in
theorem L_l {l : zL} {d kc ks n : Nat} {h : Nat → va_E} {Q : zQ} (hl : l.2.1 ≤ 260) (hn : 89 ≤ n) (hno : ∀ E n' h', ¬ Q (.inr E) n' h') (hq : ∀ n g, Q (.inl (some (.int 1))) n g) : ∀ m (k : Nat) (g : zGs) (cm : Value) (o u : Nat → Nat → Int32) (s : Nat → Nat → Int32) (a : Nat → Nat → Nat → Int32), k + m = 14 → okc g.1 → cI g o u s a → Zj l mL_law (d + 10) kc ks 19 [(0, .ref (zB + 500)), (1, .ref 0), (2, .int ((nI k)))] [] n (gW h cm o u s a) Q := by
  intro m
  induction m with
  | zero =>
    intro k g cm o u s a hkm hcc hC
    refine z_iload_n (j := 2) dL_law_19 rfl ?_
    refine z_bipush (v := 14) dL_law_20 (by decide) ?_
    refine z_icmp_ge (tgt := 191) dL_law_22 (by decide) (fun czq22 => ?_) (fun czq22 => absurd (nI_le (a := 14) (by omega) (by omega)) czq22)
    refine z_iconst (v := 1) dL_law_191 (by decide) ?_
    exact z_zret rfl rfl dL_law_192 (hq _ _)
  | succ m ih =>
    intro k g cm o u s a hkm hcc hC
    have hk14 : k < 14 := by omega
    refine z_iload_n (j := 2) dL_law_19 rfl ?_
    refine z_bipush (v := 14) dL_law_20 (by decide) ?_
    refine z_icmp_ge (tgt := 191) dL_law_22 (by decide) (fun czq22 => absurd czq22 (nI_ge (a := k) (b := 14) (by omega) (by decide))) (fun czq22 => ?_)
    refine z_aload_n (j := 0) dL_law_25 rfl ?_
    refine z_iload_n (j := 2) dL_law_26 rfl ?_
    refine z_kS [.ref (zB + 500), .int ((nI k))] 0 0 kc ks yoL_cell ysL_cell rfl (by decide) lL_153 rfl (Nat.le_of_ble_eq_true rfl) (Nat.le_of_ble_eq_true rfl) dL_law_27 (by omega) (by omega) (z_room (by omega) (Nat.le_refl _) (Nat.le_refl _) (W_cell (d := 0) (k := k) hl (by omega) (fun p => ⟨rfl, ?_⟩)))
    refine z_istore_n [1, 2, 3, 0] [(0, .ref (zB + 500)), (1, .ref 0), (2, .int ((nI k))), (3, .int p)] dL_law_30 (by decide) rfl ?_
    refine z_aload_n (j := 1) dL_law_31 rfl ?_
    refine z_kV [] 0 0 kc ks yoX7_undoCount yvX7_undoCount rfl (by decide) lL_157 (by omega) gW_0 rfl rfl (Nat.le_of_ble_eq_true rfl) (Nat.le_of_ble_eq_true rfl) dL_law_32 (by omega) (by omega) (z_room (by omega) (Nat.le_refl _) (Nat.le_refl _) (V_undoCount (d := 0) (g := g) (g' := g) (v := (nI (gK g))) hn (zk_no hno) hC rfl (fun cm4002 o4002 u4002 s4002 a4002 hC4002 => ⟨rfl, ?_⟩)))
    refine z_istore [1, 2, 3, 4, 0] [(0, .ref (zB + 500)), (1, .ref 0), (2, .int ((nI k))), (3, .int p), (4, .int ((nI (gK g))))] dL_law_35 (by decide) rfl ?_
    refine z_aload_n (j := 1) dL_law_37 rfl ?_
    refine z_kS [.ref 0] 0 0 kc ks yoL_sum ysL_sum rfl (by decide) lL_138 rfl (Nat.le_of_ble_eq_true rfl) (Nat.le_of_ble_eq_true rfl) dL_law_38 (by omega) (by omega) (z_room (by omega) (Nat.le_refl _) (Nat.le_refl _) (W_sum (d := 0) (g := g) hn (zk_no hno) hC4002 rfl (fun cm4003 o4003 u4003 s4003 a4003 hC4003 => ⟨rfl, ?_⟩)))
    refine z_lstore [1, 2, 3, 4, 5, 0] [(0, .ref (zB + 500)), (1, .ref 0), (2, .int ((nI k))), (3, .int p), (4, .int ((nI (gK g)))), (5, .long ((fSum g.1)))] dL_law_41 (by decide) rfl ?_
    refine z_aload_n (j := 1) dL_law_43 rfl ?_
    refine z_iload_n (j := 3) dL_law_44 rfl ?_
    refine z_kS [.ref 0, .int p] 0 0 kc ks yoL_deed ysL_deed rfl (by decide) lL_160 rfl (Nat.le_of_ble_eq_true rfl) (Nat.le_of_ble_eq_true rfl) dL_law_45 (by omega) (by omega) (z_room (by omega) (Nat.le_refl _) (Nat.le_refl _) (W_deed (d := 0) (g := g) hn (zk_no hno) hC4003 hcc (fun g1 cm4004 o4004 u4004 s4004 a4004 hD hC4004 => ⟨rfl, ?_⟩)))
    refine z_aload_n (j := 1) dL_law_48 rfl ?_
    refine z_kV [] 0 0 kc ks yoX7_undoCount yvX7_undoCount rfl (by decide) lL_157 (by omega) gW_0 rfl rfl (Nat.le_of_ble_eq_true rfl) (Nat.le_of_ble_eq_true rfl) dL_law_49 (by omega) (by omega) (z_room (by omega) (Nat.le_refl _) (Nat.le_refl _) (V_undoCount (d := 0) (g := g1) (g' := g1) (v := (nI (gK g1))) hn (zk_no hno) hC4004 rfl (fun cm4005 o4005 u4005 s4005 a4005 hC4005 => ⟨rfl, ?_⟩)))
    refine z_iload (j := 4) dL_law_52 rfl ?_
    refine z_icmp_le (tgt := 61) dL_law_54 (by decide) (fun czq54 => ?_) (fun czq54 => ?_)
    · refine z_iconst (v := 0) dL_law_61 (by decide) ?_
      refine z_istore [1, 2, 3, 4, 5, 6, 0] [(0, .ref (zB + 500)), (1, .ref 0), (2, .int ((nI k))), (3, .int p), (4, .int ((nI (gK g)))), (5, .long ((fSum g.1))), (7, .int 0)] dL_law_62 (by decide) rfl ?_
      refine z_aload_n (j := 1) dL_law_64 rfl ?_
      refine z_kS [.ref 0] 0 0 kc ks yoL_holds ysL_holds rfl (by decide) lL_145 rfl (Nat.le_of_ble_eq_true rfl) (Nat.le_of_ble_eq_true rfl) dL_law_65 (by omega) (by omega) (z_room (by omega) (Nat.le_refl _) (Nat.le_refl _) (W_holds (d := 0) (g := g1) hn (zk_no hno) hC4005 hD.1 (fun cm4006 o4006 u4006 s4006 a4006 hC4006 => ⟨rfl, ?_⟩)))
      refine z_if_eq (tgt := 93) dL_law_68 (by decide) (fun czq68 => absurd czq68 (by decide)) (fun czq68 => ?_)
      refine z_iload (j := 6) dL_law_71 rfl ?_
      refine z_if_ne (tgt := 95) dL_law_73 (by decide) (fun czq73 => absurd rfl czq73) (fun czq73 => ?_)
      refine z_iload (j := 4) dL_law_76 rfl ?_
      refine z_bipush (v := 8) dL_law_78 (by decide) ?_
      refine z_icmp_ge (tgt := 95) dL_law_80 (by decide) (fun czq80 => ?_) (fun czq80 => ?_)
      · refine z_iload (j := 6) dL_law_95 rfl ?_
        refine z_if_eq (tgt := 149) dL_law_97 (by decide) (fun czq97 => ?_) (fun czq97 => absurd rfl czq97)
        refine z_lv [(0, .ref (zB + 500)), (1, .ref 0), (2, .int ((nI k))), (3, .int p)] [0, 1, 2, 3] rfl ?_
        exact L_149 hk14 hn hno hC4006 hD.1 (fun g cm o u s a hcc hC => ih (k + 1) g cm o u s a (by omega) hcc hC)
      · have hk1 : gK g1 ≤ gK g := (nI_leI (by have := hC4006.k8; omega) (by have := hC.k8; omega)).mp czq54
        have hsm := hD.same hk1 (lt_of_nle (b := 8) (by have := hC.k8; omega) czq80)
        refine z_aload_n (j := 1) dL_law_83 rfl ?_
        refine z_kS [.ref 0] 0 0 kc ks yoL_sum ysL_sum rfl (by decide) lL_138 rfl (Nat.le_of_ble_eq_true rfl) (Nat.le_of_ble_eq_true rfl) dL_law_84 (by omega) (by omega) (z_room (by omega) (Nat.le_refl _) (Nat.le_refl _) (W_sum (d := 0) (g := g1) hn (zk_no hno) hC4006 (show fSum g1.1 = fSum g.1 from by rw [hsm]) (fun cm4007 o4007 u4007 s4007 a4007 hC4007 => ⟨rfl, ?_⟩)))
        refine z_lload (j := 5) dL_law_87 rfl ?_
        refine z_lcmp dL_law_89 ?_
        refine z_if_eq (tgt := 95) dL_law_90 (by decide) (fun czq90 => ?_) (fun czq90 => absurd (lgc_same _) czq90)
        refine z_iload (j := 6) dL_law_95 rfl ?_
        refine z_if_eq (tgt := 149) dL_law_97 (by decide) (fun czq97 => ?_) (fun czq97 => absurd rfl czq97)
        refine z_lv [(0, .ref (zB + 500)), (1, .ref 0), (2, .int ((nI k))), (3, .int p)] [0, 1, 2, 3] rfl ?_
        exact L_149 hk14 hn hno hC4007 hD.1 (fun g cm o u s a hcc hC => ih (k + 1) g cm o u s a (by omega) hcc hC)
    · refine z_iconst (v := 1) dL_law_57 (by decide) ?_
      refine z_goto (tgt := 62) dL_law_58 (by decide) ?_
      refine z_istore [1, 2, 3, 4, 5, 6, 0] [(0, .ref (zB + 500)), (1, .ref 0), (2, .int ((nI k))), (3, .int p), (4, .int ((nI (gK g)))), (5, .long ((fSum g.1))), (7, .int 1)] dL_law_62 (by decide) rfl ?_
      refine z_aload_n (j := 1) dL_law_64 rfl ?_
      refine z_kS [.ref 0] 0 0 kc ks yoL_holds ysL_holds rfl (by decide) lL_145 rfl (Nat.le_of_ble_eq_true rfl) (Nat.le_of_ble_eq_true rfl) dL_law_65 (by omega) (by omega) (z_room (by omega) (Nat.le_refl _) (Nat.le_refl _) (W_holds (d := 0) (g := g1) hn (zk_no hno) hC4005 hD.1 (fun cm4008 o4008 u4008 s4008 a4008 hC4008 => ⟨rfl, ?_⟩)))
      refine z_if_eq (tgt := 93) dL_law_68 (by decide) (fun czq68 => absurd czq68 (by decide)) (fun czq68 => ?_)
      refine z_iload (j := 6) dL_law_71 rfl ?_
      refine z_if_ne (tgt := 95) dL_law_73 (by decide) (fun czq73 => ?_) (fun czq73 => absurd czq73 (by decide))
      refine z_iload (j := 6) dL_law_95 rfl ?_
      refine z_if_eq (tgt := 149) dL_law_97 (by decide) (fun czq97 => absurd czq97 (by decide)) (fun czq97 => ?_)
      refine z_iload (j := 4) dL_law_100 rfl ?_
      refine z_bipush (v := 7) dL_law_102 (by decide) ?_
      refine z_icmp_ge (tgt := 149) dL_law_104 (by decide) (fun czq104 => ?_) (fun czq104 => ?_)
      · refine z_lv [(0, .ref (zB + 500)), (1, .ref 0), (2, .int ((nI k))), (3, .int p)] [0, 1, 2, 3] rfl ?_
        exact L_149 hk14 hn hno hC4008 hD.1 (fun g cm o u s a hcc hC => ih (k + 1) g cm o u s a (by omega) hcc hC)
      · refine z_aload_n (j := 1) dL_law_107 rfl ?_
        refine z_kV [] 0 0 kc ks yoX7_undoCount yvX7_undoCount rfl (by decide) lL_157 (by omega) gW_0 rfl rfl (Nat.le_of_ble_eq_true rfl) (Nat.le_of_ble_eq_true rfl) dL_law_108 (by omega) (by omega) (z_room (by omega) (Nat.le_refl _) (Nat.le_refl _) (V_undoCount (d := 0) (g := g1) (g' := g1) (v := (nI (gK g1))) hn (zk_no hno) hC4008 rfl (fun cm4009 o4009 u4009 s4009 a4009 hC4009 => ⟨rfl, ?_⟩)))
        refine z_iload (j := 4) dL_law_111 rfl ?_
        refine z_iconst (v := 1) dL_law_113 (by decide) ?_
        refine z_iadd dL_law_114 ?_
        refine z_icmp_ne (tgt := 149) dL_law_115 (by decide) (fun czq115 => ?_) (fun czq115 => ?_)
        · refine z_lv [(0, .ref (zB + 500)), (1, .ref 0), (2, .int ((nI k))), (3, .int p)] [0, 1, 2, 3] rfl ?_
          exact L_149 hk14 hn hno hC4009 hD.1 (fun g cm o u s a hcc hC => ih (k + 1) g cm o u s a (by omega) hcc hC)
        · refine z_iload_n (j := 3) dL_law_118 rfl ?_
          refine z_bipush (v := 29) dL_law_119 (by decide) ?_
          refine z_iushr dL_law_121 ?_
          refine z_iconst (v := 3) dL_law_122 (by decide) ?_
          refine z_iand dL_law_123 ?_
          refine z_iconst (v := 1) dL_law_124 (by decide) ?_
          refine z_icmp_ne (tgt := 149) dL_law_125 (by decide) (fun czq125 => ?_) (fun czq125 => ?_)
          · refine z_lv [(0, .ref (zB + 500)), (1, .ref 0), (2, .int ((nI k))), (3, .int p)] [0, 1, 2, 3] rfl ?_
            exact L_149 hk14 hn hno hC4009 hD.1 (fun g cm o u s a hcc hC => ih (k + 1) g cm o u s a (by omega) hcc hC)
          · have hk1 : gK g1 = gK g + 1 := (nI_eq (by have := hC4009.k8; omega) (by have := hC.k8; omega)).mp (by rw [← nI_1]; exact czq115)
            have hh := hD.one hk1 (lt_of_nle (b := 7) (by have := hC.k8; omega) czq104)
            refine z_aload_n (j := 1) dL_law_128 rfl ?_
            refine z_kV [] 0 0 kc ks yoX7_undo yvX7_undo rfl (by decide) lL_149 (by omega) gW_0 rfl rfl (Nat.le_of_ble_eq_true rfl) (Nat.le_of_ble_eq_true rfl) dL_law_129 (by omega) (by omega) (z_room (by omega) (Nat.le_refl _) (Nat.le_refl _) (V_undo (d := 0) (g := g1) (g' := (gUn g1)) (v := (nI (gK g1 - 1))) hn (zk_no hno) hC4009 (fk_undo (g := g1) (by omega)) (fun cm4010 o4010 u4010 s4010 a4010 hC4010 => ⟨rfl, ?_⟩)))
            refine z_iload (j := 4) dL_law_132 rfl ?_
            refine z_icmp_ne (tgt := 147) dL_law_134 (by decide) (fun czq134 => absurd (by rw [hk1, Nat.add_sub_cancel]) czq134) (fun czq134 => ?_)
            refine z_aload_n (j := 1) dL_law_137 rfl ?_
            refine z_kS [.ref 0] 0 0 kc ks yoL_sum ysL_sum rfl (by decide) lL_138 rfl (Nat.le_of_ble_eq_true rfl) (Nat.le_of_ble_eq_true rfl) dL_law_138 (by omega) (by omega) (z_room (by omega) (Nat.le_refl _) (Nat.le_refl _) (W_sum (d := 0) (g := (gUn g1)) hn (zk_no hno) hC4010 (show fSum (gUn g1).1 = fSum g.1 from by rw [un_t, hh]) (fun cm4011 o4011 u4011 s4011 a4011 hC4011 => ⟨rfl, ?_⟩)))
            refine z_lload (j := 5) dL_law_141 rfl ?_
            refine z_lcmp dL_law_143 ?_
            refine z_if_eq (tgt := 149) dL_law_144 (by decide) (fun czq144 => ?_) (fun czq144 => absurd (lgc_same _) czq144)
            refine z_lv [(0, .ref (zB + 500)), (1, .ref 0), (2, .int ((nI k))), (3, .int p)] [0, 1, 2, 3] rfl ?_
            exact L_149 hk14 hn hno hC4011 (by rw [un_t, hh]; exact hcc) (fun g cm o u s a hcc hC => ih (k + 1) g cm o u s a (by omega) hcc hC)
