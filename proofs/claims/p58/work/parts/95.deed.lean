/-! THE LAW'S deed() -/
theorem sSet_B {S S' : zS} {H2 T2 m : Nat} (hm : m ≤ 4) (e : sSet S H2 T2 m = some S') : okB S'.1 := by
  obtain ⟨B, H, T, K, V, c⟩ := S
  cases hr : rbR H2 T2 (entL K V B) m with
  | none => rw [sSet_none.mpr hr] at e; cases e
  | some q =>
    obtain ⟨B', K', V', c'⟩ := q
    rw [sSet_some hr] at e
    cases e
    exact (rbR_B m _ _ _ _ hm hr).1
theorem near_B {S S' : zS} {H2 : Nat} {s : Nat → Int32} {a : Nat → Nat → Int32} (hT : cT S s a) (e : sNear S H2 = some S') : S'.1 ≤ 64 := (sSet_B (wid_4 hT.okb) e).le.2
theorem sCnt_le {S : zS} {s : Nat → Int32} {a : Nat → Nat → Int32} (hT : cT S s a) : sCnt S ≤ 64 := Nat.le_trans (cnt_le _ _) hT.okb.le.2
theorem lt_of_nle {a b : Nat} (ha : a < 2 ^ 31) (h : ¬ nI b ≤ nI a) : a < b := by
  have h9 : a < b ∨ b ≤ a := by omega
  rcases h9 with h9 | h9
  · exact h9
  · exact absurd (nI_le h9 ha) h

set_option maxHeartbeats 4000000 in
set_option maxRecDepth 100000 in
theorem D_120 {l : zL} {d kc ks n : Nat} {h : Nat → va_E} {cm : Value} {o u : Nat → Nat → Int32} {s : Nat → Nat → Int32} {a : Nat → Nat → Nat → Int32} {g : zGs} {Q : zQ} {p old : Int32} {X Y key : Nat} (hX : X ≤ 8191) (hY : Y ≤ 1023) (hk : key ≤ 8191) (hold : eOK g.1 old) (hn : 89 ≤ n) (hno : ∀ E n' h', ¬ Q (.inr E) n' h') (hC : cI g o u s a) (hcc : okc g.1) (hq : ∀ g' cm' o' u' s' a', dRel g g' → cI g' o' u' s' a' → Q (.inl none) n (gW h cm' o' u' s' a')) : Zj l mL_deed (d + 9) kc ks 120 [(0, .ref 0), (1, .int p), (2, .int ((nI X))), (3, .int ((nI Y))), (4, .int ((nI key))), (5, .int old)] [] n (gW h cm o u s a) Q := by
  refine z_aload_n (j := 0) dL_deed_120 rfl ?_
  refine z_iload (j := 4) dL_deed_121 rfl ?_
  refine z_kV [.int ((nI key))] 0 0 kc ks yoX7_whyNoAdd yvX7_whyNoAdd rfl (by decide) lL_26 (by omega) gW_0 rfl rfl (Nat.le_of_ble_eq_true rfl) (Nat.le_of_ble_eq_true rfl) dL_deed_123 (by omega) (by omega) (z_room (by omega) (Nat.le_refl _) (Nat.le_refl _) (V_whyNoAdd (d := 0) (g := g) (g' := g) (v := (sWhy g.1 (key))) hn (zk_no hno) hC (fk_whyNoAdd (g := g) (key := key) (by omega)) (fun cm2001 o2001 u2001 s2001 a2001 hC2001 => ⟨rfl, ?_⟩)))
  refine z_if_ne (tgt := 424) dL_deed_126 (by decide) (fun czq126 => ?_) (fun czq126 => ?_)
  · exact z_vret rfl dL_deed_424 (hq _ _ _ _ _ _ (dRel.rf hcc) hC2001)
  · obtain ⟨hf, bk, S', ha⟩ := why_0 czq126 (Y % 1000)
    refine z_aload_n (j := 0) dL_deed_129 rfl ?_
    refine z_iload (j := 4) dL_deed_130 rfl ?_
    refine z_iload_n (j := 3) dL_deed_132 rfl ?_
    refine z_sipush (v := 1000) dL_deed_133 (by decide) ?_
    refine z_irem (by decide) dL_deed_136 ?_
    rw [show ((nI Y) - (nI Y) / 1000 * 1000) = nI (Y % 1000) from pk_rem (a := Y) (d := 1000) (by omega) (by decide) (by decide)]
    refine z_kV [.int ((nI key)), .int ((nI (Y % 1000)))] 0 0 kc ks yoX7_add yvX7_add rfl (by decide) lL_29 (by omega) gW_0 rfl rfl (Nat.le_of_ble_eq_true rfl) (Nat.le_of_ble_eq_true rfl) dL_deed_137 (by omega) (by omega) (z_room (by omega) (Nat.le_refl _) (Nat.le_refl _) (V_add (d := 0) (g := g) (g' := (gPush g S')) (v := (nI bk)) hn (zk_no hno) hC2001 (fk_add (g := g) (by omega) (by omega) hf ha) (fun cm2002 o2002 u2002 s2002 a2002 hC2002 => ⟨rfl, ?_⟩)))
    skip
    refine z_pop rfl dL_deed_140 ?_
    refine z_goto (tgt := 424) dL_deed_141 (by decide) ?_
    exact z_vret rfl dL_deed_424 (hq _ _ _ _ _ _ (dRel.push (dRel.rf hcc) (okc_add hC2001.t ha hcc) hC.k8 hC2001.k8) hC2002)

set_option maxHeartbeats 4000000 in
set_option maxRecDepth 100000 in
theorem D_144 {l : zL} {d kc ks n : Nat} {h : Nat → va_E} {cm : Value} {o u : Nat → Nat → Int32} {s : Nat → Nat → Int32} {a : Nat → Nat → Nat → Int32} {g : zGs} {Q : zQ} {p old : Int32} {X Y key : Nat} (hX : X ≤ 8191) (hY : Y ≤ 1023) (hk : key ≤ 8191) (hold : eOK g.1 old) (hn : 89 ≤ n) (hno : ∀ E n' h', ¬ Q (.inr E) n' h') (hC : cI g o u s a) (hcc : okc g.1) (hq : ∀ g' cm' o' u' s' a', dRel g g' → cI g' o' u' s' a' → Q (.inl none) n (gW h cm' o' u' s' a')) : Zj l mL_deed (d + 9) kc ks 144 [(0, .ref 0), (1, .int p), (2, .int ((nI X))), (3, .int ((nI Y))), (4, .int ((nI key))), (5, .int old)] [] n (gW h cm o u s a) Q := by
  refine z_aload_n (j := 0) dL_deed_144 rfl ?_
  refine z_iload (j := 4) dL_deed_145 rfl ?_
  refine z_kV [.int ((nI key))] 0 0 kc ks yoX7_whyNoAdd yvX7_whyNoAdd rfl (by decide) lL_26 (by omega) gW_0 rfl rfl (Nat.le_of_ble_eq_true rfl) (Nat.le_of_ble_eq_true rfl) dL_deed_147 (by omega) (by omega) (z_room (by omega) (Nat.le_refl _) (Nat.le_refl _) (V_whyNoAdd (d := 0) (g := g) (g' := g) (v := (sWhy g.1 (key))) hn (zk_no hno) hC (fk_whyNoAdd (g := g) (key := key) (by omega)) (fun cm2003 o2003 u2003 s2003 a2003 hC2003 => ⟨rfl, ?_⟩)))
  refine z_iconst (v := 2) dL_deed_150 (by decide) ?_
  refine z_icmp_eq (tgt := 424) dL_deed_151 (by decide) (fun czq151 => ?_) (fun czq151 => ?_)
  · exact z_vret rfl dL_deed_424 (hq _ _ _ _ _ _ (dRel.rf hcc) hC2003)
  · obtain ⟨x, S', ha⟩ := why_2 czq151 (Y % 1000)
    refine z_aload_n (j := 0) dL_deed_154 rfl ?_
    refine z_iload (j := 4) dL_deed_155 rfl ?_
    refine z_iload_n (j := 3) dL_deed_157 rfl ?_
    refine z_sipush (v := 1000) dL_deed_158 (by decide) ?_
    refine z_irem (by decide) dL_deed_161 ?_
    rw [show ((nI Y) - (nI Y) / 1000 * 1000) = nI (Y % 1000) from pk_rem (a := Y) (d := 1000) (by omega) (by decide) (by decide)]
    refine z_kV [.int ((nI key)), .int ((nI (Y % 1000)))] 0 0 kc ks yoX7_put yvX7_put rfl (by decide) lL_33 (by omega) gW_0 rfl rfl (Nat.le_of_ble_eq_true rfl) (Nat.le_of_ble_eq_true rfl) dL_deed_162 (by omega) (by omega) (z_room (by omega) (Nat.le_refl _) (Nat.le_refl _) (V_put (d := 0) (g := g) (g' := (gPush g S')) (v := x) hn (zk_no hno) hC2003 (fk_put (g := g) (by omega) (by omega) ha) (fun cm2004 o2004 u2004 s2004 a2004 hC2004 => ⟨rfl, ?_⟩)))
    skip
    refine z_pop rfl dL_deed_165 ?_
    refine z_goto (tgt := 424) dL_deed_166 (by decide) ?_
    exact z_vret rfl dL_deed_424 (hq _ _ _ _ _ _ (dRel.push (dRel.rf hcc) (okc_put hC2003.t ha hcc) hC.k8 hC2003.k8) hC2004)

set_option maxHeartbeats 4000000 in
set_option maxRecDepth 100000 in
theorem D_169 {l : zL} {d kc ks n : Nat} {h : Nat → va_E} {cm : Value} {o u : Nat → Nat → Int32} {s : Nat → Nat → Int32} {a : Nat → Nat → Nat → Int32} {g : zGs} {Q : zQ} {p old : Int32} {X Y key : Nat} (hX : X ≤ 8191) (hY : Y ≤ 1023) (hk : key ≤ 8191) (hold : eOK g.1 old) (hn : 89 ≤ n) (hno : ∀ E n' h', ¬ Q (.inr E) n' h') (hC : cI g o u s a) (hcc : okc g.1) (hq : ∀ g' cm' o' u' s' a', dRel g g' → cI g' o' u' s' a' → Q (.inl none) n (gW h cm' o' u' s' a')) : Zj l mL_deed (d + 9) kc ks 169 [(0, .ref 0), (1, .int p), (2, .int ((nI X))), (3, .int ((nI Y))), (4, .int ((nI key))), (5, .int old)] [] n (gW h cm o u s a) Q := by
  refine z_iload (j := 5) dL_deed_169 rfl ?_
  refine z_iconst (v := (-1)) dL_deed_171 (by decide) ?_
  refine z_icmp_eq (tgt := 424) dL_deed_172 (by decide) (fun czq172 => ?_) (fun czq172 => ?_)
  · exact z_vret rfl dL_deed_424 (hq _ _ _ _ _ _ (dRel.rf hcc) hC)
  · obtain ⟨ky, b, hky, hke, hf⟩ := eOK_find hC.t hold czq172
    subst hke
    obtain ⟨x, S', ha⟩ := put_at hf (Y % 1000)
    refine z_aload_n (j := 0) dL_deed_175 rfl ?_
    refine z_iload (j := 5) dL_deed_176 rfl ?_
    refine z_iload_n (j := 3) dL_deed_178 rfl ?_
    refine z_sipush (v := 1000) dL_deed_179 (by decide) ?_
    refine z_irem (by decide) dL_deed_182 ?_
    rw [show ((nI Y) - (nI Y) / 1000 * 1000) = nI (Y % 1000) from pk_rem (a := Y) (d := 1000) (by omega) (by decide) (by decide)]
    refine z_kV [.int ((nI ky)), .int ((nI (Y % 1000)))] 0 0 kc ks yoX7_put yvX7_put rfl (by decide) lL_33 (by omega) gW_0 rfl rfl (Nat.le_of_ble_eq_true rfl) (Nat.le_of_ble_eq_true rfl) dL_deed_183 (by omega) (by omega) (z_room (by omega) (Nat.le_refl _) (Nat.le_refl _) (V_put (d := 0) (g := g) (g' := (gPush g S')) (v := x) hn (zk_no hno) hC (fk_put (g := g) hky (by omega) ha) (fun cm2005 o2005 u2005 s2005 a2005 hC2005 => ⟨rfl, ?_⟩)))
    skip
    refine z_pop rfl dL_deed_186 ?_
    refine z_goto (tgt := 424) dL_deed_187 (by decide) ?_
    exact z_vret rfl dL_deed_424 (hq _ _ _ _ _ _ (dRel.push (dRel.rf hcc) (okc_put hC.t ha hcc) hC.k8 hC.k8) hC2005)

set_option maxHeartbeats 4000000 in
set_option maxRecDepth 100000 in
theorem D_256 {l : zL} {d kc ks n : Nat} {h : Nat → va_E} {cm : Value} {o u : Nat → Nat → Int32} {s : Nat → Nat → Int32} {a : Nat → Nat → Nat → Int32} {g : zGs} {Q : zQ} {p old : Int32} {X Y key : Nat} (hX : X ≤ 8191) (hY : Y ≤ 1023) (hk : key ≤ 8191) (hold : eOK g.1 old) (hn : 89 ≤ n) (hno : ∀ E n' h', ¬ Q (.inr E) n' h') (hC : cI g o u s a) (hcc : okc g.1) (hq : ∀ g' cm' o' u' s' a', dRel g g' → cI g' o' u' s' a' → Q (.inl none) n (gW h cm' o' u' s' a')) : Zj l mL_deed (d + 9) kc ks 256 [(0, .ref 0), (1, .int p), (2, .int ((nI X))), (3, .int ((nI Y))), (4, .int ((nI key))), (5, .int old)] [] n (gW h cm o u s a) Q := by
  refine z_iload (j := 5) dL_deed_256 rfl ?_
  refine z_iconst (v := (-1)) dL_deed_258 (by decide) ?_
  refine z_icmp_eq (tgt := 424) dL_deed_259 (by decide) (fun czq259 => ?_) (fun czq259 => ?_)
  · exact z_vret rfl dL_deed_424 (hq _ _ _ _ _ _ (dRel.rf hcc) hC)
  · obtain ⟨ky, b, hky, hke, hf⟩ := eOK_find hC.t hold czq259
    subst hke
    refine z_aload_n (j := 0) dL_deed_262 rfl ?_
    refine z_iload (j := 5) dL_deed_263 rfl ?_
    refine z_kV [.int ((nI ky))] 0 0 kc ks yoX7_remove yvX7_remove rfl (by decide) lL_36 (by omega) gW_0 rfl rfl (Nat.le_of_ble_eq_true rfl) (Nat.le_of_ble_eq_true rfl) dL_deed_265 (by omega) (by omega) (z_room (by omega) (Nat.le_refl _) (Nat.le_refl _) (V_remove (d := 0) (g := g) (g' := (gPush g (sRem g.1 b))) (v := (nI (g.1.2.2.2.2.1 b))) hn (zk_no hno) hC (fk_remove (g := g) hky hf) (fun cm2006 o2006 u2006 s2006 a2006 hC2006 => ⟨rfl, ?_⟩)))
    skip
    refine z_pop rfl dL_deed_268 ?_
    refine z_goto (tgt := 424) dL_deed_269 (by decide) ?_
    exact z_vret rfl dL_deed_424 (hq _ _ _ _ _ _ (dRel.push (dRel.rf hcc) (okc_rem hC.t hf hcc) hC.k8 hC.k8) hC2006)

set_option maxHeartbeats 4000000 in
set_option maxRecDepth 100000 in
theorem D_272 {l : zL} {d kc ks n : Nat} {h : Nat → va_E} {cm : Value} {o u : Nat → Nat → Int32} {s : Nat → Nat → Int32} {a : Nat → Nat → Nat → Int32} {g : zGs} {Q : zQ} {p old : Int32} {X Y key : Nat} (hX : X ≤ 8191) (hY : Y ≤ 1023) (hk : key ≤ 8191) (hold : eOK g.1 old) (hn : 89 ≤ n) (hno : ∀ E n' h', ¬ Q (.inr E) n' h') (hC : cI g o u s a) (hcc : okc g.1) (hq : ∀ g' cm' o' u' s' a', dRel g g' → cI g' o' u' s' a' → Q (.inl none) n (gW h cm' o' u' s' a')) : Zj l mL_deed (d + 9) kc ks 272 [(0, .ref 0), (1, .int p), (2, .int ((nI X))), (3, .int ((nI Y))), (4, .int ((nI key))), (5, .int old)] [] n (gW h cm o u s a) Q := by
  refine z_aload_n (j := 0) dL_deed_272 rfl ?_
  refine z_iconst (v := 2) dL_deed_273 (by decide) ?_
  refine z_iload_n (j := 2) dL_deed_274 rfl ?_
  refine z_iconst (v := 5) dL_deed_275 (by decide) ?_
  refine z_irem (by decide) dL_deed_276 ?_
  refine z_iadd dL_deed_277 ?_
  rw [show (2 + ((nI X) - (nI X) / 5 * 5)) = (nI (2 + X % 5)) from by
    rw [show nI X - nI X / 5 * 5 = nI (X % 5) from pk_rem (a := X) (d := 5) (by omega) (by decide) (by decide)]
    exact nI_add 2 _]
  refine z_kV [.int ((nI (2 + X % 5)))] 0 0 kc ks yoX7_bucketsWith yvX7_bucketsWith rfl (by decide) lL_39 (by omega) gW_0 rfl rfl (Nat.le_of_ble_eq_true rfl) (Nat.le_of_ble_eq_true rfl) dL_deed_278 (by omega) (by omega) (z_room (by omega) (Nat.le_refl _) (Nat.le_refl _) (V2_with (d := 0) (g := g) (H2 := 2 + X % 5) (by omega) (by omega) hn (zk_no hno) hC (fun cm2007 o2007 u2007 s2007 a2007 hs hC2007 => ⟨rfl, ?_⟩) (fun S1 cm2008 o2008 u2008 s2008 a2008 hs hC2008 => ⟨rfl, ?_⟩)))
  · refine z_iconst (v := (-1)) dL_deed_281 (by decide) ?_
    refine z_icmp_eq (tgt := 424) dL_deed_282 (by decide) (fun czq282 => ?_) (fun czq282 => absurd rfl czq282)
    exact z_vret rfl dL_deed_424 (hq _ _ _ _ _ _ (dRel.rf hcc) hC2007)
  · refine z_iconst (v := (-1)) dL_deed_281 (by decide) ?_
    refine z_icmp_eq (tgt := 424) dL_deed_282 (by decide) (fun czq282 => absurd czq282 (nI_neg1 (by have := near_B hC.t hs; omega))) (fun czq282 => ?_)
    refine z_aload_n (j := 0) dL_deed_285 rfl ?_
    refine z_iconst (v := 2) dL_deed_286 (by decide) ?_
    refine z_iload_n (j := 2) dL_deed_287 rfl ?_
    refine z_iconst (v := 5) dL_deed_288 (by decide) ?_
    refine z_irem (by decide) dL_deed_289 ?_
    refine z_iadd dL_deed_290 ?_
    rw [show (2 + ((nI X) - (nI X) / 5 * 5)) = (nI (2 + X % 5)) from by
      rw [show nI X - nI X / 5 * 5 = nI (X % 5) from pk_rem (a := X) (d := 5) (by omega) (by decide) (by decide)]
      exact nI_add 2 _]
    refine z_kV [.int ((nI (2 + X % 5)))] 0 0 kc ks yoX7_setNeighbourhood yvX7_setNeighbourhood rfl (by decide) lL_42 (by omega) gW_0 rfl rfl (Nat.le_of_ble_eq_true rfl) (Nat.le_of_ble_eq_true rfl) dL_deed_291 (by omega) (by omega) (z_room (by omega) (Nat.le_refl _) (Nat.le_refl _) (V_setNeighbourhood (d := 0) (g := g) (g' := (gPush g S1)) (v := (nI S1.1)) hn (zk_no hno) hC2008 (fk_setN (g := g) (by omega) (by omega) hs) (fun cm2009 o2009 u2009 s2009 a2009 hC2009 => ⟨rfl, ?_⟩)))
    skip
    refine z_pop rfl dL_deed_294 ?_
    refine z_goto (tgt := 424) dL_deed_295 (by decide) ?_
    exact z_vret rfl dL_deed_424 (hq _ _ _ _ _ _ (dRel.push (dRel.rf hcc) ((near_keeps hC2008.t (by omega) hs).2.2 hcc) hC.k8 hC2008.k8) hC2009)

set_option maxHeartbeats 4000000 in
set_option maxRecDepth 100000 in
theorem D_298 {l : zL} {d kc ks n : Nat} {h : Nat → va_E} {cm : Value} {o u : Nat → Nat → Int32} {s : Nat → Nat → Int32} {a : Nat → Nat → Nat → Int32} {g : zGs} {Q : zQ} {p old : Int32} {X Y key : Nat} (hX : X ≤ 8191) (hY : Y ≤ 1023) (hk : key ≤ 8191) (hold : eOK g.1 old) (hn : 89 ≤ n) (hno : ∀ E n' h', ¬ Q (.inr E) n' h') (hC : cI g o u s a) (hcc : okc g.1) (hq : ∀ g' cm' o' u' s' a', dRel g g' → cI g' o' u' s' a' → Q (.inl none) n (gW h cm' o' u' s' a')) : Zj l mL_deed (d + 9) kc ks 298 [(0, .ref 0), (1, .int p), (2, .int ((nI X))), (3, .int ((nI Y))), (4, .int ((nI key))), (5, .int old)] [] n (gW h cm o u s a) Q := by
  refine z_aload_n (j := 0) dL_deed_298 rfl ?_
  refine z_iconst (v := 1) dL_deed_299 (by decide) ?_
  refine z_iload_n (j := 2) dL_deed_300 rfl ?_
  refine z_bipush (v := 9) dL_deed_301 (by decide) ?_
  refine z_irem (by decide) dL_deed_303 ?_
  refine z_iadd dL_deed_304 ?_
  rw [show (1 + ((nI X) - (nI X) / 9 * 9)) = (nI (1 + X % 9)) from by
    rw [show nI X - nI X / 9 * 9 = nI (X % 9) from pk_rem (a := X) (d := 9) (by omega) (by decide) (by decide)]
    exact nI_add 1 _]
  refine z_kV [.int ((nI (1 + X % 9)))] 0 0 kc ks yoX7_bestMultiplier yvX7_bestMultiplier rfl (by decide) lL_45 (by omega) gW_0 rfl rfl (Nat.le_of_ble_eq_true rfl) (Nat.le_of_ble_eq_true rfl) dL_deed_305 (by omega) (by omega) (z_room (by omega) (Nat.le_refl _) (Nat.le_refl _) (V2_best (d := 0) (g := g) (M := 1 + X % 9) (by omega) (by omega) hn (zk_no hno) hC (fun cm2010 o2010 u2010 s2010 a2010  hC2010 => ⟨rfl, ?_⟩) (fun r S1 cm2011 o2011 u2011 s2011 a2011 hr1 hr2 hs hB1 hC2011 => ⟨rfl, ?_⟩)))
  · refine z_istore [1, 2, 3, 4, 5, 6, 0] [(0, .ref 0), (1, .int p), (2, .int ((nI X))), (3, .int ((nI Y))), (4, .int ((nI key))), (5, .int old), (6, .int ((-1)))] dL_deed_308 (by decide) rfl ?_
    refine z_iload (j := 6) dL_deed_310 rfl ?_
    refine z_iconst (v := (-1)) dL_deed_312 (by decide) ?_
    refine z_icmp_eq (tgt := 424) dL_deed_313 (by decide) (fun czq313 => ?_) (fun czq313 => absurd rfl czq313)
    exact z_vret rfl dL_deed_424 (hq _ _ _ _ _ _ (dRel.rf hcc) hC2010)
  · refine z_istore [1, 2, 3, 4, 5, 6, 0] [(0, .ref 0), (1, .int p), (2, .int ((nI X))), (3, .int ((nI Y))), (4, .int ((nI key))), (5, .int old), (6, .int ((nI r)))] dL_deed_308 (by decide) rfl ?_
    refine z_iload (j := 6) dL_deed_310 rfl ?_
    refine z_iconst (v := (-1)) dL_deed_312 (by decide) ?_
    refine z_icmp_eq (tgt := 424) dL_deed_313 (by decide) (fun czq313 => absurd czq313 (nI_neg1 (by omega))) (fun czq313 => ?_)
    refine z_aload_n (j := 0) dL_deed_316 rfl ?_
    refine z_iload (j := 6) dL_deed_317 rfl ?_
    refine z_kV [.int ((nI r))] 0 0 kc ks yoX7_setMultiplier yvX7_setMultiplier rfl (by decide) lL_48 (by omega) gW_0 rfl rfl (Nat.le_of_ble_eq_true rfl) (Nat.le_of_ble_eq_true rfl) dL_deed_319 (by omega) (by omega) (z_room (by omega) (Nat.le_refl _) (Nat.le_refl _) (V_setMultiplier (d := 0) (g := g) (g' := (gPush g S1)) (v := (nI S1.1)) hn (zk_no hno) hC2011 (fk_setM (g := g) hr1 (by omega) hs) (fun cm2012 o2012 u2012 s2012 a2012 hC2012 => ⟨rfl, ?_⟩)))
    skip
    refine z_pop rfl dL_deed_322 ?_
    refine z_goto (tgt := 424) dL_deed_323 (by decide) ?_
    exact z_vret rfl dL_deed_424 (hq _ _ _ _ _ _ (dRel.push (dRel.rf hcc) ((times_keeps hC2011.t hs).2.2 hcc) hC.k8 hC2011.k8) hC2012)

set_option maxHeartbeats 4000000 in
set_option maxRecDepth 100000 in
theorem D_326 {l : zL} {d kc ks n : Nat} {h : Nat → va_E} {cm : Value} {o u : Nat → Nat → Int32} {s : Nat → Nat → Int32} {a : Nat → Nat → Nat → Int32} {g : zGs} {Q : zQ} {p old : Int32} {X Y key : Nat} (hX : X ≤ 8191) (hY : Y ≤ 1023) (hk : key ≤ 8191) (hold : eOK g.1 old) (hn : 89 ≤ n) (hno : ∀ E n' h', ¬ Q (.inr E) n' h') (hC : cI g o u s a) (hcc : okc g.1) (hq : ∀ g' cm' o' u' s' a', dRel g g' → cI g' o' u' s' a' → Q (.inl none) n (gW h cm' o' u' s' a')) : Zj l mL_deed (d + 9) kc ks 326 [(0, .ref 0), (1, .int p), (2, .int ((nI X))), (3, .int ((nI Y))), (4, .int ((nI key))), (5, .int old)] [] n (gW h cm o u s a) Q := by
  refine z_aload_n (j := 0) dL_deed_326 rfl ?_
  refine z_iload_n (j := 2) dL_deed_327 rfl ?_
  refine z_iconst (v := 1) dL_deed_328 (by decide) ?_
  refine z_iand dL_deed_329 ?_
  refine z_iconst (v := 1) dL_deed_330 (by decide) ?_
  refine z_icmp_ne (tgt := 338) dL_deed_331 (by decide) (fun czq331 => ?_) (fun czq331 => ?_)
  · refine z_iconst (v := 0) dL_deed_338 (by decide) ?_
    refine z_kV [.int 0] 0 0 kc ks yoX7_setPulling yvX7_setPulling rfl (by decide) lL_51 (by omega) gW_0 rfl rfl (Nat.le_of_ble_eq_true rfl) (Nat.le_of_ble_eq_true rfl) dL_deed_339 (by omega) (by omega) (z_room (by omega) (Nat.le_refl _) (Nat.le_refl _) (V_setPulling (d := 0) (g := g) (g' := (gPush g (sPull g.1 0))) (v := (g.1.2.2.2.2.2 3)) (Or.inl rfl) hn (zk_no hno) hC rfl (fun cm2013 o2013 u2013 s2013 a2013 hC2013 => ⟨rfl, ?_⟩)))
    skip
    refine z_pop rfl dL_deed_342 ?_
    refine z_goto (tgt := 424) dL_deed_343 (by decide) ?_
    exact z_vret rfl dL_deed_424 (hq _ _ _ _ _ _ (dRel.push (dRel.rf hcc) (okc_pull hcc) hC.k8 hC.k8) hC2013)
  · refine z_iconst (v := 1) dL_deed_334 (by decide) ?_
    refine z_goto (tgt := 339) dL_deed_335 (by decide) ?_
    refine z_kV [.int 1] 0 0 kc ks yoX7_setPulling yvX7_setPulling rfl (by decide) lL_51 (by omega) gW_0 rfl rfl (Nat.le_of_ble_eq_true rfl) (Nat.le_of_ble_eq_true rfl) dL_deed_339 (by omega) (by omega) (z_room (by omega) (Nat.le_refl _) (Nat.le_refl _) (V_setPulling (d := 0) (g := g) (g' := (gPush g (sPull g.1 1))) (v := (g.1.2.2.2.2.2 3)) (Or.inr rfl) hn (zk_no hno) hC rfl (fun cm2014 o2014 u2014 s2014 a2014 hC2014 => ⟨rfl, ?_⟩)))
    skip
    refine z_pop rfl dL_deed_342 ?_
    refine z_goto (tgt := 424) dL_deed_343 (by decide) ?_
    exact z_vret rfl dL_deed_424 (hq _ _ _ _ _ _ (dRel.push (dRel.rf hcc) (okc_pull hcc) hC.k8 hC.k8) hC2014)

set_option maxHeartbeats 4000000 in
set_option maxRecDepth 100000 in
theorem D_346 {l : zL} {d kc ks n : Nat} {h : Nat → va_E} {cm : Value} {o u : Nat → Nat → Int32} {s : Nat → Nat → Int32} {a : Nat → Nat → Nat → Int32} {g : zGs} {Q : zQ} {p old : Int32} {X Y key : Nat} (hX : X ≤ 8191) (hY : Y ≤ 1023) (hk : key ≤ 8191) (hold : eOK g.1 old) (hn : 89 ≤ n) (hno : ∀ E n' h', ¬ Q (.inr E) n' h') (hC : cI g o u s a) (hcc : okc g.1) (hq : ∀ g' cm' o' u' s' a', dRel g g' → cI g' o' u' s' a' → Q (.inl none) n (gW h cm' o' u' s' a')) : Zj l mL_deed (d + 9) kc ks 346 [(0, .ref 0), (1, .int p), (2, .int ((nI X))), (3, .int ((nI Y))), (4, .int ((nI key))), (5, .int old)] [] n (gW h cm o u s a) Q := by
  refine z_aload_n (j := 0) dL_deed_346 rfl ?_
  refine z_kV [] 0 0 kc ks yoX7_bucketCount yvX7_bucketCount rfl (by decide) lL_13 (by omega) gW_0 rfl rfl (Nat.le_of_ble_eq_true rfl) (Nat.le_of_ble_eq_true rfl) dL_deed_347 (by omega) (by omega) (z_room (by omega) (Nat.le_refl _) (Nat.le_refl _) (V_bucketCount (d := 0) (g := g) (g' := g) (v := (nI g.1.1)) hn (zk_no hno) hC rfl (fun cm2015 o2015 u2015 s2015 a2015 hC2015 => ⟨rfl, ?_⟩)))
  refine z_bipush (v := 32) dL_deed_350 (by decide) ?_
  refine z_icmp_ge (tgt := 424) dL_deed_352 (by decide) (fun czq352 => ?_) (fun czq352 => ?_)
  · exact z_vret rfl dL_deed_424 (hq _ _ _ _ _ _ (dRel.rf hcc) hC2015)
  · refine z_aload_n (j := 0) dL_deed_355 rfl ?_
    refine z_kV [] 0 0 kc ks yoX7_entryCount yvX7_entryCount rfl (by decide) lL_7 (by omega) gW_0 rfl rfl (Nat.le_of_ble_eq_true rfl) (Nat.le_of_ble_eq_true rfl) dL_deed_356 (by omega) (by omega) (z_room (by omega) (Nat.le_refl _) (Nat.le_refl _) (V_entryCount (d := 0) (g := g) (g' := g) (v := (nI (sCnt g.1))) hn (zk_no hno) hC2015 rfl (fun cm2016 o2016 u2016 s2016 a2016 hC2016 => ⟨rfl, ?_⟩)))
    refine z_iconst (v := 3) dL_deed_359 (by decide) ?_
    refine z_icmp_ge (tgt := 424) dL_deed_360 (by decide) (fun czq360 => ?_) (fun czq360 => ?_)
    · exact z_vret rfl dL_deed_424 (hq _ _ _ _ _ _ (dRel.rf hcc) hC2016)
    · obtain ⟨S', hs⟩ := grow_two hC.t (lt_of_nle (b := 32) (by have := hC.t.okb.le; omega) czq352) (lt_of_nle (b := 3) (by have := sCnt_le hC.t; omega) czq360)
      refine z_aload_n (j := 0) dL_deed_363 rfl ?_
      refine z_kV [] 0 0 kc ks yoX7_grow yvX7_grow rfl (by decide) lL_55 (by omega) gW_0 rfl rfl (Nat.le_of_ble_eq_true rfl) (Nat.le_of_ble_eq_true rfl) dL_deed_364 (by omega) (by omega) (z_room (by omega) (Nat.le_refl _) (Nat.le_refl _) (V_grow (d := 0) (g := g) (g' := (gPush g S')) (v := (nI S'.1)) hn (zk_no hno) hC2016 (fk_grow (g := g) hs) (fun cm2017 o2017 u2017 s2017 a2017 hC2017 => ⟨rfl, ?_⟩)))
      skip
      refine z_pop rfl dL_deed_367 ?_
      refine z_goto (tgt := 424) dL_deed_368 (by decide) ?_
      exact z_vret rfl dL_deed_424 (hq _ _ _ _ _ _ (dRel.push (dRel.rf hcc) ((grow_keeps hC2016.t hs).2.2 hcc) hC.k8 hC2016.k8) hC2017)

set_option maxHeartbeats 4000000 in
set_option maxRecDepth 100000 in
theorem D_371 {l : zL} {d kc ks n : Nat} {h : Nat → va_E} {cm : Value} {o u : Nat → Nat → Int32} {s : Nat → Nat → Int32} {a : Nat → Nat → Nat → Int32} {g : zGs} {Q : zQ} {p old : Int32} {X Y key : Nat} (hX : X ≤ 8191) (hY : Y ≤ 1023) (hk : key ≤ 8191) (hold : eOK g.1 old) (hn : 89 ≤ n) (hno : ∀ E n' h', ¬ Q (.inr E) n' h') (hC : cI g o u s a) (hcc : okc g.1) (hq : ∀ g' cm' o' u' s' a', dRel g g' → cI g' o' u' s' a' → Q (.inl none) n (gW h cm' o' u' s' a')) : Zj l mL_deed (d + 9) kc ks 371 [(0, .ref 0), (1, .int p), (2, .int ((nI X))), (3, .int ((nI Y))), (4, .int ((nI key))), (5, .int old)] [] n (gW h cm o u s a) Q := by
  refine z_iload_n (j := 2) dL_deed_371 rfl ?_
  refine z_bipush (v := 7) dL_deed_372 (by decide) ?_
  refine z_iand dL_deed_374 ?_
  refine z_if_ne (tgt := 386) dL_deed_375 (by decide) (fun czq375 => ?_) (fun czq375 => ?_)
  · refine z_iload (j := 5) dL_deed_386 rfl ?_
    refine z_iconst (v := (-1)) dL_deed_388 (by decide) ?_
    refine z_icmp_eq (tgt := 424) dL_deed_389 (by decide) (fun czq389 => ?_) (fun czq389 => ?_)
    · exact z_vret rfl dL_deed_424 (hq _ _ _ _ _ _ (dRel.rf hcc) hC)
    · obtain ⟨ky, b, hky, hke, hf⟩ := eOK_find hC.t hold czq389
      subst hke
      refine z_aload_n (j := 0) dL_deed_392 rfl ?_
      refine z_iload (j := 5) dL_deed_393 rfl ?_
      refine z_kV [.int ((nI ky))] 0 0 kc ks yoX7_remove yvX7_remove rfl (by decide) lL_36 (by omega) gW_0 rfl rfl (Nat.le_of_ble_eq_true rfl) (Nat.le_of_ble_eq_true rfl) dL_deed_395 (by omega) (by omega) (z_room (by omega) (Nat.le_refl _) (Nat.le_refl _) (V_remove (d := 0) (g := g) (g' := (gPush g (sRem g.1 b))) (v := (nI (g.1.2.2.2.2.1 b))) hn (zk_no hno) hC (fk_remove (g := g) hky hf) (fun cm2018 o2018 u2018 s2018 a2018 hC2018 => ⟨rfl, ?_⟩)))
      skip
      refine z_pop rfl dL_deed_398 ?_
      refine z_goto (tgt := 424) dL_deed_399 (by decide) ?_
      exact z_vret rfl dL_deed_424 (hq _ _ _ _ _ _ (dRel.push (dRel.rf hcc) (okc_rem hC.t hf hcc) hC.k8 hC.k8) hC2018)
  · refine z_aload_n (j := 0) dL_deed_378 rfl ?_
    refine z_kV [] 0 0 kc ks yoX7_clear yvX7_clear rfl (by decide) lL_58 (by omega) gW_0 rfl rfl (Nat.le_of_ble_eq_true rfl) (Nat.le_of_ble_eq_true rfl) dL_deed_379 (by omega) (by omega) (z_room (by omega) (Nat.le_refl _) (Nat.le_refl _) (V_clear (d := 0) (g := g) (g' := (gPush g (sClear g.1))) (v := (nI (sCnt g.1))) hn (zk_no hno) hC rfl (fun cm2019 o2019 u2019 s2019 a2019 hC2019 => ⟨rfl, ?_⟩)))
    skip
    refine z_pop rfl dL_deed_382 ?_
    refine z_goto (tgt := 424) dL_deed_383 (by decide) ?_
    exact z_vret rfl dL_deed_424 (hq _ _ _ _ _ _ (dRel.push (dRel.rf hcc) (okc_clear hcc) hC.k8 hC.k8) hC2019)

set_option maxHeartbeats 4000000 in
set_option maxRecDepth 100000 in
theorem D_402 {l : zL} {d kc ks n : Nat} {h : Nat → va_E} {cm : Value} {o u : Nat → Nat → Int32} {s : Nat → Nat → Int32} {a : Nat → Nat → Nat → Int32} {g : zGs} {Q : zQ} {p old : Int32} {X Y key : Nat} (hX : X ≤ 8191) (hY : Y ≤ 1023) (hk : key ≤ 8191) (hold : eOK g.1 old) (hn : 89 ≤ n) (hno : ∀ E n' h', ¬ Q (.inr E) n' h') (hC : cI g o u s a) (hcc : okc g.1) (hq : ∀ g' cm' o' u' s' a', dRel g g' → cI g' o' u' s' a' → Q (.inl none) n (gW h cm' o' u' s' a')) : Zj l mL_deed (d + 9) kc ks 402 [(0, .ref 0), (1, .int p), (2, .int ((nI X))), (3, .int ((nI Y))), (4, .int ((nI key))), (5, .int old)] [] n (gW h cm o u s a) Q := by
  refine z_aload_n (j := 0) dL_deed_402 rfl ?_
  refine z_iload_n (j := 2) dL_deed_403 rfl ?_
  refine z_bipush (v := 50) dL_deed_404 (by decide) ?_
  refine z_irem (by decide) dL_deed_406 ?_
  rw [show ((nI X) - (nI X) / 50 * 50) = nI (X % 50) from pk_rem (a := X) (d := 50) (by omega) (by decide) (by decide)]
  refine z_kV [.int ((nI (X % 50)))] 0 0 kc ks yoX7_whyNoAdd yvX7_whyNoAdd rfl (by decide) lL_26 (by omega) gW_0 rfl rfl (Nat.le_of_ble_eq_true rfl) (Nat.le_of_ble_eq_true rfl) dL_deed_407 (by omega) (by omega) (z_room (by omega) (Nat.le_refl _) (Nat.le_refl _) (V_whyNoAdd (d := 0) (g := g) (g' := g) (v := (sWhy g.1 (X % 50))) hn (zk_no hno) hC (fk_whyNoAdd (g := g) (key := X % 50) (by omega)) (fun cm2020 o2020 u2020 s2020 a2020 hC2020 => ⟨rfl, ?_⟩)))
  refine z_if_ne (tgt := 424) dL_deed_410 (by decide) (fun czq410 => ?_) (fun czq410 => ?_)
  · exact z_vret rfl dL_deed_424 (hq _ _ _ _ _ _ (dRel.rf hcc) hC2020)
  · obtain ⟨hf, bk, S', ha⟩ := why_0 czq410 7
    refine z_aload_n (j := 0) dL_deed_413 rfl ?_
    refine z_iload_n (j := 2) dL_deed_414 rfl ?_
    refine z_bipush (v := 50) dL_deed_415 (by decide) ?_
    refine z_irem (by decide) dL_deed_417 ?_
    rw [show ((nI X) - (nI X) / 50 * 50) = nI (X % 50) from pk_rem (a := X) (d := 50) (by omega) (by decide) (by decide)]
    refine z_bipush (v := 7) dL_deed_418 (by decide) ?_
    refine z_kV [.int ((nI (X % 50))), .int 7] 0 0 kc ks yoX7_add yvX7_add rfl (by decide) lL_29 (by omega) gW_0 rfl rfl (Nat.le_of_ble_eq_true rfl) (Nat.le_of_ble_eq_true rfl) dL_deed_420 (by omega) (by omega) (z_room (by omega) (Nat.le_refl _) (Nat.le_refl _) (V_add (d := 0) (g := g) (g' := (gPush g S')) (v := (nI bk)) hn (zk_no hno) hC2020 (fk_add (g := g) (v := 7) (by omega) (by decide) hf ha) (fun cm2021 o2021 u2021 s2021 a2021 hC2021 => ⟨rfl, ?_⟩)))
    skip
    refine z_pop rfl dL_deed_423 ?_
    exact z_vret rfl dL_deed_424 (hq _ _ _ _ _ _ (dRel.push (dRel.rf hcc) (okc_add hC2020.t ha hcc) hC.k8 hC2020.k8) hC2021)

set_option maxHeartbeats 4000000 in
set_option maxRecDepth 100000 in
theorem D_193 {l : zL} {d kc ks n : Nat} {h : Nat → va_E} {g : zGs} {Q : zQ} {p old : Int32} {X Y key : Nat} (hX : X ≤ 8191) (hY : Y ≤ 1023) (hk : key ≤ 8191) (h8 : gK g ≤ 8) (hn : 89 ≤ n) (hno : ∀ E n' h', ¬ Q (.inr E) n' h') (hq : ∀ g' cm' o' u' s' a', dRel g g' → cI g' o' u' s' a' → Q (.inl none) n (gW h cm' o' u' s' a')) : ∀ m (k : Nat) (g1 : zGs) (cm : Value) (o u : Nat → Nat → Int32) (s : Nat → Nat → Int32) (a : Nat → Nat → Nat → Int32), k + m = 1 + Y % 6 → dRel g g1 → cI g1 o u s a → Zj l mL_deed (d + 9) kc ks 193 [(0, .ref 0), (1, .int p), (2, .int ((nI X))), (3, .int ((nI Y))), (4, .int ((nI key))), (5, .int old), (6, .int ((nI k)))] [] n (gW h cm o u s a) Q := by
  intro m
  induction m with
  | zero =>
    intro k g1 cm o u s a hkm hrel hC
    refine z_iload (j := 6) dL_deed_193 rfl ?_
    refine z_iconst (v := 1) dL_deed_195 (by decide) ?_
    refine z_iload_n (j := 3) dL_deed_196 rfl ?_
    refine z_bipush (v := 6) dL_deed_197 (by decide) ?_
    refine z_irem (by decide) dL_deed_199 ?_
    refine z_iadd dL_deed_200 ?_
    rw [show (1 + ((nI Y) - (nI Y) / 6 * 6)) = (nI (1 + Y % 6)) from by
      rw [show nI Y - nI Y / 6 * 6 = nI (Y % 6) from pk_rem (a := Y) (d := 6) (by omega) (by decide) (by decide)]
      exact nI_add 1 _]
    refine z_icmp_ge (tgt := 253) dL_deed_201 (by decide) (fun czq201 => ?_) (fun czq201 => absurd (nI_le (by omega) (by omega)) czq201)
    refine z_goto (tgt := 424) dL_deed_253 (by decide) ?_
    exact z_vret rfl dL_deed_424 (hq _ _ _ _ _ _ hrel hC)
  | succ m ih =>
    intro k g1 cm o u s a hkm hrel hC
    refine z_iload (j := 6) dL_deed_193 rfl ?_
    refine z_iconst (v := 1) dL_deed_195 (by decide) ?_
    refine z_iload_n (j := 3) dL_deed_196 rfl ?_
    refine z_bipush (v := 6) dL_deed_197 (by decide) ?_
    refine z_irem (by decide) dL_deed_199 ?_
    refine z_iadd dL_deed_200 ?_
    rw [show (1 + ((nI Y) - (nI Y) / 6 * 6)) = (nI (1 + Y % 6)) from by
      rw [show nI Y - nI Y / 6 * 6 = nI (Y % 6) from pk_rem (a := Y) (d := 6) (by omega) (by decide) (by decide)]
      exact nI_add 1 _]
    refine z_icmp_ge (tgt := 253) dL_deed_201 (by decide) (fun czq201 => absurd czq201 (nI_ge (by omega) (by omega))) (fun czq201 => ?_)
    refine z_iload (j := 4) dL_deed_204 rfl ?_
    refine z_iload (j := 6) dL_deed_206 rfl ?_
    refine z_aload_n (j := 0) dL_deed_208 rfl ?_
    refine z_kV [] 0 0 kc ks yoX7_bucketCount yvX7_bucketCount rfl (by decide) lL_13 (by omega) gW_0 rfl rfl (Nat.le_of_ble_eq_true rfl) (Nat.le_of_ble_eq_true rfl) dL_deed_209 (by omega) (by omega) (z_room (by omega) (Nat.le_refl _) (Nat.le_refl _) (V_bucketCount (d := 0) (g := g1) (g' := g1) (v := (nI g1.1.1)) hn (zk_no hno) hC rfl (fun cm2022 o2022 u2022 s2022 a2022 hC2022 => ⟨rfl, ?_⟩)))
    refine z_imul dL_deed_212 ?_
    refine z_iadd dL_deed_213 ?_
    refine z_sipush (v := 10000) dL_deed_214 (by decide) ?_
    refine z_irem (by decide) dL_deed_217 ?_
    have hkb : k * g1.1.1 ≤ 6 * 64 := Nat.mul_le_mul (by omega) hC.t.okb.le.2
    rw [show (((nI key) + ((nI k) * (nI g1.1.1))) - ((nI key) + ((nI k) * (nI g1.1.1))) / 10000 * 10000) = nI ((key + k * g1.1.1) % 10000) from by
      rw [pk_mul, nI_add]
      exact pk_rem (d := 10000) (by omega) (by decide) (by decide)]
    have hnx : ((key + k * g1.1.1) % 10000) ≤ 9999 := by omega
    refine z_istore [1, 2, 3, 4, 5, 6, 7, 0] [(0, .ref 0), (1, .int p), (2, .int ((nI X))), (3, .int ((nI Y))), (4, .int ((nI key))), (5, .int old), (6, .int ((nI k))), (7, .int ((nI ((key + k * g1.1.1) % 10000))))] dL_deed_218 (by decide) rfl ?_
    refine z_aload_n (j := 0) dL_deed_220 rfl ?_
    refine z_iload (j := 7) dL_deed_221 rfl ?_
    refine z_kV [.int ((nI ((key + k * g1.1.1) % 10000)))] 0 0 kc ks yoX7_whyNoAdd yvX7_whyNoAdd rfl (by decide) lL_26 (by omega) gW_0 rfl rfl (Nat.le_of_ble_eq_true rfl) (Nat.le_of_ble_eq_true rfl) dL_deed_223 (by omega) (by omega) (z_room (by omega) (Nat.le_refl _) (Nat.le_refl _) (V_whyNoAdd (d := 0) (g := g1) (g' := g1) (v := (sWhy g1.1 (((key + k * g1.1.1) % 10000)))) hn (zk_no hno) hC2022 (fk_whyNoAdd (g := g1) (key := ((key + k * g1.1.1) % 10000)) hnx) (fun cm2023 o2023 u2023 s2023 a2023 hC2023 => ⟨rfl, ?_⟩)))
    refine z_if_ne (tgt := 247) dL_deed_226 (by decide) (fun czq226 => ?_) (fun czq226 => ?_)
    · skip
      refine z_iinc ((nI (k + 1))) [1, 2, 3, 4, 5, 6, 0, 7] [(0, .ref 0), (1, .int p), (2, .int ((nI X))), (3, .int ((nI Y))), (4, .int ((nI key))), (5, .int old), (6, .int ((nI (k + 1)))), (7, .int ((nI ((key + k * g1.1.1) % 10000))))] dL_deed_247 (j := 6) rfl (nI_1 k) (by decide) rfl ?_
      refine z_goto (tgt := 193) dL_deed_250 (by decide) ?_
      refine z_lv [(0, .ref 0), (1, .int p), (2, .int ((nI X))), (3, .int ((nI Y))), (4, .int ((nI key))), (5, .int old), (6, .int ((nI (k + 1))))] [0, 1, 2, 3, 4, 5, 6] rfl ?_
      exact ih (k + 1) _ cm2023 o2023 u2023 s2023 a2023 (by omega) hrel hC2023
    · refine z_aload_n (j := 0) dL_deed_229 rfl ?_
      refine z_kV [] 0 0 kc ks yoX7_entryCount yvX7_entryCount rfl (by decide) lL_7 (by omega) gW_0 rfl rfl (Nat.le_of_ble_eq_true rfl) (Nat.le_of_ble_eq_true rfl) dL_deed_230 (by omega) (by omega) (z_room (by omega) (Nat.le_refl _) (Nat.le_refl _) (V_entryCount (d := 0) (g := g1) (g' := g1) (v := (nI (sCnt g1.1))) hn (zk_no hno) hC2023 rfl (fun cm2024 o2024 u2024 s2024 a2024 hC2024 => ⟨rfl, ?_⟩)))
      refine z_bipush (v := 40) dL_deed_233 (by decide) ?_
      refine z_icmp_ge (tgt := 247) dL_deed_235 (by decide) (fun czq235 => ?_) (fun czq235 => ?_)
      · skip
        refine z_iinc ((nI (k + 1))) [1, 2, 3, 4, 5, 6, 0, 7] [(0, .ref 0), (1, .int p), (2, .int ((nI X))), (3, .int ((nI Y))), (4, .int ((nI key))), (5, .int old), (6, .int ((nI (k + 1)))), (7, .int ((nI ((key + k * g1.1.1) % 10000))))] dL_deed_247 (j := 6) rfl (nI_1 k) (by decide) rfl ?_
        refine z_goto (tgt := 193) dL_deed_250 (by decide) ?_
        refine z_lv [(0, .ref 0), (1, .int p), (2, .int ((nI X))), (3, .int ((nI Y))), (4, .int ((nI key))), (5, .int old), (6, .int ((nI (k + 1))))] [0, 1, 2, 3, 4, 5, 6] rfl ?_
        exact ih (k + 1) _ cm2024 o2024 u2024 s2024 a2024 (by omega) hrel hC2024
      · obtain ⟨hf, bk, S', ha⟩ := why_0 czq226 k
        refine z_aload_n (j := 0) dL_deed_238 rfl ?_
        refine z_iload (j := 7) dL_deed_239 rfl ?_
        refine z_iload (j := 6) dL_deed_241 rfl ?_
        refine z_kV [.int ((nI ((key + k * g1.1.1) % 10000))), .int ((nI k))] 0 0 kc ks yoX7_add yvX7_add rfl (by decide) lL_29 (by omega) gW_0 rfl rfl (Nat.le_of_ble_eq_true rfl) (Nat.le_of_ble_eq_true rfl) dL_deed_243 (by omega) (by omega) (z_room (by omega) (Nat.le_refl _) (Nat.le_refl _) (V_add (d := 0) (g := g1) (g' := (gPush g1 S')) (v := (nI bk)) hn (zk_no hno) hC2024 (fk_add (g := g1) hnx (by omega) hf ha) (fun cm2025 o2025 u2025 s2025 a2025 hC2025 => ⟨rfl, ?_⟩)))
        skip
        refine z_pop rfl dL_deed_246 ?_
        skip
        refine z_iinc ((nI (k + 1))) [1, 2, 3, 4, 5, 6, 0, 7] [(0, .ref 0), (1, .int p), (2, .int ((nI X))), (3, .int ((nI Y))), (4, .int ((nI key))), (5, .int old), (6, .int ((nI (k + 1)))), (7, .int ((nI ((key + k * g1.1.1) % 10000))))] dL_deed_247 (j := 6) rfl (nI_1 k) (by decide) rfl ?_
        refine z_goto (tgt := 193) dL_deed_250 (by decide) ?_
        refine z_lv [(0, .ref 0), (1, .int p), (2, .int ((nI X))), (3, .int ((nI Y))), (4, .int ((nI key))), (5, .int old), (6, .int ((nI (k + 1))))] [0, 1, 2, 3, 4, 5, 6] rfl ?_
        exact ih (k + 1) _ cm2025 o2025 u2025 s2025 a2025 (by omega) (dRel.push hrel (okc_add hC2024.t ha hrel.1) h8 hC2024.k8) hC2025

set_option maxHeartbeats 4000000 in
set_option maxRecDepth 100000 in
theorem D_190 {l : zL} {d kc ks n : Nat} {h : Nat → va_E} {cm : Value} {o u : Nat → Nat → Int32} {s : Nat → Nat → Int32} {a : Nat → Nat → Nat → Int32} {g : zGs} {Q : zQ} {p old : Int32} {X Y key : Nat} (hX : X ≤ 8191) (hY : Y ≤ 1023) (hk : key ≤ 8191) (hold : eOK g.1 old) (hn : 89 ≤ n) (hno : ∀ E n' h', ¬ Q (.inr E) n' h') (hC : cI g o u s a) (hcc : okc g.1) (hq : ∀ g' cm' o' u' s' a', dRel g g' → cI g' o' u' s' a' → Q (.inl none) n (gW h cm' o' u' s' a')) : Zj l mL_deed (d + 9) kc ks 190 [(0, .ref 0), (1, .int p), (2, .int ((nI X))), (3, .int ((nI Y))), (4, .int ((nI key))), (5, .int old)] [] n (gW h cm o u s a) Q := by
  refine z_iconst (v := 0) dL_deed_190 (by decide) ?_
  skip
  refine z_istore [1, 2, 3, 4, 5, 6, 0] [(0, .ref 0), (1, .int p), (2, .int ((nI X))), (3, .int ((nI Y))), (4, .int ((nI key))), (5, .int old), (6, .int ((nI 0)))] dL_deed_191 (by decide) rfl ?_
  exact D_193 hX hY hk hC.k8 hn hno hq (1 + Y % 6) 0 g cm o u s a (by omega) (dRel.rf hcc) hC

set_option maxHeartbeats 4000000 in
set_option maxRecDepth 100000 in
theorem D_33 {l : zL} {d kc ks n : Nat} {h : Nat → va_E} {cm : Value} {o u : Nat → Nat → Int32} {s : Nat → Nat → Int32} {a : Nat → Nat → Nat → Int32} {g : zGs} {Q : zQ} {p : Int32} {X Y key : Nat} (hX : X ≤ 8191) (hY : Y ≤ 1023) (hk : key ≤ 8191) (hn : 89 ≤ n) (hno : ∀ E n' h', ¬ Q (.inr E) n' h') (hC : cI g o u s a) (hcc : okc g.1) (hq : ∀ g' cm' o' u' s' a', dRel g g' → cI g' o' u' s' a' → Q (.inl none) n (gW h cm' o' u' s' a')) : Zj l mL_deed (d + 9) kc ks 33 [(0, .ref 0), (1, .int p), (2, .int ((nI X))), (3, .int ((nI Y)))] [.int ((nI key))] n (gW h cm o u s a) Q := by
  refine z_istore [1, 2, 3, 4, 0] [(0, .ref 0), (1, .int p), (2, .int ((nI X))), (3, .int ((nI Y))), (4, .int ((nI key)))] dL_deed_33 (by decide) rfl ?_
  refine z_aload_n (j := 0) dL_deed_35 rfl ?_
  refine z_iload_n (j := 2) dL_deed_36 rfl ?_
  refine z_kS [.ref 0, .int ((nI X))] 0 0 kc ks yoL_entry ysL_entry rfl (by decide) lL_20 rfl (Nat.le_of_ble_eq_true rfl) (Nat.le_of_ble_eq_true rfl) dL_deed_37 (by omega) (by omega) (z_room (by omega) (Nat.le_refl _) (Nat.le_refl _) (W_entry (d := 0) (g := g) hn (zk_no hno) hC (fun old cm2026 o2026 u2026 s2026 a2026 hold hC2026 => ⟨rfl, ?_⟩)))
  refine z_istore [1, 2, 3, 4, 5, 0] [(0, .ref 0), (1, .int p), (2, .int ((nI X))), (3, .int ((nI Y))), (4, .int ((nI key))), (5, .int old)] dL_deed_40 (by decide) rfl ?_
  refine z_iload_n (j := 1) dL_deed_42 rfl ?_
  refine z_bipush (v := 15) dL_deed_43 (by decide) ?_
  refine z_iand dL_deed_45 ?_
  obtain ⟨w4, hw4, ew4⟩ := pk_andE p (m := 15) 4 (by decide)
  rw [ew4]
  rcases (show w4 = 0 ∨ w4 = 1 ∨ w4 = 2 ∨ w4 = 3 ∨ w4 = 4 ∨ w4 = 5 ∨ w4 = 6 ∨ w4 = 7 ∨ w4 = 8 ∨ w4 = 9 ∨ w4 = 10 ∨ w4 = 11 ∨ w4 = 12 ∨ w4 = 13 ∨ w4 = 14 ∨ w4 = 15 by have : 2 ^ 4 = 16 := rfl; omega) with rfl | rfl | rfl | rfl | rfl | rfl | rfl | rfl | rfl | rfl | rfl | rfl | rfl | rfl | rfl | rfl
  · refine z_tableIn (74) 120 dL_deed_46 (by decide) (by decide) (by decide) (by decide) ?_
    exact D_120 hX hY hk hold hn hno hC2026 hcc hq
  · refine z_tableIn (74) 120 dL_deed_46 (by decide) (by decide) (by decide) (by decide) ?_
    exact D_120 hX hY hk hold hn hno hC2026 hcc hq
  · refine z_tableIn (74) 120 dL_deed_46 (by decide) (by decide) (by decide) (by decide) ?_
    exact D_120 hX hY hk hold hn hno hC2026 hcc hq
  · refine z_tableIn (74) 120 dL_deed_46 (by decide) (by decide) (by decide) (by decide) ?_
    exact D_120 hX hY hk hold hn hno hC2026 hcc hq
  · refine z_tableIn (98) 144 dL_deed_46 (by decide) (by decide) (by decide) (by decide) ?_
    exact D_144 hX hY hk hold hn hno hC2026 hcc hq
  · refine z_tableIn (123) 169 dL_deed_46 (by decide) (by decide) (by decide) (by decide) ?_
    exact D_169 hX hY hk hold hn hno hC2026 hcc hq
  · refine z_tableIn (144) 190 dL_deed_46 (by decide) (by decide) (by decide) (by decide) ?_
    exact D_190 hX hY hk hold hn hno hC2026 hcc hq
  · refine z_tableIn (210) 256 dL_deed_46 (by decide) (by decide) (by decide) (by decide) ?_
    exact D_256 hX hY hk hold hn hno hC2026 hcc hq
  · refine z_tableIn (210) 256 dL_deed_46 (by decide) (by decide) (by decide) (by decide) ?_
    exact D_256 hX hY hk hold hn hno hC2026 hcc hq
  · refine z_tableIn (210) 256 dL_deed_46 (by decide) (by decide) (by decide) (by decide) ?_
    exact D_256 hX hY hk hold hn hno hC2026 hcc hq
  · refine z_tableIn (226) 272 dL_deed_46 (by decide) (by decide) (by decide) (by decide) ?_
    exact D_272 hX hY hk hold hn hno hC2026 hcc hq
  · refine z_tableIn (252) 298 dL_deed_46 (by decide) (by decide) (by decide) (by decide) ?_
    exact D_298 hX hY hk hold hn hno hC2026 hcc hq
  · refine z_tableIn (280) 326 dL_deed_46 (by decide) (by decide) (by decide) (by decide) ?_
    exact D_326 hX hY hk hold hn hno hC2026 hcc hq
  · refine z_tableIn (300) 346 dL_deed_46 (by decide) (by decide) (by decide) (by decide) ?_
    exact D_346 hX hY hk hold hn hno hC2026 hcc hq
  · refine z_tableIn (325) 371 dL_deed_46 (by decide) (by decide) (by decide) (by decide) ?_
    exact D_371 hX hY hk hold hn hno hC2026 hcc hq
  · refine z_tableOut 402 dL_deed_46 (by decide) (by decide) ?_
    exact D_402 hX hY hk hold hn hno hC2026 hcc hq

set_option maxHeartbeats 4000000 in
set_option maxRecDepth 100000 in
theorem W_deed {l : zL} {d kc ks n : Nat} {h : Nat → va_E} {cm : Value} {o u : Nat → Nat → Int32} {s : Nat → Nat → Int32} {a : Nat → Nat → Nat → Int32} {g : zGs} {Q : zQ} {p : Int32} (hn : 89 ≤ n) (hno : ∀ E n' h', ¬ Q (.inr E) n' h') (hC : cI g o u s a) (hcc : okc g.1) (hq : ∀ g' cm' o' u' s' a', dRel g g' → cI g' o' u' s' a' → Q (.inl none) n (gW h cm' o' u' s' a')) : Zj l mL_deed (d + 9) kc ks 0 [(0, .ref 0), (1, .int p)] [] n (gW h cm o u s a) Q := by
  refine z_iload_n (j := 1) dL_deed_0 rfl ?_
  refine z_iconst (v := 4) dL_deed_1 (by decide) ?_
  refine z_iushr dL_deed_2 ?_
  refine z_sipush (v := 8191) dL_deed_3 (by decide) ?_
  refine z_iand dL_deed_6 ?_
  obtain ⟨X, hX, eX⟩ := pk_andE (zushr p 4) (m := 8191) 13 (by decide)
  rw [eX]
  have hX : X ≤ 8191 := by have : 2 ^ 13 = 8192 := rfl; omega
  refine z_istore_n [1, 2, 0] [(0, .ref 0), (1, .int p), (2, .int ((nI X)))] dL_deed_7 (by decide) rfl ?_
  refine z_iload_n (j := 1) dL_deed_8 rfl ?_
  refine z_bipush (v := 17) dL_deed_9 (by decide) ?_
  refine z_iushr dL_deed_11 ?_
  refine z_sipush (v := 1023) dL_deed_12 (by decide) ?_
  refine z_iand dL_deed_15 ?_
  obtain ⟨Y, hY, eY⟩ := pk_andE (zushr p 17) (m := 1023) 10 (by decide)
  rw [eY]
  have hY : Y ≤ 1023 := by have : 2 ^ 10 = 1024 := rfl; omega
  refine z_istore_n [1, 2, 3, 0] [(0, .ref 0), (1, .int p), (2, .int ((nI X))), (3, .int ((nI Y)))] dL_deed_16 (by decide) rfl ?_
  refine z_iload_n (j := 1) dL_deed_17 rfl ?_
  refine z_sipush (v := 1024) dL_deed_18 (by decide) ?_
  refine z_iand dL_deed_21 ?_
  refine z_if_ne (tgt := 29) dL_deed_22 (by decide) (fun czq22 => ?_) (fun czq22 => ?_)
  · refine z_iload_n (j := 2) dL_deed_29 rfl ?_
    refine z_bipush (v := 100) dL_deed_30 (by decide) ?_
    refine z_irem (by decide) dL_deed_32 ?_
    rw [show ((nI X) - (nI X) / 100 * 100) = nI (X % 100) from pk_rem (a := X) (d := 100) (by omega) (by decide) (by decide)]
    exact D_33 hX hY (by omega) hn hno hC hcc hq
  · refine z_iload_n (j := 2) dL_deed_25 rfl ?_
    refine z_goto (tgt := 33) dL_deed_26 (by decide) ?_
    exact D_33 hX hY (by omega) hn hno hC hcc hq
