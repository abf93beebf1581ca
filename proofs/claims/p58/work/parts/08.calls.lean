/-! NEW CELLS, CONSTANTS, RETURNS, THROWS, CALLS -/
theorem zw_push {ad : Nat → Nat} {cA : Nat → ClassId} {n q : Nat} {h : Nat → va_E} {e : va_E} (hn : n < zB) (hok : ∀ k, k < n → zok n (h k)) (he : zok n e) : zw ad cA n h ++ [(q, ze ad cA e)] = zw (va_up ad n q) cA (n + 1) (va_up h n e) := by
  have hg : zag n (n + 1) ad (va_up ad n q) := zag_push hn
  apply List.ext_getElem?
  intro i
  by_cases hi : i < n
  · rw [List.getElem?_append_left (by rw [zw_len]; exact hi), zw_get hi, zw_get (Nat.lt_succ_of_lt hi)]
    have hin : i ≠ n := Nat.ne_of_lt hi
    have e1 : va_up ad n q i = ad i := by simp [va_up, hin]
    have e2 : va_up h n e i = h i := by simp [va_up, hin]
    rw [e1, e2, ze_ag hg (hok i hi)]
  · by_cases hin : i = n
    · subst hin
      rw [List.getElem?_append_right (by rw [zw_len]; exact Nat.le_refl _), zw_len, Nat.sub_self, zw_get (Nat.lt_succ_self _)]
      have e1 : va_up ad i q i = q := by simp [va_up]
      have e2 : va_up h i e i = e := by simp [va_up]
      rw [e1, e2, ze_ag hg he]
      rfl
    · rw [List.getElem?_eq_none (by rw [List.length_append, zw_len]; simp; omega), List.getElem?_eq_none (by rw [zw_len]; omega)]
theorem zR_push {D : va_G} {cA : Nat → ClassId} {sz0 n q : Nat} {ad : Nat → Nat} {h : Nat → va_E} {e : va_E} {H1 : Heap} (hn : n < zB) (hok : ∀ k, k < n → zok n (h k)) (he : zok n e) (hP : va_P D vwCl (zw ad cA n h ++ [(q, ze ad cA e)]) H1) (hD : va_D (fun q => sz0 ≤ q) (zw ad cA n h ++ [(q, ze ad cA e)])) : zR D cA sz0 (va_up ad n q) (n + 1) (va_up h n e) H1 := by
  rw [zw_push hn hok he] at hP hD
  refine ⟨hP, hD, fun k hk => ?_⟩
  by_cases hkn : k = n
  · subst hkn
    simp only [va_up, if_true]
    exact zok_mono (Nat.le_succ _) he
  · simp only [va_up, if_neg hkn]
    exact zok_mono (Nat.le_succ _) (hok k (by omega))
theorem zlv_ag {n n' : Nat} {ad ad' : Nat → Nat} {lv : List (Nat × Value)} (hg : zag n n' ad ad') (hv : ∀ q ∈ lv, zokv n q.2) : zlv ad' lv = zlv ad lv := List.map_congr_left fun q hq => by rw [zv_ag hg (hv q hq)]
/-- a class whose objects are made: its words, and what its fields hold at first -/
def zN (own : String) (idx ci : Nat) (fs : List Value) : Prop := ∃ (C : String) (T : u_T) (N : Nat) (ty : Nat → FieldType), vwCl[ci]? = some (C, T, N) ∧ N = fs.length ∧ (∀ k, k < N → parseFieldDescriptor (T k).2.2.1 = some (ty k)) ∧ (∀ w ∈ u_ws C T N, w ∈ zTs) ∧ Cond.classLink own idx C ∈ zTs ∧ Cond.instantiable C N ∈ zTs ∧ Cond.initialized C ∈ zTs ∧ (∀ v ∈ fs, v = .null ∨ ∃ x, v = .int x) ∧ (∀ j, j < N → defaultValue (ty j) = vp_V fs j)
theorem z_new {l : zL} {Y : zM} {d kc ks k2 s2 pc n : Nat} {lv : List (Nat × Value)} {rest : List Value} {h : Nat → va_E} {Q : zQ} {ci idx : Nat} {fs : List Value} (hf : zN Y.1.cls idx ci fs) (hn : n < zB) (hlv : ∀ q ∈ lv, zokv n q.2) (hst : ∀ v ∈ rest, zokv n v) (hk : 1 + k2 ≤ kc) (hs : fs.length + s2 ≤ ks) (hd : decode Y.2.1 pc = .ok (.new idx, 3)) (kk : Zj l Y d k2 s2 (pc + 3) lv (.ref n :: rest) (n + 1) (va_up h n (.inr (ci, fs))) Q) : Zj l Y d kc ks pc lv rest n h Q := by
  intro p e R s m args below meth c sz0 D cA ad H locs cells slots mc ms ls Z hK hC hX hR hS hl g1 g2 g3 g4
  obtain ⟨C, T, N, ty, hc, hN, hty, hin, hcl, hinst, hini, hnr, hfs⟩ := hf
  obtain ⟨hx, hb, -, -, -, hown, -, -, hts, hKK, hsz, -⟩ := id hK
  have hfe : fs.map (zv ad) = fs := by
    have : ∀ v ∈ fs, zv ad v = v := fun v hv => by
      rcases hnr v hv with rfl | ⟨x, rfl⟩ <;> rfl
    calc fs.map (zv ad) = fs.map id := List.map_congr_left this
      _ = fs := List.map_id fs
  have hok : zok n (.inr (ci, fs) : va_E) := fun v hv => by
    rcases hnr v hv with rfl | ⟨x, rfl⟩ <;> trivial
  refine va_new (fs := fs) hx hb hts hin ty hty hown (hts _ hcl) (hts _ hinst) (hts _ hini) hKK hR.1 hR.2.1 hS (fun q hq => Nat.le_trans hsz hq) hc hfs (by omega) (by omega) hd (fun q H1 hP hD hS1 => ?_)
  have e0 : (q, (.inr (ci, fs) : va_E)) = (q, ze ad cA (.inr (ci, fs))) := by show _ = (q, (Sum.inr (ci, fs.map (zv ad)) : va_E)); rw [hfe]
  rw [e0] at hP hD
  have hg : zag n (n + 1) ad (va_up ad n q) := zag_push hn
  have e1 : zv (va_up ad n q) (.ref n) = .ref q := by simp [zv, va_up]
  have e2 : (Value.ref q :: rest.map (zv ad)) = (Value.ref n :: rest).map (zv (va_up ad n q)) := by rw [List.map_cons, e1, zvs_ag hg hst]
  rw [e2]
  exact kk p e R s m args below meth c sz0 D cA (va_up ad n q) H1 locs (cells + 1) (slots + N) mc ms ls Z hK (hC.ag hg) (hX.ag hg) (zR_push hn hR.2.2 hok hP hD) hS1 (by rw [zlv_ag hg hlv]; exact hl) (by omega) (by omega) g3 g4
theorem zt_uniq {D : va_G} {cA : Nat → ClassId} {s : State} {cB : ClassId} {ty : FieldType} {t : Nat} (hK : va_K D vwCl (zt cA) s) (hK1 : va_K D vwCl (zt cA ++ [(cB, ty)]) s) (ht : (zt cA)[t]? = some (cA t, ty)) : cB = cA t := by
  have h1 := (hK.2 t _ ht).2
  have h2 := (hK1.2 4 (cB, ty) rfl).2
  cases ty with
  | object C =>
    obtain ⟨_, _, _, _, _, e1⟩ := h1
    obtain ⟨_, _, _, _, _, e2⟩ := h2
    exact Option.some.inj (e2.symm.trans e1)
  | _ => exact Option.some.inj (Eq.trans (Eq.symm h2) h1)
theorem z_newa0 {l : zL} {Y : zM} {d kc ks k2 s2 pc n : Nat} {lv : List (Nat × Value)} {rest : List Value} {h : Nat → va_E} {Q : zQ} {N : Int32} {N' : Nat} (hw : Cond.arrayClass .int ∈ zTs) (hn0 : ¬ N < 0) (hN : N.toNatClampNeg = N') (hb4 : N' * 4 ≤ 536870912) (hn : n < zB) (hlv : ∀ q ∈ lv, zokv n q.2) (hst : ∀ v ∈ rest, zokv n v) (hk : 1 + k2 ≤ kc) (hs : N' + s2 ≤ ks) (hd : decode Y.2.1 pc = .ok (.newarray .int, 2)) (kk : Zj l Y d k2 s2 (pc + 2) lv (.ref n :: rest) (n + 1) (va_up h n (.inl (0, N', .inl (fun _ => 0)))) Q) : Zj l Y d kc ks pc lv (.int N :: rest) n h Q := by
  intro p e R s m args below meth c sz0 D cA ad H locs cells slots mc ms ls Z hK hC hX hR hS hl g1 g2 g3 g4
  obtain ⟨hx, hb, -, -, -, hown, -, -, hts, hKK, hsz, -⟩ := id hK
  refine va_newa (atype := .int) (ty := .int) (a0 := (N', .inl (fun _ => 0))) hx hb (hts _ hw) rfl hKK hR.1 hR.2.1 hS (fun q hq => Nat.le_trans hsz hq) (fun _ => rfl) hn0 hN hb4 (by omega) (by omega) hd (fun q cB H1 hK1 hP hD hS1 => ?_)
  obtain rfl : cB = cA 0 := zt_uniq hKK hK1 rfl
  have hg : zag n (n + 1) ad (va_up ad n q) := zag_push hn
  have e1 : zv (va_up ad n q) (.ref n) = .ref q := by simp [zv, va_up]
  have e2 : (Value.ref q :: rest.map (zv ad)) = (Value.ref n :: rest).map (zv (va_up ad n q)) := by rw [List.map_cons, e1, zvs_ag hg hst]
  rw [e2]
  exact kk p e R s m args below meth c sz0 D cA (va_up ad n q) H1 locs (cells + 1) (slots + N') mc ms ls Z hK (hC.ag hg) (hX.ag hg) (zR_push hn hR.2.2 (e := .inl (0, N', .inl (fun _ => 0))) trivial hP hD) hS1 (by rw [zlv_ag hg hlv]; exact hl) (by omega) (by omega) g3 g4
theorem z_newq {l : zL} {Y : zM} {d kc ks k2 s2 pc n : Nat} {lv : List (Nat × Value)} {rest : List Value} {h : Nat → va_E} {Q : zQ} {N : Int32} {N' idx : Nat} (hw : Cond.classLink Y.1.cls idx "NeighbourHash$Table" ∈ zTs) (hn0 : ¬ N < 0) (hN : N.toNatClampNeg = N') (hb4 : N' * 4 ≤ 536870912) (hn : n < zB) (hlv : ∀ q ∈ lv, zokv n q.2) (hst : ∀ v ∈ rest, zokv n v) (hk : 1 + k2 ≤ kc) (hs : N' + s2 ≤ ks) (hd : decode Y.2.1 pc = .ok (.anewarray idx, 3)) (kk : Zj l Y d k2 s2 (pc + 3) lv (.ref n :: rest) (n + 1) (va_up h n (.inl (3, N', .inr (.inr (.inr (.inr (fun _ => none))))))) Q) : Zj l Y d kc ks pc lv (.int N :: rest) n h Q := by
  intro p e R s m args below meth c sz0 D cA ad H locs cells slots mc ms ls Z hK hC hX hR hS hl g1 g2 g3 g4
  obtain ⟨hx, hb, -, -, -, hown, -, -, hts, hKK, hsz, -⟩ := id hK
  refine va_newq hx hb hown (hts _ hw) hC.2.2.2.2.2.2.2.2.2.2.1 hKK hR.1 hR.2.1 hS (fun q hq => Nat.le_trans hsz hq) hn0 hN hb4 (by omega) (by omega) hd (fun q cB H1 hK1 hP hD hS1 => ?_)
  obtain rfl : cB = cA 3 := zt_uniq hKK hK1 rfl
  have hg : zag n (n + 1) ad (va_up ad n q) := zag_push hn
  have e1 : zv (va_up ad n q) (.ref n) = .ref q := by simp [zv, va_up]
  have e2 : (Value.ref q :: rest.map (zv ad)) = (Value.ref n :: rest).map (zv (va_up ad n q)) := by rw [List.map_cons, e1, zvs_ag hg hst]
  rw [e2]
  exact kk p e R s m args below meth c sz0 D cA (va_up ad n q) H1 locs (cells + 1) (slots + N') mc ms ls Z hK (hC.ag hg) (hX.ag hg) (zR_push hn hR.2.2 (e := .inl (3, N', .inr (.inr (.inr (.inr (fun _ => none)))))) (fun j k hj => by cases hj) hP hD) hS1 (by rw [zlv_ag hg hlv]; exact hl) (by omega) (by omega) g3 g4
theorem z_aast {l : zL} {Y : zM} {d kc ks pc n : Nat} {lv : List (Nat × Value)} {rest : List Value} {h : Nat → va_E} {Q : zQ} {a N v : Nat} {vs : List Value} {f : Nat → Option Nat} {i : Int32} (ha : a < n) (hh : h a = .inl (3, N, .inr (.inr (.inr (.inr f))))) (hv : v < n) (hhv : h v = .inr (4, vs)) (hin : vp_in i N) (hd : decode Y.2.1 pc = .ok (.aastore, 1)) (kk : Zj l Y d kc ks (pc + 1) lv rest n (va_up h a (.inl (3, N, .inr (.inr (.inr (.inr (va_up f i.toNatClampNeg (some v)))))))) Q) : Zj l Y d kc ks pc lv (.ref v :: .int i :: .ref a :: rest) n h Q := by
  intro p e R s m args below meth c sz0 D cA ad H locs cells slots mc ms ls Z hK hC hX hR hS hl g1 g2 g3 g4
  obtain ⟨hx, hb, -, -, -, hown, -, -, hts, hKK, -⟩ := id hK
  have he : (zw ad cA n h)[a]? = some (ad a, .inl (cA 3, N, .inr (.inr (.inr (.inr (fun j => (f j).map ad)))))) := by rw [zw_get ha, hh]; rfl
  have hev : (zw ad cA n h)[v]? = some (ad v, .inr (4, vs.map (zv ad))) := by rw [zw_get hv, hhv]; rfl
  refine va_astq (r := (RX6, TX6, 16)) hx hb hKK hR.1 hR.2.1 hS a 3 v 4 he rfl hev rfl hin hd (fun H1 locs1 hP hD hS1 => ?_)
  have e1 : va_up (fun j => (f j).map ad) i.toNatClampNeg (some (ad v)) = fun j => (va_up f i.toNatClampNeg (some v) j).map ad := by
    funext j
    by_cases hj : j = i.toNatClampNeg
    · simp [va_up, hj]
    · simp [va_up, hj]
  rw [e1] at hP hD
  have hok : zok n (.inl (3, N, .inr (.inr (.inr (.inr (va_up f i.toNatClampNeg (some v)))))) : va_E) := by
    have h0 : zok n (h a) := hR.2.2 a ha
    rw [hh] at h0
    intro j k hj
    by_cases hji : j = i.toNatClampNeg
    · simp only [va_up, hji, if_true] at hj
      cases hj
      exact Or.inl hv
    · simp only [va_up, if_neg hji] at hj
      exact h0 j k hj
  exact kk p e R s m args below meth c sz0 D cA ad H1 locs1 cells slots mc ms ls Z hK hC hX (zR_set hR ha hok hP hD) hS1 hl g1 g2 g3 g4
-- constants
theorem z_gets {l : zL} {Y : zM} {d kc ks pc n : Nat} {lv : List (Nat × Value)} {rest : List Value} {h : Nat → va_E} {Q : zQ} {idx : Nat} {C nm ds : String} {v : Value} (hm : (C, nm, ds, v) ∈ kZ) (hw : Cond.fieldLink Y.1.cls idx C nm ds ∈ zTs) (hd : decode Y.2.1 pc = .ok (.getstatic idx, 3)) (kk : Zj l Y d kc ks (pc + 3) lv (v :: rest) n h Q) : Zj l Y d kc ks pc lv rest n h Q := by
  intro p e R s m args below meth c sz0 D cA ad H locs cells slots mc ms ls Z hK hC hX hR hS hl g1 g2 g3 g4
  obtain ⟨hx, hb, -, -, -, hown, -, -, hts, hKK, -⟩ := id hK
  exact va_gets hx hb (hC.2.2.2.1 _ hm) hS hown (hts _ hw) (fun _ h9 => h9) hd (kk p e R s m args below meth c sz0 D cA ad H locs cells slots mc ms ls Z hK hC hX hR hS hl g1 g2 g3 g4)
theorem z_getsN {l : zL} {Y : zM} {d kc ks pc n : Nat} {lv : List (Nat × Value)} {rest : List Value} {h : Nat → va_E} {Q : zQ} {idx : Nat} {C nm ds host : String} {v : Value} (hm : (C, nm, ds, v) ∈ kZ) (hw : Cond.fieldLinkNest Y.1.cls idx C nm ds host ∈ kN) (hd : decode Y.2.1 pc = .ok (.getstatic idx, 3)) (kk : Zj l Y d kc ks (pc + 3) lv (v :: rest) n h Q) : Zj l Y d kc ks pc lv rest n h Q := by
  intro p e R s m args below meth c sz0 D cA ad H locs cells slots mc ms ls Z hK hC hX hR hS hl g1 g2 g3 g4
  obtain ⟨hx, hb, -, -, -, hown, -, -, hts, hKK, -⟩ := id hK
  exact va_getsN hx hb (hC.2.2.2.1 _ hm) hS hown (va_Nw.use rfl (hC.2.2.2.2.2.1 _ hw)) (fun _ h9 => h9) hd (kk p e R s m args below meth c sz0 D cA ad H locs cells slots mc ms ls Z hK hC hX hR hS hl g1 g2 g3 g4)
theorem z_ldcS {l : zL} {Y : zM} {d kc ks pc n : Nat} {lv : List (Nat × Value)} {rest : List Value} {h : Nat → va_E} {Q : zQ} {idx a : Nat} {tx : String} (hm : (Y.1.cls, idx, tx, a) ∈ kR) (hd : decode Y.2.1 pc = .ok (.ldc idx, 2)) (kk : Zj l Y d kc ks (pc + 2) lv (.ref a :: rest) n h Q) : Zj l Y d kc ks pc lv rest n h Q := by
  intro p e R s m args below meth c sz0 D cA ad H locs cells slots mc ms ls Z hK hC hX hR hS hl g1 g2 g3 g4
  obtain ⟨hx, hb, -, -, -, hown, -, -, hts, hKK, -⟩ := id hK
  exact va_ldcS hx hb hown (hC.2.2.2.2.1 _ hm) hd (kk p e R s m args below meth c sz0 D cA ad H locs cells slots mc ms ls Z hK hC hX hR hS hl g1 g2 g3 g4)
theorem z_ldcSW {l : zL} {Y : zM} {d kc ks pc n : Nat} {lv : List (Nat × Value)} {rest : List Value} {h : Nat → va_E} {Q : zQ} {idx a : Nat} {tx : String} (hm : (Y.1.cls, idx, tx, a) ∈ kR) (hd : decode Y.2.1 pc = .ok (.ldc_w idx, 3)) (kk : Zj l Y d kc ks (pc + 3) lv (.ref a :: rest) n h Q) : Zj l Y d kc ks pc lv rest n h Q := by
  intro p e R s m args below meth c sz0 D cA ad H locs cells slots mc ms ls Z hK hC hX hR hS hl g1 g2 g3 g4
  obtain ⟨hx, hb, -, -, -, hown, -, -, hts, hKK, -⟩ := id hK
  have hZ := hC.2.2.2.2.1 _ hm
  have k1 := kk p e R s m args below meth c sz0 D cA ad H locs cells slots mc ms ls Z hK hC hX hR hS hl g1 g2 g3 g4
  intro T hT X
  obtain ⟨t, a1, b1⟩ := k1 T hT X
  exact ⟨t, X.ldcStringW hx hown (text := tx) (a := ad a) hZ.1 hZ.2 (g := F0 m pc ls (rest.map (zv ad))) rfl (by rw [hb]; exact hd) t a1, b1⟩
theorem z_getC {l : zL} {Y : zM} {d kc ks pc n : Nat} {lv : List (Nat × Value)} {rest : List Value} {h : Nat → va_E} {Q : zQ} {idx a : Nat} {C nm ds : String} {v : Value} (hm : (C, nm, ds, v, a) ∈ kF) (hw : Cond.fieldLink Y.1.cls idx C nm ds ∈ zTs) (hd : decode Y.2.1 pc = .ok (.getfield idx, 3)) (kk : Zj l Y d kc ks (pc + 3) lv (v :: rest) n h Q) : Zj l Y d kc ks pc lv (.ref a :: rest) n h Q := by
  intro p e R s m args below meth c sz0 D cA ad H locs cells slots mc ms ls Z hK hC hX hR hS hl g1 g2 g3 g4
  obtain ⟨hx, hb, -, -, -, hown, -, -, hts, hKK, -⟩ := id hK
  exact vk_getf hx hb (hC.2.1 _ hm) hS hown (hts _ hw) (fun _ h9 => h9) hd (kk p e R s m args below meth c sz0 D cA ad H locs cells slots mc ms ls Z hK hC hX hR hS hl g1 g2 g3 g4)
theorem zT_at {ty : FieldType} {t N : Nat} {f : Nat → Value} {A : Nat → Prop} {s : State} {H : Heap} {i : Int32} (h : va_T ty t N f A s H) (hin : vp_in i N) : ∃ cell : Cell, H[t]? = some cell ∧ s.isArrayOf cell ty ∧ cell.vm ≠ .unknown ∧ ¬ (i < 0 ∨ cell.slots.size ≤ i.toNatClampNeg) ∧ cell.slots[i.toNatClampNeg]? = some (f i.toNatClampNeg) := by
  obtain ⟨cell, h1, h2, h3, h4, h5, h6, h7⟩ := h
  have hlt : i.toNatClampNeg < N := Nat.not_le.mp fun q => hin (Or.inr q)
  exact ⟨cell, h1, h2, h3, fun q => q.elim (fun q => hin (Or.inl q)) (fun q => by omega), h6 _ hlt⟩
theorem z_aaldC {l : zL} {Y : zM} {d kc ks pc n : Nat} {lv : List (Nat × Value)} {rest : List Value} {h : Nat → va_E} {Q : zQ} {a N b : Nat} {E : String} {i : Int32} (hm : (.object E, a, N, kTr b) ∈ kT) (hin : vp_in i N) (hd : decode Y.2.1 pc = .ok (.aaload, 1)) (kk : Zj l Y d kc ks (pc + 1) lv (.ref (b + i.toNatClampNeg) :: rest) n h Q) : Zj l Y d kc ks pc lv (.int i :: .ref a :: rest) n h Q := by
  intro p e R s m args below meth c sz0 D cA ad H locs cells slots mc ms ls Z hK hC hX hR hS hl g1 g2 g3 g4
  obtain ⟨hx, hb, -⟩ := id hK
  obtain ⟨cell, h1, h2, h3, h4, h5⟩ := zT_at ((hC.2.2.1 _ hm).kept hS.2.1) hin
  exact W.aald hx hb h1 h2 rfl h3 h4 h5 rfl rfl hd (kk p e R s m args below meth c sz0 D cA ad H locs cells slots mc ms ls Z hK hC hX hR hS hl g1 g2 g3 g4)
theorem z_ialdC {l : zL} {Y : zM} {d kc ks pc n : Nat} {lv : List (Nat × Value)} {rest : List Value} {h : Nat → va_E} {Q : zQ} {a N : Nat} {L : List Int32} {i : Int32} (hm : (.int, a, N, kTi L) ∈ kT) (hin : vp_in i N) (hd : decode Y.2.1 pc = .ok (.iaload, 1)) (kk : Zj l Y d kc ks (pc + 1) lv (.int (L.getD i.toNatClampNeg 0) :: rest) n h Q) : Zj l Y d kc ks pc lv (.int i :: .ref a :: rest) n h Q := by
  intro p e R s m args below meth c sz0 D cA ad H locs cells slots mc ms ls Z hK hC hX hR hS hl g1 g2 g3 g4
  obtain ⟨hx, hb, -⟩ := id hK
  obtain ⟨cell, h1, h2, h3, h4, h5⟩ := zT_at ((hC.2.2.1 _ hm).kept hS.2.1) hin
  exact W.iald hx hb h1 h2 h3 h4 h5 rfl rfl hd (kk p e R s m args below meth c sz0 D cA ad H locs cells slots mc ms ls Z hK hC hX hR hS hl g1 g2 g3 g4)
theorem z_baldC {l : zL} {Y : zM} {d kc ks pc n : Nat} {lv : List (Nat × Value)} {rest : List Value} {h : Nat → va_E} {Q : zQ} {a N : Nat} {L : List Int32} {i : Int32} (hm : (.byte, a, N, kTi L) ∈ kT) (hin : vp_in i N) (hd : decode Y.2.1 pc = .ok (.baload, 1)) (kk : Zj l Y d kc ks (pc + 1) lv (.int (L.getD i.toNatClampNeg 0) :: rest) n h Q) : Zj l Y d kc ks pc lv (.int i :: .ref a :: rest) n h Q := by
  intro p e R s m args below meth c sz0 D cA ad H locs cells slots mc ms ls Z hK hC hX hR hS hl g1 g2 g3 g4
  obtain ⟨hx, hb, -⟩ := id hK
  obtain ⟨cell, h1, h2, h3, h4, h5⟩ := zT_at ((hC.2.2.1 _ hm).kept hS.2.1) hin
  exact W.bald hx hb h1 h2 h3 h4 h5 rfl rfl hd (kk p e R s m args below meth c sz0 D cA ad H locs cells slots mc ms ls Z hK hC hX hR hS hl g1 g2 g3 g4)
theorem z_alenC {l : zL} {Y : zM} {d kc ks pc n : Nat} {lv : List (Nat × Value)} {rest : List Value} {h : Nat → va_E} {Q : zQ} {a N : Nat} {ty : FieldType} {L : List Int32 ⊕ Nat} {v : Int32} (hm : (ty, a, N, L) ∈ kT) (hv : Int32.ofNat N = v) (hd : decode Y.2.1 pc = .ok (.arraylength, 1)) (kk : Zj l Y d kc ks (pc + 1) lv (.int v :: rest) n h Q) : Zj l Y d kc ks pc lv (.ref a :: rest) n h Q := by
  intro p e R s m args below meth c sz0 D cA ad H locs cells slots mc ms ls Z hK hC hX hR hS hl g1 g2 g3 g4
  obtain ⟨hx, hb, -⟩ := id hK
  obtain ⟨cell, h1, h2, h3, h4, h5, -⟩ := (hC.2.2.1 _ hm).kept hS.2.1
  exact W.alen hx hb h1 h2 (h5.trans hv) rfl rfl hd (kk p e R s m args below meth c sz0 D cA ad H locs cells slots mc ms ls Z hK hC hX hR hS hl g1 g2 g3 g4)
theorem z_sld {l : zL} {Y : zM} {d kc ks pc n : Nat} {lv : List (Nat × Value)} {rest : List Value} {h : Nat → va_E} {Q : zQ} {i : Int32} (hin : vp_in i l.2.1) (hd : decode Y.2.1 pc = .ok (.iaload, 1)) (kk : Zj l Y d kc ks (pc + 1) lv (.int (l.2.2 i.toNatClampNeg) :: rest) n h Q) : Zj l Y d kc ks pc lv (.int i :: .ref (zB + 500) :: rest) n h Q := by
  intro p e R s m args below meth c sz0 D cA ad H locs cells slots mc ms ls Z hK hC hX hR hS hl g1 g2 g3 g4
  obtain ⟨hx, hb, -⟩ := id hK
  obtain ⟨cell, h1, h2, h3, h4, h5⟩ := zT_at (hC.2.2.2.2.2.2.2.2.2.2.2.1.kept hS.2.1) hin
  exact W.iald hx hb h1 h2 h3 h4 h5 rfl rfl hd (kk p e R s m args below meth c sz0 D cA ad H locs cells slots mc ms ls Z hK hC hX hR hS hl g1 g2 g3 g4)
theorem z_slen {l : zL} {Y : zM} {d kc ks pc n : Nat} {lv : List (Nat × Value)} {rest : List Value} {h : Nat → va_E} {Q : zQ} (hd : decode Y.2.1 pc = .ok (.arraylength, 1)) (kk : Zj l Y d kc ks (pc + 1) lv (.int (Int32.ofNat l.2.1) :: rest) n h Q) : Zj l Y d kc ks pc lv (.ref (zB + 500) :: rest) n h Q := by
  intro p e R s m args below meth c sz0 D cA ad H locs cells slots mc ms ls Z hK hC hX hR hS hl g1 g2 g3 g4
  obtain ⟨hx, hb, -⟩ := id hK
  obtain ⟨cell, h1, h2, h3, h4, h5, -⟩ := hC.2.2.2.2.2.2.2.2.2.2.2.1.kept hS.2.1
  exact W.alen hx hb h1 h2 h5 rfl rfl hd (kk p e R s m args below meth c sz0 D cA ad H locs cells slots mc ms ls Z hK hC hX hR hS hl g1 g2 g3 g4)