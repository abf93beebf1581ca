/-! RULES THAT TOUCH THE WORLD: fields, arrays, new cells, constants -/
theorem zR_set {D : va_G} {cA : Nat → ClassId} {sz0 n a : Nat} {ad : Nat → Nat} {h : Nat → va_E} {e : va_E} {H H1 : Heap} (hR : zR D cA sz0 ad n h H) (ha : a < n) (hok : zok n e) (hP : va_P D vwCl ((zw ad cA n h).set a (ad a, ze ad cA e)) H1) (hD : va_D (fun q => sz0 ≤ q) ((zw ad cA n h).set a (ad a, ze ad cA e))) : zR D cA sz0 ad n (va_up h a e) H1 := by
  rw [zw_set ha] at hP hD
  refine ⟨hP, hD, fun k hk => ?_⟩
  by_cases hka : k = a
  · subst hka
    simp only [va_up, if_true]
    exact hok
  · simp only [va_up, if_neg hka]
    exact hR.2.2 k hk
/-- a field of a class by the pool's entry -/
def zF (own : String) (idx ci k : Nat) : Prop := ∃ (C : String) (T : u_T) (N : Nat), vwCl[ci]? = some (C, T, N) ∧ k < N ∧ (Cond.fieldLink own idx (T k).1 (T k).2.1 (T k).2.2.1) ∈ zTs ∧ (∀ w ∈ u_ws C T N, w ∈ zTs)
/-- what a class's fields are, for writing -/
def zG (ci : Nat) (ty0 : Nat → FieldType) : Prop := ∃ (C : String) (T : u_T) (N : Nat), vwCl[ci]? = some (C, T, N) ∧ (∀ k, k < N → parseFieldDescriptor (T k).2.2.1 = some (ty0 k)) ∧ (∀ a, a < N → ∀ b, b < N → a ≠ b → (T a).2.1 ≠ (T b).2.1)
def zFin (ci k : Nat) (b : Bool) : Prop := ∀ (C : String) (T : u_T) (N : Nat), vwCl[ci]? = some (C, T, N) → (T k).2.2.2 = b
def zDecl (ci k : Nat) (own : String) : Prop := ∀ (C : String) (T : u_T) (N : Nat), vwCl[ci]? = some (C, T, N) → (T k).1 = own
theorem z_get {l : zL} {Y : zM} {d kc ks pc n : Nat} {lv : List (Nat × Value)} {rest : List Value} {h : Nat → va_E} {Q : zQ} {a ci k idx : Nat} {fs : List Value} {v : Value} (ha : a < n) (hh : h a = .inr (ci, fs)) (hf : zF Y.1.cls idx ci k) (hv : fs[k]? = some v) (hd : decode Y.2.1 pc = .ok (.getfield idx, 3)) (kk : Zj l Y d kc ks (pc + 3) lv (v :: rest) n h Q) : Zj l Y d kc ks pc lv (.ref a :: rest) n h Q := by
  intro p e R s m args below meth c sz0 D cA ad H locs cells slots mc ms ls Z hK hC hX hR hS hl g1 g2 g3 g4
  obtain ⟨C, T, N, hc, hkN, hlink, hin⟩ := hf
  obtain ⟨hx, hb, -, -, -, hown, -, -, hts, hKK, -⟩ := id hK
  have he : (zw ad cA n h)[a]? = some (ad a, .inr (ci, fs.map (zv ad))) := by rw [zw_get ha, hh]; rfl
  exact va_get (v := zv ad v) hx hb hts hin hown hKK hR.1 a he hc k hkN (hts _ hlink) (fun _ h9 => h9) (by rw [List.getElem?_map, hv]; rfl) hd (kk p e R s m args below meth c sz0 D cA ad H locs cells slots mc ms ls Z hK hC hX hR hS hl g1 g2 g3 g4)
theorem z_put0 {l : zL} {Y : zM} {d kc ks pc n : Nat} {lv : List (Nat × Value)} {rest : List Value} {h : Nat → va_E} {Q : zQ} {a ci k idx : Nat} {fs : List Value} {v : Value} {ty0 : Nat → FieldType} (ha : a < n) (hh : h a = .inr (ci, fs)) (hf : zF Y.1.cls idx ci k) (hg : zG ci ty0) (hfin : zFin ci k false) (hn : ∀ ad, narrow (ty0 k) (zv ad v) = zv ad v ∧ fits (ty0 k) (zv ad v) = true) (hov : zokv n v) (hlen : k < fs.length) (hd : decode Y.2.1 pc = .ok (.putfield idx, 3)) (kk : Zj l Y d kc ks (pc + 3) lv rest n (va_up h a (.inr (ci, fs.set k v))) Q) : Zj l Y d kc ks pc lv (v :: .ref a :: rest) n h Q := by
  intro p e R s m args below meth c sz0 D cA ad H locs cells slots mc ms ls Z hK hC hX hR hS hl g1 g2 g3 g4
  obtain ⟨C, T, N, hc, hkN, hlink, hin⟩ := hf
  obtain ⟨C', T', N', hc', hty, hnm⟩ := hg
  obtain ⟨rfl, rfl, rfl⟩ : C' = C ∧ T' = T ∧ N' = N := by
    have := Option.some.inj (hc'.symm.trans hc)
    exact ⟨congrArg (fun q => q.1) this, congrArg (fun q => q.2.1) this, congrArg (fun q => q.2.2) this⟩
  obtain ⟨hx, hb, -, -, -, hown, -, -, hts, hKK, -⟩ := id hK
  have he : (zw ad cA n h)[a]? = some (ad a, .inr (ci, fs.map (zv ad))) := by rw [zw_get ha, hh]; rfl
  have hok : zok n (.inr (ci, fs.set k v) : va_E) := by
    have h0 : zok n (h a) := hR.2.2 a ha
    rw [hh] at h0
    intro u hu
    rcases List.mem_or_eq_of_mem_set hu with h1 | h1
    · exact h0 u h1
    · rw [h1]; exact hov
  refine va_put (v := zv ad v) hx hb hts hin ty0 hty hnm hown hKK hR.1 hR.2.1 hS a he hc k hkN (hts _ hlink) (fun _ h9 => h9) (hfin _ _ _ hc) (hty k hkN) (hn ad).1 (hn ad).2 (by rw [List.length_map]; exact hlen) hd (fun H1 locs1 hP hD hS1 => ?_)
  rw [← List.map_set] at hP hD
  exact kk p e R s m args below meth c sz0 D cA ad H1 locs1 cells slots mc ms ls Z hK hC hX (zR_set hR ha hok hP hD) hS1 hl g1 g2 g3 g4
theorem z_putF0 {l : zL} {Y : zM} {d kc ks pc n : Nat} {lv : List (Nat × Value)} {rest : List Value} {h : Nat → va_E} {Q : zQ} {a ci k idx : Nat} {fs : List Value} {v : Value} {ty0 : Nat → FieldType} (ha : a < n) (hh : h a = .inr (ci, fs)) (hf : zF Y.1.cls idx ci k) (hg : zG ci ty0) (hfin : zFin ci k true) (hdecl : zDecl ci k Y.1.cls) (hinit : Y.1.name = "<init>") (hn : ∀ ad, narrow (ty0 k) (zv ad v) = zv ad v ∧ fits (ty0 k) (zv ad v) = true) (hov : zokv n v) (hlen : k < fs.length) (hd : decode Y.2.1 pc = .ok (.putfield idx, 3)) (kk : Zj l Y d kc ks (pc + 3) lv rest n (va_up h a (.inr (ci, fs.set k v))) Q) : Zj l Y d kc ks pc lv (v :: .ref a :: rest) n h Q := by
  intro p e R s m args below meth c sz0 D cA ad H locs cells slots mc ms ls Z hK hC hX hR hS hl g1 g2 g3 g4
  obtain ⟨C, T, N, hc, hkN, hlink, hin⟩ := hf
  obtain ⟨C', T', N', hc', hty, hnm⟩ := hg
  obtain ⟨rfl, rfl, rfl⟩ : C' = C ∧ T' = T ∧ N' = N := by
    have := Option.some.inj (hc'.symm.trans hc)
    exact ⟨congrArg (fun q => q.1) this, congrArg (fun q => q.2.1) this, congrArg (fun q => q.2.2) this⟩
  obtain ⟨hx, hb, -, -, -, hown, hi1, -, hts, hKK, -⟩ := id hK
  have he : (zw ad cA n h)[a]? = some (ad a, .inr (ci, fs.map (zv ad))) := by rw [zw_get ha, hh]; rfl
  have hok : zok n (.inr (ci, fs.set k v) : va_E) := by
    have h0 : zok n (h a) := hR.2.2 a ha
    rw [hh] at h0
    intro u hu
    rcases List.mem_or_eq_of_mem_set hu with h1 | h1
    · exact h0 u h1
    · rw [h1]; exact hov
  refine va_putF (v := zv ad v) hx hb hts hin ty0 hty hnm hown hKK hR.1 hR.2.1 hS a he hc k hkN (hts _ hlink) (fun _ h9 => h9) (hfin _ _ _ hc) (hi1 hinit) (hdecl _ _ _ hc) (hty k hkN) (hn ad).1 (hn ad).2 (by rw [List.length_map]; exact hlen) hd (fun H1 locs1 hP hD hS1 => ?_)
  rw [← List.map_set] at hP hD
  exact kk p e R s m args below meth c sz0 D cA ad H1 locs1 cells slots mc ms ls Z hK hC hX (zR_set hR ha hok hP hD) hS1 hl g1 g2 g3 g4
-- arrays
theorem z_iald {l : zL} {Y : zM} {d kc ks pc n : Nat} {lv : List (Nat × Value)} {rest : List Value} {h : Nat → va_E} {Q : zQ} {a N : Nat} {f : Nat → Int32} {i : Int32} (ha : a < n) (hh : h a = .inl (0, N, .inl f)) (hin : vp_in i N) (hd : decode Y.2.1 pc = .ok (.iaload, 1)) (kk : Zj l Y d kc ks (pc + 1) lv (.int (f i.toNatClampNeg) :: rest) n h Q) : Zj l Y d kc ks pc lv (.int i :: .ref a :: rest) n h Q := by
  intro p e R s m args below meth c sz0 D cA ad H locs cells slots mc ms ls Z hK hC hX hR hS hl g1 g2 g3 g4
  obtain ⟨hx, hb, -, -, -, hown, -, -, hts, hKK, -⟩ := id hK
  have he : (zw ad cA n h)[a]? = some (ad a, .inl (cA 0, N, .inl f)) := by rw [zw_get ha, hh]; rfl
  exact va_iald hx hb hKK hR.1 a 0 he rfl hin hd (kk p e R s m args below meth c sz0 D cA ad H locs cells slots mc ms ls Z hK hC hX hR hS hl g1 g2 g3 g4)
theorem z_aald {l : zL} {Y : zM} {d kc ks pc n : Nat} {lv : List (Nat × Value)} {rest : List Value} {h : Nat → va_E} {Q : zQ} {a N q : Nat} {f : Nat → Option Nat} {i : Int32} (ha : a < n) (hh : h a = .inl (3, N, .inr (.inr (.inr (.inr f))))) (hin : vp_in i N) (hq : f i.toNatClampNeg = some q) (hd : decode Y.2.1 pc = .ok (.aaload, 1)) (kk : Zj l Y d kc ks (pc + 1) lv (.ref q :: rest) n h Q) : Zj l Y d kc ks pc lv (.int i :: .ref a :: rest) n h Q := by
  intro p e R s m args below meth c sz0 D cA ad H locs cells slots mc ms ls Z hK hC hX hR hS hl g1 g2 g3 g4
  obtain ⟨hx, hb, -, -, -, hown, -, -, hts, hKK, -⟩ := id hK
  have he : (zw ad cA n h)[a]? = some (ad a, .inl (cA 3, N, .inr (.inr (.inr (.inr (fun j => (f j).map ad)))))) := by rw [zw_get ha, hh]; rfl
  refine va_aldq hx hb hKK hR.1 a 3 he rfl hin hd ?_
  have e1 : va_rf ((f i.toNatClampNeg).map ad) = .ref (ad q) := by rw [hq]; rfl
  show W p l.1 e R s m args below meth c H locs cells slots Z (F0 m (pc + 1) ls (va_rf ((f i.toNatClampNeg).map ad) :: rest.map (zv ad)))
  rw [e1]
  exact kk p e R s m args below meth c sz0 D cA ad H locs cells slots mc ms ls Z hK hC hX hR hS hl g1 g2 g3 g4
theorem z_alen {l : zL} {Y : zM} {d kc ks pc n : Nat} {lv : List (Nat × Value)} {rest : List Value} {h : Nat → va_E} {Q : zQ} {a t N : Nat} {c0 : zArr} {v : Int32} (ha : a < n) (hh : h a = .inl (t, N, c0)) (ht : t < 4) (hv : Int32.ofNat N = v) (hd : decode Y.2.1 pc = .ok (.arraylength, 1)) (kk : Zj l Y d kc ks (pc + 1) lv (.int v :: rest) n h Q) : Zj l Y d kc ks pc lv (.ref a :: rest) n h Q := by
  intro p e R s m args below meth c sz0 D cA ad H locs cells slots mc ms ls Z hK hC hX hR hS hl g1 g2 g3 g4
  obtain ⟨hx, hb, -, -, -, hown, -, -, hts, hKK, -⟩ := id hK
  have he : (zw ad cA n h)[a]? = some (ad a, .inl (cA t, N, zc ad c0)) := by rw [zw_get ha, hh]; rfl
  have hty : ∃ ty, (zt cA)[t]? = some (cA t, ty) := by
    rcases (show t = 0 ∨ t = 1 ∨ t = 2 ∨ t = 3 by omega) with rfl | rfl | rfl | rfl
    · exact ⟨_, rfl⟩
    · exact ⟨_, rfl⟩
    · exact ⟨_, rfl⟩
    · exact ⟨_, rfl⟩
  obtain ⟨ty, hty⟩ := hty
  exact va_alen hx hb hKK hR.1 a t he hty hv hd (kk p e R s m args below meth c sz0 D cA ad H locs cells slots mc ms ls Z hK hC hX hR hS hl g1 g2 g3 g4)
theorem z_iast {l : zL} {Y : zM} {d kc ks pc n : Nat} {lv : List (Nat × Value)} {rest : List Value} {h : Nat → va_E} {Q : zQ} {a N : Nat} {f : Nat → Int32} {i x : Int32} (ha : a < n) (hh : h a = .inl (0, N, .inl f)) (hin : vp_in i N) (hd : decode Y.2.1 pc = .ok (.iastore, 1)) (kk : Zj l Y d kc ks (pc + 1) lv rest n (va_up h a (.inl (0, N, .inl (va_up f i.toNatClampNeg x)))) Q) : Zj l Y d kc ks pc lv (.int x :: .int i :: .ref a :: rest) n h Q := by
  intro p e R s m args below meth c sz0 D cA ad H locs cells slots mc ms ls Z hK hC hX hR hS hl g1 g2 g3 g4
  obtain ⟨hx, hb, -, -, -, hown, -, -, hts, hKK, -⟩ := id hK
  have he : (zw ad cA n h)[a]? = some (ad a, .inl (cA 0, N, .inl f)) := by rw [zw_get ha, hh]; rfl
  refine va_iast hx hb hKK hR.1 hR.2.1 hS a 0 he rfl hin hd (fun H1 locs1 hP hD hS1 => ?_)
  exact kk p e R s m args below meth c sz0 D cA ad H1 locs1 cells slots mc ms ls Z hK hC hX (zR_set hR ha (e := .inl (0, N, .inl (va_up f i.toNatClampNeg x))) trivial hP hD) hS1 hl g1 g2 g3 g4