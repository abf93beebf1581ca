/-! CONSTRUCTORS' CALLS, CATCHING CALLS, MATH, COPIES, WRITES OF FIELDS BY KIND -/
theorem z_objInit {l : zL} {Y : zM} {d kc ks pc n idx a : Nat} {lv : List (Nat × Value)} {rest : List Value} {h : Nat → va_E} {Q : zQ} (h1 : Cond.methodLink Y.1.cls idx Lib.objectInit ∈ zTs) (h2 : Cond.instanceMethod Lib.objectInit ∈ zTs) (h3 : Cond.code Lib.objectInit ⟨#[0xb1]⟩ 1 none ∈ zTs) (hcat : (rest.map fun v => v.category).sum ≤ 8) (hd : decode Y.2.1 pc = .ok (.invokespecial idx, 3)) (kk : Zj l Y d kc ks (pc + 3) lv rest n h Q) : Zj l Y d kc ks pc lv (.ref a :: rest) n h Q := by
  intro p e R s m args below meth c sz0 D cA ad H locs cells slots mc ms ls Z hK hC hX hR hS hl g1 g2 g3 g4
  obtain ⟨hx, hb, hml, hrt, hlocks, hown, hinit, htab, hts, hKK, hsz, hfr, hlo, hst⟩ := id hK
  have hlo' : 54 ≤ R.locals := Nat.le_trans (Nat.le_add_left 54 (40 * d)) hlo
  refine W.objInit hx hb hown (hts _ h1) (hts _ h2) (hts _ h3) (g := F0 m pc ls (.ref (ad a) :: rest.map (zv ad))) rfl (by rw [hml]; exact hl.1) rfl hd (by omega) ?_ (kk p e R s m args below meth c sz0 D cA ad H locs cells slots mc ms ls Z hK hC hX hR hS hl g1 g2 g3 g4)
  show 2 * 0 + _ + 12 ≤ _
  rw [zv_cats]
  refine Nat.le_trans ?_ hlo'
  generalize (rest.map fun v => v.category).sum = z at hcat
  show 0 + z + 12 ≤ 54
  have : z + 12 ≤ 20 := Nat.add_le_add_right hcat 12
  rw [Nat.zero_add]
  exact Nat.le_trans this (Nat.le_of_ble_eq_true rfl)
theorem z_behindI {l : zL} {Y : zM} {d kc ks k1 s1 k2 s2 pc n : Nat} {lv : List (Nat × Value)} {rest st : List Value} {Q Q' : zQ}
    {p : Program} {e : Env} {R : Room} {s : State} {m : MethodId} {args : Array Value} {below : List Frame} {meth : Method} {c : Code} {sz0 : Nat} {D : va_G} {cA : Nat → ClassId} {ad : Nat → Nat} {H : Heap} {locs : List Loc} {cells slots mc ms : Nat} {ls : Array Slot} {Z : State → Prop} {a : Array Value}
    (hk : k1 + k2 ≤ kc) (hs : s1 + s2 ≤ ks) (hlv : ∀ q ∈ lv, zokv n q.2) (hrest : ∀ v ∈ rest, zokv n v) (kr : ∀ r n' h', Q' (.inl r) n' h' → r = none ∧ Zj l Y d k2 s2 (pc + 3) lv rest n' h' Q)
    (hK : zK Y d l.1 p R s m args meth c sz0 D cA) (hC : zC l sz0 ad s s.heap) (hX : zX Y p l.1 e R s m args below meth c sz0 D cA ad n mc ms Z Q) (hS : va_S (fun q => sz0 ≤ q) s.heap H locs) (hl : lv_has ls Y.2.2.1 (zlv ad lv))
    (g1 : cells + kc ≤ mc) (g2 : slots + ks ≤ ms) (g3 : mc ≤ R.cells) (g4 : ms ≤ R.slots)
    (hr : va_Run p l.1 e R s m args below meth c H locs cells slots k1 s1 (F0 m pc ls (st.map (zv ad))) (rest.map (zv ad)) (zQc D cA sz0 ad n Q' a) (fun q => sz0 ≤ q)) : W p l.1 e R s m args below meth c H locs cells slots Z (F0 m pc ls (st.map (zv ad))) := by
  intro T hT X
  obtain ⟨v, st₀, t, T', L, h0, X', hL, e1, e2, ⟨ad', n', h', r, hv, hg, hq, hR', hF⟩, go⟩ := hr T hT X
  obtain ⟨k1', k2', k3⟩ := vx_keep h0 e1 hS (fun q _ h => h) (fun q h => h) hL hF
  obtain ⟨hn, kk⟩ := kr r n' h' hq
  subst hn
  have hv' : v = none := by cases hv; rfl
  subst hv'
  obtain ⟨t2, a1, b1⟩ := kk p e R s m args below meth c sz0 D cA ad' T'.heap (locs ++ L) (cells + k1) (slots + s1) mc ms ls Z hK (hC.ag hg) (hX.ag hg) (by rw [e1]; exact hR') k3 (by rw [zlv_ag hg hlv]; exact hl) (by omega) (by omega) g3 g4 T' rfl X'
  rw [zvs_ag hg hrest] at a1
  exact ⟨t2, go t2 a1, b1⟩
theorem z_callI {l : zL} {Y Y' : zM} {d kc ks k1 s1 k2 s2 pc n idx k : Nat} {lv : List (Nat × Value)} {rest As : List Value} {h : Nat → va_E} {Q : zQ} {b : Nat} (Q' : zQ) (hY : zY Y' k) (hi : Cond.instanceMethod Y'.1 ∈ zTs) (hnm : Y'.1.name = "<init>") (hrn : Y'.2.2.2.1 = none) (hh : Y'.2.2.2.2 = []) (hnL : Y'.2.2.1 ≤ 20) (hlink : Cond.methodLink Y.1.cls idx Y'.1 ∈ zTs) (hlen : As.length = k) (hsl : (lg_sl (.ref b :: As)).length ≤ Y'.2.2.1) (hcat : (rest.map fun v => v.category).sum ≤ 8) (hd : decode Y.2.1 pc = .ok (.invokespecial idx, 3)) (hno : ∀ E n' h', ¬ Q' (.inr E) n' h')
    (body : Zj l Y' d k1 s1 0 (lv_args 0 (.ref b :: As)) [] n h Q') (hk : k1 + k2 ≤ kc) (hs : s1 + s2 ≤ ks) (hlv : ∀ q ∈ lv, zokv n q.2) (hrest : ∀ v ∈ rest, zokv n v)
    (kr : ∀ r n' h', Q' (.inl r) n' h' → r = none ∧ Zj l Y (d + 1) k2 s2 (pc + 3) lv rest n' h' Q) : Zj l Y (d + 1) kc ks pc lv (As.reverse ++ .ref b :: rest) n h Q := by
  intro p e R s m args below meth c sz0 D cA ad H locs cells slots mc ms ls Z hK hC hX hR hS hl g1 g2 g3 g4
  obtain ⟨hx, hbb, hml, hrt, hlocks, hown, hinit, htab, hts, hKK, hsz, hfr, hlo, hst⟩ := id hK
  obtain ⟨y1, y2, y3, y4⟩ := hY
  have hM := z_met (D := D) (cA := cA) (sz0 := sz0) (ad := ad) y1 hh hsl hst hno body
  have hw : zws Y' = Cond.code Y'.1 Y'.2.1 Y'.2.2.1 none :: zTs := by unfold zws zcode; rw [if_pos hh, hrn]
  have hr := va_runI (cells := cells) (slots := slots) (below := below) (e := e) (p := p) (meth := meth) (locs := locs) (As := As.map (zv ad)) (rest := rest.map (zv ad)) (g := F0 m pc ls ((As.reverse ++ .ref b :: rest).map (zv ad))) (b := ad b) (index := idx) (H := H) (S := ⟨hx, hbb, hml, hown, hts⟩) (hM := hM)
    (cw := cwI (own := Y.1.cls) (R := R) k hts (zGoodws y2) hw rfl rfl (hts _ y3) (hts _ hlink) (hts _ hi) hnm y4 (zrm_ok hnL hfr hlo))
    (hp := ⟨zPc_blind, fun U hU hW => by
      exact zPc_of (As := .ref b :: As) hKK hC hR hS hsz U hU hW⟩) rfl (by rw [List.length_map]; exact hlen) hl.1 (by simp only [List.map_append, List.map_reverse, List.map_cons]; rfl) (by
      have := lv_room (m := m) (pc := pc) (ls := ls) (rest := ((As.reverse ++ .ref b :: rest).map (zv ad))) (st := rest.map (zv ad)) (by rw [zv_cats]; exact hcat)
      exact this) hd ⟨by omega, by omega⟩
  exact z_behindI hk hs hlv hrest kr hK hC hX hS hl g1 g2 g3 g4 hr
theorem z_callIN {l : zL} {Y Y' : zM} {d kc ks k1 s1 k2 s2 pc n idx k : Nat} {host : String} {lv : List (Nat × Value)} {rest As : List Value} {h : Nat → va_E} {Q : zQ} {b : Nat} (Q' : zQ) (hY : zY Y' k) (hi : Cond.instanceMethod Y'.1 ∈ zTs) (hnm : Y'.1.name = "<init>") (hrn : Y'.2.2.2.1 = none) (hh : Y'.2.2.2.2 = []) (hnL : Y'.2.2.1 ≤ 20) (hlink : Cond.methodLinkNest Y.1.cls idx Y'.1 host ∈ kN) (hlen : As.length = k) (hsl : (lg_sl (.ref b :: As)).length ≤ Y'.2.2.1) (hcat : (rest.map fun v => v.category).sum ≤ 8) (hd : decode Y.2.1 pc = .ok (.invokespecial idx, 3)) (hno : ∀ E n' h', ¬ Q' (.inr E) n' h')
    (body : Zj l Y' d k1 s1 0 (lv_args 0 (.ref b :: As)) [] n h Q') (hk : k1 + k2 ≤ kc) (hs : s1 + s2 ≤ ks) (hlv : ∀ q ∈ lv, zokv n q.2) (hrest : ∀ v ∈ rest, zokv n v)
    (kr : ∀ r n' h', Q' (.inl r) n' h' → r = none ∧ Zj l Y (d + 1) k2 s2 (pc + 3) lv rest n' h' Q) : Zj l Y (d + 1) kc ks pc lv (As.reverse ++ .ref b :: rest) n h Q := by
  intro p e R s m args below meth c sz0 D cA ad H locs cells slots mc ms ls Z hK hC hX hR hS hl g1 g2 g3 g4
  obtain ⟨hx, hbb, hml, hrt, hlocks, hown, hinit, htab, hts, hKK, hsz, hfr, hlo, hst⟩ := id hK
  obtain ⟨y1, y2, y3, y4⟩ := hY
  have hM := z_met (D := D) (cA := cA) (sz0 := sz0) (ad := ad) y1 hh hsl hst hno body
  have hw : zws Y' = Cond.code Y'.1 Y'.2.1 Y'.2.2.1 none :: zTs := by unfold zws zcode; rw [if_pos hh, hrn]
  have hr := va_runIN (cells := cells) (slots := slots) (below := below) (e := e) (p := p) (meth := meth) (locs := locs) (As := As.map (zv ad)) (rest := rest.map (zv ad)) (g := F0 m pc ls ((As.reverse ++ .ref b :: rest).map (zv ad))) (b := ad b) (index := idx) (H := H) (S := ⟨hx, hbb, hml, hown, hts⟩) (hM := hM)
    (cw := ⟨va_cnB (own := Y.1.cls) (R := R) (host := host) k hts (zGoodws y2) hw rfl rfl (hC.2.2.2.2.2.1 _ hlink) (hts _ y3) y4 (zrm_ok hnL hfr hlo), hnm, hts _ hi⟩)
    (hp := ⟨zPc_blind, fun U hU hW => by
      exact zPc_of (As := .ref b :: As) hKK hC hR hS hsz U hU hW⟩) rfl (by rw [List.length_map]; exact hlen) hl.1 (by simp only [List.map_append, List.map_reverse, List.map_cons]; rfl) (by
      have := lv_room (m := m) (pc := pc) (ls := ls) (rest := ((As.reverse ++ .ref b :: rest).map (zv ad))) (st := rest.map (zv ad)) (by rw [zv_cats]; exact hcat)
      exact this) hd ⟨by omega, by omega⟩
  exact z_behindI hk hs hlv hrest kr hK hC hX hS hl g1 g2 g3 g4 hr
/-- a handler 'astore k; iconst v; ireturn' -/
def zH (Y : zM) (hpc : Nat) (v : Int32) : Prop := ∃ (len : Nat) (i : Int), Y.2.2.2.1 = some .int ∧ ((∃ k : Fin 4, (k : Nat) < Y.2.2.1 ∧ decode Y.2.1 hpc = .ok (.astore_n k, 1) ∧ len = 1) ∨ (∃ k : Nat, k < Y.2.2.1 ∧ decode Y.2.1 hpc = .ok (.astore k, 2) ∧ len = 2)) ∧ decode Y.2.1 (hpc + len) = .ok (.iconst i, 1) ∧ Int32.ofInt i = v ∧ decode Y.2.1 (hpc + len + 1) = .ok (.ireturn, 1)
/-- E is caught here, at pc, and v answered -/
def zCatch (Y : zM) (pc : Nat) (E : String) (v : Int32) : Prop := ∃ (pre : List ExceptionTableEntry) (x : ExceptionTableEntry) (suf : List ExceptionTableEntry), tableOf Y.2.2.2.2 = pre ++ x :: suf ∧ (∀ z ∈ pre, covers z pc = false ∨ (z.catchType ≠ 0 ∧ ∃ nm : String, Cond.classLink Y.1.cls z.catchType nm ∈ zTs ∧ (E, nm) ∈ kX)) ∧ covers x pc = true ∧ x.catchType ≠ 0 ∧ Cond.classLink Y.1.cls x.catchType E ∈ zTs ∧ Cond.castable E E ∈ kN ∧ zH Y x.handlerPc v
theorem z_tryV {l : zL} {Y Y' : zM} {d kc ks k1 s1 k2 s2 pc n idx k : Nat} {lv : List (Nat × Value)} {rest As : List Value} {h : Nat → va_E} {Q : zQ} {b ci : Nat} {fs : List Value} (Q' : zQ) (hY : zY Y' k) (hYv : zYv Y') (hh : Y'.2.2.2.2 = []) (hnL : Y'.2.2.1 ≤ 20) (hlink : Cond.methodLink Y.1.cls idx Y'.1 ∈ zTs) (hb : b < n) (hhb : h b = .inr (ci, fs)) (hci : (vwCl[ci]?).map (fun q => q.1) = some Y'.1.cls) (hlen : As.length = k) (hsl : (lg_sl (.ref b :: As)).length ≤ Y'.2.2.1) (hcat : (rest.map fun v => v.category).sum ≤ 8) (hd : decode Y.2.1 pc = .ok (.invokevirtual idx, 3))
    (body : Zj l Y' d k1 s1 0 (lv_args 0 (.ref b :: As)) [] n h Q') (hk : k1 + k2 ≤ kc) (hs : s1 + s2 ≤ ks)
    (kr : ∀ r n' h', Q' (.inl r) n' h' → n' = n ∧ Zj l Y (d + 1) k2 s2 (pc + 3) lv (r.toList ++ rest) n h' Q)
    (kx : ∀ E n' h', Q' (.inr E) n' h' → n' = n ∧ ∃ v, zCatch Y pc E v ∧ Q (.inl (some (.int v))) n h') : Zj l Y (d + 1) kc ks pc lv (As.reverse ++ .ref b :: rest) n h Q := by
  intro p e R s m args below meth c sz0 D cA ad H locs cells slots mc ms ls Z hK hC hX hR hS hl g1 g2 g3 g4
  obtain ⟨hx, hbb, hml, hrt, hlocks, hown, hinit, htab, hts, hKK, hsz, hfr, hlo, hst⟩ := id hK
  obtain ⟨y1, y2, y3, y4⟩ := hY
  obtain ⟨q, hq, hq1⟩ : ∃ q, vwCl[ci]? = some q ∧ q.1 = Y'.1.cls := by
    cases hq : vwCl[ci]? with
    | none => rw [hq] at hci; cases hci
    | some q => rw [hq] at hci; exact ⟨q, rfl, Option.some.inj hci⟩
  have he : (zw ad cA n h)[b]? = some (ad b, .inr (ci, fs.map (zv ad))) := by rw [zw_get hb, hhb]; rfl
  have hM := z_vmet (D := D) (cA := cA) (sz0 := sz0) (ad := ad) y1 hsl hst body
  have hw : zws Y' = Cond.code Y'.1 Y'.2.1 Y'.2.2.1 Y'.2.2.2.1 :: zTs := by unfold zws zcode; rw [if_pos hh]
  have hrv := va_recv hKK hR.1 hq he
  rw [hq1] at hrv
  have hr := vx_runV (cells := cells) (slots := slots) (below := below) (e := e) (p := p) (meth := meth) (locs := locs) (As := As.map (zv ad)) (rest := rest.map (zv ad)) (g := F0 m pc ls ((As.reverse ++ .ref b :: rest).map (zv ad))) (C := Y'.1.cls) (b := ad b) (index := idx) (H := H) (S := ⟨hx, hbb, hml, hown, hts⟩) (hM := hM)
    (cw := cwV (own := Y.1.cls) (R := R) k hts (zGood fun w hw1 => by
      rcases List.mem_append.mp hw1 with h1 | h1
      · simp only [List.mem_cons, List.not_mem_nil, or_false] at h1
        rcases h1 with rfl | rfl | rfl | rfl
        · exact hlink
        · exact hYv.1
        · exact hYv.2
        · exact y3
      · exact (zGoodws y2 w h1).1) hw rfl rfl ⟨rfl, y4⟩ (zrm_ok hnL hfr hlo))
    (hp := ⟨zPc_blind, hrv, fun U hU hW => by
      exact zPc_of (As := .ref b :: As) hKK hC hR hS hsz U hU hW⟩) rfl (by rw [List.length_map]; exact hlen) hl.1 (by simp only [List.map_append, List.map_reverse, List.map_cons]; rfl) (by
      have := lv_room (m := m) (pc := pc) (ls := ls) (rest := ((As.reverse ++ .ref b :: rest).map (zv ad))) (st := rest.map (zv ad)) (by rw [zv_cats]; exact hcat)
      exact this) hd ⟨by omega, by omega⟩
  intro T hT X
  rcases hr T hT X with ⟨v, st₀, t, T', L, h0, X', hL, e1, e2, ⟨ad', n', h', r, hv, hg, hq, hR', hF⟩, go⟩ | ⟨q, st₀, t, T', L, E, ce, h0, X', hL, e1, e2, ⟨ad', n', h', hg, hq, hR', hF⟩, hce, hcv, hcl, go⟩
  · obtain ⟨k1', k2', k3⟩ := vx_keep h0 e1 hS (fun q _ h => h) (fun q h => h) hL hF
    obtain ⟨hn, kk⟩ := kr r n' h' hq
    subst hn
    have ha := hg.2.2 rfl
    subst ha
    have hv' : v = r.map (zv ad') := by cases hv; rfl
    subst hv'
    rw [z_stk] at go
    obtain ⟨t2, a1, b1⟩ := kk p e R s m args below meth c sz0 D cA ad' T'.heap (locs ++ L) (cells + k1) (slots + s1) mc ms ls Z hK hC hX (by rw [e1]; exact hR') k3 hl (by omega) (by omega) g3 g4 T' rfl X'
    exact ⟨t2, go t2 a1, b1⟩
  · obtain ⟨k1', k2', k3⟩ := vx_keep h0 e1 hS (fun q _ h => h) (fun q h => h) hL hF
    obtain ⟨hn, v, hc, hq2⟩ := kx E n' h' hq
    subst hn
    have ha := hg.2.2 rfl
    subst ha
    obtain ⟨pre, x, suf, c1, c2, c3, c4, c5, c6, len, i, hri, hst1, hic, hv, hir⟩ := hc
    have hR2 : zR D cA sz0 ad' n' h' T'.heap := by rw [e1]; exact hR'
    have fin : ∀ ls2 : Array Slot, W p l.1 e R s m args below meth c T'.heap (locs ++ L) (cells + k1) (slots + s1) Z (F0 m (x.handlerPc + len) ls2 []) := fun ls2 =>
      lv_iconst hx hbb hic hv (W.widen (by omega) (by omega) (hX.1 ad' n' h' (some (.int v)) T'.heap (locs ++ L) _ ls2 zag_rf hq2 hR2 k3 (Or.inr (Or.inl ⟨v, .int, rfl, hri, rfl, hir⟩))))
    have hw2 : vx_W p l.1 e R s m args below meth c T'.heap (locs ++ L) (cells + k1) (slots + s1) Z (F0 m pc ls (rest.map (zv ad'))) q := by
      refine vx_catch (name := E) hown pre x suf (htab.trans c1) (fun z hz => ?_) c3 c4 (hts _ c5) (zKN hC _ c6) (by rw [e1]; exact hce) hcv hcl ?_
      · rcases c2 z hz with h1 | ⟨h1, nm, h2, h3⟩
        · exact Or.inl h1
        · exact Or.inr ⟨h1, nm, hts _ h2, hC.2.2.2.2.2.2.2.2.2.1 _ h3⟩
      · rcases hst1 with ⟨kf, h1, h2, rfl⟩ | ⟨kf, h1, h2, rfl⟩
        · exact lv_astore_n hx hbb h2 rfl hl h1 rfl (fun ls2 _ => fin ls2)
        · exact lv_astore hx hbb h2 hl h1 rfl (fun ls2 _ => fin ls2)
    obtain ⟨t2, a1, b1⟩ := hw2 T' rfl X'
    exact ⟨t2, go.trans a1, b1⟩
-- the JDK's own
theorem z_mmax {l : zL} {Y : zM} {d kc ks pc n idx : Nat} {lv : List (Nat × Value)} {rest : List Value} {h : Nat → va_E} {Q : zQ} {x y : Int32} (h1 : Cond.methodLink Y.1.cls idx Lib.Math.max.name ∈ zTs) (h2 : Cond.static Lib.Math.max.name ∈ zTs) (h3 : Cond.initialized "java/lang/Math" ∈ zTs) (h4 : Cond.code Lib.Math.max.name Lib.Math.max.code 2 (some .int) ∈ zTs) (hcat : (rest.map fun v => v.category).sum ≤ 8) (hd : decode Y.2.1 pc = .ok (.invokestatic idx, 3)) (kk : Zj l Y d kc ks (pc + 3) lv (.int (if x < y then y else x) :: rest) n h Q) : Zj l Y d kc ks pc lv (.int y :: .int x :: rest) n h Q := by
  intro p e R s m args below meth c sz0 D cA ad H locs cells slots mc ms ls Z hK hC hX hR hS hl g1 g2 g3 g4
  obtain ⟨hx, hb, hml, hrt, hlocks, hown, hinit, htab, hts, hKK, hsz, hfr, hlo, hst⟩ := id hK
  have hlo' : 54 ≤ R.locals := Nat.le_trans (Nat.le_add_left 54 (40 * d)) hlo
  exact va_mmax hx hb (by rw [hl.1, hml]) hown (hts _ h1) (hts _ h2) (hts _ h3) (hts _ h4) (by omega) (by rw [zv_cats]; exact Nat.le_trans (Nat.add_le_add_right hcat 13) (Nat.le_trans (Nat.le_of_ble_eq_true rfl) hlo')) (by omega) (by omega) hd (kk p e R s m args below meth c sz0 D cA ad H locs cells slots mc ms ls Z hK hC hX hR hS hl g1 g2 g3 g4)
theorem z_mmin {l : zL} {Y : zM} {d kc ks pc n idx : Nat} {lv : List (Nat × Value)} {rest : List Value} {h : Nat → va_E} {Q : zQ} {x y : Int32} (h1 : Cond.methodLink Y.1.cls idx Lib.Math.min.name ∈ zTs) (h2 : Cond.static Lib.Math.min.name ∈ zTs) (h3 : Cond.initialized "java/lang/Math" ∈ zTs) (h4 : Cond.code Lib.Math.min.name Lib.Math.min.code 2 (some .int) ∈ zTs) (hcat : (rest.map fun v => v.category).sum ≤ 8) (hd : decode Y.2.1 pc = .ok (.invokestatic idx, 3)) (kk : Zj l Y d kc ks (pc + 3) lv (.int (if y < x then y else x) :: rest) n h Q) : Zj l Y d kc ks pc lv (.int y :: .int x :: rest) n h Q := by
  intro p e R s m args below meth c sz0 D cA ad H locs cells slots mc ms ls Z hK hC hX hR hS hl g1 g2 g3 g4
  obtain ⟨hx, hb, hml, hrt, hlocks, hown, hinit, htab, hts, hKK, hsz, hfr, hlo, hst⟩ := id hK
  have hlo' : 54 ≤ R.locals := Nat.le_trans (Nat.le_add_left 54 (40 * d)) hlo
  exact va_mmin hx hb (by rw [hl.1, hml]) hown (hts _ h1) (hts _ h2) (hts _ h3) (hts _ h4) (by omega) (by rw [zv_cats]; exact Nat.le_trans (Nat.add_le_add_right hcat 13) (Nat.le_trans (Nat.le_of_ble_eq_true rfl) hlo')) (by omega) (by omega) hd (kk p e R s m args below meth c sz0 D cA ad H locs cells slots mc ms ls Z hK hC hX hR hS hl g1 g2 g3 g4)
theorem z_mabs {l : zL} {Y : zM} {d kc ks pc n idx : Nat} {lv : List (Nat × Value)} {rest : List Value} {h : Nat → va_E} {Q : zQ} {x : Int32} (h1 : Cond.methodLink Y.1.cls idx Lib.Math.abs.name ∈ zTs) (h2 : Cond.static Lib.Math.abs.name ∈ zTs) (h3 : Cond.initialized "java/lang/Math" ∈ zTs) (h4 : Cond.code Lib.Math.abs.name Lib.Math.abs.code 1 (some .int) ∈ zTs) (hcat : (rest.map fun v => v.category).sum ≤ 8) (hd : decode Y.2.1 pc = .ok (.invokestatic idx, 3)) (kk : Zj l Y d kc ks (pc + 3) lv (.int (if 0 ≤ x then x else 0 - x) :: rest) n h Q) : Zj l Y d kc ks pc lv (.int x :: rest) n h Q := by
  intro p e R s m args below meth c sz0 D cA ad H locs cells slots mc ms ls Z hK hC hX hR hS hl g1 g2 g3 g4
  obtain ⟨hx, hb, hml, hrt, hlocks, hown, hinit, htab, hts, hKK, hsz, hfr, hlo, hst⟩ := id hK
  have hlo' : 54 ≤ R.locals := Nat.le_trans (Nat.le_add_left 54 (40 * d)) hlo
  exact va_mabs hx hb (by rw [hl.1, hml]) hown (hts _ h1) (hts _ h2) (hts _ h3) (hts _ h4) (by omega) (by
    rw [zv_cats]
    generalize (rest.map fun v => v.category).sum = z at hcat
    omega) (by omega) (by omega) hd (kk p e R s m args below meth c sz0 D cA ad H locs cells slots mc ms ls Z hK hC hX hR hS hl g1 g2 g3 g4)
theorem z_copyi {l : zL} {Y : zM} {d kc ks pc n idx : Nat} {lv : List (Nat × Value)} {rest : List Value} {h : Nat → va_E} {Q : zQ} {a0 a n0 n1 : Nat} {f g : Nat → Int32} {sp dp cnt : Int32} (w1 : Cond.methodLink Y.1.cls idx arraycopyName ∈ zTs) (w2 : Cond.native arraycopyName ∈ zTs) (w3 : Cond.static arraycopyName ∈ zTs) (w4 : Cond.initialized "java/lang/System" ∈ zTs) (ha0 : a0 < n) (hh0 : h a0 = .inl (0, n0, .inl f)) (ha : a < n) (hh : h a = .inl (0, n1, .inl g)) (h1 : ¬ sp < 0) (h2 : ¬ dp < 0) (h3 : ¬ cnt < 0) (h4 : sp.toNatClampNeg + cnt.toNatClampNeg ≤ n0) (h5 : dp.toNatClampNeg + cnt.toNatClampNeg ≤ n1) (hcat : (rest.map fun v => v.category).sum ≤ 8) (hd : decode Y.2.1 pc = .ok (.invokestatic idx, 3)) (kk : Zj l Y d kc ks (pc + 3) lv rest n (va_up h a (.inl (0, n1, .inl (va_cpy f g sp.toNatClampNeg dp.toNatClampNeg cnt.toNatClampNeg)))) Q) : Zj l Y d kc ks pc lv (.int cnt :: .int dp :: .ref a :: .int sp :: .ref a0 :: rest) n h Q := by
  intro p e R s m args below meth c sz0 D cA ad H locs cells slots mc ms ls Z hK hC hX hR hS hl g1 g2 g3 g4
  obtain ⟨hx, hb, hml, hrt, hlocks, hown, hinit, htab, hts, hKK, hsz, hfr, hlo, hst⟩ := id hK
  have hlo' : 54 ≤ R.locals := Nat.le_trans (Nat.le_add_left 54 (40 * d)) hlo
  have he0 : (zw ad cA n h)[a0]? = some (ad a0, .inl (cA 0, n0, .inl f)) := by rw [zw_get ha0, hh0]; rfl
  have he : (zw ad cA n h)[a]? = some (ad a, .inl (cA 0, n1, .inl g)) := by rw [zw_get ha, hh]; rfl
  refine va_copyi hx hb (by rw [hl.1, hml]) hown (hts _ w1) (hts _ w2) (hts _ w3) (hts _ w4) hKK hR.1 hR.2.1 hS a0 a 0 0 he0 he rfl rfl rfl h1 h2 h3 h4 h5 (fun i _ => rfl) (by omega) (by rw [zv_cats]; exact Nat.le_trans (Nat.add_le_add_right hcat _) (Nat.le_trans (Nat.le_of_ble_eq_true rfl) hlo')) hd (fun H1 locs1 hP hD hS1 => ?_)
  exact kk p e R s m args below meth c sz0 D cA ad H1 locs1 cells slots mc ms ls Z hK hC hX (zR_set hR ha (e := .inl (0, n1, .inl (va_cpy f g sp.toNatClampNeg dp.toNatClampNeg cnt.toNatClampNeg))) trivial hP hD) hS1 hl g1 g2 g3 g4
-- writes of fields, by kind
theorem z_puti {l : zL} {Y : zM} {d kc ks pc n : Nat} {lv : List (Nat × Value)} {rest : List Value} {h : Nat → va_E} {Q : zQ} {a ci k idx : Nat} {fs : List Value} {x : Int32} {ty0 : Nat → FieldType} (ha : a < n) (hh : h a = .inr (ci, fs)) (hf : zF Y.1.cls idx ci k) (hg : zG ci ty0) (hty : ty0 k = .int) (hfin : zFin ci k false) (hlen : k < fs.length) (hd : decode Y.2.1 pc = .ok (.putfield idx, 3)) (kk : Zj l Y d kc ks (pc + 3) lv rest n (va_up h a (.inr (ci, fs.set k (.int x)))) Q) : Zj l Y d kc ks pc lv (.int x :: .ref a :: rest) n h Q :=
  z_put0 ha hh hf hg hfin (fun ad => by rw [hty]; exact ⟨rfl, rfl⟩) trivial hlen hd kk
theorem z_putz {l : zL} {Y : zM} {d kc ks pc n : Nat} {lv : List (Nat × Value)} {rest : List Value} {h : Nat → va_E} {Q : zQ} {a ci k idx : Nat} {fs : List Value} {x : Int32} {ty0 : Nat → FieldType} (hx : x = 0 ∨ x = 1) (ha : a < n) (hh : h a = .inr (ci, fs)) (hf : zF Y.1.cls idx ci k) (hg : zG ci ty0) (hty : ty0 k = .boolean) (hfin : zFin ci k false) (hlen : k < fs.length) (hd : decode Y.2.1 pc = .ok (.putfield idx, 3)) (kk : Zj l Y d kc ks (pc + 3) lv rest n (va_up h a (.inr (ci, fs.set k (.int x)))) Q) : Zj l Y d kc ks pc lv (.int x :: .ref a :: rest) n h Q :=
  z_put0 ha hh hf hg hfin (fun ad => by rw [hty]; rcases hx with rfl | rfl <;> exact ⟨rfl, rfl⟩) trivial hlen hd kk
theorem z_putr {l : zL} {Y : zM} {d kc ks pc n : Nat} {lv : List (Nat × Value)} {rest : List Value} {h : Nat → va_E} {Q : zQ} {a ci k idx : Nat} {fs : List Value} {q : Nat} {C : String} {ty0 : Nat → FieldType} (ha : a < n) (hh : h a = .inr (ci, fs)) (hf : zF Y.1.cls idx ci k) (hg : zG ci ty0) (hty : ty0 k = .object C) (hfin : zFin ci k false) (hov : q < n ∨ zB ≤ q) (hlen : k < fs.length) (hd : decode Y.2.1 pc = .ok (.putfield idx, 3)) (kk : Zj l Y d kc ks (pc + 3) lv rest n (va_up h a (.inr (ci, fs.set k (.ref q)))) Q) : Zj l Y d kc ks pc lv (.ref q :: .ref a :: rest) n h Q :=
  z_put0 ha hh hf hg hfin (fun ad => by rw [hty]; exact ⟨rfl, rfl⟩) hov hlen hd kk
theorem z_putN {l : zL} {Y : zM} {d kc ks pc n : Nat} {lv : List (Nat × Value)} {rest : List Value} {h : Nat → va_E} {Q : zQ} {a ci k idx : Nat} {fs : List Value} {C : String} {ty0 : Nat → FieldType} (ha : a < n) (hh : h a = .inr (ci, fs)) (hf : zF Y.1.cls idx ci k) (hg : zG ci ty0) (hty : ty0 k = .object C) (hfin : zFin ci k false) (hlen : k < fs.length) (hd : decode Y.2.1 pc = .ok (.putfield idx, 3)) (kk : Zj l Y d kc ks (pc + 3) lv rest n (va_up h a (.inr (ci, fs.set k .null))) Q) : Zj l Y d kc ks pc lv (.null :: .ref a :: rest) n h Q :=
  z_put0 ha hh hf hg hfin (fun ad => by rw [hty]; exact ⟨rfl, rfl⟩) trivial hlen hd kk
theorem z_putFr {l : zL} {Y : zM} {d kc ks pc n : Nat} {lv : List (Nat × Value)} {rest : List Value} {h : Nat → va_E} {Q : zQ} {a ci k idx : Nat} {fs : List Value} {q : Nat} {ty0 : Nat → FieldType} (ha : a < n) (hh : h a = .inr (ci, fs)) (hf : zF Y.1.cls idx ci k) (hg : zG ci ty0) (hty : (∃ C, ty0 k = .object C) ∨ ∃ t, ty0 k = .array t) (hfin : zFin ci k true) (hdecl : zDecl ci k Y.1.cls) (hinit : Y.1.name = "<init>") (hov : q < n ∨ zB ≤ q) (hlen : k < fs.length) (hd : decode Y.2.1 pc = .ok (.putfield idx, 3)) (kk : Zj l Y d kc ks (pc + 3) lv rest n (va_up h a (.inr (ci, fs.set k (.ref q)))) Q) : Zj l Y d kc ks pc lv (.ref q :: .ref a :: rest) n h Q :=
  z_putF0 ha hh hf hg hfin hdecl hinit (fun ad => by rcases hty with ⟨C, e⟩ | ⟨t, e⟩ <;> rw [e] <;> exact ⟨rfl, rfl⟩) hov hlen hd kk
