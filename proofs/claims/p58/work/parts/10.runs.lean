/-! CALLS: the callee's walk is run, the caller goes on in the world that it leaves -/
theorem zrm_ok {d k1 s1 nL : Nat} {R : Room} (hn : nL ≤ 20) (h1 : d + 1 + 2 ≤ R.frames) (h2 : 40 * (d + 1) + 54 ≤ R.locals) : (zrm d k1 s1).frames + 1 ≤ R.frames ∧ 8 + (nL + 11) + (zrm d k1 s1).locals ≤ R.locals := by
  refine ⟨?_, ?_⟩
  · show d + 2 + 1 ≤ _
    exact Nat.le_trans (Nat.le_of_eq (by rw [Nat.add_right_comm])) h1
  · show 8 + (nL + 11) + (40 * d + 54) ≤ _
    have h3 : 8 + (nL + 11) ≤ 40 := by omega
    have h4 : 40 * (d + 1) + 54 = 40 + (40 * d + 54) := by rw [Nat.mul_add, Nat.add_right_comm]; exact Nat.add_comm _ _
    rw [h4] at h2
    exact Nat.le_trans (Nat.add_le_add_right h3 _) h2
theorem zGood {L : List Cond} (h : ∀ w ∈ L, w ∈ zTs) : GoodIn zTs L := fun w hw => ⟨h w hw, good_of_word (zTs_good w (h w hw))⟩
theorem zGoodws {Y : zM} (h : zcode Y ∈ zTs) : GoodIn zTs (zws Y) := zGood fun w hw => by
  rcases List.mem_cons.mp hw with rfl | hw
  · exact h
  · exact hw
/-- a method as it can be called: its own words -/
def zY (Y : zM) (k : Nat) : Prop := plainName Y.1.cls = true ∧ zcode Y ∈ zTs ∧ Cond.initialized Y.1.cls ∈ zTs ∧ (Y.1.cls ≠ "java/lang/invoke/MethodHandle" ∧ Y.1.cls ≠ "java/lang/invoke/VarHandle" ∧ (parseMethodDescriptor Y.1.desc).map (fun d => d.parameters.length) = some k)
def zYv (Y : zM) : Prop := Cond.instanceMethod Y.1 ∈ zTs ∧ Cond.selects Y.1.cls Y.1 Y.1 ∈ zTs
theorem zPc_blind {l : zL} {D : va_G} {cA : Nat → ClassId} {sz0 n : Nat} {ad : Nat → Nat} {h : Nat → va_E} {As : List Value} : FrameBlind (zPc l D cA sz0 ad n h As) := by
  intro a U g mk q
  obtain ⟨q0, qR, qK, qC, qz⟩ := q
  exact ⟨q0, qR, va_K.moved (u := U) (U := U.calling g mk a) (Vm.Alike.refl U.vm) qK, zC.same (s := U) (U := U.calling g mk a) rfl rfl qC, qz⟩
theorem zPc_of {l : zL} {D : va_G} {cA : Nat → ClassId} {sz0 n : Nat} {ad : Nat → Nat} {h : Nat → va_E} {As : List Value} {s : State} {H : Heap} {locs : List Loc} (hKK : va_K D vwCl (zt cA) s) (hC : zC l sz0 ad s s.heap) (hR : zR D cA sz0 ad n h H) (hS : va_S (fun q => sz0 ≤ q) s.heap H locs) (hsz : sz0 ≤ s.heap.size) : ∀ U : State, U.heap = H → s.WarmedH U.vm → zPc l D cA sz0 ad n h As (As.map (zv ad)).toArray U :=
  fun U hU hW => ⟨rfl, by rw [hU]; exact hR, va_K.moved hW.alike hKK, hC.moved hW hU hS.2.1, by rw [hU]; exact Nat.le_trans hsz hS.1⟩
theorem z_stk (ad : Nat → Nat) (r : Option Value) (rest : List Value) : (r.map (zv ad)).toList ++ rest.map (zv ad) = (r.toList ++ rest).map (zv ad) := by
  cases r <;> rfl
/-- behind a call that has come back, or has thrown -/
theorem z_behind {l : zL} {Y : zM} {d kc ks k1 s1 k2 s2 pc n : Nat} {lv : List (Nat × Value)} {rest st : List Value} {Q Q' : zQ}
    {p : Program} {e : Env} {R : Room} {s : State} {m : MethodId} {args : Array Value} {below : List Frame} {meth : Method} {c : Code} {sz0 : Nat} {D : va_G} {cA : Nat → ClassId} {ad : Nat → Nat} {H : Heap} {locs : List Loc} {cells slots mc ms : Nat} {ls : Array Slot} {Z : State → Prop} {a : Array Value}
    (hk : k1 + k2 ≤ kc) (hs : s1 + s2 ≤ ks) (kr : ∀ r n' h', Q' (.inl r) n' h' → n' = n ∧ Zj l Y d k2 s2 (pc + 3) lv (r.toList ++ rest) n h' Q)
    (kx : ∀ E n' h', Q' (.inr E) n' h' → Y.2.2.2.2 = [] ∧ Q (.inr E) n' h')
    (hK : zK Y d l.1 p R s m args meth c sz0 D cA) (hC : zC l sz0 ad s s.heap) (hX : zX Y p l.1 e R s m args below meth c sz0 D cA ad n mc ms Z Q) (hS : va_S (fun q => sz0 ≤ q) s.heap H locs) (hl : lv_has ls Y.2.2.1 (zlv ad lv))
    (g1 : cells + kc ≤ mc) (g2 : slots + ks ≤ ms) (g3 : mc ≤ R.cells) (g4 : ms ≤ R.slots)
    (hr : vx_Run p l.1 e R s m args below meth c H locs cells slots k1 s1 (F0 m pc ls (st.map (zv ad))) (rest.map (zv ad)) (zQc D cA sz0 ad n Q' a) (zXC D cA sz0 ad n Q') (fun q => sz0 ≤ q)) : W p l.1 e R s m args below meth c H locs cells slots Z (F0 m pc ls (st.map (zv ad))) := by
  intro T hT X
  rcases hr T hT X with ⟨v, st₀, t, T', L, h0, X', hL, e1, e2, ⟨ad', n', h', r, hv, hg, hq, hR', hF⟩, go⟩ | ⟨q, st₀, t, T', L, E, ce, h0, X', hL, e1, e2, ⟨ad', n', h', hg, hq, hR', hF⟩, hce, hcv, hcl, go⟩
  · obtain ⟨k1', k2', k3⟩ := vx_keep h0 e1 hS (fun q _ h => h) (fun q h => h) hL hF
    obtain ⟨hn, kk⟩ := kr r n' h' hq
    subst hn
    have ha := hg.2.2 rfl
    subst ha
    have hv' : v = r.map (zv ad') := by cases hv; rfl
    subst hv'
    rw [z_stk] at go
    obtain ⟨t2, a1, b1⟩ := kk p e R s m args below meth c sz0 D cA ad' T'.heap (locs ++ L) (cells + k1) (slots + s1) mc ms ls Z hK hC hX (by rw [e1]; exact hR') k3 hl (by omega) (by omega) g3 g4 T' rfl X'
    exact ⟨t2, go t2 a1, b1⟩
  · obtain ⟨k1', k2', k3⟩ := vx_keep h0 e1 hS (fun q _ h => h) (fun q h => h) hL hF
    obtain ⟨hh, hq2⟩ := kx E n' h' hq
    obtain ⟨hx, hb, hml, hrt, hlocks, hown, hinit, htab, hts, hKK, hsz, hfr, hlo, hst⟩ := id hK
    rcases hX.2 with h2 | ⟨Qc, XC, rfl, h3⟩
    · exact absurd hq2 (h2 E n' h')
    · have hw : vx_W p l.1 e R s m args below meth c T'.heap (locs ++ L) (cells + k1) (slots + s1) (vx_MQ below Qc XC args s mc ms (fun q => sz0 ≤ q)) (F0 m pc ls (rest.map (zv ad))) q :=
        vx_out (fun x hx => by rw [htab, hh] at hx; cases hx) hlocks (by rw [e1]; exact hce) hcv hcl (fun t1 ht hA => h3 ad' n' h' E t1 hg hq2 (by rw [ht, e1]; exact hR') hA (k3.F ht)) k3.2.2 (by omega) (by omega)
      obtain ⟨t2, a1, b1⟩ := hw T' rfl X'
      exact ⟨t2, go.trans a1, b1⟩
theorem va_toVx {p : Program} {l : Launch} {e : Env} {R : Room} {s : State} {m : MethodId} {args : Array Value} {below : List Frame} {meth : Method} {c : Code} {H : Heap} {locs : List Loc} {cells slots mc ms : Nat} {g : JFrame} {rest : List Value} {Qa : State → Outcome → State → Prop} {XC : String → State → State → Prop} {free : Addr → Prop} (h : va_Run p l e R s m args below meth c H locs cells slots mc ms g rest Qa free) : vx_Run p l e R s m args below meth c H locs cells slots mc ms g rest Qa XC free := fun T hT X => Or.inl (h T hT X)
theorem z_callV {l : zL} {Y Y' : zM} {d kc ks k1 s1 k2 s2 pc n idx k : Nat} {lv : List (Nat × Value)} {rest As : List Value} {h : Nat → va_E} {Q : zQ} {b ci : Nat} {fs : List Value} (Q' : zQ) (hY : zY Y' k) (hYv : zYv Y') (hh : Y'.2.2.2.2 = []) (hnL : Y'.2.2.1 ≤ 20) (hlink : Cond.methodLink Y.1.cls idx Y'.1 ∈ zTs) (hb : b < n) (hhb : h b = .inr (ci, fs)) (hci : (vwCl[ci]?).map (fun q => q.1) = some Y'.1.cls) (hlen : As.length = k) (hsl : (lg_sl (.ref b :: As)).length ≤ Y'.2.2.1) (hcat : (rest.map fun v => v.category).sum ≤ 8) (hd : decode Y.2.1 pc = .ok (.invokevirtual idx, 3))
    (body : Zj l Y' d k1 s1 0 (lv_args 0 (.ref b :: As)) [] n h Q') (hk : k1 + k2 ≤ kc) (hs : s1 + s2 ≤ ks)
    (kr : ∀ r n' h', Q' (.inl r) n' h' → n' = n ∧ Zj l Y (d + 1) k2 s2 (pc + 3) lv (r.toList ++ rest) n h' Q)
    (kx : ∀ E n' h', Q' (.inr E) n' h' → Y.2.2.2.2 = [] ∧ Q (.inr E) n' h') : Zj l Y (d + 1) kc ks pc lv (As.reverse ++ .ref b :: rest) n h Q := by
  intro p e R s m args below meth c sz0 D cA ad H locs cells slots mc ms ls Z hK hC hX hR hS hl g1 g2 g3 g4
  obtain ⟨hx, hbb, hml, hrt, hlocks, hown, hinit, htab, hts, hKK, hsz, hfr, hlo, hst⟩ := id hK
  obtain ⟨y1, y2, y3, y4⟩ := hY
  obtain ⟨q, hq, hq1⟩ : ∃ q, vwCl[ci]? = some q ∧ q.1 = Y'.1.cls := by
    cases hq : vwCl[ci]? with
    | none => rw [hq] at hci; cases hci
    | some q => rw [hq] at hci; exact ⟨q, rfl, Option.some.inj hci⟩
  have he : (zw ad cA n h)[b]? = some (ad b, .inr (ci, fs.map (zv ad))) := by rw [zw_get hb, hhb]; rfl
  have hM := z_vmet (D := D) (cA := cA) (sz0 := sz0) (ad := ad) y1 hsl hst body
  have hw : zws Y' = Cond.code Y'.1 Y'.2.1 Y'.2.2.1 Y'.2.2.2.1 :: zTs := by unfold zws zcode; rw [if_pos hh]
  have hrv := va_recv hKK hR.1 hq he
  rw [hq1] at hrv
  have hr := vx_runV (cells := cells) (slots := slots) (below := below) (e := e) (p := p) (meth := meth) (locs := locs) (As := As.map (zv ad)) (rest := rest.map (zv ad)) (g := F0 m pc ls ((As.reverse ++ .ref b :: rest).map (zv ad))) (C := Y'.1.cls) (b := ad b) (index := idx) (H := H) (S := ⟨hx, hbb, hml, hown, hts⟩) (hM := hM)
    (cw := cwV (own := Y.1.cls) (R := R) k hts (zGood fun w hw1 => by
      rcases List.mem_append.mp hw1 with h1 | h1
      · simp only [List.mem_cons, List.not_mem_nil, or_false] at h1
        rcases h1 with rfl | rfl | rfl | rfl
        · exact hlink
        · exact hYv.1
        · exact hYv.2
        · exact y3
      · exact (zGoodws y2 w h1).1) hw rfl rfl ⟨rfl, y4⟩ (zrm_ok hnL hfr hlo))
    (hp := ⟨zPc_blind, hrv, fun U hU hW => by
      exact zPc_of (As := .ref b :: As) hKK hC hR hS hsz U hU hW⟩) rfl (by rw [List.length_map]; exact hlen) hl.1 (by simp only [List.map_append, List.map_reverse, List.map_cons]; rfl) (by
      have := lv_room (m := m) (pc := pc) (ls := ls) (rest := ((As.reverse ++ .ref b :: rest).map (zv ad))) (st := rest.map (zv ad)) (by rw [zv_cats]; exact hcat)
      exact this) hd ⟨by omega, by omega⟩
  exact z_behind hk hs kr kx hK hC hX hS hl g1 g2 g3 g4 hr
theorem z_callS {l : zL} {Y Y' : zM} {d kc ks k1 s1 k2 s2 pc n idx k : Nat} {lv : List (Nat × Value)} {rest As : List Value} {h : Nat → va_E} {Q : zQ} (Q' : zQ) (hY : zY Y' k) (hstat : Cond.static Y'.1 ∈ zTs) (hh : Y'.2.2.2.2 = []) (hnL : Y'.2.2.1 ≤ 20) (hlink : Cond.methodLink Y.1.cls idx Y'.1 ∈ zTs) (hlen : As.length = k) (hsl : (lg_sl As).length ≤ Y'.2.2.1) (hcat : (rest.map fun v => v.category).sum ≤ 8) (hd : decode Y.2.1 pc = .ok (.invokestatic idx, 3))
    (body : Zj l Y' d k1 s1 0 (lv_args 0 As) [] n h Q') (hk : k1 + k2 ≤ kc) (hs : s1 + s2 ≤ ks)
    (kr : ∀ r n' h', Q' (.inl r) n' h' → n' = n ∧ Zj l Y (d + 1) k2 s2 (pc + 3) lv (r.toList ++ rest) n h' Q)
    (kx : ∀ E n' h', Q' (.inr E) n' h' → Y.2.2.2.2 = [] ∧ Q (.inr E) n' h') : Zj l Y (d + 1) kc ks pc lv (As.reverse ++ rest) n h Q := by
  intro p e R s m args below meth c sz0 D cA ad H locs cells slots mc ms ls Z hK hC hX hR hS hl g1 g2 g3 g4
  obtain ⟨hx, hbb, hml, hrt, hlocks, hown, hinit, htab, hts, hKK, hsz, hfr, hlo, hst⟩ := id hK
  obtain ⟨y1, y2, y3, y4⟩ := hY
  have hM := z_vmet (D := D) (cA := cA) (sz0 := sz0) (ad := ad) y1 hsl hst body
  have hw : zws Y' = Cond.code Y'.1 Y'.2.1 Y'.2.2.1 Y'.2.2.2.1 :: zTs := by unfold zws zcode; rw [if_pos hh]
  have hr := vx_runS (cells := cells) (slots := slots) (below := below) (e := e) (p := p) (meth := meth) (locs := locs) (As := As.map (zv ad)) (rest := rest.map (zv ad)) (g := F0 m pc ls ((As.reverse ++ rest).map (zv ad))) (index := idx) (H := H) (S := ⟨hx, hbb, hml, hown, hts⟩) (hM := hM)
    (cw := va_cwS (own := Y.1.cls) (R := R) k hts (zGood fun w hw1 => by
      rcases List.mem_append.mp hw1 with h1 | h1
      · simp only [List.mem_cons, List.not_mem_nil, or_false] at h1
        rcases h1 with rfl | rfl | rfl
        · exact hlink
        · exact hstat
        · exact y3
      · exact (zGoodws y2 w h1).1) hw rfl rfl y4 (zrm_ok hnL hfr hlo))
    (hp := ⟨zPc_blind, fun U hU hW => zPc_of (As := As) hKK hC hR hS hsz U hU hW⟩) rfl (by rw [List.length_map]; exact hlen) hl.1 (by simp only [List.map_append, List.map_reverse]) (by
      have := lv_room (m := m) (pc := pc) (ls := ls) (rest := ((As.reverse ++ rest).map (zv ad))) (st := rest.map (zv ad)) (by rw [zv_cats]; exact hcat)
      exact this) hd ⟨by omega, by omega⟩
  exact z_behind hk hs kr kx hK hC hX hS hl g1 g2 g3 g4 hr
/-- a static method with handlers, of this class -/
theorem z_callSW {l : zL} {Y Y' : zM} {d kc ks k1 s1 k2 s2 pc n idx k : Nat} {lv : List (Nat × Value)} {rest As : List Value} {h : Nat → va_E} {Q : zQ} (Q' : zQ) (hY : zY Y' k) (hstat : Cond.static Y'.1 ∈ zTs) (hh : Y'.2.2.2.2 ≠ []) (hnL : Y'.2.2.1 ≤ 20) (hlink : Cond.methodLink Y.1.cls idx Y'.1 ∈ zTs) (hlen : As.length = k) (hsl : (lg_sl As).length ≤ Y'.2.2.1) (hcat : (rest.map fun v => v.category).sum ≤ 8) (hd : decode Y.2.1 pc = .ok (.invokestatic idx, 3))
    (body : Zj l Y' d k1 s1 0 (lv_args 0 As) [] n h Q') (hk : k1 + k2 ≤ kc) (hs : s1 + s2 ≤ ks)
    (kr : ∀ r n' h', Q' (.inl r) n' h' → n' = n ∧ Zj l Y (d + 1) k2 s2 (pc + 3) lv (r.toList ++ rest) n h' Q)
    (kx : ∀ E n' h', Q' (.inr E) n' h' → Y.2.2.2.2 = [] ∧ Q (.inr E) n' h') : Zj l Y (d + 1) kc ks pc lv (As.reverse ++ rest) n h Q := by
  intro p e R s m args below meth c sz0 D cA ad H locs cells slots mc ms ls Z hK hC hX hR hS hl g1 g2 g3 g4
  obtain ⟨hx, hbb, hml, hrt, hlocks, hown, hinit, htab, hts, hKK, hsz, hfr, hlo, hst⟩ := id hK
  obtain ⟨y1, y2, y3, y4⟩ := hY
  have hM := z_vmet (D := D) (cA := cA) (sz0 := sz0) (ad := ad) y1 hsl hst body
  have hw : zws Y' = Cond.codeWith Y'.1 Y'.2.1 Y'.2.2.1 Y'.2.2.2.1 Y'.2.2.2.2 :: zTs := by unfold zws zcode; rw [if_neg hh]
  have hr := vx_runSX (cells := cells) (slots := slots) (below := below) (e := e) (p := p) (meth := meth) (locs := locs) (As := As.map (zv ad)) (rest := rest.map (zv ad)) (g := F0 m pc ls ((As.reverse ++ rest).map (zv ad))) (index := idx) (H := H) (S := ⟨hx, hbb, hml, hown, hts⟩) (hM := hM)
    (cw := vx_cwSW (own := Y.1.cls) (R := R) k hts (zGood fun w hw1 => by
      rcases List.mem_append.mp hw1 with h1 | h1
      · simp only [List.mem_cons, List.not_mem_nil, or_false] at h1
        rcases h1 with rfl | rfl | rfl
        · exact hlink
        · exact hstat
        · exact y3
      · exact (zGoodws y2 w h1).1) hw rfl rfl y4 (zrm_ok hnL hfr hlo))
    (hp := ⟨zPc_blind, fun U hU hW => zPc_of (As := As) hKK hC hR hS hsz U hU hW⟩) rfl (by rw [List.length_map]; exact hlen) hl.1 (by simp only [List.map_append, List.map_reverse]) (by
      have := lv_room (m := m) (pc := pc) (ls := ls) (rest := ((As.reverse ++ rest).map (zv ad))) (st := rest.map (zv ad)) (by rw [zv_cats]; exact hcat)
      exact this) hd ⟨by omega, by omega⟩
  exact z_behind hk hs kr kx hK hC hX hS hl g1 g2 g3 g4 hr
/-- a nest mate's private static method, that throws nothing -/
theorem z_callSN {l : zL} {Y Y' : zM} {d kc ks k1 s1 k2 s2 pc n idx k : Nat} {host : String} {lv : List (Nat × Value)} {rest As : List Value} {h : Nat → va_E} {Q : zQ} (Q' : zQ) (hY : zY Y' k) (hstat : Cond.static Y'.1 ∈ zTs) (hh : Y'.2.2.2.2 = []) (hnL : Y'.2.2.1 ≤ 20) (hlink : Cond.methodLinkNest Y.1.cls idx Y'.1 host ∈ kN) (hlen : As.length = k) (hsl : (lg_sl As).length ≤ Y'.2.2.1) (hcat : (rest.map fun v => v.category).sum ≤ 8) (hd : decode Y.2.1 pc = .ok (.invokestatic idx, 3)) (hno : ∀ E n' h', ¬ Q' (.inr E) n' h')
    (body : Zj l Y' d k1 s1 0 (lv_args 0 As) [] n h Q') (hk : k1 + k2 ≤ kc) (hs : s1 + s2 ≤ ks)
    (kr : ∀ r n' h', Q' (.inl r) n' h' → n' = n ∧ Zj l Y (d + 1) k2 s2 (pc + 3) lv (r.toList ++ rest) n h' Q) : Zj l Y (d + 1) kc ks pc lv (As.reverse ++ rest) n h Q := by
  intro p e R s m args below meth c sz0 D cA ad H locs cells slots mc ms ls Z hK hC hX hR hS hl g1 g2 g3 g4
  obtain ⟨hx, hbb, hml, hrt, hlocks, hown, hinit, htab, hts, hKK, hsz, hfr, hlo, hst⟩ := id hK
  obtain ⟨y1, y2, y3, y4⟩ := hY
  have hM := z_met (D := D) (cA := cA) (sz0 := sz0) (ad := ad) y1 hh hsl hst hno body
  have hw : zws Y' = Cond.code Y'.1 Y'.2.1 Y'.2.2.1 Y'.2.2.2.1 :: zTs := by unfold zws zcode; rw [if_pos hh]
  have hr := va_runSN (cells := cells) (slots := slots) (below := below) (e := e) (p := p) (meth := meth) (locs := locs) (As := As.map (zv ad)) (rest := rest.map (zv ad)) (g := F0 m pc ls ((As.reverse ++ rest).map (zv ad))) (index := idx) (H := H) (S := ⟨hx, hbb, hml, hown, hts⟩) (hM := hM)
    (cw := ⟨va_cnB (own := Y.1.cls) (R := R) (host := host) k hts (zGoodws y2) hw rfl rfl (hC.2.2.2.2.2.1 _ hlink) (hts _ y3) y4 (zrm_ok hnL hfr hlo), hts _ hstat, trivial⟩)
    (hp := ⟨zPc_blind, fun U hU hW => zPc_of (As := As) hKK hC hR hS hsz U hU hW⟩) rfl (by rw [List.length_map]; exact hlen) hl.1 (by simp only [List.map_append, List.map_reverse]) (by
      have := lv_room (m := m) (pc := pc) (ls := ls) (rest := ((As.reverse ++ rest).map (zv ad))) (st := rest.map (zv ad)) (by rw [zv_cats]; exact hcat)
      exact this) hd ⟨by omega, by omega⟩
  exact z_behind (Q' := Q') hk hs kr (fun E n' h' q => absurd q (hno E n' h')) hK hC hX hS hl g1 g2 g3 g4 (va_toVx hr)
