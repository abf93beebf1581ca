/-! CALLS ON CONSTANTS (strings, enum constants), a nest mate's static methods, references compared -/
theorem z_kVC {l : zL} {Y Y' : zM} {d kc ks pc n idx k : Nat} {lv : List (Nat × Value)} {rest : List Value} {h : Nat → va_E} {Q : zQ} {b : Nat} (As : List Value) (k1 s1 k2 s2 : Nat) (hY : zY Y' k) (hYv : zYv Y') (hh : Y'.2.2.2.2 = []) (hnL : Y'.2.2.1 ≤ 20) (hlink : Cond.methodLink Y.1.cls idx Y'.1 ∈ zTs) (hO : (Y'.1.cls, b) ∈ kO) (hlen : As.length = k) (hsl : (lg_sl (.ref b :: As)).length ≤ Y'.2.2.1) (hcat : (rest.map fun v => v.category).sum ≤ 8) (hd : decode Y.2.1 pc = .ok (.invokevirtual idx, 3)) (hk : k1 + k2 ≤ kc) (hs : s1 + s2 ≤ ks)
    (body : Zj l Y' d k1 s1 0 (lv_args 0 (.ref b :: As)) [] n h (zk Y l d k2 s2 pc lv rest n Q)) : Zj l Y (d + 1) kc ks pc lv (As.reverse ++ .ref b :: rest) n h Q := by
  intro p e R s m args below meth c sz0 D cA ad H locs cells slots mc ms ls Z hK hC hX hR hS hl g1 g2 g3 g4
  obtain ⟨hx, hbb, hml, hrt, hlocks, hown, hinit, htab, hts, hKK, hsz, hfr, hlo, hst⟩ := id hK
  obtain ⟨y1, y2, y3, y4⟩ := hY
  have hM := z_vmet (D := D) (cA := cA) (sz0 := sz0) (ad := ad) y1 hsl hst body
  have hw : zws Y' = Cond.code Y'.1 Y'.2.1 Y'.2.2.1 Y'.2.2.2.1 :: zTs := by unfold zws zcode; rw [if_pos hh]
  obtain ⟨cell, c1, c2, c3, -⟩ := (hC.1 _ hO).kept hS.2.1
  have hr := vx_runV (cells := cells) (slots := slots) (below := below) (e := e) (p := p) (meth := meth) (locs := locs) (As := As.map (zv ad)) (rest := rest.map (zv ad)) (g := F0 m pc ls ((As.reverse ++ .ref b :: rest).map (zv ad))) (C := Y'.1.cls) (b := ad b) (index := idx) (H := H) (S := ⟨hx, hbb, hml, hown, hts⟩) (hM := hM)
    (cw := cwV (own := Y.1.cls) (R := R) k hts (zGood fun w hw1 => by
      rcases List.mem_append.mp hw1 with h1 | h1
      · simp only [List.mem_cons, List.not_mem_nil, or_false] at h1
        rcases h1 with rfl | rfl | rfl | rfl
        · exact hlink
        · exact hYv.1
        · exact hYv.2
        · exact y3
      · exact (zGoodws y2 w h1).1) hw rfl rfl ⟨rfl, y4⟩ (zrm_ok hnL hfr hlo))
    (hp := ⟨zPc_blind, ⟨cell, c1, c2, c3⟩, fun U hU hW => by
      exact zPc_of (As := .ref b :: As) hKK hC hR hS hsz U hU hW⟩) rfl (by rw [List.length_map]; exact hlen) hl.1 (by simp only [List.map_append, List.map_reverse, List.map_cons]; rfl) (by
      have := lv_room (m := m) (pc := pc) (ls := ls) (rest := ((As.reverse ++ .ref b :: rest).map (zv ad))) (st := rest.map (zv ad)) (by rw [zv_cats]; exact hcat)
      exact this) hd ⟨by omega, by omega⟩
  exact z_behind (Q' := zk Y l d k2 s2 pc lv rest n Q) hk hs (fun r n' g hq => hq) (fun E n' g hq => hq) hK hC hX hS hl g1 g2 g3 g4 hr
/-- an inherited method of a constant, that answers v and changes nothing -/
theorem z_callVU {l : zL} {Y Y' : zM} {d kc ks pc n idx k : Nat} {lv : List (Nat × Value)} {rest As : List Value} {h : Nat → va_E} {Q : zQ} {b : Nat} {C owner : String} {x : MethodName} {v : Value} (hY : zY Y' k) (hyo : Y'.1 = { cls := owner, name := x.name, desc := x.desc }) (hio : owner ≠ "java/lang/invoke/MethodHandle" ∧ owner ≠ "java/lang/invoke/VarHandle" ∧ (parseMethodDescriptor x.desc).map (fun d => d.parameters.length) = some k) (hh : Y'.2.2.2.2 = []) (hnL : Y'.2.2.1 ≤ 20) (hl1 : Cond.methodLink Y.1.cls idx x ∈ zTs) (hl2 : Cond.sameMethod x.cls owner x.name x.desc ∈ zTs) (hl3 : Cond.selects C x Y'.1 ∈ zTs) (hl4 : Cond.instanceMethod Y'.1 ∈ zTs) (hO : (C, b) ∈ kO) (hlen : As.length = k) (hsl : (lg_sl (.ref b :: As)).length ≤ Y'.2.2.1) (hcat : (rest.map fun v => v.category).sum ≤ 8) (hd : decode Y.2.1 pc = .ok (.invokevirtual idx, 3))
    (body : Zj l Y' d 0 0 0 (lv_args 0 (.ref b :: As)) [] n h (fun q n' g => q = .inl (some v) ∧ n' = n ∧ g = h))
    (kk : Zj l Y (d + 1) kc ks (pc + 3) lv (v :: rest) n h Q) : Zj l Y (d + 1) kc ks pc lv (As.reverse ++ .ref b :: rest) n h Q := by
  intro p e R s m args below meth c sz0 D cA ad H locs cells slots mc ms ls Z hK hC hX hR hS hl g1 g2 g3 g4
  obtain ⟨hx, hbb, hml, hrt, hlocks, hown, hinit, htab, hts, hKK, hsz, hfr, hlo, hst⟩ := id hK
  obtain ⟨y1, y2, y3, y4⟩ := hY
  have hM := z_met (D := D) (cA := cA) (sz0 := sz0) (ad := ad) y1 hh hsl hst (fun E n' h' q => by cases q.1) body
  have hw : zws Y' = Cond.code Y'.1 Y'.2.1 Y'.2.2.1 Y'.2.2.2.1 :: zTs := by unfold zws zcode; rw [if_pos hh]
  obtain ⟨cell, c1, c2, c3, -⟩ := (hC.1 _ hO).kept hS.2.1
  have hr := va_runU (cells := cells) (slots := slots) (below := below) (e := e) (p := p) (meth := meth) (locs := locs) (As := As.map (zv ad)) (rest := rest.map (zv ad)) (g := F0 m pc ls ((As.reverse ++ .ref b :: rest).map (zv ad))) (C := C) (b := ad b) (index := idx) (H := H) ⟨hx, hbb, hml, hown, hts⟩ hM
    (va_cwU (own := Y.1.cls) (C := C) (owner := owner) (x := x) (R := R) k hts (zGood fun w hw1 => by
      rcases List.mem_append.mp hw1 with h1 | h1
      · simp only [List.mem_cons, List.not_mem_nil, or_false] at h1
        rcases h1 with rfl | rfl | rfl | rfl | rfl
        · exact hl1
        · exact hl2
        · exact hl3
        · exact hl4
        · exact y3
      · exact (zGoodws y2 w h1).1) hw rfl rfl hyo hio (zrm_ok hnL hfr hlo))
    ⟨zPc_blind, ⟨cell, c1, c2, c3⟩, fun U hU hW => zPc_of (As := .ref b :: As) hKK hC hR hS hsz U hU hW⟩ rfl (by rw [List.length_map]; exact hlen) hl.1 (by simp only [List.map_append, List.map_reverse, List.map_cons]; rfl) (by
      have := lv_room (m := m) (pc := pc) (ls := ls) (rest := ((As.reverse ++ .ref b :: rest).map (zv ad))) (st := rest.map (zv ad)) (by rw [zv_cats]; exact hcat)
      exact this) hd ⟨by omega, by omega⟩
  exact z_behind (Q' := fun q n' g => q = .inl (some v) ∧ n' = n ∧ g = h) (k1 := 0) (s1 := 0) (k2 := kc) (s2 := ks) (by omega) (by omega) (fun r n' g hq => by
    obtain ⟨e1, e2, e3⟩ := hq
    cases e1
    exact ⟨e2, by rw [e3]; exact kk⟩) (fun E n' g hq => by cases hq.1) hK hC hX hS hl g1 g2 g3 g4 (va_toVx hr)
/-- a nest mate's static method: what comes of it goes on -/
theorem z_kSN {l : zL} {Y Y' : zM} {d kc ks pc n idx k : Nat} {host : String} {lv : List (Nat × Value)} {rest As : List Value} {h : Nat → va_E} {Q : zQ} (r : Value) (hY : zY Y' k) (hstat : Cond.static Y'.1 ∈ zTs) (hh : Y'.2.2.2.2 = []) (hnL : Y'.2.2.1 ≤ 20) (hlink : Cond.methodLinkNest Y.1.cls idx Y'.1 host ∈ kN) (hlen : As.length = k) (hsl : (lg_sl As).length ≤ Y'.2.2.1) (hcat : (rest.map fun v => v.category).sum ≤ 8) (hd : decode Y.2.1 pc = .ok (.invokestatic idx, 3))
    (body : Zj l Y' d 0 0 0 (lv_args 0 As) [] n h (fun q n' g => q = .inl (some r) ∧ n' = n ∧ g = h)) (kk : Zj l Y (d + 1) kc ks (pc + 3) lv (r :: rest) n h Q) : Zj l Y (d + 1) kc ks pc lv (As.reverse ++ rest) n h Q :=
  z_callSN (fun q n' g => q = .inl (some r) ∧ n' = n ∧ g = h) hY hstat hh hnL hlink hlen hsl hcat hd (fun E n' g q => by cases q.1) body (k1 := 0) (s1 := 0) (k2 := kc) (s2 := ks) (by omega) (by omega) (fun v n' g hq => by
    obtain ⟨e1, e2, e3⟩ := hq
    cases e1
    exact ⟨e2, by rw [e3]; exact kk⟩)
/-- two enum constants compared -/
theorem z_acmp_ne {l : zL} {Y : zM} {d kc ks pc n : Nat} {lv : List (Nat × Value)} {rest : List Value} {h : Nat → va_E} {Q : zQ} {x y : Nat} {off : Int} {tgt : Nat} (hx : x ∈ kE) (hy : y ∈ kE) (hd : decode Y.2.1 pc = .ok (.if_acmp .ne off, 3)) (ht : (pc : Int) + off = (tgt : Int)) (kt : ¬ x = y → Zj l Y d kc ks tgt lv rest n h Q) (kf : x = y → Zj l Y d kc ks (pc + 3) lv rest n h Q) : Zj l Y d kc ks pc lv (.ref y :: .ref x :: rest) n h Q := by
  intro p e R s m args below meth c sz0 D cA ad H locs cells slots mc ms ls Z hK hC hX hR hS hl g1 g2 g3 g4
  have hi := hC.2.2.2.2.2.2.2.2.1
  exact lv_acmp_ne (rx := some (ad x)) (ry := some (ad y)) hK.1 hK.2.1 hd ht (fun q => kt (fun e9 => q (by rw [e9])) p e R s m args below meth c sz0 D cA ad H locs cells slots mc ms ls Z hK hC hX hR hS hl g1 g2 g3 g4) (fun q => kf (hi x hx y hy (Option.some.inj q)) p e R s m args below meth c sz0 D cA ad H locs cells slots mc ms ls Z hK hC hX hR hS hl g1 g2 g3 g4)
