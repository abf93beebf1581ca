/-! RETURNS, THROWS, CALLS, AND WHAT A WALK SAYS OF ITS METHOD -/
theorem z_ret {l : zL} {Y : zM} {d kc ks pc n : Nat} {lv : List (Nat × Value)} {h : Nat → va_E} {Q : zQ} (r : Option Value) (hr : zret Y pc r) (hq : Q (.inl r) n h) : Zj l Y d kc ks pc lv r.toList n h Q := by
  intro p e R s m args below meth c sz0 D cA ad H locs cells slots mc ms ls Z hK hC hX hR hS hl g1 g2 g3 g4
  exact W.widen (by omega) (by omega) (hX.1 ad n h r H locs pc ls zag_rf hq hR hS hr)
theorem z_vret {l : zL} {Y : zM} {d kc ks pc n : Nat} {lv : List (Nat × Value)} {h : Nat → va_E} {Q : zQ} (hr : Y.2.2.2.1 = none) (hd : decode Y.2.1 pc = .ok (.return_, 1)) (hq : Q (.inl none) n h) : Zj l Y d kc ks pc lv [] n h Q := z_ret none (Or.inl ⟨rfl, hr, hd⟩) hq
theorem z_iret {l : zL} {Y : zM} {d kc ks pc n : Nat} {lv : List (Nat × Value)} {h : Nat → va_E} {Q : zQ} {v : Int32} (hr : Y.2.2.2.1 = some .int) (hd : decode Y.2.1 pc = .ok (.ireturn, 1)) (hq : Q (.inl (some (.int v))) n h) : Zj l Y d kc ks pc lv [.int v] n h Q := z_ret (some (.int v)) (Or.inr (Or.inl ⟨v, .int, rfl, hr, rfl, hd⟩)) hq
theorem z_zret {l : zL} {Y : zM} {d kc ks pc n : Nat} {lv : List (Nat × Value)} {h : Nat → va_E} {Q : zQ} {v : Int32} {ty : FieldType} (hr : Y.2.2.2.1 = some ty) (hn : narrow ty (.int v) = .int v) (hd : decode Y.2.1 pc = .ok (.ireturn, 1)) (hq : Q (.inl (some (.int v))) n h) : Zj l Y d kc ks pc lv [.int v] n h Q := z_ret (some (.int v)) (Or.inr (Or.inl ⟨v, ty, rfl, hr, hn, hd⟩)) hq
theorem z_fret {l : zL} {Y : zM} {d kc ks pc n : Nat} {lv : List (Nat × Value)} {h : Nat → va_E} {Q : zQ} {v : UInt32} (hr : Y.2.2.2.1 = some .float) (hd : decode Y.2.1 pc = .ok (.freturn, 1)) (hq : Q (.inl (some (.float v))) n h) : Zj l Y d kc ks pc lv [.float v] n h Q := z_ret (some (.float v)) (Or.inr (Or.inr (Or.inl ⟨v, rfl, hr, hd⟩))) hq
theorem z_dret {l : zL} {Y : zM} {d kc ks pc n : Nat} {lv : List (Nat × Value)} {h : Nat → va_E} {Q : zQ} {v : UInt64} (hr : Y.2.2.2.1 = some .double) (hd : decode Y.2.1 pc = .ok (.dreturn, 1)) (hq : Q (.inl (some (.double v))) n h) : Zj l Y d kc ks pc lv [.double v] n h Q := z_ret (some (.double v)) (Or.inr (Or.inr (Or.inr (Or.inl ⟨v, rfl, hr, hd⟩)))) hq
theorem z_aret {l : zL} {Y : zM} {d kc ks pc n : Nat} {lv : List (Nat × Value)} {h : Nat → va_E} {Q : zQ} {v : Nat} {ty : FieldType} (hr : Y.2.2.2.1 = some ty) (hty : (∃ n, ty = .object n) ∨ ∃ t, ty = .array t) (hd : decode Y.2.1 pc = .ok (.areturn, 1)) (hq : Q (.inl (some (.ref v))) n h) : Zj l Y d kc ks pc lv [.ref v] n h Q := z_ret (some (.ref v)) (Or.inr (Or.inr (Or.inr (Or.inr (Or.inr ⟨.ref v, ty, rfl, Or.inr ⟨v, rfl⟩, hr, hty, hd⟩))))) hq
/-- the words of a throw of a new E with a text -/
def zE (own : String) (ik is ic : Nat) (E tx : String) (names : List String) : Prop := Bundle.fit E = true ∧ (∀ n ∈ names, Bundle.fit n = true) ∧ names.length ≤ 2 ∧ Cond.classLink own ik E ∈ zTs ∧ Cond.initialized E ∈ zTs ∧ (∃ sa, (own, is, tx, sa) ∈ kR) ∧ (∀ w ∈ (vx_atS own ic E names).filter goodWord, w ∈ zTs) ∧ (∀ w ∈ (vx_atS own ic E names).filter (fun w => !goodWord w), w ∈ kN) ∧ (∀ w ∈ Cond.classLink own ik E :: Cond.initialized E :: vx_atS own ic E names, vx_ot w = true)
theorem zKN {l : zL} {sz0 : Nat} {ad : Nat → Nat} {s : State} {H : Heap} {args : Array Value} (hC : zC l sz0 ad s H) : ∀ w ∈ kN, w.before args s = true := by
  intro w hm
  have h6 := hC.2.2.2.2.2.1 w hm
  rcases kN_nest w hm with ⟨a, i, b, n, d, z, rfl⟩ | ⟨a, i, y, z, rfl⟩ | ⟨a, b, rfl⟩ | ⟨y, rfl⟩
  · exact va_Nw.use rfl h6
  · exact va_Nw.use rfl h6
  · exact va_Nw.use rfl h6
  · exact va_Nw.use rfl h6
theorem zR_kept {D : va_G} {cA : Nat → ClassId} {sz0 n : Nat} {ad : Nat → Nat} {h : Nat → va_E} {H H1 : Heap} (hR : zR D cA sz0 ad n h H) (hq : ∀ q : Nat, q < H.size → H1[q]? = H[q]?) : zR D cA sz0 ad n h H1 := ⟨hR.1.kept fun k q hk => hq q.1 (hR.1 k q hk).lt, hR.2⟩
theorem z_throwS {l : zL} {Y : zM} {d kc ks pc n : Nat} {lv : List (Nat × Value)} {h : Nat → va_E} {Q : zQ} {ik is ic : Nat} {E tx : String} {names : List String} (hE : zE Y.1.cls ik is ic E tx names) (hh : Y.2.2.2.2 = []) (hk : 1 ≤ kc) (hs : 6 ≤ ks) (hdd : 4 ≤ d := by omega)
    (d0 : decode Y.2.1 pc = .ok (.new ik, 3)) (d3 : decode Y.2.1 (pc + 3) = .ok (.dup, 1)) (d4 : decode Y.2.1 (pc + 4) = .ok (.ldc is, 2)) (d6 : decode Y.2.1 (pc + 6) = .ok (.invokespecial ic, 3)) (d9 : decode Y.2.1 (pc + 9) = .ok (.athrow, 1))
    (hq : Q (.inr E) n h) : Zj l Y d kc ks pc lv [] n h Q := by
  intro p e R s m args below meth c sz0 D cA ad H locs cells slots mc ms ls Z hK hC hX hR hS hl g1 g2 g3 g4
  obtain ⟨hx, hb, hml, hrt, hlocks, hown, hinit, htab, hts, hKK, hsz, hfr, hlo, hst⟩ := id hK
  obtain ⟨e1, e2, e9, e3, e4, ⟨sa, e5⟩, e6, e7, e8⟩ := hE
  rcases hX.2 with h2 | ⟨Qc, XC, rfl, h3⟩
  · exact absurd hq (h2 E n h)
  · refine vx_throwS (names := names) (text := tx) (sa := ad sa) hx hb hst hown e1 e2 (hts _ e3) (hts _ e4) (hC.2.2.2.2.1 _ e5) (vx_hat (fun w hw => hts w (e6 w hw)) e7 (zKN hC)) e8 hC.2.2.2.2.2.2.1 hC.2.2.2.2.2.2.2.1 hS (by rw [hl.1, hml]) d0 d3 d4 d6 d9 (fun x hx => by rw [htab, hh] at hx; cases hx) (by omega) (by simp only [List.map_nil, List.sum_nil]; omega) (by omega) (by omega) hlocks (fun t hA hz hk => ?_) hS.2.2 (by omega) (by omega)
    exact h3 ad n h E t zag_rf hq (zR_kept hR hk) hA ⟨Nat.le_trans hS.1 hz, fun q g5 g6 => (hk q (Nat.lt_of_lt_of_le g5 hS.1)).trans (hS.2.1 q g5 g6)⟩
theorem z_throwSW {l : zL} {Y : zM} {d kc ks pc n : Nat} {lv : List (Nat × Value)} {h : Nat → va_E} {Q : zQ} {ik is ic : Nat} {E tx : String} {names : List String} (hE : zE Y.1.cls ik is ic E tx names) (hh : Y.2.2.2.2 = []) (hk : 1 ≤ kc) (hs : 6 ≤ ks) (hdd : 4 ≤ d := by omega)
    (d0 : decode Y.2.1 pc = .ok (.new ik, 3)) (d3 : decode Y.2.1 (pc + 3) = .ok (.dup, 1)) (d4 : decode Y.2.1 (pc + 4) = .ok (.ldc_w is, 3)) (d7 : decode Y.2.1 (pc + 7) = .ok (.invokespecial ic, 3)) (d10 : decode Y.2.1 (pc + 10) = .ok (.athrow, 1))
    (hq : Q (.inr E) n h) : Zj l Y d kc ks pc lv [] n h Q := by
  intro p e R s m args below meth c sz0 D cA ad H locs cells slots mc ms ls Z hK hC hX hR hS hl g1 g2 g3 g4
  obtain ⟨hx, hb, hml, hrt, hlocks, hown, hinit, htab, hts, hKK, hsz, hfr, hlo, hst⟩ := id hK
  obtain ⟨e1, e2, e9, e3, e4, ⟨sa, e5⟩, e6, e7, e8⟩ := hE
  rcases hX.2 with h2 | ⟨Qc, XC, rfl, h3⟩
  · exact absurd hq (h2 E n h)
  · refine vx_throwSW (names := names) (text := tx) (sa := ad sa) hx hb hst hown e1 e2 (hts _ e3) (hts _ e4) (hC.2.2.2.2.1 _ e5) (vx_hat (fun w hw => hts w (e6 w hw)) e7 (zKN hC)) e8 hC.2.2.2.2.2.2.1 hC.2.2.2.2.2.2.2.1 hS (by rw [hl.1, hml]) d0 d3 d4 d7 d10 (fun x hx => by rw [htab, hh] at hx; cases hx) (by omega) (by simp only [List.map_nil, List.sum_nil]; omega) (by omega) (by omega) hlocks (fun t hA hz hk => ?_) hS.2.2 (by omega) (by omega)
    exact h3 ad n h E t zag_rf hq (zR_kept hR hk) hA ⟨Nat.le_trans hS.1 hz, fun q g5 g6 => (hk q (Nat.lt_of_lt_of_le g5 hS.1)).trans (hS.2.1 q g5 g6)⟩
-- what a walk says of its method
def zPc (l : zL) (D : va_G) (cA : Nat → ClassId) (sz0 : Nat) (ad : Nat → Nat) (n : Nat) (h : Nat → va_E) (As : List Value) : Array Value → State → Prop := va_Pc (As.map (zv ad)) (fun U => zR D cA sz0 ad n h U.heap ∧ va_K D vwCl (zt cA) U ∧ zC l sz0 ad U U.heap ∧ sz0 ≤ U.heap.size)
def zQc (D : va_G) (cA : Nat → ClassId) (sz0 : Nat) (ad : Nat → Nat) (n : Nat) (Q : zQ) : Array Value → State → Outcome → State → Prop := fun _ st o t => ∃ (ad' : Nat → Nat) (n' : Nat) (h' : Nat → va_E) (r : Option Value), o = .returned (r.map (zv ad')) ∧ zag n n' ad ad' ∧ Q (.inl r) n' h' ∧ zR D cA sz0 ad' n' h' t.heap ∧ va_F (fun q => sz0 ≤ q) st t
def zXC (D : va_G) (cA : Nat → ClassId) (sz0 : Nat) (ad : Nat → Nat) (n : Nat) (Q : zQ) : String → State → State → Prop := fun E st t => ∃ (ad' : Nat → Nat) (n' : Nat) (h' : Nat → va_E), zag n n' ad ad' ∧ Q (.inr E) n' h' ∧ zR D cA sz0 ad' n' h' t.heap ∧ va_F (fun q => sz0 ≤ q) st t
theorem zlv_args (ad : Nat → Nat) : ∀ (vs : List Value) (i : Nat), lv_args i (vs.map (zv ad)) = zlv ad (lv_args i vs)
  | [], _ => rfl
  | v :: vs, i => by
    show (i, zv ad v) :: lv_args (if (zv ad v).category = 2 then i + 2 else i + 1) (vs.map (zv ad)) = (i, zv ad v) :: zlv ad (lv_args (if v.category = 2 then i + 2 else i + 1) vs)
    rw [zv_cat, zlv_args ad vs]
theorem zlg_len (ad : Nat → Nat) (vs : List Value) : (lg_sl (vs.map (zv ad))).length = (lg_sl vs).length := by
  induction vs with
  | nil => rfl
  | cons v vs ih =>
    have h1 : (lg_sl ((v :: vs).map (zv ad))).length = (if (zv ad v).category = 2 then [Slot.val (zv ad v), Slot.second] else [Slot.val (zv ad v)]).length + (lg_sl (vs.map (zv ad))).length := by
      simp only [lg_sl, List.map_cons, List.flatMap_cons, List.length_append]
    have h2 : (lg_sl (v :: vs)).length = (if v.category = 2 then [Slot.val v, Slot.second] else [Slot.val v]).length + (lg_sl vs).length := by
      simp only [lg_sl, List.flatMap_cons, List.length_append]
    rw [h1, h2, ih, zv_cat]
    by_cases hc : v.category = 2 <;> simp [hc]
theorem zws_in {Y : zM} {args : Array Value} {s : State} (h : ∀ w ∈ zws Y, w.before args s = true) : ∀ w ∈ zTs, w.before args s = true := fun w hw => h w (List.mem_cons_of_mem _ hw)
/-- the ways out of a body: by the kit's end rows -/
theorem zX_met {Y : zM} {p : Program} {l : Launch} {e : Env} {R : Room} {s : State} {m : MethodId} {args : Array Value} {below : List Frame} {meth : Method} {c : Code} {sz0 : Nat} {D : va_G} {cA : Nat → ClassId} {ad : Nat → Nat} {n mc ms : Nat} {Q : zQ}
    (hx : p.tables.exec = Jvm.exec) (hb : c.code = Y.2.1) (hrt : meth.sig.returnType = Y.2.2.2.1) (hlocks : meth.locks = false) :
    ∀ (ad' : Nat → Nat) (n' : Nat) (h' : Nat → va_E) (r : Option Value) (H : Heap) (locs : List Loc) (pc : Nat) (ls : Array Slot), zag n n' ad ad' → Q (.inl r) n' h' → zR D cA sz0 ad' n' h' H → va_S (fun q => sz0 ≤ q) s.heap H locs → zret Y pc r →
    W p l e R s m args below meth c H locs mc ms (MQ below (zQc D cA sz0 ad n Q) args s mc ms (fun q => sz0 ≤ q)) (F0 m pc ls (r.toList.map (zv ad'))) := by
  intro ad' n' h' r H locs pc ls hg hq hR hS hr
  have key : ∀ t : State, t.heap = H → s.WarmedH t.vm → zQc D cA sz0 ad n Q args s (.returned (r.map (zv ad'))) t := fun t ht _ => ⟨ad', n', h', r, rfl, hg, hq, by rw [ht]; exact hR, hS.F ht⟩
  rcases hr with ⟨rfl, h1, h2⟩ | ⟨v, ty, rfl, h1, h2, h3⟩ | ⟨v, rfl, h1, h2⟩ | ⟨v, rfl, h1, h2⟩ | ⟨v, rfl, h1, h2⟩ | ⟨v, ty, rfl, h0, h1, h2, h3⟩
  · exact W.vret hx hb (hrt.trans h1) key hS.2.2 h2 hlocks
  · exact W.zret hx hb (hrt.trans h1) h2 key hS.2.2 h3 hlocks
  · exact W.fret hx hb (hrt.trans h1) key hS.2.2 h2 hlocks
  · exact W.dret hx hb (hrt.trans h1) key hS.2.2 h2 hlocks
  · exact W.lret hx hb (hrt.trans h1) key hS.2.2 h2 hlocks
  · exact W.aret hx hb (hrt.trans h1) h2 (by rcases h0 with rfl | ⟨a, rfl⟩
                                             · exact Or.inl rfl
                                             · exact Or.inr ⟨_, rfl⟩) key hS.2.2 h3 hlocks
theorem z_met {l : zL} {Y : zM} {d kc ks n : Nat} {h : Nat → va_E} {Q : zQ} {As : List Value} {D : va_G} {cA : Nat → ClassId} {sz0 : Nat} {ad : Nat → Nat} (hy : plainName Y.1.cls = true) (hh : Y.2.2.2.2 = []) (hlen : (lg_sl As).length ≤ Y.2.2.1) (hst : l.1.stackTraces = false) (hno : ∀ E n' h', ¬ Q (.inr E) n' h') (body : Zj l Y d kc ks 0 (lv_args 0 As) [] n h Q) :
    Met l.1 Y.1 (zws Y) (zrm d kc ks) (zPc l D cA sz0 ad n h As) (zQc D cA sz0 ad n Q) kc ks (fun q => sz0 ≤ q) := by
  have hw : zws Y = Cond.code Y.1 Y.2.1 Y.2.2.1 Y.2.2.2.1 :: zTs := by unfold zws zcode; rw [if_pos hh]
  refine Met.ofW (cc := Y.2.1) (maxL := Y.2.2.1) (ret := Y.2.2.2.1) hy hw ?_
  intro p e s m args below meth c s₁ B hml hv
  obtain ⟨rfl, hR, hKK, hC, hsz⟩ := hv
  have hts := zws_in (Y := Y) (atoms_spec (ws := zws Y) B.pre)
  have htab : c.exceptionTable.toList = tableOf Y.2.2.2.2 := by
    obtain ⟨meth9, c9, h1, h2, -, -, -, -, h7, -⟩ := Cond.code_spec B.named (atoms_spec (ws := zws Y) B.pre _ (by rw [hw]; exact List.mem_cons_self))
    cases Option.some.inj (h1.symm.trans B.method)
    cases Option.some.inj (h2.symm.trans (Stand.of_body B).code)
    rw [Array.isEmpty_iff.mp h7, hh]
    rfl
  have hl := lv_entry (As.map (zv ad)) (n := Y.2.2.1) (by rw [zlg_len]; exact hlen)
  rw [lg_entry_eq]
  rw [zlv_args] at hl
  exact body p e (zrm d kc ks) s m _ below meth c sz0 D cA ad s.heap [] 0 0 kc ks _ _ ⟨B.exec, B.bytes, hml, B.returns, B.notSynchronized, findClass_of_methodNamed B.named, fun hi => ((name_of_methodNamed B.named B.method).1).trans hi, htab, hts, hKK, hsz, Nat.le_refl _, Nat.le_refl _, hst⟩ hC ⟨zX_met B.exec B.bytes B.returns B.notSynchronized, Or.inl hno⟩ hR va_S.rf hl (by omega) (by omega) (Nat.le_refl _) (Nat.le_refl _)
theorem z_vmet {l : zL} {Y : zM} {d kc ks n : Nat} {h : Nat → va_E} {Q : zQ} {As : List Value} {D : va_G} {cA : Nat → ClassId} {sz0 : Nat} {ad : Nat → Nat} (hy : plainName Y.1.cls = true) (hlen : (lg_sl As).length ≤ Y.2.2.1) (hst : l.1.stackTraces = false) (body : Zj l Y d kc ks 0 (lv_args 0 As) [] n h Q) :
    vx_Met l.1 Y.1 (zws Y) (zrm d kc ks) (zPc l D cA sz0 ad n h As) (zQc D cA sz0 ad n Q) (zXC D cA sz0 ad n Q) kc ks (fun q => sz0 ≤ q) := by
  have go : ∀ (p : Program) (e : Env) (s : State) (m : MethodId) (args : Array Value) (below : List Frame) (meth : Method) (c : Code) (s₁ : State), BodyLoose p l.1 Y.1 (headSpec (zws Y) (zrm d kc ks)) Y.2.1 Y.2.2.1 Y.2.2.2.1 e s m args below meth c s₁ → c.maxLocals = Y.2.2.1 → c.exceptionTable.toList = tableOf Y.2.2.2.2 → zPc l D cA sz0 ad n h As args s →
      W p l.1 e (headSpec (zws Y) (zrm d kc ks)).room s m args below meth c s.heap [] 0 0 (vx_MQ below (zQc D cA sz0 ad n Q) (zXC D cA sz0 ad n Q) args s kc ks (fun q => sz0 ≤ q)) (entryFrame m args Y.2.2.1) := by
    intro p e s m args below meth c s₁ B hml htab hv
    obtain ⟨rfl, hR, hKK, hC, hsz⟩ := hv
    have hts := zws_in (Y := Y) (atoms_spec (ws := zws Y) B.pre)
    have hl := lv_entry (As.map (zv ad)) (n := Y.2.2.1) (by rw [zlg_len]; exact hlen)
    rw [lg_entry_eq]
    rw [zlv_args] at hl
    exact body p e (zrm d kc ks) s m _ below meth c sz0 D cA ad s.heap [] 0 0 kc ks _ _ ⟨B.exec, B.bytes, hml, B.returns, B.notSynchronized, findClass_of_methodNamed B.named, fun hi => ((name_of_methodNamed B.named B.method).1).trans hi, htab, hts, hKK, hsz, Nat.le_refl _, Nat.le_refl _, hst⟩ hC ⟨fun ad' n' h' r H locs pc ls hg hq hR hS hr => vx_ret (zX_met B.exec B.bytes B.returns B.notSynchronized ad' n' h' r H locs pc ls hg hq hR hS hr), Or.inr ⟨_, _, rfl, fun ad' n' h' E t hg hq hR hA hF => ⟨ad', n', h', hg, hq, hR, hF⟩⟩⟩ hR va_S.rf hl (by omega) (by omega) (Nat.le_refl _) (Nat.le_refl _)
  by_cases hh : Y.2.2.2.2 = []
  · have hw : zws Y = Cond.code Y.1 Y.2.1 Y.2.2.1 Y.2.2.2.1 :: zTs := by unfold zws zcode; rw [if_pos hh]
    refine vx_ofW (cc := Y.2.1) (maxL := Y.2.2.1) (ret := Y.2.2.2.1) hy hw ?_
    intro p e s m args below meth c s₁ B hml ht hv
    have htab : c.exceptionTable.toList = tableOf Y.2.2.2.2 := by
      rw [hh]
      cases hc : c.exceptionTable.toList with
      | nil => rfl
      | cons a r => exact (ht a (by rw [hc]; exact List.mem_cons_self)).elim
    exact go p e s m args below meth c s₁ B hml htab hv
  · have hw : zws Y = Cond.codeWith Y.1 Y.2.1 Y.2.2.1 Y.2.2.2.1 Y.2.2.2.2 :: zTs := by unfold zws zcode; rw [if_neg hh]
    refine vx_ofWH (cc := Y.2.1) (maxL := Y.2.2.1) (ret := Y.2.2.2.1) (hh := Y.2.2.2.2) hy hw ?_
    intro p e s m args below meth c s₁ B hml hv
    exact go p e s m args below meth c s₁ B hml (vx_table (x := Y.1) B (atoms_spec (ws := zws Y) B.pre _ (by rw [hw]; exact List.mem_cons_self))) hv
