section NSF
variable {p : Program} {l : Launch} {e : Env} {R : Room} {s : State} {m : MethodId} {args : Array Value} {below : List Frame} {meth : Method} {c : Code} {H : Heap} {locs : List Loc} {cells slots : Nat} {ls : Array Slot} {rest : List Value} {Qc : Array Value → State → Outcome → State → Prop} {XC : String → State → State → Prop} {free : Addr → Prop}
/-- 'throw new NoSuchElementException("text")' -/
theorem ns_throw {cc : ByteArray} {pc : Nat} (hexec : p.tables.exec = Jvm.exec) (hb : c.code = cc) (hl : l.stackTraces = false) {own text : String} {ik is ic mc ms sa : Nat} {A : Nat → Prop}
    (hown : s.vm.findClass own = some m.cls)
    (hk : (Cond.classLink own ik nsN).before args s = true) (hini : (Cond.initialized nsN).before args s = true) (hstr : vk_R own is text sa s)
    (hat0 : ∀ w ∈ (nsA own ic).filter vx_no, w.before args s = true) (hatp : ∀ w ∈ Bundle.passSAtoms nsN nsR 13 nsB, w.before args s = true) (hatc : ∀ w ∈ Bundle.chainSAtoms nsR ["java/lang/Exception"], w.before args s = true)
    (hgood : ∀ w ∈ Cond.classLink own ik nsN :: Cond.initialized nsN :: ((nsA own ic).filter vx_no ++ Bundle.passSAtoms nsN nsR 13 nsB ++ Bundle.chainSAtoms nsR ["java/lang/Exception"]), vx_ot w = true)
    (hU : vx_Zq Bundle.tN "UNASSIGNED_STACK" Bundle.steD A s s.heap) (hN : vx_Zq Bundle.tN "SUPPRESSED_SENTINEL" Bundle.listD A s s.heap) (hS : va_S A s.heap H locs) (hsize : ls.size = c.maxLocals)
    (d0 : decode cc pc = .ok (.new ik, 3)) (d3 : decode cc (pc + 3) = .ok (.dup, 1)) (d4 : decode cc (pc + 4) = .ok (.ldc is, 2)) (d6 : decode cc (pc + 6) = .ok (.invokespecial ic, 3)) (d9 : decode cc (pc + 9) = .ok (.athrow, 1))
    (hout : ∀ x ∈ c.exceptionTable.toList, covers x (pc + 9) = false)
    (hRframes : 2 + 3 < R.frames) (hRlocals : (rest.map fun v => v.category).sum + (13 * (2 + 1) + 43) ≤ R.locals) (hRcells : cells + 1 ≤ R.cells) (hRslots : slots + 6 ≤ R.slots) (hlocks : meth.locks = false)
    (hx : ∀ t : State, s.vm.Alike t.vm → H.size ≤ t.heap.size → (∀ q : Nat, q < H.size → t.heap[q]? = H[q]?) → XC nsN s t)
    (hf : ∀ z ∈ locs, free z.base) (hc : cells + 1 ≤ mc) (hs : slots + 6 ≤ ms) :
    W p l e R s m args below meth c H locs cells slots (vx_MQ below Qc XC args s mc ms free) (F0 m pc ls rest) := by
  intro T hT X
  have htr : e.platform.stackTraces = false := (show e.platform.stackTraces = l.stackTraces by rw [X.admits.platform]).trans hl
  have Y := vx_rebase X (R' := { frames := R.frames, locals := R.locals, cells := 1, slots := 6 }) (Nat.le_refl _) (Nat.le_refl _) hRcells hRslots
  obtain ⟨s', hA⟩ : ∃ z, z = (T.setVm s.vm).setFrames (.invoking m args :: below) := ⟨_, rfl⟩
  rw [← hA] at Y
  have hvm : s'.vm = s.vm := by rw [hA]; rfl
  have hhp : s'.heap = H := by rw [hA]; exact hT
  have hW0 : s.WarmedH s'.vm := by rw [hvm]; exact State.WarmedH.refl s
  have mv : ∀ w, w ∈ Cond.classLink own ik nsN :: Cond.initialized nsN :: ((nsA own ic).filter vx_no ++ Bundle.passSAtoms nsN nsR 13 nsB ++ Bundle.chainSAtoms nsR ["java/lang/Exception"]) → w.before args s = true → w.before args s' = true := fun w hw hb => vx_ot_at hW0 hvm.symm (hgood w hw) hb
  have hk' := mv _ List.mem_cons_self hk
  have hini' := mv _ (List.mem_cons_of_mem _ List.mem_cons_self) hini
  have hatp' : ∀ w ∈ Bundle.passSAtoms nsN nsR 13 nsB, w.before args s' = true := fun w hw => mv w (List.mem_cons_of_mem _ (List.mem_cons_of_mem _ (List.mem_append_left _ (List.mem_append_right _ hw)))) (hatp w hw)
  have hatc' : ∀ w ∈ Bundle.chainSAtoms nsR ["java/lang/Exception"], w.before args s' = true := fun w hw => mv w (List.mem_cons_of_mem _ (List.mem_cons_of_mem _ (List.mem_append_right _ hw))) (hatc w hw)
  have hU' : vx_Zq Bundle.tN "UNASSIGNED_STACK" Bundle.steD A s' s'.heap := by rw [hhp]; exact vx_Zq.moved hW0.alike (hU.kept hS.2.1)
  have hN' : vx_Zq Bundle.tN "SUPPRESSED_SENTINEL" Bundle.listD A s' s'.heap := by rw [hhp]; exact vx_Zq.moved hW0.alike (hN.kept hS.2.1)
  have h : ∀ w ∈ nsA own ic, w.before args s' = true := vx_own (fun w hw => mv w (List.mem_cons_of_mem _ (List.mem_cons_of_mem _ (List.mem_append_left _ (List.mem_append_left _ hw)))) (hat0 w hw)) (vx_isRefq hU'.1) (vx_isRefq hN'.1) hU'.2.word hN'.2.word
  have hown' : s'.vm.findClass own = some m.cls := by rw [hvm]; exact hown
  have hins : (Cond.instantiable nsN 6).before args s' = true := h _ (ns_in (by simp [Bundle.ownAtoms]) (by decide +kernel))
  obtain ⟨vm₁, cX, kX, hfX, hkX, -, -, X₁, st1⟩ := Y.newCold hexec (own := own) (C := nsN) (index := ik) (n := 6) hown' hk' hins hini'
    (g := F0 m pc ls rest) rfl (by rw [hb]; exact d0) (Nat.le_refl _) (Nat.le_refl _)
  generalize hT1 : (T.setVm vm₁).pushCell { cls := cX, slots := kX.instanceTypes.map defaultValue, vm := .none } = T1 at X₁ st1
  have hcat : (Value.ref T.heap.size).category = 1 := rfl
  have hcellA : T1.heap[T.heap.size]? = some (freshCell cX kX) := by rw [← hT1]; exact State.heap_pushCell_size _ _
  have d3' : decode c.code (pc + 3) = .ok (.dup, 1) := by rw [hb]; exact d3
  have d4' : decode c.code (pc + 4) = .ok (.ldc is, 2) := by rw [hb]; exact d4
  have hstr' : vk_R own is text sa s' := vk_R.warm hW0 hstr
  obtain ⟨U, hsteps, hrun, hend, hW, hsame, ce, hce, hO, hOv⟩ := ns_ctor X₁ hexec htr (own := own) (ic := ic) hown' h hatp' hatc' (fun x hx => nomatch hx) hfX hkX hcellA (by rw [hhp, hT]; exact Nat.le_refl _) (msg := .ref sa) rfl
    (g := { method := m, pc := pc + 6, locals := ls, stack := .ref sa :: .ref T.heap.size :: .ref T.heap.size :: rest, locked := none }) rfl hsize rfl rfl (rest := rest) rfl
    (by rw [hb]; exact d6) (by rw [hb]; exact d9) hout hRframes (by simp only [List.map_cons, List.sum_cons, hcat]; omega) hlocks
  obtain ⟨f1, f2⟩ := vx_frame hsame
  rw [hhp] at f1 f2
  have hWs : s.WarmedH U.vm := State.WarmedH.trans hW0 hW
  have hcl : s.vm.findClass nsN = some ce.cls := by
    rw [hvm] at hO
    exact hO
  have hall : s.sameButNew ({ U with vm := s.vm } : State) locs mc ms := by
    subst hA
    obtain ⟨e1, e2⟩ := hsame
    rw [State.setFrames_setFrames] at e1
    have h2 : (T.setVm s.vm).sameButNew ({ U with vm := s.vm } : State) [] (0 + 1) (0 + 6) := ⟨e1, e2⟩
    have h3 := X.same.trans h2
    rw [List.append_nil] at h3
    exact h3.mono hc hs
  refine ⟨U, ?_, .threw T.heap.size, hrun, hend, Or.inr ⟨T.heap.size, rfl, nsN, ce, locs, hx U hWs.alike f1 (fun q hq => f2 q hq (fun z hz => nomatch hz)), hce, hOv, hcl, hWs, hall, hf⟩⟩
  refine st1 _ ?_
  show Steps p.tables e below (T1.setTop { method := m, pc := pc + 3, locals := ls, stack := .ref T.heap.size :: rest, locked := none }) _
  jvm_step X₁.here [X₁.here.top, hexec, d3', Value.category]
  exact X₁.ldcString hexec (own := own) (text := text) (index := is) (a := sa) hown' hstr'.1 hstr'.2
    (g := { method := m, pc := pc + 4, locals := ls, stack := .ref T.heap.size :: .ref T.heap.size :: rest, locked := none }) rfl d4' _ hsteps
end NSF
/-- the words of such a throw -/
def zEN (own : String) (ik is ic : Nat) (tx : String) : Prop := Cond.classLink own ik nsN ∈ zTs ∧ Cond.initialized nsN ∈ zTs ∧ (∃ sa, (own, is, tx, sa) ∈ kR) ∧
  (∀ w ∈ ((nsA own ic).filter vx_no ++ Bundle.passSAtoms nsN nsR 13 nsB ++ Bundle.chainSAtoms nsR ["java/lang/Exception"]).filter goodWord, w ∈ zTs) ∧ (∀ w ∈ ((nsA own ic).filter vx_no ++ Bundle.passSAtoms nsN nsR 13 nsB ++ Bundle.chainSAtoms nsR ["java/lang/Exception"]).filter (fun w => !goodWord w), w ∈ kN) ∧ (∀ w ∈ Cond.classLink own ik nsN :: Cond.initialized nsN :: ((nsA own ic).filter vx_no ++ Bundle.passSAtoms nsN nsR 13 nsB ++ Bundle.chainSAtoms nsR ["java/lang/Exception"]), vx_ot w = true)
theorem z_throwNS {l : zL} {Y : zM} {d kc ks pc n : Nat} {lv : List (Nat × Value)} {h : Nat → va_E} {Q : zQ} {ik is ic : Nat} {tx : String} (hE : zEN Y.1.cls ik is ic tx) (hh : Y.2.2.2.2 = []) (hk : 1 ≤ kc) (hs : 6 ≤ ks) (hdd : 4 ≤ d := by omega)
    (d0 : decode Y.2.1 pc = .ok (.new ik, 3)) (d3 : decode Y.2.1 (pc + 3) = .ok (.dup, 1)) (d4 : decode Y.2.1 (pc + 4) = .ok (.ldc is, 2)) (d6 : decode Y.2.1 (pc + 6) = .ok (.invokespecial ic, 3)) (d9 : decode Y.2.1 (pc + 9) = .ok (.athrow, 1))
    (hq : Q (.inr nsN) n h) : Zj l Y d kc ks pc lv [] n h Q := by
  intro p e R s m args below meth c sz0 D cA ad H locs cells slots mc ms ls Z hK hC hX hR hS hl g1 g2 g3 g4
  obtain ⟨hx, hb, hml, hrt, hlocks, hown, hinit, htab, hts, hKK, hsz, hfr, hlo, hst⟩ := id hK
  obtain ⟨e3, e4, ⟨sa, e5⟩, e6, e7, e8⟩ := hE
  rcases hX.2 with h2 | ⟨Qc, XC, rfl, h3⟩
  · exact absurd hq (h2 nsN n h)
  · have hall := vx_hat (L := (nsA Y.1.cls ic).filter vx_no ++ Bundle.passSAtoms nsN nsR 13 nsB ++ Bundle.chainSAtoms nsR ["java/lang/Exception"]) (fun w hw => hts w (e6 w hw)) e7 (zKN (args := args) hC)
    refine ns_throw (text := tx) (sa := ad sa) hx hb hst hown (hts _ e3) (hts _ e4) (hC.2.2.2.2.1 _ e5) (fun w hw => hall w (List.mem_append_left _ (List.mem_append_left _ hw))) (fun w hw => hall w (List.mem_append_left _ (List.mem_append_right _ hw))) (fun w hw => hall w (List.mem_append_right _ hw)) e8 hC.2.2.2.2.2.2.1 hC.2.2.2.2.2.2.2.1 hS (by rw [hl.1, hml]) d0 d3 d4 d6 d9 (fun x hx => by rw [htab, hh] at hx; cases hx) (by omega) (by simp only [List.map_nil, List.sum_nil]; omega) (by omega) (by omega) hlocks (fun t hA hz hk => ?_) hS.2.2 (by omega) (by omega)
    exact h3 ad n h nsN t zag_rf hq (zR_kept hR hk) hA ⟨Nat.le_trans hS.1 hz, fun q g5 g6 => (hk q (Nat.lt_of_lt_of_le g5 hS.1)).trans (hS.2.1 q g5 g6)⟩
