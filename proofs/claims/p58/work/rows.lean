section
-- ===== PART A: goes FIRST, ahead of the names: the tables' words, and 'selects' of the private methods out of them =====
/-- a private method of a class that the tables say can be made, by its rows of tables_1 -/
def lw_okq (q : MethodName × Nat) : Prop := (q.1.cls ≠ "java/lang/invoke/MethodHandle" ∧ q.1.cls ≠ "java/lang/invoke/VarHandle") ∧ Cond.instantiable q.1.cls q.2 ∈ tables_1 ∧ Cond.privateMethod q.1 ∈ tables_1 ∧ Cond.instanceMethod q.1 ∈ tables_1
theorem lw_p0 : lw_okq (⟨"NeighbourHash$Table", "empty", "(I)V"⟩, 16) := ⟨⟨by decide +kernel, by decide +kernel⟩, List.mem_of_getElem? (i := 53) (by decide +kernel), List.mem_of_getElem? (i := 63) (by decide +kernel), List.mem_of_getElem? (i := 64) (by decide +kernel)⟩
theorem lw_p1 : lw_okq (⟨"NeighbourHash$Table", "queueAll", "()V"⟩, 16) := ⟨⟨by decide +kernel, by decide +kernel⟩, List.mem_of_getElem? (i := 53) (by decide +kernel), List.mem_of_getElem? (i := 196) (by decide +kernel), List.mem_of_getElem? (i := 197) (by decide +kernel)⟩
theorem lw_p2 : lw_okq (⟨"NeighbourHash$Table", "place", "(II)I"⟩, 16) := ⟨⟨by decide +kernel, by decide +kernel⟩, List.mem_of_getElem? (i := 53) (by decide +kernel), List.mem_of_getElem? (i := 200) (by decide +kernel), List.mem_of_getElem? (i := 201) (by decide +kernel)⟩
theorem lw_p3 : lw_okq (⟨"NeighbourHash$Table", "displaceInto", "(I)I"⟩, 16) := ⟨⟨by decide +kernel, by decide +kernel⟩, List.mem_of_getElem? (i := 53) (by decide +kernel), List.mem_of_getElem? (i := 216) (by decide +kernel), List.mem_of_getElem? (i := 217) (by decide +kernel)⟩
theorem lw_p4 : lw_okq (⟨"NeighbourHash$Table", "shift", "(III)V"⟩, 16) := ⟨⟨by decide +kernel, by decide +kernel⟩, List.mem_of_getElem? (i := 53) (by decide +kernel), List.mem_of_getElem? (i := 224) (by decide +kernel), List.mem_of_getElem? (i := 225) (by decide +kernel)⟩
theorem lw_p5 : lw_okq (⟨"NeighbourHash$Table", "build", "(I)Z"⟩, 16) := ⟨⟨by decide +kernel, by decide +kernel⟩, List.mem_of_getElem? (i := 53) (by decide +kernel), List.mem_of_getElem? (i := 232) (by decide +kernel), List.mem_of_getElem? (i := 233) (by decide +kernel)⟩
theorem lw_p6 : lw_okq (⟨"NeighbourHash$Table", "pullFrom", "(I)V"⟩, 16) := ⟨⟨by decide +kernel, by decide +kernel⟩, List.mem_of_getElem? (i := 53) (by decide +kernel), List.mem_of_getElem? (i := 248) (by decide +kernel), List.mem_of_getElem? (i := 249) (by decide +kernel)⟩
theorem lw_p7 : lw_okq (⟨"NeighbourHash$Table", "pullInto", "(I)I"⟩, 16) := ⟨⟨by decide +kernel, by decide +kernel⟩, List.mem_of_getElem? (i := 53) (by decide +kernel), List.mem_of_getElem? (i := 252) (by decide +kernel), List.mem_of_getElem? (i := 253) (by decide +kernel)⟩
theorem lw_p8 : lw_okq (⟨"NeighbourHash$History", "nextPlace", "()LNeighbourHash$Table;"⟩, 3) := ⟨⟨by decide +kernel, by decide +kernel⟩, List.mem_of_getElem? (i := 159) (by decide +kernel), List.mem_of_getElem? (i := 293) (by decide +kernel), List.mem_of_getElem? (i := 294) (by decide +kernel)⟩
theorem lw_p9 : lw_okq (⟨"NeighbourHash", "needBucket", "(I)V"⟩, 8) := ⟨⟨by decide +kernel, by decide +kernel⟩, List.mem_of_getElem? (i := 18) (by decide +kernel), List.mem_of_getElem? (i := 329) (by decide +kernel), List.mem_of_getElem? (i := 330) (by decide +kernel)⟩
theorem lw_p10 : lw_okq (⟨"java/lang/Throwable", "fillInStackTrace", "(I)Ljava/lang/Throwable;"⟩, 6) := ⟨⟨by decide +kernel, by decide +kernel⟩, List.mem_of_getElem? (i := 373) (by decide +kernel), List.mem_of_getElem? (i := 371) (by decide +kernel), List.mem_of_getElem? (i := 372) (by decide +kernel)⟩
theorem lw_p11 : lw_okq (⟨"NeighbourHash", "tryToInsert", "(I)I"⟩, 8) := ⟨⟨by decide +kernel, by decide +kernel⟩, List.mem_of_getElem? (i := 18) (by decide +kernel), List.mem_of_getElem? (i := 431) (by decide +kernel), List.mem_of_getElem? (i := 432) (by decide +kernel)⟩
def lw_privs_1 : List (MethodName × Nat) := [(⟨"NeighbourHash$Table", "empty", "(I)V"⟩, 16), (⟨"NeighbourHash$Table", "queueAll", "()V"⟩, 16), (⟨"NeighbourHash$Table", "place", "(II)I"⟩, 16), (⟨"NeighbourHash$Table", "displaceInto", "(I)I"⟩, 16), (⟨"NeighbourHash$Table", "shift", "(III)V"⟩, 16), (⟨"NeighbourHash$Table", "build", "(I)Z"⟩, 16), (⟨"NeighbourHash$Table", "pullFrom", "(I)V"⟩, 16), (⟨"NeighbourHash$Table", "pullInto", "(I)I"⟩, 16), (⟨"NeighbourHash$History", "nextPlace", "()LNeighbourHash$Table;"⟩, 3), (⟨"NeighbourHash", "needBucket", "(I)V"⟩, 8), (⟨"java/lang/Throwable", "fillInStackTrace", "(I)Ljava/lang/Throwable;"⟩, 6), (⟨"NeighbourHash", "tryToInsert", "(I)I"⟩, 8)]
theorem lw_r1 : ∀ q ∈ lw_privs_1, lw_okq q := List.forall_mem_cons.mpr ⟨lw_p0, List.forall_mem_cons.mpr ⟨lw_p1, List.forall_mem_cons.mpr ⟨lw_p2, List.forall_mem_cons.mpr ⟨lw_p3, List.forall_mem_cons.mpr ⟨lw_p4, List.forall_mem_cons.mpr ⟨lw_p5, List.forall_mem_cons.mpr ⟨lw_p6, List.forall_mem_cons.mpr ⟨lw_p7, List.forall_mem_cons.mpr ⟨lw_p8, List.forall_mem_cons.mpr ⟨lw_p9, List.forall_mem_cons.mpr ⟨lw_p10, List.forall_mem_cons.mpr ⟨lw_p11, fun _ h => absurd h List.not_mem_nil⟩⟩⟩⟩⟩⟩⟩⟩⟩⟩⟩⟩
def lw_privs : List (MethodName × Nat) := lw_privs_1
def lw_tbl : List Cond := k2_sels lw_privs ++ tables_1
theorem lw_privs_ok : ∀ q ∈ lw_privs, lw_okq q := lw_r1
-- ===== end of PART A; then your names; then what follows =====
end
section
/-! ===== BEGIN words of one list among another's, by their places ===== -/
theorem goodIn_r {big : List Cond} (ws : List Cond) (ps : List Nat) (hp : ws = ps.filterMap (fun i => big[i]?)) (h : ws.all goodWord = true) : GoodIn big ws := by
  intro w hw
  have h1 := List.all_eq_true.mp h w hw
  rw [hp] at hw
  obtain ⟨i, -, hi⟩ := List.mem_filterMap.mp hw
  have hm : w ∈ big := by first | exact List.mem_of_getElem? hi | exact List.getElem?_mem hi
  exact ⟨hm, good_of_word h1⟩
theorem goodIn_app {big a b : List Cond} (ha : GoodIn big a) (hb : GoodIn big b) : GoodIn big (a ++ b) := fun w h => (List.mem_append.mp h).elim (ha w) (hb w)
theorem goodIn_ca {big a b : List Cond} {c : Cond} (ha : GoodIn big (c :: a)) (hb : GoodIn big b) : GoodIn big (c :: (a ++ b)) := fun w h => (List.mem_cons.mp h).elim (fun e => ha w (List.mem_cons.mpr (Or.inl e))) (fun h => (List.mem_append.mp h).elim (fun h => ha w (List.mem_cons.mpr (Or.inr h))) (hb w))
theorem goodIn_sub {big ws : List Cond} (hm : ∀ w ∈ ws, w ∈ big) (h : ws.all goodWord = true) : GoodIn big ws := fun w hw => ⟨hm w hw, good_of_word (List.all_eq_true.mp h w hw)⟩
/-! ===== END ===== -/

/-! ===== BEGIN exceptions that leave a method, and their catching by the caller (launches without stack traces) ===== -/
section VXA
/-! The laws vx_back, vx_callV, vx_callS, vx_callSW, vx_throw0, vx_throwS follow proofs of the library, with one case more: JvmDerived/Free/Laws.lean (Back.of_free), Shelf42/LK1.lean (callV, callS), Shelf/KitTraced.lean (throwNew0V, throwNewS). -/
/-- where a method has thrown q: the class by its name, the cell, what was written, the world -/
def vx_T (XC : String → State → State → Prop) (st : State) (q : Addr) (t : State) (mc ms : Nat) (free : Addr → Prop) : Prop :=
  ∃ (E : String) (ce : Cell) (L : List Loc), XC E st t ∧ t.heap[q]? = some ce ∧ ce.vm = .none ∧ st.vm.findClass E = some ce.cls ∧ st.WarmedH t.vm ∧ st.sameButNew ({ t with vm := st.vm } : State) L mc ms ∧ ∀ z ∈ L, free z.base
def vx_Q (Qc : Array Value → State → Outcome → State → Prop) (XC : String → State → State → Prop) (mc ms : Nat) (free : Addr → Prop) : Array Value → State → Outcome → State → Prop := fun a st o t =>
  (Qc a st o t ∧ ∃ L, FrameEnd st o t L mc ms ∧ ∀ q ∈ L, free q.base) ∨ ∃ q, o = .threw q ∧ vx_T XC st q t mc ms free
/-- a callee that returns or throws -/
def vx_Met (l : Launch) (y : MethodName) (ws : List Cond) (rm : Room) (Pc : Array Value → State → Prop) (Qc : Array Value → State → Outcome → State → Prop) (XC : String → State → State → Prop) (mc ms : Nat) (free : Addr → Prop) : Prop :=
  MetFree l y (headSpec ws rm) Pc (fun _ _ _ _ _ => True) (vx_Q Qc XC mc ms free)
def vx_Post (XC : String → State → State → Prop) (mc ms : Nat) (free : Addr → Prop) : Pt → Array Value → Addr → Pt → Prop := fun A a q B =>
  ∃ (g : JFrame) (mk : MethodId) (t : State) (L : List Loc) (E : String) (ce : Cell), B.U.heap = t.heap ∧ B.U.vm = t.vm ∧ XC E (A.U.calling g mk a) t ∧ t.heap[q]? = some ce ∧ ce.vm = .none ∧ A.U.vm.findClass E = some ce.cls ∧ B.locs = A.locs ++ L ∧ (∀ z ∈ L, free z.base) ∧ B.cells = A.cells + mc ∧ B.slots = A.slots + ms
def vx_Back (l : Launch) (R : Room) (p : Program) (e : Env) (below : List Frame) (s : State) (sargs : Array Value) (y : MethodName) (len W9 : Nat)
    (Pre : Pt → Array Value → Prop) (Post : Pt → Array Value → Option Value → Pt → Prop) (PostX : Pt → Array Value → Addr → Pt → Prop) : Prop :=
  ∀ (m : MethodId) (meth : Method) (c : Code) (A : Pt) (g : JFrame) (ig : Instr) (mk : MethodId) (a : Array Value),
    Stand p l e R s m sargs below meth c A.U A.locs A.cells A.slots → g.method = m → g.locals.size = c.maxLocals → decode c.code g.pc = .ok (ig, len) →
    2 * g.monitorRoom + (g.stack.map fun v => v.category).sum ≤ W9 → A.U.methodNamed? y = some mk → Pre A a →
    (∃ (v : Option Value) (B : Pt), Stand p l e R s m sargs below meth c B.U B.locs B.cells B.slots ∧ Post A a v B ∧
      Steps p.tables e below (doInvoke e (A.U.setTop g) [] mk a).1 (B.U.setTop { g with pc := g.pc + len, stack := v.toList ++ g.stack })) ∨
    (∃ (q : Addr) (B : Pt), Stand p l e R s m sargs below meth c B.U B.locs B.cells B.slots ∧ PostX A a q B ∧
      Steps p.tables e below (doInvoke e (A.U.setTop g) [] mk a).1 ((B.U.setTop g).pushFrame (.throwing q)))
section Payer
variable {l : Launch} {R : Room} {p : Program} {e : Env} {below : List Frame} {s : State} {sargs : Array Value} {y : MethodName} {len W9 : Nat}
theorem vx_back {ws : List Cond} {rm : Room} {Pc : Array Value → State → Prop} {Qc : Array Value → State → Outcome → State → Prop} {XC : String → State → State → Prop} {mc ms : Nat} {free : Addr → Prop} {bytes : ByteArray} {maxL : Nat} {ret : Option FieldType}
    (hM : vx_Met l y ws rm Pc Qc XC mc ms free) (hblind : FrameBlind Pc) (hrc : rm.cells = mc) (hrs : rm.slots = ms)
    (hframes : rm.frames + 1 ≤ R.frames) (hlocals : W9 + (maxL + 11) + rm.locals ≤ R.locals)
    (hws : ∀ w ∈ ws, ∀ a' U, s.WarmedH U.vm → w.before a' U = true) (hcode : Cond.code y bytes maxL ret ∈ ws) (hinit : ∀ a' U, s.WarmedH U.vm → (Cond.initialized y.cls).before a' U = true) :
    vx_Back l R p e below s sargs y len W9 (PreOf R mc ms Pc) (PostOf Qc mc ms free) (vx_Post XC mc ms free) := by
  intro m meth c A g ig mk a X hg hsize hdg hW hn hp
  have h1 : (headSpec ws rm).pre.before a A.U = true := atoms_intro fun w hw => hws w hw _ _ X.warmed
  have h2 : (Cond.code y bytes maxL ret).before a A.U = true := hws _ hcode _ _ X.warmed
  have h3 : (Cond.initialized y.cls).before a A.U = true := hinit _ _ X.warmed
  have h4 : A.cells + (headSpec ws rm).room.cells ≤ R.cells := by rw [show (headSpec ws rm).room.cells = mc from hrc]; exact hp.1
  have h5 : A.slots + (headSpec ws rm).room.slots ≤ R.slots := by rw [show (headSpec ws rm).room.slots = ms from hrs]; exact hp.2.1
  have hPc : Pc a (A.U.calling g mk a) := hblind _ _ _ _ hp.2.2
  obtain ⟨U, Ls, c0, s0⟩ := A
  dsimp only [Pt.U, Pt.locs, Pt.cells, Pt.slots] at h1 h2 h3 h4 h5 X hn hPc ⊢
  obtain ⟨methY, cY, hmY, hcY, -, hlY, -, -, -, -⟩ := Cond.code_spec hn h2
  obtain ⟨kY, hkY, -⟩ := className_of_methodNamed hn
  have hinitY : kY.init = .initialized := Cond.initialized_spec (findClass_of_methodNamed hn) hkY h3
  have h : At U g.method c below := by rw [hg]; exact X.here
  have hlocals9 : W9 + (maxL + 11) + (headSpec ws rm).room.locals ≤ R.locals := hlocals
  have happ : (headSpec ws rm).appliesLoose y e.platform (U.calling g mk a) = true :=
    Spec.appliesLoose_calling (g := g) h hdg hn hkY hinitY
      (X.room_calling (g := g) (R' := (headSpec ws rm).room) hsize hmY hcY hframes (by rw [hlY]; omega) h4 h5) h1
  obtain ⟨mid, hmid⟩ := h.above
  have hfr : (U.setTop g).frames = (.java g :: mid) ++ below := by rw [State.frames_setTop' g h.top, hmid]; rfl
  obtain ⟨o, s₂, hsteps, -, hend, hq⟩ := Steps.callFree hM p X.admits X.cas X.clock (acts := []) hfr happ hPc trivial
  have hq' : vx_Q Qc XC mc ms free a (U.calling g mk a) o s₂ := hq
  rw [State.frames_setTop' g h.top] at hend
  obtain ⟨g₀, hg0⟩ := Option.isSome_iff_exists.mp h.top
  obtain ⟨r, hr⟩ := State.topJava?_eq_some.mp hg0
  have hr' : (({ U with heap := s₂.heap, slotsUsed := s₂.slotsUsed } : State).setVm s₂.vm).frames = .java g₀ :: r := hr
  rcases hq' with ⟨hqc, L, hfe, hL⟩ | ⟨q, rfl, E, ce, L, hx, hce, hcv, hcl, hW₂, hsm, hL⟩
  · obtain ⟨⟨v, rfl⟩, hW₂, e2, q2, q3, q4, q5, q6⟩ := id hfe
    have e3 : s₂ = ({ (U.calling g mk a).setFrames s₂.frames with heap := s₂.heap, slotsUsed := s₂.slotsUsed } : State).setVm s₂.vm := by
      have : s₂ = ({ s₂ with vm := (U.calling g mk a).vm } : State).setVm s₂.vm := rfl
      rw [e2] at this
      exact this
    obtain ⟨c₂, i₂, len₂, hc₂, hd₂, hf₂⟩ := hend
    have hW' : U.WarmedH s₂.vm := hW₂
    have hcc : c₂ = c := by
      have h1 : s₂.code? g.method = U.code? g.method := by
        rw [State.code?_eq, State.code?_eq, hW'.alike.method?]
      exact Option.some.inj (hc₂.symm.trans (h1.trans h.code))
    subst hcc
    have hlen : len₂ = len := by rw [hdg] at hd₂; cases hd₂; rfl
    subst hlen
    have hs₂ : s₂ = (({ U with heap := s₂.heap, slotsUsed := s₂.slotsUsed } : State).setVm s₂.vm).setTop { g with pc := g.pc + len₂, stack := v.toList ++ g.stack } := by
      refine e3.trans ?_
      rw [hf₂, State.calling_eq h.top, State.setFrames_setFrames, State.setTop_of_frames _ hr', hr]
      rfl
    have hsame : U.sameButNew ({ U with heap := s₂.heap, slotsUsed := s₂.slotsUsed } : State) L mc ms := by
      refine ⟨?_, q2, q3, q4, q5, q6⟩
      obtain ⟨t, ht, -⟩ := State.frames_cons hr
      show ({ U with heap := s₂.heap, slotsUsed := s₂.slotsUsed } : State) = { U.setFrames U.frames with heap := s₂.heap, slotsUsed := s₂.slotsUsed }
      rw [State.setFrames_self ht]
    subst hg
    refine Or.inl ⟨v, ⟨(({ U with heap := s₂.heap, slotsUsed := s₂.slotsUsed } : State).setVm s₂.vm), Ls ++ L, c0 + mc, s0 + ms⟩,
      ⟨X.admits, X.cas, X.clock, X.frames, X.room, X.hears, X.method, X.code, (X.here.setHeapUsed s₂.heap s₂.slotsUsed).setVm hW'.alike, X.tail, State.WarmedH.trans X.warmed hW', X.limits, X.bytes, X.same.trans (hsame.setVm s.vm)⟩,
      ⟨g, mk, s₂, L, rfl, rfl, hqc, rfl, hL, rfl, rfl⟩, ?_⟩
    show Steps p.tables e below _ ((({ U with heap := s₂.heap, slotsUsed := s₂.slotsUsed } : State).setVm s₂.vm).setTop { g with pc := g.pc + len₂, stack := v.toList ++ g.stack })
    rw [← hs₂]
    exact hsteps
  · obtain ⟨e2, q2, q3, q4, q5, q6⟩ := id hsm
    have e3 : s₂ = ({ (U.calling g mk a).setFrames s₂.frames with heap := s₂.heap, slotsUsed := s₂.slotsUsed } : State).setVm s₂.vm := by
      have : s₂ = ({ s₂ with vm := (U.calling g mk a).vm } : State).setVm s₂.vm := rfl
      rw [e2] at this
      exact this
    have hf₂ : s₂.frames = .throwing q :: .java g :: U.frames.tail := hend
    have hW' : U.WarmedH s₂.vm := hW₂
    have hs₂ : s₂ = ((({ U with heap := s₂.heap, slotsUsed := s₂.slotsUsed } : State).setVm s₂.vm).setTop g).pushFrame (.throwing q) := by
      refine e3.trans ?_
      rw [hf₂, State.calling_eq h.top, State.setFrames_setFrames, State.pushFrame, State.frames_setTop _ hr', State.setTop_of_frames _ hr', State.setFrames_setFrames, hr]
      rfl
    have hsame : U.sameButNew ({ U with heap := s₂.heap, slotsUsed := s₂.slotsUsed } : State) L mc ms := by
      refine ⟨?_, q2, q3, q4, q5, q6⟩
      obtain ⟨t, ht, -⟩ := State.frames_cons hr
      show ({ U with heap := s₂.heap, slotsUsed := s₂.slotsUsed } : State) = { U.setFrames U.frames with heap := s₂.heap, slotsUsed := s₂.slotsUsed }
      rw [State.setFrames_self ht]
    subst hg
    refine Or.inr ⟨q, ⟨(({ U with heap := s₂.heap, slotsUsed := s₂.slotsUsed } : State).setVm s₂.vm), Ls ++ L, c0 + mc, s0 + ms⟩,
      ⟨X.admits, X.cas, X.clock, X.frames, X.room, X.hears, X.method, X.code, (X.here.setHeapUsed s₂.heap s₂.slotsUsed).setVm hW'.alike, X.tail, State.WarmedH.trans X.warmed hW', X.limits, X.bytes, X.same.trans (hsame.setVm s.vm)⟩,
      ⟨g, mk, s₂, L, E, ce, rfl, rfl, hx, hce, hcv, hcl, rfl, hL, rfl, rfl⟩, ?_⟩
    show Steps p.tables e below _ (((({ U with heap := s₂.heap, slotsUsed := s₂.slotsUsed } : State).setVm s₂.vm).setTop g).pushFrame (.throwing q))
    rw [← hs₂]
    exact hsteps
end Payer
section Calls
variable {p : Program} {l : Launch} {e : Env} {R : Room} {s : State} {m : MethodId} {args : Array Value} {below : List Frame} {meth : Method} {c : Code} {T : State} {locs : List Loc} {cells slots : Nat}
theorem vx_callV (X : Stand p l e R s m args below meth c T locs cells slots) (hexec : p.tables.exec = Jvm.exec) {own C : String} {index : Nat} {y : MethodName} {bytes : ByteArray} {maxL : Nat} {ret : Option FieldType}
    (hown : s.vm.findClass own = some m.cls) (hlink : (Cond.methodLink own index y).before args s = true) (hinst : (Cond.instanceMethod y).before args s = true) (hsel : (Cond.selects C y y).before args s = true)
    (hcode : (Cond.code y bytes maxL ret).before args s = true) (hy : y.cls ≠ "java/lang/invoke/MethodHandle" ∧ y.cls ≠ "java/lang/invoke/VarHandle")
    {W9 : Nat} {Pre : Pt → Array Value → Prop} {Post : Pt → Array Value → Option Value → Pt → Prop} {PostX : Pt → Array Value → Addr → Pt → Prop} (hK : vx_Back l R p e below s args y 3 W9 Pre Post PostX)
    {b : Addr} {cellB : Cell} (hcell : T.heap[b]? = some cellB) (hobj : cellB.vm.isStatics = false) (hcls : s.vm.findClass C = some cellB.cls)
    {g : JFrame} (hg : g.method = m) (hsize : g.locals.size = c.maxLocals) {argsL rest : List Value} (hlen : ∀ sig, parseMethodDescriptor y.desc = some sig → argsL.length = sig.parameters.length)
    (hstack : g.stack = argsL.reverse ++ .ref b :: rest) (hW : 2 * g.monitorRoom + (rest.map fun v => v.category).sum ≤ W9) (hdg : decode c.code g.pc = .ok (.invokevirtual index, 3))
    (hpre : ∀ vm₁, s.WarmedH vm₁ → Pre ⟨T.setVm vm₁, locs, cells, slots⟩ (Value.ref b :: argsL).toArray) :
    (∃ (v : Option Value) (vm₁ : Vm) (B : Pt), s.WarmedH vm₁ ∧ Stand p l e R s m args below meth c B.U B.locs B.cells B.slots ∧ Post ⟨T.setVm vm₁, locs, cells, slots⟩ (Value.ref b :: argsL).toArray v B ∧
      ∀ target, Steps p.tables e below (B.U.setTop { g with pc := g.pc + 3, stack := v.toList ++ rest }) target → Steps p.tables e below (T.setTop g) target) ∨
    (∃ (q : Addr) (vm₁ : Vm) (B : Pt), s.WarmedH vm₁ ∧ Stand p l e R s m args below meth c B.U B.locs B.cells B.slots ∧ PostX ⟨T.setVm vm₁, locs, cells, slots⟩ (Value.ref b :: argsL).toArray q B ∧
      Steps p.tables e below (T.setTop g) ((B.U.setTop { g with stack := rest }).pushFrame (.throwing q))) := by
  obtain ⟨mk, methM, hnamed, hmethM, hstM, habM⟩ := Cond.instanceMethod_spec hinst
  obtain ⟨methM', cM, hmethM', -, -, -, -, -, -, hsigM⟩ := Cond.code_spec hnamed hcode
  cases hmethM.symm.trans hmethM'
  obtain ⟨c2, r2, m2, q1, q2, q3, q4, kP, hkP, hkPi⟩ := Cond.selects_spec hsel
  cases hcls.symm.trans q1
  cases (State.methodFound?_of_named hnamed hy).symm.trans q2
  cases hnamed.symm.trans q3
  have hselP : selectMethod e.platform s.vm cellB.cls mk = .method mk := by rw [Launch.admits_selectMethod X.admits]; exact q4
  obtain ⟨vm₁, X₁, hstep₁⟩ := X.invokevirtual hexec hown hlink hnamed hmethM hstM hkP hkPi hy (a := b) (cell := cellB) hcell
    (fun z h => by rw [h] at hobj; cases hobj) hselP hmethM habM hkP hkPi (g := g) hg (argsL := argsL) (rest := rest) (hlen _ hsigM) hstack hdg
  rcases hK m meth c ⟨T.setVm vm₁, locs, cells, slots⟩ { g with stack := rest } (.invokevirtual index) mk (Value.ref b :: argsL).toArray X₁ hg hsize hdg hW (X₁.named hnamed) (hpre vm₁ X₁.warmed) with ⟨v, B, X', hpost, hsteps⟩ | ⟨q, B, X', hpost, hsteps⟩
  · exact Or.inl ⟨v, vm₁, B, X₁.warmed, X', hpost, fun target h => hstep₁ _ fun acts => by rw [doInvoke_state]; exact hsteps.trans h⟩
  · exact Or.inr ⟨q, vm₁, B, X₁.warmed, X', hpost, hstep₁ _ fun acts => by rw [doInvoke_state]; exact hsteps⟩
theorem vx_callS (X : Stand p l e R s m args below meth c T locs cells slots) (hexec : p.tables.exec = Jvm.exec) {own : String} {index : Nat} {y : MethodName} {bytes : ByteArray} {maxL : Nat} {ret : Option FieldType}
    (hown : s.vm.findClass own = some m.cls) (hlink : (Cond.methodLink own index y).before args s = true) (hstat : (Cond.static y).before args s = true) (hinit : (Cond.initialized y.cls).before args s = true)
    (hcode : (Cond.code y bytes maxL ret).before args s = true) (hy : y.cls ≠ "java/lang/invoke/MethodHandle" ∧ y.cls ≠ "java/lang/invoke/VarHandle")
    {W9 : Nat} {Pre : Pt → Array Value → Prop} {Post : Pt → Array Value → Option Value → Pt → Prop} {PostX : Pt → Array Value → Addr → Pt → Prop} (hK : vx_Back l R p e below s args y 3 W9 Pre Post PostX)
    {g : JFrame} (hg : g.method = m) (hsize : g.locals.size = c.maxLocals) {argsL rest : List Value} (hlen : ∀ sig, parseMethodDescriptor y.desc = some sig → argsL.length = sig.parameters.length)
    (hstack : g.stack = argsL.reverse ++ rest) (hW : 2 * g.monitorRoom + (rest.map fun v => v.category).sum ≤ W9) (hdg : decode c.code g.pc = .ok (.invokestatic index, 3))
    (hpre : ∀ vm₁, s.WarmedH vm₁ → Pre ⟨T.setVm vm₁, locs, cells, slots⟩ argsL.toArray) :
    (∃ (v : Option Value) (vm₁ : Vm) (B : Pt), s.WarmedH vm₁ ∧ Stand p l e R s m args below meth c B.U B.locs B.cells B.slots ∧ Post ⟨T.setVm vm₁, locs, cells, slots⟩ argsL.toArray v B ∧
      ∀ target, Steps p.tables e below (B.U.setTop { g with pc := g.pc + 3, stack := v.toList ++ rest }) target → Steps p.tables e below (T.setTop g) target) ∨
    (∃ (q : Addr) (vm₁ : Vm) (B : Pt), s.WarmedH vm₁ ∧ Stand p l e R s m args below meth c B.U B.locs B.cells B.slots ∧ PostX ⟨T.setVm vm₁, locs, cells, slots⟩ argsL.toArray q B ∧
      Steps p.tables e below (T.setTop g) ((B.U.setTop { g with stack := rest }).pushFrame (.throwing q))) := by
  obtain ⟨mk, hnamed⟩ := Cond.code_named hcode
  obtain ⟨methM, cM, hmethM, -, -, -, -, -, -, hsigM⟩ := Cond.code_spec hnamed hcode
  have hstatic : methM.isStatic = true := Cond.static_spec hnamed hmethM hstat
  obtain ⟨kP, hkP, -⟩ := className_of_methodNamed hnamed
  have hinitP : kP.init = .initialized := Cond.initialized_spec (findClass_of_methodNamed hnamed) hkP hinit
  obtain ⟨vm₁, X₁, hstep₁⟩ := X.invokestatic hexec hown hlink hnamed hmethM hstatic hkP hinitP hy (g := g) hg (argsL := argsL) (rest := rest) (hlen _ hsigM) hstack hdg
  rcases hK m meth c ⟨T.setVm vm₁, locs, cells, slots⟩ { g with stack := rest } (.invokestatic index) mk argsL.toArray X₁ hg hsize hdg hW (X₁.named hnamed) (hpre vm₁ X₁.warmed) with ⟨v, B, X', hpost, hsteps⟩ | ⟨q, B, X', hpost, hsteps⟩
  · exact Or.inl ⟨v, vm₁, B, X₁.warmed, X', hpost, fun target h => hstep₁ _ fun acts => by rw [doInvoke_state]; exact hsteps.trans h⟩
  · exact Or.inr ⟨q, vm₁, B, X₁.warmed, X', hpost, hstep₁ _ fun acts => by rw [doInvoke_state]; exact hsteps⟩
end Calls
theorem vx_cls {s : State} {T : State} {vm₁ : Vm} {E : String} {k : ClassId} (hW : s.WarmedH vm₁) (h : (T.setVm vm₁).vm.findClass E = some k) : s.vm.findClass E = some k := by
  have h1 : vm₁.findClass E = some k := h
  rw [hW.alike.findClass] at h1
  exact h1
/-- the method's frame g, with q thrown over it -/
def vx_W (p : Program) (l : Launch) (e : Env) (R : Room) (s : State) (m : MethodId) (args : Array Value) (below : List Frame) (meth : Method) (c : Code) (H : Heap) (locs : List Loc) (cells slots : Nat) (Q : State → Prop) (g : JFrame) (q : Addr) : Prop :=
  ∀ T : State, T.heap = H → Stand p l e R s m args below meth c T locs cells slots → ∃ t, Steps p.tables e below ((T.setTop g).pushFrame (.throwing q)) t ∧ Q t
def vx_Run (p : Program) (l : Launch) (e : Env) (R : Room) (s : State) (m : MethodId) (args : Array Value) (below : List Frame) (meth : Method) (c : Code) (H : Heap) (locs : List Loc) (cells slots mc ms : Nat) (g : JFrame) (rest : List Value) (Qa : State → Outcome → State → Prop) (XC : String → State → State → Prop) (free : Addr → Prop) : Prop :=
  ∀ T : State, T.heap = H → Stand p l e R s m args below meth c T locs cells slots →
    (∃ (v : Option Value) (st₀ t T' : State) (L : List Loc), st₀.heap = H ∧ Stand p l e R s m args below meth c T' (locs ++ L) (cells + mc) (slots + ms) ∧ (∀ q ∈ L, free q.base) ∧ T'.heap = t.heap ∧ T'.vm = t.vm ∧ Qa st₀ (.returned v) t ∧
      Goes p e below T g T' { g with pc := g.pc + 3, stack := v.toList ++ rest }) ∨
    (∃ (q : Addr) (st₀ t T' : State) (L : List Loc) (E : String) (ce : Cell), st₀.heap = H ∧ Stand p l e R s m args below meth c T' (locs ++ L) (cells + mc) (slots + ms) ∧ (∀ z ∈ L, free z.base) ∧ T'.heap = t.heap ∧ T'.vm = t.vm ∧ XC E st₀ t ∧ t.heap[q]? = some ce ∧ ce.vm = .none ∧ s.vm.findClass E = some ce.cls ∧
      Steps p.tables e below (T.setTop g) ((T'.setTop { g with stack := rest }).pushFrame (.throwing q)))
def vx_X {S : Type} (px : S → Prop) (B : String → S → State → Prop) (A : Nat → Prop) : String → State → State → Prop := fun E st t => ∃ u : S, px u ∧ B E u t ∧ va_F A st t
section Runs
variable {p : Program} {l : Launch} {e : Env} {R : Room} {s : State} {m : MethodId} {args : Array Value} {below : List Frame} {meth : Method} {c : Code} {H : Heap} {locs : List Loc} {cells slots : Nat}
variable {y : MethodName} {bytes cc : ByteArray} {maxL nL mc ms n index : Nat} {ret : Option FieldType} {ws : List Cond} {rm : Room} {Pc : Array Value → State → Prop} {Qc : Array Value → State → Outcome → State → Prop} {XC : String → State → State → Prop} {free : Addr → Prop} {Ts : List Cond} {own C : String} {b : Addr} {As rest : List Value} {g : JFrame}
theorem vx_callBack (cb : CallB R s args own index y bytes maxL ret ws rm mc ms n) (hM : vx_Met l y ws rm Pc Qc XC mc ms free) (hbl : FrameBlind Pc) : vx_Back l R p e below s args y 3 8 (PreOf R mc ms Pc) (PostOf Qc mc ms free) (vx_Post XC mc ms free) := by
  obtain ⟨hrc, hrs, hfr, hlo, hws, hcw, -, hini, -⟩ := cb
  exact vx_back (bytes := bytes) (maxL := maxL) (ret := ret) hM hbl hrc hrs hfr hlo hws hcw (fun a' U hW => word_at hW (Or.inl (by first | rfl | simp [Cond.onTables, Cond.keeps, Cond.steady])) hini)
theorem vx_runV (S : CallFix p m c cc nL s args Ts own) (hM : vx_Met l y ws rm Pc Qc XC mc ms free) (cw : CallW R s args own C index y bytes maxL ret ws rm mc ms n) (hp : PreV s H C b Pc As)
    (hg : g.method = m) (hn : As.length = n) (hsize : g.locals.size = nL) (hstack : g.stack = As.reverse ++ .ref b :: rest) (hW : 2 * g.monitorRoom + (rest.map fun v => v.category).sum ≤ 8) (hdg : decode cc g.pc = .ok (.invokevirtual index, 3)) (hf : cells + mc ≤ R.cells ∧ slots + ms ≤ R.slots) :
    vx_Run p l e R s m args below meth c H locs cells slots mc ms g rest (Qc (Value.ref b :: As).toArray) XC free := by
  have hK : vx_Back l R p e below s args y 3 8 (PreOf R mc ms Pc) (PostOf Qc mc ms free) (vx_Post XC mc ms free) := vx_callBack cw.1 hM hp.1
  obtain ⟨⟨-, -, -, -, -, -, hcode, -, hy, hlen, hl⟩, hin, hse⟩ := cw
  obtain ⟨hx, hb, hml, ho, -⟩ := S
  obtain ⟨-, ⟨cellB, hcB, hoB, hclB⟩, hPc⟩ := hp
  intro T hT X
  rcases vx_callV X hx (C := C) (bytes := bytes) (maxL := maxL) (ret := ret) ho hl hin hse hcode hy hK (by rw [hT]; exact hcB) hoB hclB hg (hsize.trans hml.symm) (argsL := As) (rest := rest) (fun sig h => hn.trans (hlen sig h)) hstack hW (by rw [hb]; exact hdg)
    (fun vm₁ hW₁ => ⟨hf.1, hf.2, hPc (T.setVm vm₁) hT hW₁⟩) with ⟨v, vm₁, ⟨U', l2, c2, s2⟩, hW₁, X', ⟨g', mk, t, L, e1, e2, hq, h1, hL, h2, h3⟩, st⟩ | ⟨q, vm₁, ⟨U', l2, c2, s2⟩, hW₁, X', ⟨g', mk, t, L, E, ce, e1, e2, hq, hce, hcv, hcl, h1, hL, h2, h3⟩, st⟩
  · dsimp only [Pt.U, Pt.locs, Pt.cells, Pt.slots] at X' e1 e2 h1 h2 h3 st
    subst h1; subst h2; subst h3
    exact Or.inl ⟨v, (T.setVm vm₁).calling g' mk (Value.ref b :: As).toArray, t, U', L, hT, X', hL, e1, e2, hq, st⟩
  · dsimp only [Pt.U, Pt.locs, Pt.cells, Pt.slots] at X' e1 e2 h1 h2 h3 st hcl
    subst h1; subst h2; subst h3
    exact Or.inr ⟨q, (T.setVm vm₁).calling g' mk (Value.ref b :: As).toArray, t, U', L, E, ce, hT, X', hL, e1, e2, hq, hce, hcv, vx_cls hW₁ hcl, st⟩
theorem vx_runS (S : CallFix p m c cc nL s args Ts own) (hM : vx_Met l y ws rm Pc Qc XC mc ms free) (cw : CallB R s args own index y bytes maxL ret ws rm mc ms n ∧ (Cond.static y).before args s = true) (hp : PreS s H Pc As)
    (hg : g.method = m) (hn : As.length = n) (hsize : g.locals.size = nL) (hstack : g.stack = As.reverse ++ rest) (hW : 2 * g.monitorRoom + (rest.map fun v => v.category).sum ≤ 8) (hdg : decode cc g.pc = .ok (.invokestatic index, 3)) (hf : cells + mc ≤ R.cells ∧ slots + ms ≤ R.slots) :
    vx_Run p l e R s m args below meth c H locs cells slots mc ms g rest (Qc As.toArray) XC free := by
  have hK : vx_Back l R p e below s args y 3 8 (PreOf R mc ms Pc) (PostOf Qc mc ms free) (vx_Post XC mc ms free) := vx_callBack cw.1 hM hp.1
  obtain ⟨⟨-, -, -, -, -, -, hcode, hini, hy, hlen, hl⟩, hstt⟩ := cw
  obtain ⟨hx, hb, hml, ho, -⟩ := S
  intro T hT X
  rcases vx_callS X hx (bytes := bytes) (maxL := maxL) (ret := ret) ho hl hstt hini hcode hy hK hg (hsize.trans hml.symm) (argsL := As) (rest := rest) (fun sig h => hn.trans (hlen sig h)) hstack hW (by rw [hb]; exact hdg)
    (fun vm₁ hW₁ => ⟨hf.1, hf.2, hp.2 (T.setVm vm₁) hT hW₁⟩) with ⟨v, vm₁, ⟨U', l2, c2, s2⟩, hW₁, X', ⟨g', mk, t, L, e1, e2, hq, h1, hL, h2, h3⟩, st⟩ | ⟨q, vm₁, ⟨U', l2, c2, s2⟩, hW₁, X', ⟨g', mk, t, L, E, ce, e1, e2, hq, hce, hcv, hcl, h1, hL, h2, h3⟩, st⟩
  · dsimp only [Pt.U, Pt.locs, Pt.cells, Pt.slots] at X' e1 e2 h1 h2 h3 st
    subst h1; subst h2; subst h3
    exact Or.inl ⟨v, (T.setVm vm₁).calling g' mk As.toArray, t, U', L, hT, X', hL, e1, e2, hq, st⟩
  · dsimp only [Pt.U, Pt.locs, Pt.cells, Pt.slots] at X' e1 e2 h1 h2 h3 st hcl
    subst h1; subst h2; subst h3
    exact Or.inr ⟨q, (T.setVm vm₁).calling g' mk As.toArray, t, U', L, E, ce, hT, X', hL, e1, e2, hq, hce, hcv, vx_cls hW₁ hcl, st⟩
end Runs
section Rows
variable {p : Program} {l : Launch} {e : Env} {R : Room} {s : State} {m : MethodId} {args : Array Value} {below : List Frame} {meth : Method} {c : Code} {H : Heap} {locs : List Loc} {cells slots : Nat} {Q : State → Prop}
variable {mc ms : Nat} {free : Addr → Prop} {A0 A1 : Nat → Prop} {H0 : Heap} {a : Array Value} {pc : Nat} {ls : Array Slot} {st0 rest : List Value}
theorem vx_keep {st₀ t T' : State} {L : List Loc} (h0 : st₀.heap = H) (e1 : T'.heap = t.heap) (hS : va_S A0 H0 H locs) (hA : ∀ q, q < H.size → A1 q → A0 q) (hf : ∀ q, free q → A0 q) (hL : ∀ q ∈ L, free q.base) (hF : va_F A1 st₀ t) :
    H.size ≤ T'.heap.size ∧ (∀ q : Nat, q < H.size → ¬ A1 q → T'.heap[q]? = H[q]?) ∧ va_S A0 H0 T'.heap (locs ++ L) := by
  obtain ⟨hz, hk⟩ := hF
  rw [h0] at hz hk
  exact ⟨by rw [e1]; exact hz, fun q h1 h2 => by rw [e1]; exact hk q h1 h2,
    ⟨Nat.le_trans hS.1 (by rw [e1]; exact hz), fun q h1 h2 => by rw [e1, hk q (Nat.lt_of_lt_of_le h1 hS.1) (fun z => h2 (hA q (Nat.lt_of_lt_of_le h1 hS.1) z))]; exact hS.2.1 q h1 h2, fun q hq => by
      rcases List.mem_append.mp hq with h | h
      · exact hS.2.2 q h
      · exact hf _ (hL q h)⟩⟩
theorem vx_calli {S SX : Type} {post : Int32 → S → Prop} {px : SX → Prop} {B : S → State → Prop} {BX : String → SX → State → Prop} {AX : Nat → Prop} (hr : vx_Run p l e R s m args below meth c H locs cells slots mc ms (F0 m pc ls st0) rest (va_Qi post B A1 a) (vx_X px BX AX) free) (hS : va_S A0 H0 H locs) (hA : ∀ q, q < H.size → A1 q → A0 q) (hf : ∀ q, free q → A0 q) (hAX : ∀ q, q < H.size → AX q → A0 q)
    (kx : ∀ (E : String) (ce : Cell) (q9 : Addr) (u : SX) (t : State) (H1 : Heap) (locs1 : List Loc), t.heap = H1 → s.vm.Alike t.vm → px u → BX E u t → H.size ≤ H1.size → (∀ q : Nat, q < H.size → ¬ AX q → H1[q]? = H[q]?) → va_S A0 H0 H1 locs1 → H1[q9]? = some ce → ce.vm = .none → s.vm.findClass E = some ce.cls → vx_W p l e R s m args below meth c H1 locs1 (cells + mc) (slots + ms) Q (F0 m pc ls rest) q9)
    (kk : ∀ (r : Int32) (u : S) (t : State) (H1 : Heap) (locs1 : List Loc), t.heap = H1 → s.vm.Alike t.vm → post r u → B u t → H.size ≤ H1.size → (∀ q : Nat, q < H.size → ¬ A1 q → H1[q]? = H[q]?) → va_S A0 H0 H1 locs1 → W p l e R s m args below meth c H1 locs1 (cells + mc) (slots + ms) Q (F0 m (pc + 3) ls (.int r :: rest))) : W p l e R s m args below meth c H locs cells slots Q (F0 m pc ls st0) := by
  intro T hT X
  rcases hr T hT X with ⟨v, st₀, t, T', L, h0, X', hL, e1, e2, ⟨⟨r, u, hv, hp, hb⟩, hF⟩, st⟩ | ⟨q, st₀, t, T', L, E, ce, h0, X', hL, e1, e2, ⟨u, hp, hb, hF⟩, hce, hcv, hcl, st⟩
  · cases hv
    obtain ⟨k1, k2, k3⟩ := vx_keep h0 e1 hS hA hf hL hF
    obtain ⟨t2, a1, b1⟩ := kk r u t T'.heap (locs ++ L) e1.symm (by rw [← e2]; exact X'.warmed.alike) hp hb k1 k2 k3 T' rfl X'
    exact ⟨t2, st t2 a1, b1⟩
  · obtain ⟨k1, k2, k3⟩ := vx_keep h0 e1 hS hAX hf hL hF
    obtain ⟨t2, a1, b1⟩ := kx E ce q u t T'.heap (locs ++ L) e1.symm (by rw [← e2]; exact X'.warmed.alike) hp hb k1 k2 k3 (by rw [e1]; exact hce) hcv hcl T' rfl X'
    exact ⟨t2, st.trans a1, b1⟩
theorem vx_calll {S SX : Type} {post : Int64 → S → Prop} {px : SX → Prop} {B : S → State → Prop} {BX : String → SX → State → Prop} {AX : Nat → Prop} (hr : vx_Run p l e R s m args below meth c H locs cells slots mc ms (F0 m pc ls st0) rest (va_Ql post B A1 a) (vx_X px BX AX) free) (hS : va_S A0 H0 H locs) (hA : ∀ q, q < H.size → A1 q → A0 q) (hf : ∀ q, free q → A0 q) (hAX : ∀ q, q < H.size → AX q → A0 q)
    (kx : ∀ (E : String) (ce : Cell) (q9 : Addr) (u : SX) (t : State) (H1 : Heap) (locs1 : List Loc), t.heap = H1 → s.vm.Alike t.vm → px u → BX E u t → H.size ≤ H1.size → (∀ q : Nat, q < H.size → ¬ AX q → H1[q]? = H[q]?) → va_S A0 H0 H1 locs1 → H1[q9]? = some ce → ce.vm = .none → s.vm.findClass E = some ce.cls → vx_W p l e R s m args below meth c H1 locs1 (cells + mc) (slots + ms) Q (F0 m pc ls rest) q9)
    (kk : ∀ (r : Int64) (u : S) (t : State) (H1 : Heap) (locs1 : List Loc), t.heap = H1 → s.vm.Alike t.vm → post r u → B u t → H.size ≤ H1.size → (∀ q : Nat, q < H.size → ¬ A1 q → H1[q]? = H[q]?) → va_S A0 H0 H1 locs1 → W p l e R s m args below meth c H1 locs1 (cells + mc) (slots + ms) Q (F0 m (pc + 3) ls (.long r :: rest))) : W p l e R s m args below meth c H locs cells slots Q (F0 m pc ls st0) := by
  intro T hT X
  rcases hr T hT X with ⟨v, st₀, t, T', L, h0, X', hL, e1, e2, ⟨⟨r, u, hv, hp, hb⟩, hF⟩, st⟩ | ⟨q, st₀, t, T', L, E, ce, h0, X', hL, e1, e2, ⟨u, hp, hb, hF⟩, hce, hcv, hcl, st⟩
  · cases hv
    obtain ⟨k1, k2, k3⟩ := vx_keep h0 e1 hS hA hf hL hF
    obtain ⟨t2, a1, b1⟩ := kk r u t T'.heap (locs ++ L) e1.symm (by rw [← e2]; exact X'.warmed.alike) hp hb k1 k2 k3 T' rfl X'
    exact ⟨t2, st t2 a1, b1⟩
  · obtain ⟨k1, k2, k3⟩ := vx_keep h0 e1 hS hAX hf hL hF
    obtain ⟨t2, a1, b1⟩ := kx E ce q u t T'.heap (locs ++ L) e1.symm (by rw [← e2]; exact X'.warmed.alike) hp hb k1 k2 k3 (by rw [e1]; exact hce) hcv hcl T' rfl X'
    exact ⟨t2, st.trans a1, b1⟩
theorem vx_callf {S SX : Type} {post : UInt32 → S → Prop} {px : SX → Prop} {B : S → State → Prop} {BX : String → SX → State → Prop} {AX : Nat → Prop} (hr : vx_Run p l e R s m args below meth c H locs cells slots mc ms (F0 m pc ls st0) rest (va_Qf post B A1 a) (vx_X px BX AX) free) (hS : va_S A0 H0 H locs) (hA : ∀ q, q < H.size → A1 q → A0 q) (hf : ∀ q, free q → A0 q) (hAX : ∀ q, q < H.size → AX q → A0 q)
    (kx : ∀ (E : String) (ce : Cell) (q9 : Addr) (u : SX) (t : State) (H1 : Heap) (locs1 : List Loc), t.heap = H1 → s.vm.Alike t.vm → px u → BX E u t → H.size ≤ H1.size → (∀ q : Nat, q < H.size → ¬ AX q → H1[q]? = H[q]?) → va_S A0 H0 H1 locs1 → H1[q9]? = some ce → ce.vm = .none → s.vm.findClass E = some ce.cls → vx_W p l e R s m args below meth c H1 locs1 (cells + mc) (slots + ms) Q (F0 m pc ls rest) q9)
    (kk : ∀ (r : UInt32) (u : S) (t : State) (H1 : Heap) (locs1 : List Loc), t.heap = H1 → s.vm.Alike t.vm → post r u → B u t → H.size ≤ H1.size → (∀ q : Nat, q < H.size → ¬ A1 q → H1[q]? = H[q]?) → va_S A0 H0 H1 locs1 → W p l e R s m args below meth c H1 locs1 (cells + mc) (slots + ms) Q (F0 m (pc + 3) ls (.float r :: rest))) : W p l e R s m args below meth c H locs cells slots Q (F0 m pc ls st0) := by
  intro T hT X
  rcases hr T hT X with ⟨v, st₀, t, T', L, h0, X', hL, e1, e2, ⟨⟨r, u, hv, hp, hb⟩, hF⟩, st⟩ | ⟨q, st₀, t, T', L, E, ce, h0, X', hL, e1, e2, ⟨u, hp, hb, hF⟩, hce, hcv, hcl, st⟩
  · cases hv
    obtain ⟨k1, k2, k3⟩ := vx_keep h0 e1 hS hA hf hL hF
    obtain ⟨t2, a1, b1⟩ := kk r u t T'.heap (locs ++ L) e1.symm (by rw [← e2]; exact X'.warmed.alike) hp hb k1 k2 k3 T' rfl X'
    exact ⟨t2, st t2 a1, b1⟩
  · obtain ⟨k1, k2, k3⟩ := vx_keep h0 e1 hS hAX hf hL hF
    obtain ⟨t2, a1, b1⟩ := kx E ce q u t T'.heap (locs ++ L) e1.symm (by rw [← e2]; exact X'.warmed.alike) hp hb k1 k2 k3 (by rw [e1]; exact hce) hcv hcl T' rfl X'
    exact ⟨t2, st.trans a1, b1⟩
theorem vx_calld {S SX : Type} {post : UInt64 → S → Prop} {px : SX → Prop} {B : S → State → Prop} {BX : String → SX → State → Prop} {AX : Nat → Prop} (hr : vx_Run p l e R s m args below meth c H locs cells slots mc ms (F0 m pc ls st0) rest (va_Qd post B A1 a) (vx_X px BX AX) free) (hS : va_S A0 H0 H locs) (hA : ∀ q, q < H.size → A1 q → A0 q) (hf : ∀ q, free q → A0 q) (hAX : ∀ q, q < H.size → AX q → A0 q)
    (kx : ∀ (E : String) (ce : Cell) (q9 : Addr) (u : SX) (t : State) (H1 : Heap) (locs1 : List Loc), t.heap = H1 → s.vm.Alike t.vm → px u → BX E u t → H.size ≤ H1.size → (∀ q : Nat, q < H.size → ¬ AX q → H1[q]? = H[q]?) → va_S A0 H0 H1 locs1 → H1[q9]? = some ce → ce.vm = .none → s.vm.findClass E = some ce.cls → vx_W p l e R s m args below meth c H1 locs1 (cells + mc) (slots + ms) Q (F0 m pc ls rest) q9)
    (kk : ∀ (r : UInt64) (u : S) (t : State) (H1 : Heap) (locs1 : List Loc), t.heap = H1 → s.vm.Alike t.vm → post r u → B u t → H.size ≤ H1.size → (∀ q : Nat, q < H.size → ¬ A1 q → H1[q]? = H[q]?) → va_S A0 H0 H1 locs1 → W p l e R s m args below meth c H1 locs1 (cells + mc) (slots + ms) Q (F0 m (pc + 3) ls (.double r :: rest))) : W p l e R s m args below meth c H locs cells slots Q (F0 m pc ls st0) := by
  intro T hT X
  rcases hr T hT X with ⟨v, st₀, t, T', L, h0, X', hL, e1, e2, ⟨⟨r, u, hv, hp, hb⟩, hF⟩, st⟩ | ⟨q, st₀, t, T', L, E, ce, h0, X', hL, e1, e2, ⟨u, hp, hb, hF⟩, hce, hcv, hcl, st⟩
  · cases hv
    obtain ⟨k1, k2, k3⟩ := vx_keep h0 e1 hS hA hf hL hF
    obtain ⟨t2, a1, b1⟩ := kk r u t T'.heap (locs ++ L) e1.symm (by rw [← e2]; exact X'.warmed.alike) hp hb k1 k2 k3 T' rfl X'
    exact ⟨t2, st t2 a1, b1⟩
  · obtain ⟨k1, k2, k3⟩ := vx_keep h0 e1 hS hAX hf hL hF
    obtain ⟨t2, a1, b1⟩ := kx E ce q u t T'.heap (locs ++ L) e1.symm (by rw [← e2]; exact X'.warmed.alike) hp hb k1 k2 k3 (by rw [e1]; exact hce) hcv hcl T' rfl X'
    exact ⟨t2, st.trans a1, b1⟩
theorem vx_callv {S SX : Type} {post : S → Prop} {px : SX → Prop} {B : S → State → Prop} {BX : String → SX → State → Prop} {AX : Nat → Prop} (hr : vx_Run p l e R s m args below meth c H locs cells slots mc ms (F0 m pc ls st0) rest (va_Qv post B A1 a) (vx_X px BX AX) free) (hS : va_S A0 H0 H locs) (hA : ∀ q, q < H.size → A1 q → A0 q) (hf : ∀ q, free q → A0 q) (hAX : ∀ q, q < H.size → AX q → A0 q)
    (kx : ∀ (E : String) (ce : Cell) (q9 : Addr) (u : SX) (t : State) (H1 : Heap) (locs1 : List Loc), t.heap = H1 → s.vm.Alike t.vm → px u → BX E u t → H.size ≤ H1.size → (∀ q : Nat, q < H.size → ¬ AX q → H1[q]? = H[q]?) → va_S A0 H0 H1 locs1 → H1[q9]? = some ce → ce.vm = .none → s.vm.findClass E = some ce.cls → vx_W p l e R s m args below meth c H1 locs1 (cells + mc) (slots + ms) Q (F0 m pc ls rest) q9)
    (kk : ∀ (u : S) (t : State) (H1 : Heap) (locs1 : List Loc), t.heap = H1 → s.vm.Alike t.vm → post u → B u t → H.size ≤ H1.size → (∀ q : Nat, q < H.size → ¬ A1 q → H1[q]? = H[q]?) → va_S A0 H0 H1 locs1 → W p l e R s m args below meth c H1 locs1 (cells + mc) (slots + ms) Q (F0 m (pc + 3) ls (rest))) : W p l e R s m args below meth c H locs cells slots Q (F0 m pc ls st0) := by
  intro T hT X
  rcases hr T hT X with ⟨v, st₀, t, T', L, h0, X', hL, e1, e2, ⟨⟨u, hv, hp, hb⟩, hF⟩, st⟩ | ⟨q, st₀, t, T', L, E, ce, h0, X', hL, e1, e2, ⟨u, hp, hb, hF⟩, hce, hcv, hcl, st⟩
  · cases hv
    obtain ⟨k1, k2, k3⟩ := vx_keep h0 e1 hS hA hf hL hF
    obtain ⟨t2, a1, b1⟩ := kk u t T'.heap (locs ++ L) e1.symm (by rw [← e2]; exact X'.warmed.alike) hp hb k1 k2 k3 T' rfl X'
    exact ⟨t2, st t2 a1, b1⟩
  · obtain ⟨k1, k2, k3⟩ := vx_keep h0 e1 hS hAX hf hL hF
    obtain ⟨t2, a1, b1⟩ := kx E ce q u t T'.heap (locs ++ L) e1.symm (by rw [← e2]; exact X'.warmed.alike) hp hb k1 k2 k3 (by rw [e1]; exact hce) hcv hcl T' rfl X'
    exact ⟨t2, st.trans a1, b1⟩
/-- caught by the row x of this method's table; the rows ahead don't take it -/
theorem vx_catch {own name : String} {E : String} {ce : Cell} {q : Addr} (hown : s.vm.findClass own = some m.cls) (pre : List ExceptionTableEntry) (x : ExceptionTableEntry) (suf : List ExceptionTableEntry) (hsplit : c.exceptionTable.toList = pre ++ x :: suf)
    (hpass : ∀ z ∈ pre, covers z pc = false ∨ (z.catchType ≠ 0 ∧ ∃ nm : String, (Cond.classLink own z.catchType nm).before args s = true ∧ va_Nc E nm s)) (hx : covers x pc = true) (h0 : x.catchType ≠ 0)
    (hlink : (Cond.classLink own x.catchType name).before args s = true) (hcast : (Cond.castable E name).before args s = true) (hcell : H[q]? = some ce) (hv : ce.vm = .none) (hcl : s.vm.findClass E = some ce.cls)
    (kk : W p l e R s m args below meth c H locs cells slots Q (F0 m x.handlerPc ls [.ref q])) : vx_W p l e R s m args below meth c H locs cells slots Q (F0 m pc ls rest) q := by
  intro T hT X
  have hpl : e.platform.magicAccessors = ({} : Platform).magicAccessors := by rw [X.admits.platform]
  obtain ⟨c3, c4, hc3, hc4, hasg⟩ := Cond.castable_spec hcast
  cases Option.some.inj (hc3.symm.trans hcl)
  obtain ⟨c5, hc5, hcl5⟩ := Cond.classLink_spec hown hlink e.platform hpl
  cases Option.some.inj (hc4.symm.trans hc5)
  obtain ⟨vm', X', st⟩ := X.thenCaughtThrough q (g := F0 m pc ls rest) rfl (Steps.refl _) (by rw [hT]; exact hcell) (by rw [hv]; rfl) (by obtain ⟨k9, h9, -⟩ := Vm.findClass_spec hcl; exact ⟨k9, h9⟩) pre x suf hsplit
    (fun z hz => by
      rcases hpass z hz with h | ⟨hz0, nm, hl1, hn1⟩
      · exact Or.inl h
      · obtain ⟨c6, hc6, hcl6⟩ := Cond.classLink_spec hown hl1 e.platform hpl
        obtain ⟨a8, b8, h1, h2, h3⟩ := hn1
        cases Option.some.inj (h1.symm.trans hcl)
        cases Option.some.inj (h2.symm.trans hc6)
        exact Or.inr ⟨hz0, _, hcl6, h3⟩) hx (Or.inr ⟨h0, c4, hcl5, hasg⟩)
  obtain ⟨t, a1, b1⟩ := kk (T.setVm vm') hT X'
  exact ⟨t, st.trans a1, b1⟩
end Rows
section Ends
variable {p : Program} {l : Launch} {e : Env} {R : Room} {s : State} {m : MethodId} {args : Array Value} {below : List Frame} {meth : Method} {c : Code} {H : Heap} {locs : List Loc} {cells slots : Nat} {Q : State → Prop}
variable {mc ms : Nat} {free : Addr → Prop} {A0 A1 : Nat → Prop} {H0 : Heap} {a : Array Value} {ls : Array Slot} {st0 rest : List Value}
variable {Qc : Array Value → State → Outcome → State → Prop} {XC : String → State → State → Prop}
/-- what a body that may throw owes at its end -/
def vx_MQ (below : List Frame) (Qc : Array Value → State → Outcome → State → Prop) (XC : String → State → State → Prop) (a : Array Value) (s : State) (mc ms : Nat) (free : Addr → Prop) : State → Prop := fun t =>
  ∃ o, t.status = .running ∧ Ended t below o ∧ vx_Q Qc XC mc ms free a s o t
theorem vx_ret {g : JFrame} {mc ms : Nat} (k : W p l e R s m args below meth c H locs cells slots (MQ below Qc args s mc ms free) g) : W p l e R s m args below meth c H locs cells slots (vx_MQ below Qc XC args s mc ms free) g := by
  intro T hT X
  obtain ⟨t, a1, o, b1, b2, b3, b4⟩ := k T hT X
  exact ⟨t, a1, o, b1, b2, Or.inl ⟨b3, b4⟩⟩
/-- not caught here: it goes on to the caller -/
theorem vx_widen {g : JFrame} {q : Addr} {k n : Nat} (h1 : cells ≤ k) (h2 : slots ≤ n) (kk : vx_W p l e R s m args below meth c H locs k n Q g q) : vx_W p l e R s m args below meth c H locs cells slots Q g q := fun T hT X => kk T hT (stand_widen X h1 h2)
theorem vx_out {pc : Nat} {E : String} {ce : Cell} {q : Addr} {mc ms : Nat} (hout : ∀ x ∈ c.exceptionTable.toList, covers x pc = false) (hlocks : meth.locks = false) (hcell : H[q]? = some ce) (hv : ce.vm = .none) (hcl : s.vm.findClass E = some ce.cls)
    (hx : ∀ t : State, t.heap = H → s.vm.Alike t.vm → XC E s t) (hf : ∀ z ∈ locs, free z.base) (hc : cells ≤ mc) (hs : slots ≤ ms) :
    vx_W p l e R s m args below meth c H locs cells slots (vx_MQ below Qc XC args s mc ms free) (F0 m pc ls rest) q := by
  intro T hT X
  obtain ⟨st1, hrun, hend, hW, hsm⟩ := X.leaveThrown q (g := F0 m pc ls rest) rfl rfl rfl hout hlocks
  have hcell9 : (T.setFrames (.throwing q :: below)).heap[q]? = some ce := by
    show T.heap[q]? = some ce
    rw [hT]; exact hcell
  exact ⟨_, st1, .threw q, hrun, hend, Or.inr ⟨q, rfl, E, ce, locs, hx _ hT hW.alike, hcell9, hv, hcl, hW, hsm.mono hc hs, hf⟩⟩
theorem vx_frame {U : State} {k n : Nat} (h : s.sameButNew ({ U with vm := s.vm } : State) locs k n) : s.heap.size ≤ U.heap.size ∧ ∀ q : Nat, q < s.heap.size → (∀ z ∈ locs, z.base ≠ q) → U.heap[q]? = s.heap[q]? := by
  obtain ⟨-, h2, -, -, -, h6⟩ := h
  refine ⟨h2, fun q hq hz => ?_⟩
  obtain ⟨c9, e1, e2, e3, e4⟩ := h6 q _ (Array.getElem?_eq_getElem hq)
  have hs : c9.slots = (s.heap[q]).slots := Array.ext_getElem? fun i => e4 i fun hm => hz _ hm rfl
  have h9 : c9 = s.heap[q] := by
    rw [hs] at e2
    exact e2
  have e5 : U.heap[q]? = some c9 := e1
  rw [e5, h9, Array.getElem?_eq_getElem hq]
/-- the words of a throw but the four that speak of the heap -/
def vx_no (w : Cond) : Bool := decide (w ≠ .isRef (.static Bundle.tN "UNASSIGNED_STACK" Bundle.steD)) && decide (w ≠ .isRef (.static Bundle.tN "SUPPRESSED_SENTINEL" Bundle.listD)) && decide (w ≠ .laysStatic Bundle.tN "UNASSIGNED_STACK" Bundle.steD) && decide (w ≠ .laysStatic Bundle.tN "SUPPRESSED_SENTINEL" Bundle.listD)
def vx_at0 (own : String) (ic : Nat) (X : String) (names : List String) : List Cond := (Bundle.ownAtoms0 own ic X names).filter vx_no
def vx_atS (own : String) (ic : Nat) (X : String) (names : List String) : List Cond := (Bundle.ownAtoms own ic X names).filter vx_no
/-- a word that the tables alone decide, or a good one -/
def vx_ot (w : Cond) : Bool := w.onTables || goodWord w
theorem vx_ot_at {args a' : Array Value} {s U : State} {w : Cond} (hW : s.WarmedH U.vm) (hvm : s.vm = U.vm) (hg : vx_ot w = true) (h : w.before args s = true) : w.before a' U = true := by
  simp only [vx_ot, Bool.or_eq_true] at hg
  rcases hg with hg | hg
  · exact va_tabs hg hvm h
  · exact word_at hW (good_of_word hg) h
/-- a list's words: the good ones out of the method's own list, the others by premises of their own -/
theorem vx_hat {args : Array Value} {s : State} {L B : List Cond} (h1 : ∀ w ∈ L.filter goodWord, w.before args s = true) (h2 : ∀ w ∈ L.filter (fun w => !goodWord w), w ∈ B) (h3 : ∀ w ∈ B, w.before args s = true) : ∀ w ∈ L, w.before args s = true := by
  intro w hw
  by_cases g : goodWord w = true
  · exact h1 w (List.mem_filter.mpr ⟨hw, g⟩)
  · refine h3 w (h2 w (List.mem_filter.mpr ⟨hw, ?_⟩))
    show (!goodWord w) = true
    cases hgw : goodWord w
    · rfl
    · exact absurd hgw g
theorem vx_c {args : Array Value} {s : State} {w : Cond} {B : List Cond} (h : w.before args s = true) (t : ∀ w ∈ B, w.before args s = true) : ∀ w' ∈ w :: B, w'.before args s = true := fun w' h' => (List.mem_cons.mp h').elim (fun e => by rw [e]; exact h) (t w')
theorem vx_n {args : Array Value} {s : State} : ∀ w ∈ ([] : List Cond), w.before args s = true := fun _ h => nomatch h
theorem vx_own {args : Array Value} {s : State} {L : List Cond} (h1 : ∀ w ∈ L.filter vx_no, w.before args s = true)
    (hU : (Cond.isRef (.static Bundle.tN "UNASSIGNED_STACK" Bundle.steD)).before args s = true) (hN : (Cond.isRef (.static Bundle.tN "SUPPRESSED_SENTINEL" Bundle.listD)).before args s = true)
    (lU : (Cond.laysStatic Bundle.tN "UNASSIGNED_STACK" Bundle.steD).before args s = true) (lN : (Cond.laysStatic Bundle.tN "SUPPRESSED_SENTINEL" Bundle.listD).before args s = true) : ∀ w ∈ L, w.before args s = true := by
  intro w hw
  by_cases e1 : w = .isRef (.static Bundle.tN "UNASSIGNED_STACK" Bundle.steD)
  · rw [e1]; exact hU
  · by_cases e2 : w = .isRef (.static Bundle.tN "SUPPRESSED_SENTINEL" Bundle.listD)
    · rw [e2]; exact hN
    · by_cases e3 : w = .laysStatic Bundle.tN "UNASSIGNED_STACK" Bundle.steD
      · rw [e3]; exact lU
      · by_cases e4 : w = .laysStatic Bundle.tN "SUPPRESSED_SENTINEL" Bundle.listD
        · rw [e4]; exact lN
        · exact h1 w (List.mem_filter.mpr ⟨hw, by unfold vx_no; rw [decide_eq_true e1, decide_eq_true e2, decide_eq_true e3, decide_eq_true e4]; rfl⟩)
/-- where a static field lies, its class's statics cell in H -/
def vx_L (C n d : String) (A : Nat → Prop) (U : State) (H : Heap) : Prop := ∃ (c : ClassId) (k : Class) (i : Nat) (f : Field) (a : Nat) (cell : Cell), U.vm.findClass C = some c ∧ U.fieldFound? C n d = some (c, k, i, f) ∧ f.isStatic = true ∧ k.statics = some a ∧ H[a]? = some cell ∧ cell.vm.isStatics = true ∧ cell.cls = c ∧ f.slot < cell.slots.size ∧ k.staticTypes[f.slot]? = some f.type ∧ ¬ A a
theorem vx_L.moved {C n d : String} {A : Nat → Prop} {u U : State} {H : Heap} (hvm : u.vm.Alike U.vm) (h : vx_L C n d A u H) : vx_L C n d A U H := by
  obtain ⟨c, k, i, f, a, cell, h1, h2, h3, h4, h5, h6, h7, h8, h9, h10⟩ := h
  obtain ⟨k', hi', he⟩ := State.fieldFound?_setVm hvm h2
  exact ⟨c, k', i, f, a, cell, by rw [hvm.findClass]; exact h1, hi', h3, by rw [he]; exact h4, h5, h6, h7, h8, by rw [he]; exact h9, h10⟩
theorem vx_L.kept {C n d : String} {A : Nat → Prop} {U : State} {H H1 : Heap} (h : vx_L C n d A U H) (hq : ∀ a : Nat, a < H.size → ¬ A a → H1[a]? = H[a]?) : vx_L C n d A U H1 := by
  obtain ⟨c, k, i, f, a, cell, h1, h2, h3, h4, h5, h6, h7, h8, h9, h10⟩ := h
  exact ⟨c, k, i, f, a, cell, h1, h2, h3, h4, by rw [hq a (Array.getElem?_eq_some_iff.mp h5).1 h10]; exact h5, h6, h7, h8, h9, h10⟩
theorem vx_L.narrow {C n d : String} {A B : Nat → Prop} {U : State} {H : Heap} (h : vx_L C n d A U H) (hAB : ∀ q, B q → A q) : vx_L C n d B U H := by
  obtain ⟨c, k, i, f, a, cell, h1, h2, h3, h4, h5, h6, h7, h8, h9, h10⟩ := h
  exact ⟨c, k, i, f, a, cell, h1, h2, h3, h4, h5, h6, h7, h8, h9, fun z => h10 (hAB _ z)⟩
theorem vx_L.word {C n d : String} {A : Nat → Prop} {s : State} {args : Array Value} (h : vx_L C n d A s s.heap) : (Cond.laysStatic C n d).before args s = true := by
  obtain ⟨c, k, i, f, a, cell, h1, h2, h3, h4, h5, h6, h7, h8, h9, -⟩ := h
  show (Cond.laysStatic C n d).holds args s none s [] = true
  exact Cond.laysStatic_of h1 h2 h3 h4 h5 h6 h7 h8 h9
/-- .. and what it holds: null or some reference -/
def vx_Zq (C n d : String) (A : Nat → Prop) (U : State) (H : Heap) : Prop := va_Zq C n d A U H ∧ vx_L C n d A U H
theorem vx_Zq.moved {C n d : String} {A : Nat → Prop} {u U : State} {H : Heap} (hvm : u.vm.Alike U.vm) (h : vx_Zq C n d A u H) : vx_Zq C n d A U H := ⟨va_Zq.moved hvm h.1, vx_L.moved hvm h.2⟩
theorem vx_Zq.kept {C n d : String} {A : Nat → Prop} {U : State} {H H1 : Heap} (h : vx_Zq C n d A U H) (hq : ∀ a : Nat, a < H.size → ¬ A a → H1[a]? = H[a]?) : vx_Zq C n d A U H1 := ⟨va_Zq.kept h.1 hq, vx_L.kept h.2 hq⟩
theorem vx_Zq.narrow {C n d : String} {A B : Nat → Prop} {U : State} {H : Heap} (h : vx_Zq C n d A U H) (hAB : ∀ q, B q → A q) : vx_Zq C n d B U H := ⟨va_Zq.narrow h.1 hAB, vx_L.narrow h.2 hAB⟩
theorem vx_Zqof {args : Array Value} {s : State} {C n d : String} {A : Nat → Prop} (hl : (Cond.laysStatic C n d).before args s = true) (hini : (Cond.initialized C).before args s = true) (h : (Cond.isRef (.static C n d)).before args s = true) (hA : ∀ a : Nat, a < s.heap.size → ¬ A a) : vx_Zq C n d A s s.heap := by
  refine ⟨va_Zqof hl hini h hA, ?_⟩
  obtain ⟨c, k, i, f, a, cell, h1, h2, h3, h4, h5, h6, h7, h8, h9⟩ := Cond.laysStatic_spec hl
  exact ⟨c, k, i, f, a, cell, h1, h2, h3, h4, h5, h6, h7, h8, h9, hA a (Array.getElem?_eq_some_iff.mp h5).1⟩
theorem vx_isRef {C n d : String} {v : Value} {A : Nat → Prop} {s : State} {args : Array Value} (h : va_Z C n d v A s s.heap) (hv : v.isRef = true) : (Cond.isRef (.static C n d)).before args s = true := by
  obtain ⟨cf, kf, fi, f, a, cell, h1, h2, h3, h4, h5, h6, h7, -⟩ := h
  have he : (Term.static C n d).eval args s none [] s = some v := by
    simp [Term.eval, State.fieldNamed?, h1, h2, h4, h5, h6, h7]
  simp only [Cond.before, Cond.holds, Cond.value, he]
  cases v <;> simp_all [Value.isRef]
theorem vx_isRefq {C n d : String} {A : Nat → Prop} {s : State} {args : Array Value} (h : va_Zq C n d A s s.heap) : (Cond.isRef (.static C n d)).before args s = true := by
  rcases h with h | ⟨t, h⟩
  · exact vx_isRef h rfl
  · exact vx_isRef h rfl
/-- the same frame, seen from here: as if the method were called anew in this heap -/
theorem vx_rebase {T : State} (X : Stand p l e R s m args below meth c T locs cells slots) {R' : Room} (hf : R'.frames ≤ R.frames) (hl : R'.locals ≤ R.locals) (hc : cells + R'.cells ≤ R.cells) (hs : slots + R'.slots ≤ R.slots) :
    Stand p l e R' ((T.setVm s.vm).setFrames (.invoking m args :: below)) m args below meth c T [] 0 0 := by
  have htop : (T.setVm s.vm).topJava?.isSome := X.here.top
  have hF : ((T.setVm s.vm).setFrames (.invoking m args :: below)).frames = .invoking m args :: below := State.frames_setFrames _ (State.cur_lt_of_top htop)
  obtain ⟨g₀, hg0⟩ := Option.isSome_iff_exists.mp htop
  obtain ⟨r, hr⟩ := State.topJava?_eq_some.mp hg0
  have hl9 : e.platform.stackLimits (T.setVm s.vm).me = e.platform.stackLimits s.me := X.limits
  have hb9 : (T.setVm s.vm).me.stackBytes = s.me.stackBytes := X.bytes
  refine ⟨X.admits, X.cas, X.clock, hF, ?_, X.hears, X.method, X.code, X.here, X.tail, X.warmed, ?_, ?_, ?_⟩
  · have h := X.room
    have hU : ((T.setVm s.vm).setFrames (.invoking m args :: below)).localsInUse = s.localsInUse := by
      rw [State.localsInUse_invoking hF (meth := meth) (c := c) X.method X.code, State.localsInUse_invoking X.frames X.method X.code]
    simp only [State.hasRoom, Bool.and_eq_true, decide_eq_true_eq] at h ⊢
    obtain ⟨⟨⟨⟨h1, h2, h3, h4, h5, h6⟩, h7⟩, h8⟩, h9⟩ := h
    rw [X.frames, List.length_cons] at h2 h3
    have q1 := X.heapSize
    have q2 := X.used
    simp only [hF, hU, List.length_cons, State.stackLimits_setFrames, State.stackBytes_setFrames, hl9, hb9]
    refine ⟨⟨⟨⟨by omega, by omega, by omega, by omega, by omega, h6⟩, ?_⟩, ?_⟩, X.book⟩
    · show T.heap.size + R'.cells ≤ e.platform.maxCells
      omega
    · show T.slotsUsed + R'.slots ≤ e.platform.maxSlots
      omega
  · rw [State.stackLimits_setFrames]; rfl
  · rw [State.stackBytes_setFrames]; rfl
  · refine ⟨?_, Nat.le_refl _, Nat.le_refl _, ?_, ?_, fun a c9 h9 => ⟨c9, h9, rfl, rfl, fun _ _ => rfl⟩⟩
    · obtain ⟨t, ht, -⟩ := State.frames_cons hr
      show T.setVm s.vm = { ((T.setVm s.vm).setFrames (.invoking m args :: below)).setFrames (T.setVm s.vm).frames with heap := T.heap, slotsUsed := T.slotsUsed }
      rw [State.setFrames_setFrames, State.setFrames_self ht]
      rfl
    · show T.slotsUsed = T.slotsUsed + ((T.heap.toList.drop T.heap.size).map (·.slots.size)).sum
      rw [List.drop_eq_nil_of_le (Nat.le_of_eq Array.length_toList)]
      rfl
    · show ((T.heap.toList.drop T.heap.size).map (·.slots.size)).sum ≤ 0
      rw [List.drop_eq_nil_of_le (Nat.le_of_eq Array.length_toList)]
      exact Nat.le_refl _
/-- 'throw new E()': new; dup; invokespecial; athrow -/
theorem vx_throw0 {cc : ByteArray} {pc : Nat} (hexec : p.tables.exec = Jvm.exec) (hb : c.code = cc) (hl : l.stackTraces = false) {own cls : String} {names : List String} {ik ic mc ms : Nat} {A : Nat → Prop}
    (hown : s.vm.findClass own = some m.cls) (hcls : Bundle.fit cls = true) (hnames : ∀ n ∈ names, Bundle.fit n = true)
    (hk : (Cond.classLink own ik cls).before args s = true) (hini : (Cond.initialized cls).before args s = true) (hat : ∀ w ∈ vx_at0 own ic cls names, w.before args s = true)
    (hgood : ∀ w ∈ Cond.classLink own ik cls :: Cond.initialized cls :: vx_at0 own ic cls names, vx_ot w = true)
    (hU : vx_Zq Bundle.tN "UNASSIGNED_STACK" Bundle.steD A s s.heap) (hN : vx_Zq Bundle.tN "SUPPRESSED_SENTINEL" Bundle.listD A s s.heap) (hS : va_S A s.heap H locs) (hsize : ls.size = c.maxLocals)
    (d0 : decode cc pc = .ok (.new ik, 3)) (d3 : decode cc (pc + 3) = .ok (.dup, 1)) (d4 : decode cc (pc + 4) = .ok (.invokespecial ic, 3)) (d7 : decode cc (pc + 7) = .ok (.athrow, 1))
    (hout : ∀ x ∈ c.exceptionTable.toList, covers x (pc + 7) = false)
    (hRframes : names.length + 3 < R.frames) (hRlocals : (rest.map fun v => v.category).sum + (13 * (names.length + 1) + 42) ≤ R.locals) (hRcells : cells + 1 ≤ R.cells) (hRslots : slots + 6 ≤ R.slots) (hlocks : meth.locks = false)
    (hx : ∀ t : State, s.vm.Alike t.vm → H.size ≤ t.heap.size → (∀ q : Nat, q < H.size → t.heap[q]? = H[q]?) → XC cls s t)
    (hf : ∀ z ∈ locs, free z.base) (hc : cells + 1 ≤ mc) (hs : slots + 6 ≤ ms) :
    W p l e R s m args below meth c H locs cells slots (vx_MQ below Qc XC args s mc ms free) (F0 m pc ls rest) := by
  intro T hT X
  have htr : e.platform.stackTraces = false := (show e.platform.stackTraces = l.stackTraces by rw [X.admits.platform]).trans hl
  have Y := vx_rebase X (R' := { frames := R.frames, locals := R.locals, cells := 1, slots := 6 }) (Nat.le_refl _) (Nat.le_refl _) hRcells hRslots
  obtain ⟨s', hA⟩ : ∃ z, z = (T.setVm s.vm).setFrames (.invoking m args :: below) := ⟨_, rfl⟩
  rw [← hA] at Y
  have hvm : s'.vm = s.vm := by rw [hA]; rfl
  have hhp : s'.heap = H := by rw [hA]; exact hT
  have hW0 : s.WarmedH s'.vm := by rw [hvm]; exact State.WarmedH.refl s
  have hat' : ∀ w ∈ vx_at0 own ic cls names, w.before args s' = true := fun w hw => vx_ot_at hW0 hvm.symm (hgood w (List.mem_cons_of_mem _ (List.mem_cons_of_mem _ hw))) (hat w hw)
  have hk' : (Cond.classLink own ik cls).before args s' = true := vx_ot_at hW0 hvm.symm (hgood _ List.mem_cons_self) hk
  have hini' : (Cond.initialized cls).before args s' = true := vx_ot_at hW0 hvm.symm (hgood _ (List.mem_cons_of_mem _ List.mem_cons_self)) hini
  have hU' : vx_Zq Bundle.tN "UNASSIGNED_STACK" Bundle.steD A s' s'.heap := by rw [hhp]; exact vx_Zq.moved hW0.alike (hU.kept hS.2.1)
  have hN' : vx_Zq Bundle.tN "SUPPRESSED_SENTINEL" Bundle.listD A s' s'.heap := by rw [hhp]; exact vx_Zq.moved hW0.alike (hN.kept hS.2.1)
  have h : ∀ w ∈ Bundle.ownAtoms0 own ic cls names, w.before args s' = true := vx_own hat' (vx_isRefq hU'.1) (vx_isRefq hN'.1) hU'.2.word hN'.2.word
  have hown' : s'.vm.findClass own = some m.cls := by rw [hvm]; exact hown
  have hins : (Cond.instantiable cls 6).before args s' = true := h _ (by simp [Bundle.ownAtoms0])
  obtain ⟨vm₁, cX, kX, hfX, hkX, -, -, X₁, st1⟩ := Y.newCold hexec (own := own) (C := cls) (index := ik) (n := 6) hown' hk' hins hini'
    (g := F0 m pc ls rest) rfl (by rw [hb]; exact d0) (Nat.le_refl _) (Nat.le_refl _)
  generalize hT1 : (T.setVm vm₁).pushCell { cls := cX, slots := kX.instanceTypes.map defaultValue, vm := .none } = T1 at X₁ st1
  have hcat : (Value.ref T.heap.size).category = 1 := rfl
  have hcellA : T1.heap[T.heap.size]? = some (freshCell cX kX) := by rw [← hT1]; exact State.heap_pushCell_size _ _
  have d3' : decode c.code (pc + 3) = .ok (.dup, 1) := by rw [hb]; exact d3
  obtain ⟨U, hsteps, hrun, hend, hW, hsame, ce, hce, hO⟩ := X₁.ctorThrow0 hexec htr (own := own) (cls := cls) (names := names) (ic := ic) hown' hcls hnames h (fun x hx => nomatch hx) hfX hkX hcellA (by rw [hhp, hT]; exact Nat.le_refl _)
    (g := { method := m, pc := pc + 4, locals := ls, stack := .ref T.heap.size :: .ref T.heap.size :: rest, locked := none }) rfl hsize rfl rfl (rest := rest) rfl
    (by rw [hb]; exact d4) (by rw [hb]; exact d7) hout hRframes (by simp only [List.map_cons, List.sum_cons, hcat]; omega) hlocks
  obtain ⟨f1, f2⟩ := vx_frame hsame
  rw [hhp] at f1 f2
  have hWs : s.WarmedH U.vm := State.WarmedH.trans hW0 hW
  have hcl : s.vm.findClass cls = some ce.cls := by
    have h9 := hO.cls
    rw [hvm] at h9
    exact h9
  have hall : s.sameButNew ({ U with vm := s.vm } : State) locs mc ms := by
    subst hA
    obtain ⟨e1, e2⟩ := hsame
    rw [State.setFrames_setFrames] at e1
    have h2 : (T.setVm s.vm).sameButNew ({ U with vm := s.vm } : State) [] (0 + 1) (0 + 6) := ⟨e1, e2⟩
    have h3 := X.same.trans h2
    rw [List.append_nil] at h3
    exact h3.mono hc hs
  refine ⟨U, ?_, .threw T.heap.size, hrun, hend, Or.inr ⟨T.heap.size, rfl, cls, ce, locs, hx U hWs.alike f1 (fun q hq => f2 q hq (fun z hz => nomatch hz)), hce, hO.vm, hcl, hWs, hall, hf⟩⟩
  refine st1 _ ?_
  show Steps p.tables e below (T1.setTop { method := m, pc := pc + 3, locals := ls, stack := .ref T.heap.size :: rest, locked := none }) _
  jvm_step X₁.here [X₁.here.top, hexec, d3', Value.category]
  exact hsteps
/-- 'throw new E("text")': new; dup; ldc; invokespecial; athrow -/
theorem vx_throwS {cc : ByteArray} {pc : Nat} (hexec : p.tables.exec = Jvm.exec) (hb : c.code = cc) (hl : l.stackTraces = false) {own cls text : String} {names : List String} {ik is ic mc ms sa : Nat} {A : Nat → Prop}
    (hown : s.vm.findClass own = some m.cls) (hcls : Bundle.fit cls = true) (hnames : ∀ n ∈ names, Bundle.fit n = true)
    (hk : (Cond.classLink own ik cls).before args s = true) (hini : (Cond.initialized cls).before args s = true) (hstr : vk_R own is text sa s) (hat : ∀ w ∈ vx_atS own ic cls names, w.before args s = true)
    (hgood : ∀ w ∈ Cond.classLink own ik cls :: Cond.initialized cls :: vx_atS own ic cls names, vx_ot w = true)
    (hU : vx_Zq Bundle.tN "UNASSIGNED_STACK" Bundle.steD A s s.heap) (hN : vx_Zq Bundle.tN "SUPPRESSED_SENTINEL" Bundle.listD A s s.heap) (hS : va_S A s.heap H locs) (hsize : ls.size = c.maxLocals)
    (d0 : decode cc pc = .ok (.new ik, 3)) (d3 : decode cc (pc + 3) = .ok (.dup, 1)) (d4 : decode cc (pc + 4) = .ok (.ldc is, 2)) (d6 : decode cc (pc + 6) = .ok (.invokespecial ic, 3)) (d9 : decode cc (pc + 9) = .ok (.athrow, 1))
    (hout : ∀ x ∈ c.exceptionTable.toList, covers x (pc + 9) = false)
    (hRframes : names.length + 3 < R.frames) (hRlocals : (rest.map fun v => v.category).sum + (13 * (names.length + 1) + 43) ≤ R.locals) (hRcells : cells + 1 ≤ R.cells) (hRslots : slots + 6 ≤ R.slots) (hlocks : meth.locks = false)
    (hx : ∀ t : State, s.vm.Alike t.vm → H.size ≤ t.heap.size → (∀ q : Nat, q < H.size → t.heap[q]? = H[q]?) → XC cls s t)
    (hf : ∀ z ∈ locs, free z.base) (hc : cells + 1 ≤ mc) (hs : slots + 6 ≤ ms) :
    W p l e R s m args below meth c H locs cells slots (vx_MQ below Qc XC args s mc ms free) (F0 m pc ls rest) := by
  intro T hT X
  have htr : e.platform.stackTraces = false := (show e.platform.stackTraces = l.stackTraces by rw [X.admits.platform]).trans hl
  have Y := vx_rebase X (R' := { frames := R.frames, locals := R.locals, cells := 1, slots := 6 }) (Nat.le_refl _) (Nat.le_refl _) hRcells hRslots
  obtain ⟨s', hA⟩ : ∃ z, z = (T.setVm s.vm).setFrames (.invoking m args :: below) := ⟨_, rfl⟩
  rw [← hA] at Y
  have hvm : s'.vm = s.vm := by rw [hA]; rfl
  have hhp : s'.heap = H := by rw [hA]; exact hT
  have hW0 : s.WarmedH s'.vm := by rw [hvm]; exact State.WarmedH.refl s
  have hat' : ∀ w ∈ vx_atS own ic cls names, w.before args s' = true := fun w hw => vx_ot_at hW0 hvm.symm (hgood w (List.mem_cons_of_mem _ (List.mem_cons_of_mem _ hw))) (hat w hw)
  have hk' : (Cond.classLink own ik cls).before args s' = true := vx_ot_at hW0 hvm.symm (hgood _ List.mem_cons_self) hk
  have hini' : (Cond.initialized cls).before args s' = true := vx_ot_at hW0 hvm.symm (hgood _ (List.mem_cons_of_mem _ List.mem_cons_self)) hini
  have hU' : vx_Zq Bundle.tN "UNASSIGNED_STACK" Bundle.steD A s' s'.heap := by rw [hhp]; exact vx_Zq.moved hW0.alike (hU.kept hS.2.1)
  have hN' : vx_Zq Bundle.tN "SUPPRESSED_SENTINEL" Bundle.listD A s' s'.heap := by rw [hhp]; exact vx_Zq.moved hW0.alike (hN.kept hS.2.1)
  have h : ∀ w ∈ Bundle.ownAtoms own ic cls names, w.before args s' = true := vx_own hat' (vx_isRefq hU'.1) (vx_isRefq hN'.1) hU'.2.word hN'.2.word
  have hown' : s'.vm.findClass own = some m.cls := by rw [hvm]; exact hown
  have hins : (Cond.instantiable cls 6).before args s' = true := h _ (by simp [Bundle.ownAtoms])
  obtain ⟨vm₁, cX, kX, hfX, hkX, -, -, X₁, st1⟩ := Y.newCold hexec (own := own) (C := cls) (index := ik) (n := 6) hown' hk' hins hini'
    (g := F0 m pc ls rest) rfl (by rw [hb]; exact d0) (Nat.le_refl _) (Nat.le_refl _)
  generalize hT1 : (T.setVm vm₁).pushCell { cls := cX, slots := kX.instanceTypes.map defaultValue, vm := .none } = T1 at X₁ st1
  have hcat : (Value.ref T.heap.size).category = 1 := rfl
  have hcellA : T1.heap[T.heap.size]? = some (freshCell cX kX) := by rw [← hT1]; exact State.heap_pushCell_size _ _
  have d3' : decode c.code (pc + 3) = .ok (.dup, 1) := by rw [hb]; exact d3
  have d4' : decode c.code (pc + 4) = .ok (.ldc is, 2) := by rw [hb]; exact d4
  have hstr' : vk_R own is text sa s' := vk_R.warm hW0 hstr
  obtain ⟨U, hsteps, hrun, hend, hW, hsame, ce, hce, hO⟩ := X₁.ctorThrowS hexec htr (own := own) (cls := cls) (names := names) (ic := ic) hown' hcls hnames h (fun x hx => nomatch hx) hfX hkX hcellA (by rw [hhp, hT]; exact Nat.le_refl _) (msg := .ref sa) rfl
    (g := { method := m, pc := pc + 6, locals := ls, stack := .ref sa :: .ref T.heap.size :: .ref T.heap.size :: rest, locked := none }) rfl hsize rfl rfl (rest := rest) rfl
    (by rw [hb]; exact d6) (by rw [hb]; exact d9) hout hRframes (by simp only [List.map_cons, List.sum_cons, hcat]; omega) hlocks
  obtain ⟨f1, f2⟩ := vx_frame hsame
  rw [hhp] at f1 f2
  have hWs : s.WarmedH U.vm := State.WarmedH.trans hW0 hW
  have hcl : s.vm.findClass cls = some ce.cls := by
    have h9 := hO.cls
    rw [hvm] at h9
    exact h9
  have hall : s.sameButNew ({ U with vm := s.vm } : State) locs mc ms := by
    subst hA
    obtain ⟨e1, e2⟩ := hsame
    rw [State.setFrames_setFrames] at e1
    have h2 : (T.setVm s.vm).sameButNew ({ U with vm := s.vm } : State) [] (0 + 1) (0 + 6) := ⟨e1, e2⟩
    have h3 := X.same.trans h2
    rw [List.append_nil] at h3
    exact h3.mono hc hs
  refine ⟨U, ?_, .threw T.heap.size, hrun, hend, Or.inr ⟨T.heap.size, rfl, cls, ce, locs, hx U hWs.alike f1 (fun q hq => f2 q hq (fun z hz => nomatch hz)), hce, hO.vm, hcl, hWs, hall, hf⟩⟩
  refine st1 _ ?_
  show Steps p.tables e below (T1.setTop { method := m, pc := pc + 3, locals := ls, stack := .ref T.heap.size :: rest, locked := none }) _
  jvm_step X₁.here [X₁.here.top, hexec, d3', Value.category]
  exact X₁.ldcString hexec (own := own) (text := text) (index := is) (a := sa) hown' hstr'.1 hstr'.2
    (g := { method := m, pc := pc + 4, locals := ls, stack := .ref T.heap.size :: .ref T.heap.size :: rest, locked := none }) rfl d4' _ hsteps
/-- 'throw new E("text")', the text by a wide index -/
theorem vx_throwSW {cc : ByteArray} {pc : Nat} (hexec : p.tables.exec = Jvm.exec) (hb : c.code = cc) (hl : l.stackTraces = false) {own cls text : String} {names : List String} {ik is ic mc ms sa : Nat} {A : Nat → Prop}
    (hown : s.vm.findClass own = some m.cls) (hcls : Bundle.fit cls = true) (hnames : ∀ n ∈ names, Bundle.fit n = true)
    (hk : (Cond.classLink own ik cls).before args s = true) (hini : (Cond.initialized cls).before args s = true) (hstr : vk_R own is text sa s) (hat : ∀ w ∈ vx_atS own ic cls names, w.before args s = true)
    (hgood : ∀ w ∈ Cond.classLink own ik cls :: Cond.initialized cls :: vx_atS own ic cls names, vx_ot w = true)
    (hU : vx_Zq Bundle.tN "UNASSIGNED_STACK" Bundle.steD A s s.heap) (hN : vx_Zq Bundle.tN "SUPPRESSED_SENTINEL" Bundle.listD A s s.heap) (hS : va_S A s.heap H locs) (hsize : ls.size = c.maxLocals)
    (d0 : decode cc pc = .ok (.new ik, 3)) (d3 : decode cc (pc + 3) = .ok (.dup, 1)) (d4 : decode cc (pc + 4) = .ok (.ldc_w is, 3)) (d7 : decode cc (pc + 7) = .ok (.invokespecial ic, 3)) (d10 : decode cc (pc + 10) = .ok (.athrow, 1))
    (hout : ∀ x ∈ c.exceptionTable.toList, covers x (pc + 10) = false)
    (hRframes : names.length + 3 < R.frames) (hRlocals : (rest.map fun v => v.category).sum + (13 * (names.length + 1) + 43) ≤ R.locals) (hRcells : cells + 1 ≤ R.cells) (hRslots : slots + 6 ≤ R.slots) (hlocks : meth.locks = false)
    (hx : ∀ t : State, s.vm.Alike t.vm → H.size ≤ t.heap.size → (∀ q : Nat, q < H.size → t.heap[q]? = H[q]?) → XC cls s t)
    (hf : ∀ z ∈ locs, free z.base) (hc : cells + 1 ≤ mc) (hs : slots + 6 ≤ ms) :
    W p l e R s m args below meth c H locs cells slots (vx_MQ below Qc XC args s mc ms free) (F0 m pc ls rest) := by
  intro T hT X
  have htr : e.platform.stackTraces = false := (show e.platform.stackTraces = l.stackTraces by rw [X.admits.platform]).trans hl
  have Y := vx_rebase X (R' := { frames := R.frames, locals := R.locals, cells := 1, slots := 6 }) (Nat.le_refl _) (Nat.le_refl _) hRcells hRslots
  obtain ⟨s', hA⟩ : ∃ z, z = (T.setVm s.vm).setFrames (.invoking m args :: below) := ⟨_, rfl⟩
  rw [← hA] at Y
  have hvm : s'.vm = s.vm := by rw [hA]; rfl
  have hhp : s'.heap = H := by rw [hA]; exact hT
  have hW0 : s.WarmedH s'.vm := by rw [hvm]; exact State.WarmedH.refl s
  have hat' : ∀ w ∈ vx_atS own ic cls names, w.before args s' = true := fun w hw => vx_ot_at hW0 hvm.symm (hgood w (List.mem_cons_of_mem _ (List.mem_cons_of_mem _ hw))) (hat w hw)
  have hk' : (Cond.classLink own ik cls).before args s' = true := vx_ot_at hW0 hvm.symm (hgood _ List.mem_cons_self) hk
  have hini' : (Cond.initialized cls).before args s' = true := vx_ot_at hW0 hvm.symm (hgood _ (List.mem_cons_of_mem _ List.mem_cons_self)) hini
  have hU' : vx_Zq Bundle.tN "UNASSIGNED_STACK" Bundle.steD A s' s'.heap := by rw [hhp]; exact vx_Zq.moved hW0.alike (hU.kept hS.2.1)
  have hN' : vx_Zq Bundle.tN "SUPPRESSED_SENTINEL" Bundle.listD A s' s'.heap := by rw [hhp]; exact vx_Zq.moved hW0.alike (hN.kept hS.2.1)
  have h : ∀ w ∈ Bundle.ownAtoms own ic cls names, w.before args s' = true := vx_own hat' (vx_isRefq hU'.1) (vx_isRefq hN'.1) hU'.2.word hN'.2.word
  have hown' : s'.vm.findClass own = some m.cls := by rw [hvm]; exact hown
  have hins : (Cond.instantiable cls 6).before args s' = true := h _ (by simp [Bundle.ownAtoms])
  obtain ⟨vm₁, cX, kX, hfX, hkX, -, -, X₁, st1⟩ := Y.newCold hexec (own := own) (C := cls) (index := ik) (n := 6) hown' hk' hins hini'
    (g := F0 m pc ls rest) rfl (by rw [hb]; exact d0) (Nat.le_refl _) (Nat.le_refl _)
  generalize hT1 : (T.setVm vm₁).pushCell { cls := cX, slots := kX.instanceTypes.map defaultValue, vm := .none } = T1 at X₁ st1
  have hcat : (Value.ref T.heap.size).category = 1 := rfl
  have hcellA : T1.heap[T.heap.size]? = some (freshCell cX kX) := by rw [← hT1]; exact State.heap_pushCell_size _ _
  have d3' : decode c.code (pc + 3) = .ok (.dup, 1) := by rw [hb]; exact d3
  have d4' : decode c.code (pc + 4) = .ok (.ldc_w is, 3) := by rw [hb]; exact d4
  have hstr' : vk_R own is text sa s' := vk_R.warm hW0 hstr
  obtain ⟨U, hsteps, hrun, hend, hW, hsame, ce, hce, hO⟩ := X₁.ctorThrowS hexec htr (own := own) (cls := cls) (names := names) (ic := ic) hown' hcls hnames h (fun x hx => nomatch hx) hfX hkX hcellA (by rw [hhp, hT]; exact Nat.le_refl _) (msg := .ref sa) rfl
    (g := { method := m, pc := pc + 7, locals := ls, stack := .ref sa :: .ref T.heap.size :: .ref T.heap.size :: rest, locked := none }) rfl hsize rfl rfl (rest := rest) rfl
    (by rw [hb]; exact d7) (by rw [hb]; exact d10) hout hRframes (by simp only [List.map_cons, List.sum_cons, hcat]; omega) hlocks
  obtain ⟨f1, f2⟩ := vx_frame hsame
  rw [hhp] at f1 f2
  have hWs : s.WarmedH U.vm := State.WarmedH.trans hW0 hW
  have hcl : s.vm.findClass cls = some ce.cls := by
    have h9 := hO.cls
    rw [hvm] at h9
    exact h9
  have hall : s.sameButNew ({ U with vm := s.vm } : State) locs mc ms := by
    subst hA
    obtain ⟨e1, e2⟩ := hsame
    rw [State.setFrames_setFrames] at e1
    have h2 : (T.setVm s.vm).sameButNew ({ U with vm := s.vm } : State) [] (0 + 1) (0 + 6) := ⟨e1, e2⟩
    have h3 := X.same.trans h2
    rw [List.append_nil] at h3
    exact h3.mono hc hs
  refine ⟨U, ?_, .threw T.heap.size, hrun, hend, Or.inr ⟨T.heap.size, rfl, cls, ce, locs, hx U hWs.alike f1 (fun q hq => f2 q hq (fun z hz => nomatch hz)), hce, hO.vm, hcl, hWs, hall, hf⟩⟩
  refine st1 _ ?_
  show Steps p.tables e below (T1.setTop { method := m, pc := pc + 3, locals := ls, stack := .ref T.heap.size :: rest, locked := none }) _
  jvm_step X₁.here [X₁.here.top, hexec, d3', Value.category]
  exact X₁.ldcStringW hexec (own := own) (text := text) (index := is) (a := sa) hown' hstr'.1 hstr'.2
    (g := { method := m, pc := pc + 4, locals := ls, stack := .ref T.heap.size :: .ref T.heap.size :: rest, locked := none }) rfl d4' _ hsteps
end Ends
section Bodies
variable {l : Launch}
theorem vx_ofW {y : MethodName} {ws ws' : List Cond} {rm : Room} {Pc : Array Value → State → Prop} {Qc : Array Value → State → Outcome → State → Prop} {XC : String → State → State → Prop} {mc ms : Nat} {free : Addr → Prop} {cc : ByteArray} {maxL : Nat} {ret : Option FieldType}
    (hy : plainName y.cls = true) (hw : ws = Cond.code y cc maxL ret :: ws')
    (body : ∀ p e s m args below meth c s₁, BodyLoose p l y (headSpec ws rm) cc maxL ret e s m args below meth c s₁ → c.maxLocals = maxL → (∀ x ∈ c.exceptionTable.toList, False) → Pc args s →
      W p l e (headSpec ws rm).room s m args below meth c s.heap [] 0 0 (vx_MQ below Qc XC args s mc ms free) (entryFrame m args maxL)) : vx_Met l y ws rm Pc Qc XC mc ms free := by
  refine MetFree.of_bodyS (code := cc) (maxLocals := maxL) (ret := ret) hy ?_ ?_
  · intro args s m h hn
    obtain ⟨meth, c, h1, h2, h3, h4, h5, h6, -, -⟩ := Cond.code_spec hn (atoms_spec (ws := ws) h _ (by rw [hw]; exact List.mem_cons_self))
    exact ⟨meth, c, h1, h2, h3, h4, h5, h6⟩
  · intro p e s m args below meth c s₁ B hml hP _
    have hh0 : s₁.heap = s.heap := by rw [B.state]; rfl
    have ht : ∀ x ∈ c.exceptionTable.toList, False := by
      obtain ⟨meth9, c9, h1, h2, -, -, -, -, h7, -⟩ := Cond.code_spec B.named (atoms_spec (ws := ws) B.pre _ (by rw [hw]; exact List.mem_cons_self))
      cases Option.some.inj (h1.symm.trans B.method)
      cases Option.some.inj (h2.symm.trans (Stand.of_body B).code)
      intro x hx
      rw [Array.isEmpty_iff.mp h7] at hx
      cases hx
    obtain ⟨t, a1, o, b1, b2, b3⟩ := body p e s m args below meth c s₁ B hml ht hP s₁ hh0 (Stand.of_body B)
    exact ⟨t, o, a1, b1, b2, b3⟩
/-- the table of a body with handlers -/
theorem vx_table {p : Program} {x y : MethodName} {S : Spec} {cc bytes : ByteArray} {maxL maxL' : Nat} {ret ret' : Option FieldType} {e : Env} {s s₁ : State} {m : MethodId} {args : Array Value} {below : List Frame} {meth : Method} {c : Code} {hh : List (Nat × Nat × Nat × Nat)}
    (B : BodyLoose p l y S cc maxL ret e s m args below meth c s₁) (h : (Cond.codeWith y bytes maxL' ret' hh).before args s = true) : c.exceptionTable.toList = tableOf hh := by
  obtain ⟨m9, meth9, c9, hn9, h1, h2, -, -, h6, -⟩ := Cond.codeWith_spec h
  cases Option.some.inj (hn9.symm.trans B.named)
  cases Option.some.inj (h1.symm.trans B.method)
  cases Option.some.inj (h2.symm.trans (Stand.of_body B).code)
  rw [← h6, table_eq]
end Bodies
end VXA
/-! ===== END ===== -/
/-! ===== BEGIN a static call of a method with an exception table ===== -/
section VXS
variable {p : Program} {l : Launch} {e : Env} {R : Room} {s : State} {m : MethodId} {args : Array Value} {below : List Frame} {meth : Method} {c : Code} {T : State} {H : Heap} {locs : List Loc} {cells slots : Nat}
abbrev vx_CSW (R : Room) (s : State) (args : Array Value) (own : String) (index : Nat) (y : MethodName) (bytes : ByteArray) (maxL : Nat) (ret : Option FieldType) (hh : List (Nat × Nat × Nat × Nat)) (ws : List Cond) (rm : Room) (mc ms n : Nat) : Prop :=
  (rm.cells = mc ∧ rm.slots = ms ∧ rm.frames + 1 ≤ R.frames ∧ 8 + (maxL + 11) + rm.locals ≤ R.locals ∧ (∀ w ∈ ws, ∀ (a' : Array Value) (U : State), s.WarmedH U.vm → w.before a' U = true) ∧ Cond.codeWith y bytes maxL ret hh ∈ ws) ∧
  (Cond.codeWith y bytes maxL ret hh).before args s = true ∧ (Cond.initialized y.cls).before args s = true ∧ (y.cls ≠ "java/lang/invoke/MethodHandle" ∧ y.cls ≠ "java/lang/invoke/VarHandle") ∧
  (∀ sig, parseMethodDescriptor y.desc = some sig → n = sig.parameters.length) ∧ (Cond.methodLink own index y).before args s = true ∧ (Cond.static y).before args s = true
theorem vx_cwSW {own : String} {index maxL mc ms : Nat} {y : MethodName} {bytes : ByteArray} {ret : Option FieldType} {hh : List (Nat × Nat × Nat × Nat)} {Ts ws ws' : List Cond} {rm : Room} (n : Nat) (ht : ∀ w ∈ Ts, w.before args s = true) (hT : GoodIn Ts (va_wsS own index y ws)) (hw : ws = Cond.codeWith y bytes maxL ret hh :: ws') (hrc : rm.cells = mc) (hrs : rm.slots = ms)
    (hd : y.cls ≠ "java/lang/invoke/MethodHandle" ∧ y.cls ≠ "java/lang/invoke/VarHandle" ∧ (parseMethodDescriptor y.desc).map (fun d => d.parameters.length) = some n) (hR : rm.frames + 1 ≤ R.frames ∧ 8 + (maxL + 11) + rm.locals ≤ R.locals) :
    vx_CSW R s args own index y bytes maxL ret hh ws rm mc ms n := by
  have ok : ∀ w ∈ va_wsS own index y ws, w.before args s = true := fun w h => ht w (hT w h).1
  have hG : GoodIn Ts ws := fun w h => hT w (by unfold va_wsS; exact List.mem_append_right _ h)
  have hc : Cond.codeWith y bytes maxL ret hh ∈ ws := by rw [hw]; exact List.mem_cons_self
  refine ⟨⟨hrc, hrs, hR.1, hR.2, pay_in ht hG, hc⟩, ht _ (hG _ hc).1, ok _ (by simp [va_wsS]), ⟨hd.1, hd.2.1⟩, fun sig h => ?_, ok _ (by simp [va_wsS]), ok _ (by simp [va_wsS])⟩
  have h2 := hd.2.2
  rw [h] at h2
  exact (Option.some.inj h2).symm
theorem vx_callSW (X : Stand p l e R s m args below meth c T locs cells slots) (hexec : p.tables.exec = Jvm.exec) {own : String} {index : Nat} {y : MethodName} {bytes : ByteArray} {maxL : Nat} {ret : Option FieldType} {hh : List (Nat × Nat × Nat × Nat)}
    (hown : s.vm.findClass own = some m.cls) (hlink : (Cond.methodLink own index y).before args s = true) (hstat : (Cond.static y).before args s = true) (hinit : (Cond.initialized y.cls).before args s = true)
    (hcode : (Cond.codeWith y bytes maxL ret hh).before args s = true) (hy : y.cls ≠ "java/lang/invoke/MethodHandle" ∧ y.cls ≠ "java/lang/invoke/VarHandle")
    {W9 : Nat} {Pre : Pt → Array Value → Prop} {Post : Pt → Array Value → Option Value → Pt → Prop} (hK : Back l R p e below s args y 3 W9 Pre Post)
    {g : JFrame} (hg : g.method = m) (hsize : g.locals.size = c.maxLocals) {argsL rest : List Value} (hlen : ∀ sig, parseMethodDescriptor y.desc = some sig → argsL.length = sig.parameters.length)
    (hstack : g.stack = argsL.reverse ++ rest) (hW : 2 * g.monitorRoom + (rest.map fun v => v.category).sum ≤ W9) (hdg : decode c.code g.pc = .ok (.invokestatic index, 3))
    (hpre : ∀ vm₁, s.WarmedH vm₁ → Pre ⟨T.setVm vm₁, locs, cells, slots⟩ argsL.toArray) :
    ∃ (v : Option Value) (vm₁ : Vm) (B : Pt), s.WarmedH vm₁ ∧ Stand p l e R s m args below meth c B.U B.locs B.cells B.slots ∧ Post ⟨T.setVm vm₁, locs, cells, slots⟩ argsL.toArray v B ∧
      ∀ target, Steps p.tables e below (B.U.setTop { g with pc := g.pc + 3, stack := v.toList ++ rest }) target → Steps p.tables e below (T.setTop g) target := by
  obtain ⟨mk, methM, cM, hnamed, hmethM, -, -, -, -, -, -, hsigM⟩ := Cond.codeWith_spec hcode
  have hstatic : methM.isStatic = true := Cond.static_spec hnamed hmethM hstat
  obtain ⟨kP, hkP, -⟩ := className_of_methodNamed hnamed
  have hinitP : kP.init = .initialized := Cond.initialized_spec (findClass_of_methodNamed hnamed) hkP hinit
  obtain ⟨vm₁, X₁, hstep₁⟩ := X.invokestatic hexec hown hlink hnamed hmethM hstatic hkP hinitP hy (g := g) hg (argsL := argsL) (rest := rest) (hlen _ hsigM) hstack hdg
  obtain ⟨v, B, X', hpost, hsteps⟩ := hK m meth c ⟨T.setVm vm₁, locs, cells, slots⟩ { g with stack := rest } (.invokestatic index) mk argsL.toArray X₁ hg hsize hdg hW (X₁.named hnamed) (hpre vm₁ X₁.warmed)
  exact ⟨v, vm₁, B, X₁.warmed, X', hpost, fun target h => hstep₁ _ fun acts => by rw [doInvoke_state]; exact hsteps.trans h⟩
theorem vx_runSW {y : MethodName} {bytes cc : ByteArray} {maxL nL mc ms n index : Nat} {ret : Option FieldType} {hh : List (Nat × Nat × Nat × Nat)} {ws : List Cond} {rm : Room} {Pc : Array Value → State → Prop} {Qc : Array Value → State → Outcome → State → Prop} {free : Addr → Prop} {Ts : List Cond} {own : String} {As rest : List Value} {g : JFrame}
    (S : CallFix p m c cc nL s args Ts own) (hM : Met l y ws rm Pc Qc mc ms free) (cw : vx_CSW R s args own index y bytes maxL ret hh ws rm mc ms n) (hp : PreS s H Pc As)
    (hg : g.method = m) (hn : As.length = n) (hsize : g.locals.size = nL) (hstack : g.stack = As.reverse ++ rest) (hW : 2 * g.monitorRoom + (rest.map fun v => v.category).sum ≤ 8) (hdg : decode cc g.pc = .ok (.invokestatic index, 3)) (hf : cells + mc ≤ R.cells ∧ slots + ms ≤ R.slots) :
    va_Run p l e R s m args below meth c H locs cells slots mc ms g rest (Qc As.toArray) (free) := by
  obtain ⟨⟨hrc, hrs, hfr, hlo, hws, hcw⟩, hcode, hini, hy, hlen, hl, hstt⟩ := cw
  have hK : Back l R p e below s args y 3 8 (PreOf R mc ms Pc) (PostOf Qc mc ms free) := va_backW (hh := hh) (bytes := bytes) (maxL := maxL) (ret := ret) hM hp.1 hrc hrs hfr hlo hws hcw (fun a' U hW => word_at hW (Or.inl (by first | rfl | simp [Cond.onTables, Cond.keeps, Cond.steady])) hini)
  obtain ⟨hx, hb, hml, ho, -⟩ := S
  intro T hT X
  obtain ⟨v, vm₁, ⟨U', l2, c2, s2⟩, hW₁, X', ⟨g', mk, t, L, e1, e2, hq, h1, hL, h2, h3⟩, st⟩ := vx_callSW X hx (hh := hh) (bytes := bytes) (maxL := maxL) (ret := ret) ho hl hstt hini hcode hy hK hg (hsize.trans hml.symm) (argsL := As) (rest := rest) (fun sig h => hn.trans (hlen sig h)) hstack hW (by rw [hb]; exact hdg)
    (fun vm₁ hW₁ => ⟨hf.1, hf.2, hp.2 (T.setVm vm₁) hT hW₁⟩)
  dsimp only [Pt.U, Pt.locs, Pt.cells, Pt.slots] at X' e1 e2 h1 h2 h3 st
  subst h1; subst h2; subst h3
  exact ⟨v, (T.setVm vm₁).calling g' mk As.toArray, t, U', L, hT, X', hL, e1, e2, hq, st⟩
/-- not caught here, past rows that name other classes: it goes on to the caller -/
theorem vx_outP {p : Program} {l : Launch} {e : Env} {R : Room} {s : State} {m : MethodId} {args : Array Value} {below : List Frame} {meth : Method} {c : Code} {H : Heap} {locs : List Loc} {cells slots : Nat} {free : Addr → Prop} {ls : Array Slot} {rest : List Value} {Qc : Array Value → State → Outcome → State → Prop} {XC : String → State → State → Prop}
    {pc : Nat} {own E : String} {ce : Cell} {q : Addr} {mc ms : Nat} (hown : s.vm.findClass own = some m.cls) (hlocks : meth.locks = false)
    (hpass : ∀ z ∈ c.exceptionTable.toList, covers z pc = false ∨ (z.catchType ≠ 0 ∧ ∃ nm : String, (Cond.classLink own z.catchType nm).before args s = true ∧ va_Nc E nm s)) (hcell : H[q]? = some ce) (hv : ce.vm = .none) (hcl : s.vm.findClass E = some ce.cls)
    (hx : ∀ t : State, t.heap = H → s.vm.Alike t.vm → XC E s t) (hf : ∀ z ∈ locs, free z.base) (hc : cells ≤ mc) (hs : slots ≤ ms) :
    vx_W p l e R s m args below meth c H locs cells slots (vx_MQ below Qc XC args s mc ms free) (F0 m pc ls rest) q := by
  intro T hT X
  have hpl : e.platform.magicAccessors = ({} : Platform).magicAccessors := by rw [X.admits.platform]
  obtain ⟨vm', hW', X', st⟩ := X.outThrough hlocks q (g := F0 m pc ls rest) rfl rfl rfl (cell := ce) (by rw [hT]; exact hcell) (by rw [hv]; rfl)
    (by obtain ⟨k9, h9, -⟩ := Vm.findClass_spec hcl; exact ⟨k9, h9⟩) (fun z hz => by
      rcases hpass z hz with h | ⟨hz0, nm, hl1, hn1⟩
      · exact Or.inl h
      · obtain ⟨c6, hc6, hcl6⟩ := Cond.classLink_spec hown hl1 e.platform hpl
        obtain ⟨a8, b8, h1, h2, h3⟩ := hn1
        cases Option.some.inj (h1.symm.trans hcl)
        cases Option.some.inj (h2.symm.trans hc6)
        exact Or.inr ⟨hz0, _, hcl6, h3⟩)
  obtain ⟨g₀, hfr⟩ := X'.frames_eq
  have hcell9 : ((T.setVm vm').setFrames (.throwing q :: below)).heap[q]? = some ce := by
    show T.heap[q]? = some ce
    rw [hT]; exact hcell
  have hend : Ended ((T.setVm vm').setFrames (.throwing q :: below)) below (.threw q) := State.frames_setFrames _ (State.cur_lt_of_frames hfr)
  refine ⟨(T.setVm vm').setFrames (.throwing q :: below), ?_, .threw q, X'.here.running, hend, Or.inr ⟨q, rfl, E, ce, locs, hx _ hT (X'.ends _).1.alike, hcell9, hv, hcl, (X'.ends _).1, (X'.ends _).2.mono hc hs, hf⟩⟩
  rw [X.pushThrowing_eq]
  exact st
/-- a thing of a world lies in the heap -/
theorem vx_lt {D : va_G} {cl : List vw_C} {ws : va_W} {H1 : Heap} (h : va_P D cl ws H1) {k : Nat} {q : Nat × va_E} (hk : ws[k]? = some q) : q.1 < H1.size := (h k q hk).lt
end VXS
/-! ===== END ===== -/
/-! ===== BEGIN methods with a table of their own: called by a name, returning or throwing ===== -/
section VXH
/-! vx_backW, vx_callVX, vx_callSX, vx_callVW, vx_runVW, vx_runVX, vx_runSX, vx_ofWH follow the same proofs as their sisters above (Free/Laws.lean, Shelf42/LK1.lean); vx_outP calls Shelf42/NT130.lean (outThrough). -/
section
variable {l : Launch} {R : Room} {p : Program} {e : Env} {below : List Frame} {s : State} {sargs : Array Value} {y : MethodName} {len W9 : Nat}
theorem vx_backW {ws : List Cond} {rm : Room} {Pc : Array Value → State → Prop} {Qc : Array Value → State → Outcome → State → Prop} {XC : String → State → State → Prop} {mc ms : Nat} {free : Addr → Prop} {bytes : ByteArray} {maxL : Nat} {ret : Option FieldType} {hh : List (Nat × Nat × Nat × Nat)}
    (hM : vx_Met l y ws rm Pc Qc XC mc ms free) (hblind : FrameBlind Pc) (hrc : rm.cells = mc) (hrs : rm.slots = ms)
    (hframes : rm.frames + 1 ≤ R.frames) (hlocals : W9 + (maxL + 11) + rm.locals ≤ R.locals)
    (hws : ∀ w ∈ ws, ∀ a' U, s.WarmedH U.vm → w.before a' U = true) (hcode : Cond.codeWith y bytes maxL ret hh ∈ ws) (hinit : ∀ a' U, s.WarmedH U.vm → (Cond.initialized y.cls).before a' U = true) :
    vx_Back l R p e below s sargs y len W9 (PreOf R mc ms Pc) (PostOf Qc mc ms free) (vx_Post XC mc ms free) := by
  intro m meth c A g ig mk a X hg hsize hdg hW hn hp
  have h1 : (headSpec ws rm).pre.before a A.U = true := atoms_intro fun w hw => hws w hw _ _ X.warmed
  have h2 : (Cond.codeWith y bytes maxL ret hh).before a A.U = true := hws _ hcode _ _ X.warmed
  have h3 : (Cond.initialized y.cls).before a A.U = true := hinit _ _ X.warmed
  have h4 : A.cells + (headSpec ws rm).room.cells ≤ R.cells := by rw [show (headSpec ws rm).room.cells = mc from hrc]; exact hp.1
  have h5 : A.slots + (headSpec ws rm).room.slots ≤ R.slots := by rw [show (headSpec ws rm).room.slots = ms from hrs]; exact hp.2.1
  have hPc : Pc a (A.U.calling g mk a) := hblind _ _ _ _ hp.2.2
  obtain ⟨U, Ls, c0, s0⟩ := A
  dsimp only [Pt.U, Pt.locs, Pt.cells, Pt.slots] at h1 h2 h3 h4 h5 X hn hPc ⊢
  obtain ⟨m9, methY, cY, hn9, hmY, hcY, -, hlY, -⟩ := Cond.codeWith_spec h2
  cases Option.some.inj (hn9.symm.trans hn)
  obtain ⟨kY, hkY, -⟩ := className_of_methodNamed hn
  have hinitY : kY.init = .initialized := Cond.initialized_spec (findClass_of_methodNamed hn) hkY h3
  have h : At U g.method c below := by rw [hg]; exact X.here
  have hlocals9 : W9 + (maxL + 11) + (headSpec ws rm).room.locals ≤ R.locals := hlocals
  have happ : (headSpec ws rm).appliesLoose y e.platform (U.calling g mk a) = true :=
    Spec.appliesLoose_calling (g := g) h hdg hn hkY hinitY
      (X.room_calling (g := g) (R' := (headSpec ws rm).room) hsize hmY hcY hframes (by rw [hlY]; omega) h4 h5) h1
  obtain ⟨mid, hmid⟩ := h.above
  have hfr : (U.setTop g).frames = (.java g :: mid) ++ below := by rw [State.frames_setTop' g h.top, hmid]; rfl
  obtain ⟨o, s₂, hsteps, -, hend, hq⟩ := Steps.callFree hM p X.admits X.cas X.clock (acts := []) hfr happ hPc trivial
  have hq' : vx_Q Qc XC mc ms free a (U.calling g mk a) o s₂ := hq
  rw [State.frames_setTop' g h.top] at hend
  obtain ⟨g₀, hg0⟩ := Option.isSome_iff_exists.mp h.top
  obtain ⟨r, hr⟩ := State.topJava?_eq_some.mp hg0
  have hr' : (({ U with heap := s₂.heap, slotsUsed := s₂.slotsUsed } : State).setVm s₂.vm).frames = .java g₀ :: r := hr
  rcases hq' with ⟨hqc, L, hfe, hL⟩ | ⟨q, rfl, E, ce, L, hx, hce, hcv, hcl, hW₂, hsm, hL⟩
  · obtain ⟨⟨v, rfl⟩, hW₂, e2, q2, q3, q4, q5, q6⟩ := id hfe
    have e3 : s₂ = ({ (U.calling g mk a).setFrames s₂.frames with heap := s₂.heap, slotsUsed := s₂.slotsUsed } : State).setVm s₂.vm := by
      have : s₂ = ({ s₂ with vm := (U.calling g mk a).vm } : State).setVm s₂.vm := rfl
      rw [e2] at this
      exact this
    obtain ⟨c₂, i₂, len₂, hc₂, hd₂, hf₂⟩ := hend
    have hW' : U.WarmedH s₂.vm := hW₂
    have hcc : c₂ = c := by
      have h1 : s₂.code? g.method = U.code? g.method := by
        rw [State.code?_eq, State.code?_eq, hW'.alike.method?]
      exact Option.some.inj (hc₂.symm.trans (h1.trans h.code))
    subst hcc
    have hlen : len₂ = len := by rw [hdg] at hd₂; cases hd₂; rfl
    subst hlen
    have hs₂ : s₂ = (({ U with heap := s₂.heap, slotsUsed := s₂.slotsUsed } : State).setVm s₂.vm).setTop { g with pc := g.pc + len₂, stack := v.toList ++ g.stack } := by
      refine e3.trans ?_
      rw [hf₂, State.calling_eq h.top, State.setFrames_setFrames, State.setTop_of_frames _ hr', hr]
      rfl
    have hsame : U.sameButNew ({ U with heap := s₂.heap, slotsUsed := s₂.slotsUsed } : State) L mc ms := by
      refine ⟨?_, q2, q3, q4, q5, q6⟩
      obtain ⟨t, ht, -⟩ := State.frames_cons hr
      show ({ U with heap := s₂.heap, slotsUsed := s₂.slotsUsed } : State) = { U.setFrames U.frames with heap := s₂.heap, slotsUsed := s₂.slotsUsed }
      rw [State.setFrames_self ht]
    subst hg
    refine Or.inl ⟨v, ⟨(({ U with heap := s₂.heap, slotsUsed := s₂.slotsUsed } : State).setVm s₂.vm), Ls ++ L, c0 + mc, s0 + ms⟩,
      ⟨X.admits, X.cas, X.clock, X.frames, X.room, X.hears, X.method, X.code, (X.here.setHeapUsed s₂.heap s₂.slotsUsed).setVm hW'.alike, X.tail, State.WarmedH.trans X.warmed hW', X.limits, X.bytes, X.same.trans (hsame.setVm s.vm)⟩,
      ⟨g, mk, s₂, L, rfl, rfl, hqc, rfl, hL, rfl, rfl⟩, ?_⟩
    show Steps p.tables e below _ ((({ U with heap := s₂.heap, slotsUsed := s₂.slotsUsed } : State).setVm s₂.vm).setTop { g with pc := g.pc + len₂, stack := v.toList ++ g.stack })
    rw [← hs₂]
    exact hsteps
  · obtain ⟨e2, q2, q3, q4, q5, q6⟩ := id hsm
    have e3 : s₂ = ({ (U.calling g mk a).setFrames s₂.frames with heap := s₂.heap, slotsUsed := s₂.slotsUsed } : State).setVm s₂.vm := by
      have : s₂ = ({ s₂ with vm := (U.calling g mk a).vm } : State).setVm s₂.vm := rfl
      rw [e2] at this
      exact this
    have hf₂ : s₂.frames = .throwing q :: .java g :: U.frames.tail := hend
    have hW' : U.WarmedH s₂.vm := hW₂
    have hs₂ : s₂ = ((({ U with heap := s₂.heap, slotsUsed := s₂.slotsUsed } : State).setVm s₂.vm).setTop g).pushFrame (.throwing q) := by
      refine e3.trans ?_
      rw [hf₂, State.calling_eq h.top, State.setFrames_setFrames, State.pushFrame, State.frames_setTop _ hr', State.setTop_of_frames _ hr', State.setFrames_setFrames, hr]
      rfl
    have hsame : U.sameButNew ({ U with heap := s₂.heap, slotsUsed := s₂.slotsUsed } : State) L mc ms := by
      refine ⟨?_, q2, q3, q4, q5, q6⟩
      obtain ⟨t, ht, -⟩ := State.frames_cons hr
      show ({ U with heap := s₂.heap, slotsUsed := s₂.slotsUsed } : State) = { U.setFrames U.frames with heap := s₂.heap, slotsUsed := s₂.slotsUsed }
      rw [State.setFrames_self ht]
    subst hg
    refine Or.inr ⟨q, ⟨(({ U with heap := s₂.heap, slotsUsed := s₂.slotsUsed } : State).setVm s₂.vm), Ls ++ L, c0 + mc, s0 + ms⟩,
      ⟨X.admits, X.cas, X.clock, X.frames, X.room, X.hears, X.method, X.code, (X.here.setHeapUsed s₂.heap s₂.slotsUsed).setVm hW'.alike, X.tail, State.WarmedH.trans X.warmed hW', X.limits, X.bytes, X.same.trans (hsame.setVm s.vm)⟩,
      ⟨g, mk, s₂, L, E, ce, rfl, rfl, hx, hce, hcv, hcl, rfl, hL, rfl, rfl⟩, ?_⟩
    show Steps p.tables e below _ (((({ U with heap := s₂.heap, slotsUsed := s₂.slotsUsed } : State).setVm s₂.vm).setTop g).pushFrame (.throwing q))
    rw [← hs₂]
    exact hsteps
end
variable {p : Program} {l : Launch} {e : Env} {R : Room} {s : State} {m : MethodId} {args : Array Value} {below : List Frame} {meth : Method} {c : Code} {T : State} {H : Heap} {locs : List Loc} {cells slots : Nat}
theorem vx_callVX (X : Stand p l e R s m args below meth c T locs cells slots) (hexec : p.tables.exec = Jvm.exec) {own C : String} {index : Nat} {y : MethodName} {bytes : ByteArray} {maxL : Nat} {ret : Option FieldType} {hh : List (Nat × Nat × Nat × Nat)}
    (hown : s.vm.findClass own = some m.cls) (hlink : (Cond.methodLink own index y).before args s = true) (hinst : (Cond.instanceMethod y).before args s = true) (hsel : (Cond.selects C y y).before args s = true)
    (hcode : (Cond.codeWith y bytes maxL ret hh).before args s = true) (hy : y.cls ≠ "java/lang/invoke/MethodHandle" ∧ y.cls ≠ "java/lang/invoke/VarHandle")
    {W9 : Nat} {Pre : Pt → Array Value → Prop} {Post : Pt → Array Value → Option Value → Pt → Prop} {PostX : Pt → Array Value → Addr → Pt → Prop} (hK : vx_Back l R p e below s args y 3 W9 Pre Post PostX)
    {b : Addr} {cellB : Cell} (hcell : T.heap[b]? = some cellB) (hobj : cellB.vm.isStatics = false) (hcls : s.vm.findClass C = some cellB.cls)
    {g : JFrame} (hg : g.method = m) (hsize : g.locals.size = c.maxLocals) {argsL rest : List Value} (hlen : ∀ sig, parseMethodDescriptor y.desc = some sig → argsL.length = sig.parameters.length)
    (hstack : g.stack = argsL.reverse ++ .ref b :: rest) (hW : 2 * g.monitorRoom + (rest.map fun v => v.category).sum ≤ W9) (hdg : decode c.code g.pc = .ok (.invokevirtual index, 3))
    (hpre : ∀ vm₁, s.WarmedH vm₁ → Pre ⟨T.setVm vm₁, locs, cells, slots⟩ (Value.ref b :: argsL).toArray) :
    (∃ (v : Option Value) (vm₁ : Vm) (B : Pt), s.WarmedH vm₁ ∧ Stand p l e R s m args below meth c B.U B.locs B.cells B.slots ∧ Post ⟨T.setVm vm₁, locs, cells, slots⟩ (Value.ref b :: argsL).toArray v B ∧
      ∀ target, Steps p.tables e below (B.U.setTop { g with pc := g.pc + 3, stack := v.toList ++ rest }) target → Steps p.tables e below (T.setTop g) target) ∨
    (∃ (q : Addr) (vm₁ : Vm) (B : Pt), s.WarmedH vm₁ ∧ Stand p l e R s m args below meth c B.U B.locs B.cells B.slots ∧ PostX ⟨T.setVm vm₁, locs, cells, slots⟩ (Value.ref b :: argsL).toArray q B ∧
      Steps p.tables e below (T.setTop g) ((B.U.setTop { g with stack := rest }).pushFrame (.throwing q))) := by
  obtain ⟨mk, methM, hnamed, hmethM, hstM, habM⟩ := Cond.instanceMethod_spec hinst
  obtain ⟨m8, methM', cM, hn8, hmethM', -, -, -, -, -, -, hsigM⟩ := Cond.codeWith_spec hcode
  cases Option.some.inj (hn8.symm.trans hnamed)
  cases hmethM.symm.trans hmethM'
  obtain ⟨c2, r2, m2, q1, q2, q3, q4, kP, hkP, hkPi⟩ := Cond.selects_spec hsel
  cases hcls.symm.trans q1
  cases (State.methodFound?_of_named hnamed hy).symm.trans q2
  cases hnamed.symm.trans q3
  have hselP : selectMethod e.platform s.vm cellB.cls mk = .method mk := by rw [Launch.admits_selectMethod X.admits]; exact q4
  obtain ⟨vm₁, X₁, hstep₁⟩ := X.invokevirtual hexec hown hlink hnamed hmethM hstM hkP hkPi hy (a := b) (cell := cellB) hcell
    (fun z h => by rw [h] at hobj; cases hobj) hselP hmethM habM hkP hkPi (g := g) hg (argsL := argsL) (rest := rest) (hlen _ hsigM) hstack hdg
  rcases hK m meth c ⟨T.setVm vm₁, locs, cells, slots⟩ { g with stack := rest } (.invokevirtual index) mk (Value.ref b :: argsL).toArray X₁ hg hsize hdg hW (X₁.named hnamed) (hpre vm₁ X₁.warmed) with ⟨v, B, X', hpost, hsteps⟩ | ⟨q, B, X', hpost, hsteps⟩
  · exact Or.inl ⟨v, vm₁, B, X₁.warmed, X', hpost, fun target h => hstep₁ _ fun acts => by rw [doInvoke_state]; exact hsteps.trans h⟩
  · exact Or.inr ⟨q, vm₁, B, X₁.warmed, X', hpost, hstep₁ _ fun acts => by rw [doInvoke_state]; exact hsteps⟩
theorem vx_callSX (X : Stand p l e R s m args below meth c T locs cells slots) (hexec : p.tables.exec = Jvm.exec) {own : String} {index : Nat} {y : MethodName} {bytes : ByteArray} {maxL : Nat} {ret : Option FieldType} {hh : List (Nat × Nat × Nat × Nat)}
    (hown : s.vm.findClass own = some m.cls) (hlink : (Cond.methodLink own index y).before args s = true) (hstat : (Cond.static y).before args s = true) (hinit : (Cond.initialized y.cls).before args s = true)
    (hcode : (Cond.codeWith y bytes maxL ret hh).before args s = true) (hy : y.cls ≠ "java/lang/invoke/MethodHandle" ∧ y.cls ≠ "java/lang/invoke/VarHandle")
    {W9 : Nat} {Pre : Pt → Array Value → Prop} {Post : Pt → Array Value → Option Value → Pt → Prop} {PostX : Pt → Array Value → Addr → Pt → Prop} (hK : vx_Back l R p e below s args y 3 W9 Pre Post PostX)
    {g : JFrame} (hg : g.method = m) (hsize : g.locals.size = c.maxLocals) {argsL rest : List Value} (hlen : ∀ sig, parseMethodDescriptor y.desc = some sig → argsL.length = sig.parameters.length)
    (hstack : g.stack = argsL.reverse ++ rest) (hW : 2 * g.monitorRoom + (rest.map fun v => v.category).sum ≤ W9) (hdg : decode c.code g.pc = .ok (.invokestatic index, 3))
    (hpre : ∀ vm₁, s.WarmedH vm₁ → Pre ⟨T.setVm vm₁, locs, cells, slots⟩ argsL.toArray) :
    (∃ (v : Option Value) (vm₁ : Vm) (B : Pt), s.WarmedH vm₁ ∧ Stand p l e R s m args below meth c B.U B.locs B.cells B.slots ∧ Post ⟨T.setVm vm₁, locs, cells, slots⟩ argsL.toArray v B ∧
      ∀ target, Steps p.tables e below (B.U.setTop { g with pc := g.pc + 3, stack := v.toList ++ rest }) target → Steps p.tables e below (T.setTop g) target) ∨
    (∃ (q : Addr) (vm₁ : Vm) (B : Pt), s.WarmedH vm₁ ∧ Stand p l e R s m args below meth c B.U B.locs B.cells B.slots ∧ PostX ⟨T.setVm vm₁, locs, cells, slots⟩ argsL.toArray q B ∧
      Steps p.tables e below (T.setTop g) ((B.U.setTop { g with stack := rest }).pushFrame (.throwing q))) := by
  obtain ⟨mk, methM, cM, hnamed, hmethM, -, -, -, -, -, -, hsigM⟩ := Cond.codeWith_spec hcode
  have hstatic : methM.isStatic = true := Cond.static_spec hnamed hmethM hstat
  obtain ⟨kP, hkP, -⟩ := className_of_methodNamed hnamed
  have hinitP : kP.init = .initialized := Cond.initialized_spec (findClass_of_methodNamed hnamed) hkP hinit
  obtain ⟨vm₁, X₁, hstep₁⟩ := X.invokestatic hexec hown hlink hnamed hmethM hstatic hkP hinitP hy (g := g) hg (argsL := argsL) (rest := rest) (hlen _ hsigM) hstack hdg
  rcases hK m meth c ⟨T.setVm vm₁, locs, cells, slots⟩ { g with stack := rest } (.invokestatic index) mk argsL.toArray X₁ hg hsize hdg hW (X₁.named hnamed) (hpre vm₁ X₁.warmed) with ⟨v, B, X', hpost, hsteps⟩ | ⟨q, B, X', hpost, hsteps⟩
  · exact Or.inl ⟨v, vm₁, B, X₁.warmed, X', hpost, fun target h => hstep₁ _ fun acts => by rw [doInvoke_state]; exact hsteps.trans h⟩
  · exact Or.inr ⟨q, vm₁, B, X₁.warmed, X', hpost, hstep₁ _ fun acts => by rw [doInvoke_state]; exact hsteps⟩
theorem vx_callVW (X : Stand p l e R s m args below meth c T locs cells slots) (hexec : p.tables.exec = Jvm.exec) {own C : String} {index : Nat} {y : MethodName} {bytes : ByteArray} {maxL : Nat} {ret : Option FieldType} {hh : List (Nat × Nat × Nat × Nat)}
    (hown : s.vm.findClass own = some m.cls) (hlink : (Cond.methodLink own index y).before args s = true) (hinst : (Cond.instanceMethod y).before args s = true) (hsel : (Cond.selects C y y).before args s = true)
    (hcode : (Cond.codeWith y bytes maxL ret hh).before args s = true) (hy : y.cls ≠ "java/lang/invoke/MethodHandle" ∧ y.cls ≠ "java/lang/invoke/VarHandle")
    {W9 : Nat} {Pre : Pt → Array Value → Prop} {Post : Pt → Array Value → Option Value → Pt → Prop} (hK : Back l R p e below s args y 3 W9 Pre Post)
    {b : Addr} {cellB : Cell} (hcell : T.heap[b]? = some cellB) (hobj : cellB.vm.isStatics = false) (hcls : s.vm.findClass C = some cellB.cls)
    {g : JFrame} (hg : g.method = m) (hsize : g.locals.size = c.maxLocals) {argsL rest : List Value} (hlen : ∀ sig, parseMethodDescriptor y.desc = some sig → argsL.length = sig.parameters.length)
    (hstack : g.stack = argsL.reverse ++ .ref b :: rest) (hW : 2 * g.monitorRoom + (rest.map fun v => v.category).sum ≤ W9) (hdg : decode c.code g.pc = .ok (.invokevirtual index, 3))
    (hpre : ∀ vm₁, s.WarmedH vm₁ → Pre ⟨T.setVm vm₁, locs, cells, slots⟩ (Value.ref b :: argsL).toArray) :
    ∃ (v : Option Value) (vm₁ : Vm) (B : Pt), s.WarmedH vm₁ ∧ Stand p l e R s m args below meth c B.U B.locs B.cells B.slots ∧ Post ⟨T.setVm vm₁, locs, cells, slots⟩ (Value.ref b :: argsL).toArray v B ∧
      ∀ target, Steps p.tables e below (B.U.setTop { g with pc := g.pc + 3, stack := v.toList ++ rest }) target → Steps p.tables e below (T.setTop g) target := by
  obtain ⟨mk, methM, hnamed, hmethM, hstM, habM⟩ := Cond.instanceMethod_spec hinst
  obtain ⟨m8, methM', cM, hn8, hmethM', -, -, -, -, -, -, hsigM⟩ := Cond.codeWith_spec hcode
  cases Option.some.inj (hn8.symm.trans hnamed)
  cases hmethM.symm.trans hmethM'
  obtain ⟨c2, r2, m2, q1, q2, q3, q4, kP, hkP, hkPi⟩ := Cond.selects_spec hsel
  cases hcls.symm.trans q1
  cases (State.methodFound?_of_named hnamed hy).symm.trans q2
  cases hnamed.symm.trans q3
  have hselP : selectMethod e.platform s.vm cellB.cls mk = .method mk := by rw [Launch.admits_selectMethod X.admits]; exact q4
  obtain ⟨vm₁, X₁, hstep₁⟩ := X.invokevirtual hexec hown hlink hnamed hmethM hstM hkP hkPi hy (a := b) (cell := cellB) hcell
    (fun z h => by rw [h] at hobj; cases hobj) hselP hmethM habM hkP hkPi (g := g) hg (argsL := argsL) (rest := rest) (hlen _ hsigM) hstack hdg
  obtain ⟨v, B, X', hpost, hsteps⟩ := hK m meth c ⟨T.setVm vm₁, locs, cells, slots⟩ { g with stack := rest } (.invokevirtual index) mk (Value.ref b :: argsL).toArray X₁ hg hsize hdg hW (X₁.named hnamed) (hpre vm₁ X₁.warmed)
  exact ⟨v, vm₁, B, X₁.warmed, X', hpost, fun target h => hstep₁ _ fun acts => by rw [doInvoke_state]; exact hsteps.trans h⟩
abbrev vx_CVW (R : Room) (s : State) (args : Array Value) (own C : String) (index : Nat) (y : MethodName) (bytes : ByteArray) (maxL : Nat) (ret : Option FieldType) (hh : List (Nat × Nat × Nat × Nat)) (ws : List Cond) (rm : Room) (mc ms n : Nat) : Prop :=
  (rm.cells = mc ∧ rm.slots = ms ∧ rm.frames + 1 ≤ R.frames ∧ 8 + (maxL + 11) + rm.locals ≤ R.locals ∧ (∀ w ∈ ws, ∀ (a' : Array Value) (U : State), s.WarmedH U.vm → w.before a' U = true) ∧ Cond.codeWith y bytes maxL ret hh ∈ ws) ∧
  (Cond.codeWith y bytes maxL ret hh).before args s = true ∧ (Cond.initialized y.cls).before args s = true ∧ (y.cls ≠ "java/lang/invoke/MethodHandle" ∧ y.cls ≠ "java/lang/invoke/VarHandle") ∧
  (∀ sig, parseMethodDescriptor y.desc = some sig → n = sig.parameters.length) ∧ (Cond.methodLink own index y).before args s = true ∧ (Cond.instanceMethod y).before args s = true ∧ (Cond.selects C y y).before args s = true
theorem vx_cwVW {own C : String} {index maxL mc ms : Nat} {y : MethodName} {bytes : ByteArray} {ret : Option FieldType} {hh : List (Nat × Nat × Nat × Nat)} {Ts ws ws' : List Cond} {rm : Room} (n : Nat) (ht : ∀ w ∈ Ts, w.before args s = true) (hT : GoodIn Ts (wsV own index C y ws)) (hw : ws = Cond.codeWith y bytes maxL ret hh :: ws') (hrc : rm.cells = mc) (hrs : rm.slots = ms)
    (hd : y.cls = C ∧ y.cls ≠ "java/lang/invoke/MethodHandle" ∧ y.cls ≠ "java/lang/invoke/VarHandle" ∧ (parseMethodDescriptor y.desc).map (fun d => d.parameters.length) = some n) (hR : rm.frames + 1 ≤ R.frames ∧ 8 + (maxL + 11) + rm.locals ≤ R.locals) :
    vx_CVW R s args own C index y bytes maxL ret hh ws rm mc ms n := by
  obtain ⟨hC, hd⟩ := hd
  subst hC
  have ok : ∀ w ∈ wsV own index y.cls y ws, w.before args s = true := fun w h => ht w (hT w h).1
  have hG : GoodIn Ts ws := fun w h => hT w (by unfold wsV; exact List.mem_append_right _ h)
  have hc : Cond.codeWith y bytes maxL ret hh ∈ ws := by rw [hw]; exact List.mem_cons_self
  refine ⟨⟨hrc, hrs, hR.1, hR.2, pay_in ht hG, hc⟩, ht _ (hG _ hc).1, ok _ (by simp [wsV]), ⟨hd.1, hd.2.1⟩, fun sig h => ?_, ok _ (by simp [wsV]), ok _ (by simp [wsV]), ok _ (by simp [wsV])⟩
  have h2 := hd.2.2
  rw [h] at h2
  exact (Option.some.inj h2).symm
theorem vx_runVW {y : MethodName} {bytes cc : ByteArray} {maxL nL mc ms n index : Nat} {ret : Option FieldType} {hh : List (Nat × Nat × Nat × Nat)} {ws : List Cond} {rm : Room} {Pc : Array Value → State → Prop} {Qc : Array Value → State → Outcome → State → Prop} {free : Addr → Prop} {Ts : List Cond} {own C : String} {b : Addr} {As rest : List Value} {g : JFrame}
    (S : CallFix p m c cc nL s args Ts own) (hM : Met l y ws rm Pc Qc mc ms free) (cw : vx_CVW R s args own C index y bytes maxL ret hh ws rm mc ms n) (hp : PreV s H C b Pc As)
    (hg : g.method = m) (hn : As.length = n) (hsize : g.locals.size = nL) (hstack : g.stack = As.reverse ++ .ref b :: rest) (hW : 2 * g.monitorRoom + (rest.map fun v => v.category).sum ≤ 8) (hdg : decode cc g.pc = .ok (.invokevirtual index, 3)) (hf : cells + mc ≤ R.cells ∧ slots + ms ≤ R.slots) :
    va_Run p l e R s m args below meth c H locs cells slots mc ms g rest (Qc (Value.ref b :: As).toArray) free := by
  obtain ⟨⟨hrc, hrs, hfr, hlo, hws, hcw⟩, hcode, hini, hy, hlen, hl, hin, hse⟩ := cw
  have hK : Back l R p e below s args y 3 8 (PreOf R mc ms Pc) (PostOf Qc mc ms free) := va_backW (hh := hh) (bytes := bytes) (maxL := maxL) (ret := ret) hM hp.1 hrc hrs hfr hlo hws hcw (fun a' U hW => word_at hW (Or.inl (by first | rfl | simp [Cond.onTables, Cond.keeps, Cond.steady])) hini)
  obtain ⟨hx, hb, hml, ho, -⟩ := S
  obtain ⟨-, ⟨cellB, hcB, hoB, hclB⟩, hPc⟩ := hp
  intro T hT X
  obtain ⟨v, vm₁, ⟨U', l2, c2, s2⟩, hW₁, X', ⟨g', mk, t, L, e1, e2, hq, h1, hL, h2, h3⟩, st⟩ := vx_callVW X hx (C := C) (hh := hh) (bytes := bytes) (maxL := maxL) (ret := ret) ho hl hin hse hcode hy hK (by rw [hT]; exact hcB) hoB hclB hg (hsize.trans hml.symm) (argsL := As) (rest := rest) (fun sig h => hn.trans (hlen sig h)) hstack hW (by rw [hb]; exact hdg)
    (fun vm₁ hW₁ => ⟨hf.1, hf.2, hPc (T.setVm vm₁) hT hW₁⟩)
  dsimp only [Pt.U, Pt.locs, Pt.cells, Pt.slots] at X' e1 e2 h1 h2 h3 st
  subst h1; subst h2; subst h3
  exact ⟨v, (T.setVm vm₁).calling g' mk (Value.ref b :: As).toArray, t, U', L, hT, X', hL, e1, e2, hq, st⟩
section
variable {y : MethodName} {bytes cc : ByteArray} {maxL nL mc ms n index : Nat} {ret : Option FieldType} {ws : List Cond} {rm : Room} {Pc : Array Value → State → Prop} {Qc : Array Value → State → Outcome → State → Prop} {XC : String → State → State → Prop} {free : Addr → Prop} {Ts : List Cond} {own C : String} {b : Addr} {As rest : List Value} {g : JFrame}
theorem vx_runVX {hh : List (Nat × Nat × Nat × Nat)} (S : CallFix p m c cc nL s args Ts own) (hM : vx_Met l y ws rm Pc Qc XC mc ms free) (cw : vx_CVW R s args own C index y bytes maxL ret hh ws rm mc ms n) (hp : PreV s H C b Pc As)
    (hg : g.method = m) (hn : As.length = n) (hsize : g.locals.size = nL) (hstack : g.stack = As.reverse ++ .ref b :: rest) (hW : 2 * g.monitorRoom + (rest.map fun v => v.category).sum ≤ 8) (hdg : decode cc g.pc = .ok (.invokevirtual index, 3)) (hf : cells + mc ≤ R.cells ∧ slots + ms ≤ R.slots) :
    vx_Run p l e R s m args below meth c H locs cells slots mc ms g rest (Qc (Value.ref b :: As).toArray) XC free := by
  obtain ⟨⟨hrc, hrs, hfr, hlo, hws, hcw⟩, hcode, hini, hy, hlen, hl, hin, hse⟩ := cw
  have hK : vx_Back l R p e below s args y 3 8 (PreOf R mc ms Pc) (PostOf Qc mc ms free) (vx_Post XC mc ms free) := vx_backW (hh := hh) (bytes := bytes) (maxL := maxL) (ret := ret) hM hp.1 hrc hrs hfr hlo hws hcw (fun a' U hW => word_at hW (Or.inl (by first | rfl | simp [Cond.onTables, Cond.keeps, Cond.steady])) hini)
  obtain ⟨hx, hb, hml, ho, -⟩ := S
  obtain ⟨-, ⟨cellB, hcB, hoB, hclB⟩, hPc⟩ := hp
  intro T hT X
  rcases vx_callVX X hx (C := C) (hh := hh) (bytes := bytes) (maxL := maxL) (ret := ret) ho hl hin hse hcode hy hK (by rw [hT]; exact hcB) hoB hclB hg (hsize.trans hml.symm) (argsL := As) (rest := rest) (fun sig h => hn.trans (hlen sig h)) hstack hW (by rw [hb]; exact hdg)
    (fun vm₁ hW₁ => ⟨hf.1, hf.2, hPc (T.setVm vm₁) hT hW₁⟩) with ⟨v, vm₁, ⟨U', l2, c2, s2⟩, hW₁, X', ⟨g', mk, t, L, e1, e2, hq, h1, hL, h2, h3⟩, st⟩ | ⟨q, vm₁, ⟨U', l2, c2, s2⟩, hW₁, X', ⟨g', mk, t, L, E, ce, e1, e2, hq, hce, hcv, hcl, h1, hL, h2, h3⟩, st⟩
  · dsimp only [Pt.U, Pt.locs, Pt.cells, Pt.slots] at X' e1 e2 h1 h2 h3 st
    subst h1; subst h2; subst h3
    exact Or.inl ⟨v, (T.setVm vm₁).calling g' mk (Value.ref b :: As).toArray, t, U', L, hT, X', hL, e1, e2, hq, st⟩
  · dsimp only [Pt.U, Pt.locs, Pt.cells, Pt.slots] at X' e1 e2 h1 h2 h3 st hcl
    subst h1; subst h2; subst h3
    exact Or.inr ⟨q, (T.setVm vm₁).calling g' mk (Value.ref b :: As).toArray, t, U', L, E, ce, hT, X', hL, e1, e2, hq, hce, hcv, vx_cls hW₁ hcl, st⟩
theorem vx_runSX {hh : List (Nat × Nat × Nat × Nat)} (S : CallFix p m c cc nL s args Ts own) (hM : vx_Met l y ws rm Pc Qc XC mc ms free) (cw : vx_CSW R s args own index y bytes maxL ret hh ws rm mc ms n) (hp : PreS s H Pc As)
    (hg : g.method = m) (hn : As.length = n) (hsize : g.locals.size = nL) (hstack : g.stack = As.reverse ++ rest) (hW : 2 * g.monitorRoom + (rest.map fun v => v.category).sum ≤ 8) (hdg : decode cc g.pc = .ok (.invokestatic index, 3)) (hf : cells + mc ≤ R.cells ∧ slots + ms ≤ R.slots) :
    vx_Run p l e R s m args below meth c H locs cells slots mc ms g rest (Qc As.toArray) XC free := by
  obtain ⟨⟨hrc, hrs, hfr, hlo, hws, hcw⟩, hcode, hini, hy, hlen, hl, hstt⟩ := cw
  have hK : vx_Back l R p e below s args y 3 8 (PreOf R mc ms Pc) (PostOf Qc mc ms free) (vx_Post XC mc ms free) := vx_backW (hh := hh) (bytes := bytes) (maxL := maxL) (ret := ret) hM hp.1 hrc hrs hfr hlo hws hcw (fun a' U hW => word_at hW (Or.inl (by first | rfl | simp [Cond.onTables, Cond.keeps, Cond.steady])) hini)
  obtain ⟨hx, hb, hml, ho, -⟩ := S
  intro T hT X
  rcases vx_callSX X hx (hh := hh) (bytes := bytes) (maxL := maxL) (ret := ret) ho hl hstt hini hcode hy hK hg (hsize.trans hml.symm) (argsL := As) (rest := rest) (fun sig h => hn.trans (hlen sig h)) hstack hW (by rw [hb]; exact hdg)
    (fun vm₁ hW₁ => ⟨hf.1, hf.2, hp.2 (T.setVm vm₁) hT hW₁⟩) with ⟨v, vm₁, ⟨U', l2, c2, s2⟩, hW₁, X', ⟨g', mk, t, L, e1, e2, hq, h1, hL, h2, h3⟩, st⟩ | ⟨q, vm₁, ⟨U', l2, c2, s2⟩, hW₁, X', ⟨g', mk, t, L, E, ce, e1, e2, hq, hce, hcv, hcl, h1, hL, h2, h3⟩, st⟩
  · dsimp only [Pt.U, Pt.locs, Pt.cells, Pt.slots] at X' e1 e2 h1 h2 h3 st
    subst h1; subst h2; subst h3
    exact Or.inl ⟨v, (T.setVm vm₁).calling g' mk As.toArray, t, U', L, hT, X', hL, e1, e2, hq, st⟩
  · dsimp only [Pt.U, Pt.locs, Pt.cells, Pt.slots] at X' e1 e2 h1 h2 h3 st hcl
    subst h1; subst h2; subst h3
    exact Or.inr ⟨q, (T.setVm vm₁).calling g' mk As.toArray, t, U', L, E, ce, hT, X', hL, e1, e2, hq, hce, hcv, vx_cls hW₁ hcl, st⟩
end
end VXH
theorem vx_ofWH {l : Launch} {y : MethodName} {ws ws' : List Cond} {rm : Room} {Pc : Array Value → State → Prop} {Qc : Array Value → State → Outcome → State → Prop} {XC : String → State → State → Prop} {mc ms : Nat} {free : Addr → Prop} {cc : ByteArray} {maxL : Nat} {ret : Option FieldType} {hh : List (Nat × Nat × Nat × Nat)}
    (hy : plainName y.cls = true) (hw : ws = Cond.codeWith y cc maxL ret hh :: ws')
    (body : ∀ p e s m args below meth c s₁, BodyLoose p l y (headSpec ws rm) cc maxL ret e s m args below meth c s₁ → c.maxLocals = maxL → Pc args s →
      W p l e (headSpec ws rm).room s m args below meth c s.heap [] 0 0 (vx_MQ below Qc XC args s mc ms free) (entryFrame m args maxL)) : vx_Met l y ws rm Pc Qc XC mc ms free := by
  refine MetFree.of_bodyS (code := cc) (maxLocals := maxL) (ret := ret) hy ?_ ?_
  · intro args s m h hn
    obtain ⟨m9, meth, c, hn9, h1, h2, h3, h4, -, h5, h6, -⟩ := Cond.codeWith_spec (atoms_spec (ws := ws) h _ (by rw [hw]; exact List.mem_cons_self))
    cases hn.symm.trans hn9
    exact ⟨meth, c, h1, h2, h3, h4, h5, h6⟩
  · intro p e s m args below meth c s₁ B hml hP _
    have hh0 : s₁.heap = s.heap := by rw [B.state]; rfl
    obtain ⟨t, a1, o, b1, b2, b3⟩ := body p e s m args below meth c s₁ B hml hP s₁ hh0 (Stand.of_body B)
    exact ⟨t, o, a1, b1, b2, b3⟩
/-! ===== END ===== -/

/-! ===== BEGIN printed: names, fields, word lists, decode rows ===== -/
def RX0 : String := "NeighbourHash$1"
def TX0 : u_T := fun k => match k with
  | _ => ("", "", "", false)
def tyX0 : Nat → FieldType := fun k => match k with
  | _ => .int
abbrev wsX00 : List Cond := u_ws RX0 TX0 0
theorem nmX0 : ∀ a, a < 0 → ∀ b, b < 0 → a ≠ b → (TX0 a).2.1 ≠ (TX0 b).2.1 := by decide +kernel
theorem tyX0_ok : ∀ k, k < 0 → parseFieldDescriptor (TX0 k).2.2.1 = some (tyX0 k) := by decide +kernel
def RX1 : String := "NeighbourHash$Command"
def TX1 : u_T := fun k => match k with
  | _ => ("", "", "", false)
def tyX1 : Nat → FieldType := fun k => match k with
  | _ => .int
abbrev wsX10 : List Cond := u_ws RX1 TX1 0
theorem nmX1 : ∀ a, a < 0 → ∀ b, b < 0 → a ≠ b → (TX1 a).2.1 ≠ (TX1 b).2.1 := by decide +kernel
theorem tyX1_ok : ∀ k, k < 0 → parseFieldDescriptor (TX1 k).2.2.1 = some (tyX1 k) := by decide +kernel
def RX2 : String := "NeighbourHash$History"
def TX2 : u_T := fun k => match k with
  | 0 => ("NeighbourHash$History", "ring", "[LNeighbourHash$Table;", true)
  | 1 => ("NeighbourHash$History", "next", "I", false)
  | _ => ("NeighbourHash$History", "kept", "I", false)
def tyX2 : Nat → FieldType := fun k => match k with
  | 0 => .array (.object "NeighbourHash$Table")
  | 1 => .int
  | _ => .int
abbrev wsX20 : List Cond := u_ws RX2 TX2 3
theorem nmX2 : ∀ a, a < 3 → ∀ b, b < 3 → a ≠ b → (TX2 a).2.1 ≠ (TX2 b).2.1 := by decide +kernel
theorem tyX2_ok : ∀ k, k < 3 → parseFieldDescriptor (TX2 k).2.2.1 = some (tyX2 k) := by decide +kernel
abbrev cX2_init : ByteArray := prog_4_method_1_code
def yX2_init : MethodName := ⟨RX2, "<init>", "()V"⟩
abbrev cX2_mark : ByteArray := prog_4_method_2_code
def yX2_mark : MethodName := ⟨RX2, "mark", "(LNeighbourHash$Table;)V"⟩
abbrev cX2_keep : ByteArray := prog_4_method_3_code
def yX2_keep : MethodName := ⟨RX2, "keep", "()V"⟩
abbrev cX2_takeBack : ByteArray := prog_4_method_4_code
def yX2_takeBack : MethodName := ⟨RX2, "takeBack", "(LNeighbourHash$Table;)V"⟩
abbrev cX2_goBack : ByteArray := prog_4_method_5_code
def yX2_goBack : MethodName := ⟨RX2, "goBack", "(LNeighbourHash$Table;)V"⟩
abbrev cX2_nextPlace : ByteArray := prog_4_method_6_code
def yX2_nextPlace : MethodName := ⟨RX2, "nextPlace", "()LNeighbourHash$Table;"⟩
def RX3 : String := "NeighbourHash$Input"
def TX3 : u_T := fun k => match k with
  | 0 => ("NeighbourHash$Input", "bytes", "[I", true)
  | 1 => ("NeighbourHash$Input", "length", "I", false)
  | 2 => ("NeighbourHash$Input", "position", "I", false)
  | 3 => ("NeighbourHash$Input", "start", "I", false)
  | 4 => ("NeighbourHash$Input", "kind", "I", false)
  | _ => ("NeighbourHash$Input", "number", "I", false)
def tyX3 : Nat → FieldType := fun k => match k with
  | 0 => .array .int
  | 1 => .int
  | 2 => .int
  | 3 => .int
  | 4 => .int
  | _ => .int
abbrev wsX30 : List Cond := u_ws RX3 TX3 6
theorem nmX3 : ∀ a, a < 6 → ∀ b, b < 6 → a ≠ b → (TX3 a).2.1 ≠ (TX3 b).2.1 := by decide +kernel
theorem tyX3_ok : ∀ k, k < 6 → parseFieldDescriptor (TX3 k).2.2.1 = some (tyX3 k) := by decide +kernel
abbrev cX3_init : ByteArray := prog_5_method_1_code
def yX3_init : MethodName := ⟨RX3, "<init>", "()V"⟩
def RX4 : String := "NeighbourHash$Report"
def TX4 : u_T := fun k => match k with
  | 0 => ("NeighbourHash$Report", "bytes", "[I", true)
  | _ => ("NeighbourHash$Report", "length", "I", false)
def tyX4 : Nat → FieldType := fun k => match k with
  | 0 => .array .int
  | _ => .int
abbrev wsX40 : List Cond := u_ws RX4 TX4 2
theorem nmX4 : ∀ a, a < 2 → ∀ b, b < 2 → a ≠ b → (TX4 a).2.1 ≠ (TX4 b).2.1 := by decide +kernel
theorem tyX4_ok : ∀ k, k < 2 → parseFieldDescriptor (TX4 k).2.2.1 = some (tyX4 k) := by decide +kernel
abbrev cX4_init : ByteArray := prog_6_method_1_code
def yX4_init : MethodName := ⟨RX4, "<init>", "()V"⟩
def RX5 : String := "NeighbourHash$Script"
def TX5 : u_T := fun k => match k with
  | 0 => ("NeighbourHash$Script", "input", "LNeighbourHash$Input;", true)
  | 1 => ("NeighbourHash$Script", "table", "LNeighbourHash$Table;", true)
  | 2 => ("NeighbourHash$Script", "numbers", "[I", true)
  | 3 => ("NeighbourHash$Script", "bodies", "[I", true)
  | 4 => ("NeighbourHash$Script", "repetitions", "[I", true)
  | 5 => ("NeighbourHash$Script", "depth", "I", false)
  | 6 => ("NeighbourHash$Script", "executed", "I", false)
  | 7 => ("NeighbourHash$Script", "command", "LNeighbourHash$Command;", false)
  | 8 => ("NeighbourHash$Script", "opened", "Z", false)
  | 9 => ("NeighbourHash$Script", "ended", "Z", false)
  | 10 => ("NeighbourHash$Script", "errorKind", "I", false)
  | _ => ("NeighbourHash$Script", "errorOffset", "I", false)
def tyX5 : Nat → FieldType := fun k => match k with
  | 0 => .object "NeighbourHash$Input"
  | 1 => .object "NeighbourHash$Table"
  | 2 => .array .int
  | 3 => .array .int
  | 4 => .array .int
  | 5 => .int
  | 6 => .int
  | 7 => .object "NeighbourHash$Command"
  | 8 => .boolean
  | 9 => .boolean
  | 10 => .int
  | _ => .int
abbrev wsX50 : List Cond := u_ws RX5 TX5 12
theorem nmX5 : ∀ a, a < 12 → ∀ b, b < 12 → a ≠ b → (TX5 a).2.1 ≠ (TX5 b).2.1 := by decide +kernel
theorem tyX5_ok : ∀ k, k < 12 → parseFieldDescriptor (TX5 k).2.2.1 = some (tyX5 k) := by decide +kernel
abbrev cX5_init : ByteArray := prog_7_method_1_code
def yX5_init : MethodName := ⟨RX5, "<init>", "(LNeighbourHash$Input;)V"⟩
def RX6 : String := "NeighbourHash$Table"
def TX6 : u_T := fun k => match k with
  | 0 => ("NeighbourHash$Table", "keys", "[I", true)
  | 1 => ("NeighbourHash$Table", "values", "[I", true)
  | 2 => ("NeighbourHash$Table", "hops", "[I", true)
  | 3 => ("NeighbourHash$Table", "queuedKeys", "[I", true)
  | 4 => ("NeighbourHash$Table", "queuedValues", "[I", true)
  | 5 => ("NeighbourHash$Table", "queued", "I", false)
  | 6 => ("NeighbourHash$Table", "buckets", "I", false)
  | 7 => ("NeighbourHash$Table", "near", "I", false)
  | 8 => ("NeighbourHash$Table", "times", "I", false)
  | 9 => ("NeighbourHash$Table", "pulling", "Z", false)
  | 10 => ("NeighbourHash$Table", "entries", "I", false)
  | 11 => ("NeighbourHash$Table", "displaced", "I", false)
  | 12 => ("NeighbourHash$Table", "pulled", "I", false)
  | 13 => ("NeighbourHash$Table", "doubled", "I", false)
  | 14 => ("NeighbourHash$Table", "added", "I", false)
  | _ => ("NeighbourHash$Table", "removed", "I", false)
def tyX6 : Nat → FieldType := fun k => match k with
  | 0 => .array .int
  | 1 => .array .int
  | 2 => .array .int
  | 3 => .array .int
  | 4 => .array .int
  | 5 => .int
  | 6 => .int
  | 7 => .int
  | 8 => .int
  | 9 => .boolean
  | 10 => .int
  | 11 => .int
  | 12 => .int
  | 13 => .int
  | 14 => .int
  | _ => .int
abbrev wsX60 : List Cond := u_ws RX6 TX6 16
theorem nmX6 : ∀ a, a < 16 → ∀ b, b < 16 → a ≠ b → (TX6 a).2.1 ≠ (TX6 b).2.1 := by decide +kernel
theorem tyX6_ok : ∀ k, k < 16 → parseFieldDescriptor (TX6 k).2.2.1 = some (tyX6 k) := by decide +kernel
abbrev cX6_init : ByteArray := prog_8_method_1_code
def yX6_init : MethodName := ⟨RX6, "<init>", "()V"⟩
abbrev cX6_begin : ByteArray := prog_8_method_2_code
def yX6_begin : MethodName := ⟨RX6, "begin", "(III)V"⟩
abbrev cX6_copyFrom : ByteArray := prog_8_method_3_code
def yX6_copyFrom : MethodName := ⟨RX6, "copyFrom", "(LNeighbourHash$Table;)V"⟩
abbrev cX6_insert : ByteArray := prog_8_method_4_code
def yX6_insert : MethodName := ⟨RX6, "insert", "(II)I"⟩
abbrev cX6_store : ByteArray := prog_8_method_6_code
def yX6_store : MethodName := ⟨RX6, "store", "(II)Z"⟩
abbrev cX6_take : ByteArray := prog_8_method_7_code
def yX6_take : MethodName := ⟨RX6, "take", "(I)I"⟩
abbrev cX6_changeNear : ByteArray := prog_8_method_8_code
def yX6_changeNear : MethodName := ⟨RX6, "changeNear", "(I)Z"⟩
abbrev cX6_changeTimes : ByteArray := prog_8_method_9_code
def yX6_changeTimes : MethodName := ⟨RX6, "changeTimes", "(I)Z"⟩
abbrev cX6_buildAnew : ByteArray := prog_8_method_10_code
def yX6_buildAnew : MethodName := ⟨RX6, "buildAnew", "(I)Z"⟩
abbrev cX6_dropAll : ByteArray := prog_8_method_11_code
def yX6_dropAll : MethodName := ⟨RX6, "dropAll", "()I"⟩
abbrev cX6_empty : ByteArray := prog_8_method_12_code
def yX6_empty : MethodName := ⟨RX6, "empty", "(I)V"⟩
abbrev cX6_queueAll : ByteArray := prog_8_method_13_code
def yX6_queueAll : MethodName := ⟨RX6, "queueAll", "()V"⟩
abbrev cX6_build : ByteArray := prog_8_method_14_code
def yX6_build : MethodName := ⟨RX6, "build", "(I)Z"⟩
abbrev cX6_place : ByteArray := prog_8_method_15_code
def yX6_place : MethodName := ⟨RX6, "place", "(II)I"⟩
abbrev cX6_displaceInto : ByteArray := prog_8_method_16_code
def yX6_displaceInto : MethodName := ⟨RX6, "displaceInto", "(I)I"⟩
abbrev cX6_pullFrom : ByteArray := prog_8_method_17_code
def yX6_pullFrom : MethodName := ⟨RX6, "pullFrom", "(I)V"⟩
abbrev cX6_pullInto : ByteArray := prog_8_method_18_code
def yX6_pullInto : MethodName := ⟨RX6, "pullInto", "(I)I"⟩
abbrev cX6_shift : ByteArray := prog_8_method_19_code
def yX6_shift : MethodName := ⟨RX6, "shift", "(III)V"⟩
abbrev cX6_hasBucket : ByteArray := prog_8_method_20_code
def yX6_hasBucket : MethodName := ⟨RX6, "hasBucket", "(I)Z"⟩
abbrev cX6_keyIn : ByteArray := prog_8_method_21_code
def yX6_keyIn : MethodName := ⟨RX6, "keyIn", "(I)I"⟩
abbrev cX6_valueIn : ByteArray := prog_8_method_22_code
def yX6_valueIn : MethodName := ⟨RX6, "valueIn", "(I)I"⟩
abbrev cX6_hopsIn : ByteArray := prog_8_method_23_code
def yX6_hopsIn : MethodName := ⟨RX6, "hopsIn", "(I)I"⟩
abbrev cX6_stepsToFree : ByteArray := prog_8_method_24_code
def yX6_stepsToFree : MethodName := ⟨RX6, "stepsToFree", "(I)I"⟩
abbrev cX6_homeFor : ByteArray := prog_8_method_27_code
def yX6_homeFor : MethodName := ⟨RX6, "homeFor", "(I)I"⟩
abbrev cX6_bucketWith : ByteArray := prog_8_method_28_code
def yX6_bucketWith : MethodName := ⟨RX6, "bucketWith", "(I)I"⟩
abbrev cX6_stepsFromHome : ByteArray := prog_8_method_29_code
def yX6_stepsFromHome : MethodName := ⟨RX6, "stepsFromHome", "(I)I"⟩
abbrev cX6_mostSteps : ByteArray := prog_8_method_31_code
def yX6_mostSteps : MethodName := ⟨RX6, "mostSteps", "()I"⟩
abbrev cX6_sumOfSteps : ByteArray := prog_8_method_32_code
def yX6_sumOfSteps : MethodName := ⟨RX6, "sumOfSteps", "()I"⟩
abbrev cX6_strayEntries : ByteArray := prog_8_method_34_code
def yX6_strayEntries : MethodName := ⟨RX6, "strayEntries", "()I"⟩
abbrev cX6_wrongHops : ByteArray := prog_8_method_35_code
def yX6_wrongHops : MethodName := ⟨RX6, "wrongHops", "()I"⟩
abbrev cX6_twins : ByteArray := prog_8_method_36_code
def yX6_twins : MethodName := ⟨RX6, "twins", "()I"⟩
def RX7 : String := "NeighbourHash"
def TX7 : u_T := fun k => match k with
  | 0 => ("NeighbourHash", "input", "LNeighbourHash$Input;", true)
  | 1 => ("NeighbourHash", "script", "LNeighbourHash$Script;", true)
  | 2 => ("NeighbourHash", "now", "LNeighbourHash$Table;", true)
  | 3 => ("NeighbourHash", "trial", "LNeighbourHash$Table;", true)
  | 4 => ("NeighbourHash", "snapshot", "LNeighbourHash$Table;", true)
  | 5 => ("NeighbourHash", "snapshotSaved", "Z", false)
  | 6 => ("NeighbourHash", "history", "LNeighbourHash$History;", true)
  | _ => ("NeighbourHash", "report", "LNeighbourHash$Report;", true)
def tyX7 : Nat → FieldType := fun k => match k with
  | 0 => .object "NeighbourHash$Input"
  | 1 => .object "NeighbourHash$Script"
  | 2 => .object "NeighbourHash$Table"
  | 3 => .object "NeighbourHash$Table"
  | 4 => .object "NeighbourHash$Table"
  | 5 => .boolean
  | 6 => .object "NeighbourHash$History"
  | _ => .object "NeighbourHash$Report"
abbrev wsX70 : List Cond := u_ws RX7 TX7 8
theorem nmX7 : ∀ a, a < 8 → ∀ b, b < 8 → a ≠ b → (TX7 a).2.1 ≠ (TX7 b).2.1 := by decide +kernel
theorem tyX7_ok : ∀ k, k < 8 → parseFieldDescriptor (TX7 k).2.2.1 = some (tyX7 k) := by decide +kernel
abbrev cX7_init : ByteArray := prog_1_method_1_code
def yX7_init : MethodName := ⟨RX7, "<init>", "()V"⟩
abbrev cX7_add : ByteArray := prog_1_method_5_code
def yX7_add : MethodName := ⟨RX7, "add", "(II)I"⟩
abbrev cX7_put : ByteArray := prog_1_method_6_code
def yX7_put : MethodName := ⟨RX7, "put", "(II)I"⟩
abbrev cX7_remove : ByteArray := prog_1_method_8_code
def yX7_remove : MethodName := ⟨RX7, "remove", "(I)I"⟩
abbrev cX7_setNeighbourhood : ByteArray := prog_1_method_9_code
def yX7_setNeighbourhood : MethodName := ⟨RX7, "setNeighbourhood", "(I)I"⟩
abbrev cX7_setMultiplier : ByteArray := prog_1_method_10_code
def yX7_setMultiplier : MethodName := ⟨RX7, "setMultiplier", "(I)I"⟩
abbrev cX7_setPulling : ByteArray := prog_1_method_11_code
def yX7_setPulling : MethodName := ⟨RX7, "setPulling", "(Z)Z"⟩
abbrev cX7_grow : ByteArray := prog_1_method_12_code
def yX7_grow : MethodName := ⟨RX7, "grow", "()I"⟩
abbrev cX7_clear : ByteArray := prog_1_method_13_code
def yX7_clear : MethodName := ⟨RX7, "clear", "()I"⟩
abbrev cX7_undo : ByteArray := prog_1_method_14_code
def yX7_undo : MethodName := ⟨RX7, "undo", "()I"⟩
abbrev cX7_undoCount : ByteArray := prog_1_method_15_code
def yX7_undoCount : MethodName := ⟨RX7, "undoCount", "()I"⟩
abbrev cX7_bucketCount : ByteArray := prog_1_method_20_code
def yX7_bucketCount : MethodName := ⟨RX7, "bucketCount", "()I"⟩
abbrev cX7_entryCount : ByteArray := prog_1_method_21_code
def yX7_entryCount : MethodName := ⟨RX7, "entryCount", "()I"⟩
abbrev cX7_neighbourhood : ByteArray := prog_1_method_22_code
def yX7_neighbourhood : MethodName := ⟨RX7, "neighbourhood", "()I"⟩
abbrev cX7_multiplier : ByteArray := prog_1_method_23_code
def yX7_multiplier : MethodName := ⟨RX7, "multiplier", "()I"⟩
abbrev cX7_isPulling : ByteArray := prog_1_method_24_code
def yX7_isPulling : MethodName := ⟨RX7, "isPulling", "()Z"⟩
abbrev cX7_keyAt : ByteArray := prog_1_method_25_code
def yX7_keyAt : MethodName := ⟨RX7, "keyAt", "(I)I"⟩
abbrev cX7_valueAt : ByteArray := prog_1_method_26_code
def yX7_valueAt : MethodName := ⟨RX7, "valueAt", "(I)I"⟩
abbrev cX7_hopBits : ByteArray := prog_1_method_27_code
def yX7_hopBits : MethodName := ⟨RX7, "hopBits", "(I)I"⟩
abbrev cX7_entriesOf : ByteArray := prog_1_method_28_code
def yX7_entriesOf : MethodName := ⟨RX7, "entriesOf", "(I)I"⟩
abbrev cX7_homeOf : ByteArray := prog_1_method_32_code
def yX7_homeOf : MethodName := ⟨RX7, "homeOf", "(I)I"⟩
abbrev cX7_bucketOf : ByteArray := prog_1_method_33_code
def yX7_bucketOf : MethodName := ⟨RX7, "bucketOf", "(I)I"⟩
abbrev cX7_valueOf : ByteArray := prog_1_method_34_code
def yX7_valueOf : MethodName := ⟨RX7, "valueOf", "(I)I"⟩
abbrev cX7_distanceOf : ByteArray := prog_1_method_35_code
def yX7_distanceOf : MethodName := ⟨RX7, "distanceOf", "(I)I"⟩
abbrev cX7_longestDistance : ByteArray := prog_1_method_37_code
def yX7_longestDistance : MethodName := ⟨RX7, "longestDistance", "()I"⟩
abbrev cX7_sumOfDistances : ByteArray := prog_1_method_38_code
def yX7_sumOfDistances : MethodName := ⟨RX7, "sumOfDistances", "()I"⟩
abbrev cX7_whyNoAdd : ByteArray := prog_1_method_40_code
def yX7_whyNoAdd : MethodName := ⟨RX7, "whyNoAdd", "(I)I"⟩
abbrev cX7_bucketsWith : ByteArray := prog_1_method_45_code
def yX7_bucketsWith : MethodName := ⟨RX7, "bucketsWith", "(I)I"⟩
abbrev cX7_bestMultiplier : ByteArray := prog_1_method_46_code
def yX7_bestMultiplier : MethodName := ⟨RX7, "bestMultiplier", "(I)I"⟩
abbrev cX7_moves : ByteArray := prog_1_method_47_code
def yX7_moves : MethodName := ⟨RX7, "moves", "()I"⟩
abbrev cX7_pulls : ByteArray := prog_1_method_48_code
def yX7_pulls : MethodName := ⟨RX7, "pulls", "()I"⟩
abbrev cX7_growths : ByteArray := prog_1_method_49_code
def yX7_growths : MethodName := ⟨RX7, "growths", "()I"⟩
abbrev cX7_addedCount : ByteArray := prog_1_method_50_code
def yX7_addedCount : MethodName := ⟨RX7, "addedCount", "()I"⟩
abbrev cX7_removedCount : ByteArray := prog_1_method_51_code
def yX7_removedCount : MethodName := ⟨RX7, "removedCount", "()I"⟩
abbrev cX7_violations : ByteArray := prog_1_method_54_code
def yX7_violations : MethodName := ⟨RX7, "violations", "()I"⟩
abbrev cX7_needKey : ByteArray := prog_1_method_57_code
def yX7_needKey : MethodName := ⟨RX7, "needKey", "(I)V"⟩
abbrev cX7_needValue : ByteArray := prog_1_method_58_code
def yX7_needValue : MethodName := ⟨RX7, "needValue", "(I)V"⟩
abbrev cX7_needBucket : ByteArray := prog_1_method_59_code
def yX7_needBucket : MethodName := ⟨RX7, "needBucket", "(I)V"⟩
abbrev cX7_isKey : ByteArray := prog_1_method_60_code
def yX7_isKey : MethodName := ⟨RX7, "isKey", "(I)Z"⟩
abbrev cX7_isValue : ByteArray := prog_1_method_61_code
def yX7_isValue : MethodName := ⟨RX7, "isValue", "(I)Z"⟩
abbrev cX7_isNear : ByteArray := prog_1_method_64_code
def yX7_isNear : MethodName := ⟨RX7, "isNear", "(I)Z"⟩
abbrev cX7_isTimes : ByteArray := prog_1_method_65_code
def yX7_isTimes : MethodName := ⟨RX7, "isTimes", "(I)Z"⟩
abbrev cX7_tryToInsert : ByteArray := prog_1_method_67_code
def yX7_tryToInsert : MethodName := ⟨RX7, "tryToInsert", "(I)I"⟩
def RX8 : String := "NeighbourHashModel"
def TX8 : u_T := fun k => match k with
  | _ => ("", "", "", false)
def tyX8 : Nat → FieldType := fun k => match k with
  | _ => .int
abbrev wsX80 : List Cond := u_ws RX8 TX8 0
theorem nmX8 : ∀ a, a < 0 → ∀ b, b < 0 → a ≠ b → (TX8 a).2.1 ≠ (TX8 b).2.1 := by decide +kernel
theorem tyX8_ok : ∀ k, k < 0 → parseFieldDescriptor (TX8 k).2.2.1 = some (tyX8 k) := by decide +kernel
def RJx145de : String := "java/io/Serializable"
def TJx145de : u_T := fun k => match k with
  | _ => ("", "", "", false)
def tyJx145de : Nat → FieldType := fun k => match k with
  | _ => .int
theorem nmJx145de : ∀ a, a < 0 → ∀ b, b < 0 → a ≠ b → (TJx145de a).2.1 ≠ (TJx145de b).2.1 := by decide +kernel
theorem tyJx145de_ok : ∀ k, k < 0 → parseFieldDescriptor (TJx145de k).2.2.1 = some (tyJx145de k) := by decide +kernel
def RJ6 : String := "java/lang/Integer"
def TJ6 : u_T := fun k => match k with
  | _ => ("", "", "", false)
def tyJ6 : Nat → FieldType := fun k => match k with
  | _ => .int
theorem nmJ6 : ∀ a, a < 0 → ∀ b, b < 0 → a ≠ b → (TJ6 a).2.1 ≠ (TJ6 b).2.1 := by decide +kernel
theorem tyJ6_ok : ∀ k, k < 0 → parseFieldDescriptor (TJ6 k).2.2.1 = some (tyJ6 k) := by decide +kernel
abbrev cJ6_bitCount_0f7a4 : ByteArray := prog_16_method_49_code
def yJ6_bitCount_0f7a4 : MethodName := ⟨RJ6, "bitCount", "(I)I"⟩
def RJ9 : String := "java/lang/Math"
def TJ9 : u_T := fun k => match k with
  | _ => ("", "", "", false)
def tyJ9 : Nat → FieldType := fun k => match k with
  | _ => .int
theorem nmJ9 : ∀ a, a < 0 → ∀ b, b < 0 → a ≠ b → (TJ9 a).2.1 ≠ (TJ9 b).2.1 := by decide +kernel
theorem tyJ9_ok : ∀ k, k < 0 → parseFieldDescriptor (TJ9 k).2.2.1 = some (tyJ9 k) := by decide +kernel
abbrev cJ9_abs_0f7a4 : ByteArray := prog_17_method_59_code
def yJ9_abs_0f7a4 : MethodName := ⟨RJ9, "abs", "(I)I"⟩
abbrev cJ9_max_7cf53 : ByteArray := prog_17_method_65_code
def yJ9_max_7cf53 : MethodName := ⟨RJ9, "max", "(II)I"⟩
abbrev cJ9_min_7cf53 : ByteArray := prog_17_method_69_code
def yJ9_min_7cf53 : MethodName := ⟨RJ9, "min", "(II)I"⟩
def RJ0 : String := "java/lang/String"
def TJ0 : u_T := fun k => match k with
  | _ => ("", "", "", false)
def tyJ0 : Nat → FieldType := fun k => match k with
  | _ => .int
theorem nmJ0 : ∀ a, a < 0 → ∀ b, b < 0 → a ≠ b → (TJ0 a).2.1 ≠ (TJ0 b).2.1 := by decide +kernel
theorem tyJ0_ok : ∀ k, k < 0 → parseFieldDescriptor (TJ0 k).2.2.1 = some (tyJ0 k) := by decide +kernel
def RJ10 : String := "java/lang/System"
def TJ10 : u_T := fun k => match k with
  | _ => ("", "", "", false)
def tyJ10 : Nat → FieldType := fun k => match k with
  | _ => .int
theorem nmJ10 : ∀ a, a < 0 → ∀ b, b < 0 → a ≠ b → (TJ10 a).2.1 ≠ (TJ10 b).2.1 := by decide +kernel
theorem tyJ10_ok : ∀ k, k < 0 → parseFieldDescriptor (TJ10 k).2.2.1 = some (tyJ10 k) := by decide +kernel
def RL : String := "NeighbourHashLaw"
abbrev cL_cell : ByteArray := method_2_code
def yL_cell : MethodName := ⟨RL, "cell", "([II)I"⟩
abbrev cL_entry : ByteArray := method_3_code
def yL_entry : MethodName := ⟨RL, "entry", "(LNeighbourHash;I)I"⟩
abbrev cL_deed : ByteArray := method_4_code
def yL_deed : MethodName := ⟨RL, "deed", "(LNeighbourHash;I)V"⟩
abbrev cL_holds : ByteArray := method_5_code
def yL_holds : MethodName := ⟨RL, "holds", "(LNeighbourHash;)Z"⟩
abbrev cL_content : ByteArray := method_6_code
def yL_content : MethodName := ⟨RL, "content", "(LNeighbourHash;)J"⟩
abbrev cL_sum : ByteArray := method_7_code
def yL_sum : MethodName := ⟨RL, "sum", "(LNeighbourHash;)J"⟩
abbrev cL_isBuilt : ByteArray := method_8_code
def yL_isBuilt : MethodName := ⟨RL, "isBuilt", "(LNeighbourHash;II)Z"⟩
abbrev cL_law : ByteArray := code
def yL_law : MethodName := ⟨RL, "law", "([I)Z"⟩
abbrev vwCl : List vw_C := [(RX2, TX2, 3), (RX3, TX3, 6), (RX4, TX4, 2), (RX5, TX5, 12), (RX6, TX6, 16), (RX7, TX7, 8)]
end
section
theorem dX2_init_0 : decode cX2_init 0 = .ok (.aload_n 0, 1) := by decide +kernel
theorem dX2_init_1 : decode cX2_init 1 = .ok (.invokespecial 3, 3) := by decide +kernel
theorem dX2_init_4 : decode cX2_init 4 = .ok (.aload_n 0, 1) := by decide +kernel
theorem dX2_init_5 : decode cX2_init 5 = .ok (.bipush 9, 2) := by decide +kernel
theorem dX2_init_7 : decode cX2_init 7 = .ok (.anewarray 9, 3) := by decide +kernel
theorem dX2_init_10 : decode cX2_init 10 = .ok (.putfield 11, 3) := by decide +kernel
theorem dX2_init_13 : decode cX2_init 13 = .ok (.iconst 0, 1) := by decide +kernel
theorem dX2_init_14 : decode cX2_init 14 = .ok (.istore_n 1, 1) := by decide +kernel
theorem dX2_init_15 : decode cX2_init 15 = .ok (.iload_n 1, 1) := by decide +kernel
theorem dX2_init_16 : decode cX2_init 16 = .ok (.bipush 9, 2) := by decide +kernel
theorem dX2_init_18 : decode cX2_init 18 = .ok (.if_icmp .ge 22, 3) := by decide +kernel
theorem dX2_init_21 : decode cX2_init 21 = .ok (.aload_n 0, 1) := by decide +kernel
theorem dX2_init_22 : decode cX2_init 22 = .ok (.getfield 11, 3) := by decide +kernel
theorem dX2_init_25 : decode cX2_init 25 = .ok (.iload_n 1, 1) := by decide +kernel
theorem dX2_init_26 : decode cX2_init 26 = .ok (.new 9, 3) := by decide +kernel
theorem dX2_init_29 : decode cX2_init 29 = .ok (.dup, 1) := by decide +kernel
theorem dX2_init_30 : decode cX2_init 30 = .ok (.invokespecial 15, 3) := by decide +kernel
theorem dX2_init_33 : decode cX2_init 33 = .ok (.aastore, 1) := by decide +kernel
theorem dX2_init_34 : decode cX2_init 34 = .ok (.iinc 1 1, 3) := by decide +kernel
theorem dX2_init_37 : decode cX2_init 37 = .ok (.goto (-22), 3) := by decide +kernel
theorem dX2_init_40 : decode cX2_init 40 = .ok (.return_, 1) := by decide +kernel
theorem dX2_mark_0 : decode cX2_mark 0 = .ok (.aload_n 0, 1) := by decide +kernel
theorem dX2_mark_1 : decode cX2_mark 1 = .ok (.invokevirtual 16, 3) := by decide +kernel
theorem dX2_mark_4 : decode cX2_mark 4 = .ok (.astore_n 2, 1) := by decide +kernel
theorem dX2_mark_5 : decode cX2_mark 5 = .ok (.aload_n 2, 1) := by decide +kernel
theorem dX2_mark_6 : decode cX2_mark 6 = .ok (.ifnull 8, 3) := by decide +kernel
theorem dX2_mark_9 : decode cX2_mark 9 = .ok (.aload_n 2, 1) := by decide +kernel
theorem dX2_mark_10 : decode cX2_mark 10 = .ok (.aload_n 1, 1) := by decide +kernel
theorem dX2_mark_11 : decode cX2_mark 11 = .ok (.invokevirtual 20, 3) := by decide +kernel
theorem dX2_mark_14 : decode cX2_mark 14 = .ok (.return_, 1) := by decide +kernel
theorem dX2_keep_0 : decode cX2_keep 0 = .ok (.aload_n 0, 1) := by decide +kernel
theorem dX2_keep_1 : decode cX2_keep 1 = .ok (.aload_n 0, 1) := by decide +kernel
theorem dX2_keep_2 : decode cX2_keep 2 = .ok (.getfield 24, 3) := by decide +kernel
theorem dX2_keep_5 : decode cX2_keep 5 = .ok (.iconst 1, 1) := by decide +kernel
theorem dX2_keep_6 : decode cX2_keep 6 = .ok (.iadd, 1) := by decide +kernel
theorem dX2_keep_7 : decode cX2_keep 7 = .ok (.bipush 9, 2) := by decide +kernel
theorem dX2_keep_9 : decode cX2_keep 9 = .ok (.if_icmp .ge 12, 3) := by decide +kernel
theorem dX2_keep_12 : decode cX2_keep 12 = .ok (.aload_n 0, 1) := by decide +kernel
theorem dX2_keep_13 : decode cX2_keep 13 = .ok (.getfield 24, 3) := by decide +kernel
theorem dX2_keep_16 : decode cX2_keep 16 = .ok (.iconst 1, 1) := by decide +kernel
theorem dX2_keep_17 : decode cX2_keep 17 = .ok (.iadd, 1) := by decide +kernel
theorem dX2_keep_18 : decode cX2_keep 18 = .ok (.goto 4, 3) := by decide +kernel
theorem dX2_keep_21 : decode cX2_keep 21 = .ok (.iconst 0, 1) := by decide +kernel
theorem dX2_keep_22 : decode cX2_keep 22 = .ok (.putfield 24, 3) := by decide +kernel
theorem dX2_keep_25 : decode cX2_keep 25 = .ok (.aload_n 0, 1) := by decide +kernel
theorem dX2_keep_26 : decode cX2_keep 26 = .ok (.aload_n 0, 1) := by decide +kernel
theorem dX2_keep_27 : decode cX2_keep 27 = .ok (.getfield 28, 3) := by decide +kernel
theorem dX2_keep_30 : decode cX2_keep 30 = .ok (.iconst 1, 1) := by decide +kernel
theorem dX2_keep_31 : decode cX2_keep 31 = .ok (.iadd, 1) := by decide +kernel
theorem dX2_keep_32 : decode cX2_keep 32 = .ok (.bipush 8, 2) := by decide +kernel
theorem dX2_keep_34 : decode cX2_keep 34 = .ok (.invokestatic 31, 3) := by decide +kernel
theorem dX2_keep_37 : decode cX2_keep 37 = .ok (.putfield 28, 3) := by decide +kernel
theorem dX2_keep_40 : decode cX2_keep 40 = .ok (.return_, 1) := by decide +kernel
theorem dX2_takeBack_0 : decode cX2_takeBack 0 = .ok (.aload_n 0, 1) := by decide +kernel
theorem dX2_takeBack_1 : decode cX2_takeBack 1 = .ok (.invokevirtual 16, 3) := by decide +kernel
theorem dX2_takeBack_4 : decode cX2_takeBack 4 = .ok (.astore_n 2, 1) := by decide +kernel
theorem dX2_takeBack_5 : decode cX2_takeBack 5 = .ok (.aload_n 2, 1) := by decide +kernel
theorem dX2_takeBack_6 : decode cX2_takeBack 6 = .ok (.ifnull 8, 3) := by decide +kernel
theorem dX2_takeBack_9 : decode cX2_takeBack 9 = .ok (.aload_n 1, 1) := by decide +kernel
theorem dX2_takeBack_10 : decode cX2_takeBack 10 = .ok (.aload_n 2, 1) := by decide +kernel
theorem dX2_takeBack_11 : decode cX2_takeBack 11 = .ok (.invokevirtual 20, 3) := by decide +kernel
theorem dX2_takeBack_14 : decode cX2_takeBack 14 = .ok (.return_, 1) := by decide +kernel
theorem dX2_goBack_0 : decode cX2_goBack 0 = .ok (.aload_n 0, 1) := by decide +kernel
theorem dX2_goBack_1 : decode cX2_goBack 1 = .ok (.aload_n 0, 1) := by decide +kernel
theorem dX2_goBack_2 : decode cX2_goBack 2 = .ok (.getfield 24, 3) := by decide +kernel
theorem dX2_goBack_5 : decode cX2_goBack 5 = .ok (.ifCond .le 12, 3) := by decide +kernel
theorem dX2_goBack_8 : decode cX2_goBack 8 = .ok (.aload_n 0, 1) := by decide +kernel
theorem dX2_goBack_9 : decode cX2_goBack 9 = .ok (.getfield 24, 3) := by decide +kernel
theorem dX2_goBack_12 : decode cX2_goBack 12 = .ok (.iconst 1, 1) := by decide +kernel
theorem dX2_goBack_13 : decode cX2_goBack 13 = .ok (.isub, 1) := by decide +kernel
theorem dX2_goBack_14 : decode cX2_goBack 14 = .ok (.goto 5, 3) := by decide +kernel
theorem dX2_goBack_17 : decode cX2_goBack 17 = .ok (.bipush 8, 2) := by decide +kernel
theorem dX2_goBack_19 : decode cX2_goBack 19 = .ok (.putfield 24, 3) := by decide +kernel
theorem dX2_goBack_22 : decode cX2_goBack 22 = .ok (.aload_n 0, 1) := by decide +kernel
theorem dX2_goBack_23 : decode cX2_goBack 23 = .ok (.dup, 1) := by decide +kernel
theorem dX2_goBack_24 : decode cX2_goBack 24 = .ok (.getfield 28, 3) := by decide +kernel
theorem dX2_goBack_27 : decode cX2_goBack 27 = .ok (.iconst 1, 1) := by decide +kernel
theorem dX2_goBack_28 : decode cX2_goBack 28 = .ok (.isub, 1) := by decide +kernel
theorem dX2_goBack_29 : decode cX2_goBack 29 = .ok (.putfield 28, 3) := by decide +kernel
theorem dX2_goBack_32 : decode cX2_goBack 32 = .ok (.aload_n 0, 1) := by decide +kernel
theorem dX2_goBack_33 : decode cX2_goBack 33 = .ok (.aload_n 1, 1) := by decide +kernel
theorem dX2_goBack_34 : decode cX2_goBack 34 = .ok (.invokevirtual 37, 3) := by decide +kernel
theorem dX2_goBack_37 : decode cX2_goBack 37 = .ok (.return_, 1) := by decide +kernel
theorem dX2_nextPlace_0 : decode cX2_nextPlace 0 = .ok (.aload_n 0, 1) := by decide +kernel
theorem dX2_nextPlace_1 : decode cX2_nextPlace 1 = .ok (.getfield 24, 3) := by decide +kernel
theorem dX2_nextPlace_4 : decode cX2_nextPlace 4 = .ok (.ifCond .lt 27, 3) := by decide +kernel
theorem dX2_nextPlace_7 : decode cX2_nextPlace 7 = .ok (.aload_n 0, 1) := by decide +kernel
theorem dX2_nextPlace_8 : decode cX2_nextPlace 8 = .ok (.getfield 24, 3) := by decide +kernel
theorem dX2_nextPlace_11 : decode cX2_nextPlace 11 = .ok (.aload_n 0, 1) := by decide +kernel
theorem dX2_nextPlace_12 : decode cX2_nextPlace 12 = .ok (.getfield 11, 3) := by decide +kernel
theorem dX2_nextPlace_15 : decode cX2_nextPlace 15 = .ok (.arraylength, 1) := by decide +kernel
theorem dX2_nextPlace_16 : decode cX2_nextPlace 16 = .ok (.if_icmp .ge 15, 3) := by decide +kernel
theorem dX2_nextPlace_19 : decode cX2_nextPlace 19 = .ok (.aload_n 0, 1) := by decide +kernel
theorem dX2_nextPlace_20 : decode cX2_nextPlace 20 = .ok (.getfield 11, 3) := by decide +kernel
theorem dX2_nextPlace_23 : decode cX2_nextPlace 23 = .ok (.aload_n 0, 1) := by decide +kernel
theorem dX2_nextPlace_24 : decode cX2_nextPlace 24 = .ok (.getfield 24, 3) := by decide +kernel
theorem dX2_nextPlace_27 : decode cX2_nextPlace 27 = .ok (.aaload, 1) := by decide +kernel
theorem dX2_nextPlace_28 : decode cX2_nextPlace 28 = .ok (.goto 4, 3) := by decide +kernel
theorem dX2_nextPlace_31 : decode cX2_nextPlace 31 = .ok (.aconst_null, 1) := by decide +kernel
theorem dX2_nextPlace_32 : decode cX2_nextPlace 32 = .ok (.areturn, 1) := by decide +kernel
theorem dX3_init_0 : decode cX3_init 0 = .ok (.aload_n 0, 1) := by decide +kernel
theorem dX3_init_1 : decode cX3_init 1 = .ok (.invokespecial 3, 3) := by decide +kernel
theorem dX3_init_4 : decode cX3_init 4 = .ok (.aload_n 0, 1) := by decide +kernel
theorem dX3_init_5 : decode cX3_init 5 = .ok (.sipush 600, 3) := by decide +kernel
theorem dX3_init_8 : decode cX3_init 8 = .ok (.newarray .int, 2) := by decide +kernel
theorem dX3_init_10 : decode cX3_init 10 = .ok (.putfield 11, 3) := by decide +kernel
theorem dX3_init_13 : decode cX3_init 13 = .ok (.return_, 1) := by decide +kernel
theorem dX4_init_0 : decode cX4_init 0 = .ok (.aload_n 0, 1) := by decide +kernel
theorem dX4_init_1 : decode cX4_init 1 = .ok (.invokespecial 3, 3) := by decide +kernel
theorem dX4_init_4 : decode cX4_init 4 = .ok (.aload_n 0, 1) := by decide +kernel
theorem dX4_init_5 : decode cX4_init 5 = .ok (.sipush 448, 3) := by decide +kernel
theorem dX4_init_8 : decode cX4_init 8 = .ok (.newarray .int, 2) := by decide +kernel
theorem dX4_init_10 : decode cX4_init 10 = .ok (.putfield 9, 3) := by decide +kernel
theorem dX4_init_13 : decode cX4_init 13 = .ok (.return_, 1) := by decide +kernel
theorem dX5_init_0 : decode cX5_init 0 = .ok (.aload_n 0, 1) := by decide +kernel
theorem dX5_init_1 : decode cX5_init 1 = .ok (.invokespecial 3, 3) := by decide +kernel
theorem dX5_init_4 : decode cX5_init 4 = .ok (.aload_n 0, 1) := by decide +kernel
theorem dX5_init_5 : decode cX5_init 5 = .ok (.new 9, 3) := by decide +kernel
theorem dX5_init_8 : decode cX5_init 8 = .ok (.dup, 1) := by decide +kernel
theorem dX5_init_9 : decode cX5_init 9 = .ok (.invokespecial 11, 3) := by decide +kernel
theorem dX5_init_12 : decode cX5_init 12 = .ok (.putfield 12, 3) := by decide +kernel
theorem dX5_init_15 : decode cX5_init 15 = .ok (.aload_n 0, 1) := by decide +kernel
theorem dX5_init_16 : decode cX5_init 16 = .ok (.iconst 3, 1) := by decide +kernel
theorem dX5_init_17 : decode cX5_init 17 = .ok (.newarray .int, 2) := by decide +kernel
theorem dX5_init_19 : decode cX5_init 19 = .ok (.putfield 18, 3) := by decide +kernel
theorem dX5_init_22 : decode cX5_init 22 = .ok (.aload_n 0, 1) := by decide +kernel
theorem dX5_init_23 : decode cX5_init 23 = .ok (.iconst 2, 1) := by decide +kernel
theorem dX5_init_24 : decode cX5_init 24 = .ok (.newarray .int, 2) := by decide +kernel
theorem dX5_init_26 : decode cX5_init 26 = .ok (.putfield 22, 3) := by decide +kernel
theorem dX5_init_29 : decode cX5_init 29 = .ok (.aload_n 0, 1) := by decide +kernel
theorem dX5_init_30 : decode cX5_init 30 = .ok (.iconst 2, 1) := by decide +kernel
theorem dX5_init_31 : decode cX5_init 31 = .ok (.newarray .int, 2) := by decide +kernel
theorem dX5_init_33 : decode cX5_init 33 = .ok (.putfield 25, 3) := by decide +kernel
theorem dX5_init_36 : decode cX5_init 36 = .ok (.aload_n 0, 1) := by decide +kernel
theorem dX5_init_37 : decode cX5_init 37 = .ok (.iconst (-1), 1) := by decide +kernel
theorem dX5_init_38 : decode cX5_init 38 = .ok (.putfield 28, 3) := by decide +kernel
theorem dX5_init_41 : decode cX5_init 41 = .ok (.aload_n 0, 1) := by decide +kernel
theorem dX5_init_42 : decode cX5_init 42 = .ok (.aload_n 1, 1) := by decide +kernel
theorem dX5_init_43 : decode cX5_init 43 = .ok (.putfield 32, 3) := by decide +kernel
theorem dX5_init_46 : decode cX5_init 46 = .ok (.return_, 1) := by decide +kernel
theorem dX6_init_0 : decode cX6_init 0 = .ok (.aload_n 0, 1) := by decide +kernel
theorem dX6_init_1 : decode cX6_init 1 = .ok (.invokespecial 3, 3) := by decide +kernel
theorem dX6_init_4 : decode cX6_init 4 = .ok (.aload_n 0, 1) := by decide +kernel
theorem dX6_init_5 : decode cX6_init 5 = .ok (.bipush 64, 2) := by decide +kernel
theorem dX6_init_7 : decode cX6_init 7 = .ok (.newarray .int, 2) := by decide +kernel
theorem dX6_init_9 : decode cX6_init 9 = .ok (.putfield 9, 3) := by decide +kernel
theorem dX6_init_12 : decode cX6_init 12 = .ok (.aload_n 0, 1) := by decide +kernel
theorem dX6_init_13 : decode cX6_init 13 = .ok (.bipush 64, 2) := by decide +kernel
theorem dX6_init_15 : decode cX6_init 15 = .ok (.newarray .int, 2) := by decide +kernel
theorem dX6_init_17 : decode cX6_init 17 = .ok (.putfield 15, 3) := by decide +kernel
theorem dX6_init_20 : decode cX6_init 20 = .ok (.aload_n 0, 1) := by decide +kernel
theorem dX6_init_21 : decode cX6_init 21 = .ok (.bipush 64, 2) := by decide +kernel
theorem dX6_init_23 : decode cX6_init 23 = .ok (.newarray .int, 2) := by decide +kernel
theorem dX6_init_25 : decode cX6_init 25 = .ok (.putfield 18, 3) := by decide +kernel
theorem dX6_init_28 : decode cX6_init 28 = .ok (.aload_n 0, 1) := by decide +kernel
theorem dX6_init_29 : decode cX6_init 29 = .ok (.bipush 64, 2) := by decide +kernel
theorem dX6_init_31 : decode cX6_init 31 = .ok (.newarray .int, 2) := by decide +kernel
theorem dX6_init_33 : decode cX6_init 33 = .ok (.putfield 21, 3) := by decide +kernel
theorem dX6_init_36 : decode cX6_init 36 = .ok (.aload_n 0, 1) := by decide +kernel
theorem dX6_init_37 : decode cX6_init 37 = .ok (.bipush 64, 2) := by decide +kernel
theorem dX6_init_39 : decode cX6_init 39 = .ok (.newarray .int, 2) := by decide +kernel
theorem dX6_init_41 : decode cX6_init 41 = .ok (.putfield 24, 3) := by decide +kernel
theorem dX6_init_44 : decode cX6_init 44 = .ok (.aload_n 0, 1) := by decide +kernel
theorem dX6_init_45 : decode cX6_init 45 = .ok (.bipush 8, 2) := by decide +kernel
theorem dX6_init_47 : decode cX6_init 47 = .ok (.iconst 2, 1) := by decide +kernel
theorem dX6_init_48 : decode cX6_init 48 = .ok (.iconst 1, 1) := by decide +kernel
theorem dX6_init_49 : decode cX6_init 49 = .ok (.invokevirtual 27, 3) := by decide +kernel
theorem dX6_init_52 : decode cX6_init 52 = .ok (.return_, 1) := by decide +kernel
theorem dX6_begin_0 : decode cX6_begin 0 = .ok (.aload_n 0, 1) := by decide +kernel
theorem dX6_begin_1 : decode cX6_begin 1 = .ok (.iload_n 2, 1) := by decide +kernel
theorem dX6_begin_2 : decode cX6_begin 2 = .ok (.putfield 31, 3) := by decide +kernel
theorem dX6_begin_5 : decode cX6_begin 5 = .ok (.aload_n 0, 1) := by decide +kernel
theorem dX6_begin_6 : decode cX6_begin 6 = .ok (.iload_n 3, 1) := by decide +kernel
theorem dX6_begin_7 : decode cX6_begin 7 = .ok (.putfield 35, 3) := by decide +kernel
theorem dX6_begin_10 : decode cX6_begin 10 = .ok (.aload_n 0, 1) := by decide +kernel
theorem dX6_begin_11 : decode cX6_begin 11 = .ok (.iconst 0, 1) := by decide +kernel
theorem dX6_begin_12 : decode cX6_begin 12 = .ok (.putfield 38, 3) := by decide +kernel
theorem dX6_begin_15 : decode cX6_begin 15 = .ok (.aload_n 0, 1) := by decide +kernel
theorem dX6_begin_16 : decode cX6_begin 16 = .ok (.iconst 0, 1) := by decide +kernel
theorem dX6_begin_17 : decode cX6_begin 17 = .ok (.putfield 42, 3) := by decide +kernel
theorem dX6_begin_20 : decode cX6_begin 20 = .ok (.aload_n 0, 1) := by decide +kernel
theorem dX6_begin_21 : decode cX6_begin 21 = .ok (.iconst 0, 1) := by decide +kernel
theorem dX6_begin_22 : decode cX6_begin 22 = .ok (.putfield 45, 3) := by decide +kernel
theorem dX6_begin_25 : decode cX6_begin 25 = .ok (.aload_n 0, 1) := by decide +kernel
theorem dX6_begin_26 : decode cX6_begin 26 = .ok (.iconst 0, 1) := by decide +kernel
theorem dX6_begin_27 : decode cX6_begin 27 = .ok (.putfield 48, 3) := by decide +kernel
theorem dX6_begin_30 : decode cX6_begin 30 = .ok (.aload_n 0, 1) := by decide +kernel
theorem dX6_begin_31 : decode cX6_begin 31 = .ok (.iconst 0, 1) := by decide +kernel
theorem dX6_begin_32 : decode cX6_begin 32 = .ok (.putfield 51, 3) := by decide +kernel
theorem dX6_begin_35 : decode cX6_begin 35 = .ok (.aload_n 0, 1) := by decide +kernel
theorem dX6_begin_36 : decode cX6_begin 36 = .ok (.iload_n 1, 1) := by decide +kernel
theorem dX6_begin_37 : decode cX6_begin 37 = .ok (.invokevirtual 54, 3) := by decide +kernel
theorem dX6_begin_40 : decode cX6_begin 40 = .ok (.return_, 1) := by decide +kernel
theorem dX6_copyFrom_0 : decode cX6_copyFrom 0 = .ok (.aload_n 1, 1) := by decide +kernel
theorem dX6_copyFrom_1 : decode cX6_copyFrom 1 = .ok (.getfield 9, 3) := by decide +kernel
theorem dX6_copyFrom_4 : decode cX6_copyFrom 4 = .ok (.iconst 0, 1) := by decide +kernel
theorem dX6_copyFrom_5 : decode cX6_copyFrom 5 = .ok (.aload_n 0, 1) := by decide +kernel
theorem dX6_copyFrom_6 : decode cX6_copyFrom 6 = .ok (.getfield 9, 3) := by decide +kernel
theorem dX6_copyFrom_9 : decode cX6_copyFrom 9 = .ok (.iconst 0, 1) := by decide +kernel
theorem dX6_copyFrom_10 : decode cX6_copyFrom 10 = .ok (.bipush 64, 2) := by decide +kernel
theorem dX6_copyFrom_12 : decode cX6_copyFrom 12 = .ok (.invokestatic 58, 3) := by decide +kernel
theorem dX6_copyFrom_15 : decode cX6_copyFrom 15 = .ok (.aload_n 1, 1) := by decide +kernel
theorem dX6_copyFrom_16 : decode cX6_copyFrom 16 = .ok (.getfield 15, 3) := by decide +kernel
theorem dX6_copyFrom_19 : decode cX6_copyFrom 19 = .ok (.iconst 0, 1) := by decide +kernel
theorem dX6_copyFrom_20 : decode cX6_copyFrom 20 = .ok (.aload_n 0, 1) := by decide +kernel
theorem dX6_copyFrom_21 : decode cX6_copyFrom 21 = .ok (.getfield 15, 3) := by decide +kernel
theorem dX6_copyFrom_24 : decode cX6_copyFrom 24 = .ok (.iconst 0, 1) := by decide +kernel
theorem dX6_copyFrom_25 : decode cX6_copyFrom 25 = .ok (.bipush 64, 2) := by decide +kernel
theorem dX6_copyFrom_27 : decode cX6_copyFrom 27 = .ok (.invokestatic 58, 3) := by decide +kernel
theorem dX6_copyFrom_30 : decode cX6_copyFrom 30 = .ok (.aload_n 1, 1) := by decide +kernel
theorem dX6_copyFrom_31 : decode cX6_copyFrom 31 = .ok (.getfield 18, 3) := by decide +kernel
theorem dX6_copyFrom_34 : decode cX6_copyFrom 34 = .ok (.iconst 0, 1) := by decide +kernel
theorem dX6_copyFrom_35 : decode cX6_copyFrom 35 = .ok (.aload_n 0, 1) := by decide +kernel
theorem dX6_copyFrom_36 : decode cX6_copyFrom 36 = .ok (.getfield 18, 3) := by decide +kernel
theorem dX6_copyFrom_39 : decode cX6_copyFrom 39 = .ok (.iconst 0, 1) := by decide +kernel
theorem dX6_copyFrom_40 : decode cX6_copyFrom 40 = .ok (.bipush 64, 2) := by decide +kernel
theorem dX6_copyFrom_42 : decode cX6_copyFrom 42 = .ok (.invokestatic 58, 3) := by decide +kernel
theorem dX6_copyFrom_45 : decode cX6_copyFrom 45 = .ok (.aload_n 0, 1) := by decide +kernel
theorem dX6_copyFrom_46 : decode cX6_copyFrom 46 = .ok (.aload_n 1, 1) := by decide +kernel
theorem dX6_copyFrom_47 : decode cX6_copyFrom 47 = .ok (.getfield 64, 3) := by decide +kernel
theorem dX6_copyFrom_50 : decode cX6_copyFrom 50 = .ok (.putfield 64, 3) := by decide +kernel
theorem dX6_copyFrom_53 : decode cX6_copyFrom 53 = .ok (.aload_n 0, 1) := by decide +kernel
theorem dX6_copyFrom_54 : decode cX6_copyFrom 54 = .ok (.aload_n 1, 1) := by decide +kernel
theorem dX6_copyFrom_55 : decode cX6_copyFrom 55 = .ok (.getfield 31, 3) := by decide +kernel
theorem dX6_copyFrom_58 : decode cX6_copyFrom 58 = .ok (.putfield 31, 3) := by decide +kernel
theorem dX6_copyFrom_61 : decode cX6_copyFrom 61 = .ok (.aload_n 0, 1) := by decide +kernel
theorem dX6_copyFrom_62 : decode cX6_copyFrom 62 = .ok (.aload_n 1, 1) := by decide +kernel
theorem dX6_copyFrom_63 : decode cX6_copyFrom 63 = .ok (.getfield 35, 3) := by decide +kernel
theorem dX6_copyFrom_66 : decode cX6_copyFrom 66 = .ok (.putfield 35, 3) := by decide +kernel
theorem dX6_copyFrom_69 : decode cX6_copyFrom 69 = .ok (.aload_n 0, 1) := by decide +kernel
theorem dX6_copyFrom_70 : decode cX6_copyFrom 70 = .ok (.aload_n 1, 1) := by decide +kernel
theorem dX6_copyFrom_71 : decode cX6_copyFrom 71 = .ok (.getfield 38, 3) := by decide +kernel
theorem dX6_copyFrom_74 : decode cX6_copyFrom 74 = .ok (.putfield 38, 3) := by decide +kernel
theorem dX6_copyFrom_77 : decode cX6_copyFrom 77 = .ok (.aload_n 0, 1) := by decide +kernel
theorem dX6_copyFrom_78 : decode cX6_copyFrom 78 = .ok (.aload_n 1, 1) := by decide +kernel
theorem dX6_copyFrom_79 : decode cX6_copyFrom 79 = .ok (.getfield 67, 3) := by decide +kernel
theorem dX6_copyFrom_82 : decode cX6_copyFrom 82 = .ok (.putfield 67, 3) := by decide +kernel
theorem dX6_copyFrom_85 : decode cX6_copyFrom 85 = .ok (.aload_n 0, 1) := by decide +kernel
theorem dX6_copyFrom_86 : decode cX6_copyFrom 86 = .ok (.aload_n 1, 1) := by decide +kernel
theorem dX6_copyFrom_87 : decode cX6_copyFrom 87 = .ok (.getfield 70, 3) := by decide +kernel
theorem dX6_copyFrom_90 : decode cX6_copyFrom 90 = .ok (.putfield 70, 3) := by decide +kernel
theorem dX6_copyFrom_93 : decode cX6_copyFrom 93 = .ok (.aload_n 0, 1) := by decide +kernel
theorem dX6_copyFrom_94 : decode cX6_copyFrom 94 = .ok (.aload_n 1, 1) := by decide +kernel
theorem dX6_copyFrom_95 : decode cX6_copyFrom 95 = .ok (.getfield 42, 3) := by decide +kernel
theorem dX6_copyFrom_98 : decode cX6_copyFrom 98 = .ok (.putfield 42, 3) := by decide +kernel
theorem dX6_copyFrom_101 : decode cX6_copyFrom 101 = .ok (.aload_n 0, 1) := by decide +kernel
theorem dX6_copyFrom_102 : decode cX6_copyFrom 102 = .ok (.aload_n 1, 1) := by decide +kernel
theorem dX6_copyFrom_103 : decode cX6_copyFrom 103 = .ok (.getfield 45, 3) := by decide +kernel
theorem dX6_copyFrom_106 : decode cX6_copyFrom 106 = .ok (.putfield 45, 3) := by decide +kernel
theorem dX6_copyFrom_109 : decode cX6_copyFrom 109 = .ok (.aload_n 0, 1) := by decide +kernel
theorem dX6_copyFrom_110 : decode cX6_copyFrom 110 = .ok (.aload_n 1, 1) := by decide +kernel
theorem dX6_copyFrom_111 : decode cX6_copyFrom 111 = .ok (.getfield 48, 3) := by decide +kernel
theorem dX6_copyFrom_114 : decode cX6_copyFrom 114 = .ok (.putfield 48, 3) := by decide +kernel
theorem dX6_copyFrom_117 : decode cX6_copyFrom 117 = .ok (.aload_n 0, 1) := by decide +kernel
theorem dX6_copyFrom_118 : decode cX6_copyFrom 118 = .ok (.aload_n 1, 1) := by decide +kernel
theorem dX6_copyFrom_119 : decode cX6_copyFrom 119 = .ok (.getfield 51, 3) := by decide +kernel
theorem dX6_copyFrom_122 : decode cX6_copyFrom 122 = .ok (.putfield 51, 3) := by decide +kernel
theorem dX6_copyFrom_125 : decode cX6_copyFrom 125 = .ok (.return_, 1) := by decide +kernel
theorem dX6_insert_0 : decode cX6_insert 0 = .ok (.aload_n 0, 1) := by decide +kernel
theorem dX6_insert_1 : decode cX6_insert 1 = .ok (.invokevirtual 73, 3) := by decide +kernel
theorem dX6_insert_4 : decode cX6_insert 4 = .ok (.aload_n 0, 1) := by decide +kernel
theorem dX6_insert_5 : decode cX6_insert 5 = .ok (.iload_n 1, 1) := by decide +kernel
theorem dX6_insert_6 : decode cX6_insert 6 = .ok (.iload_n 2, 1) := by decide +kernel
theorem dX6_insert_7 : decode cX6_insert 7 = .ok (.invokevirtual 76, 3) := by decide +kernel
theorem dX6_insert_10 : decode cX6_insert 10 = .ok (.istore_n 3, 1) := by decide +kernel
theorem dX6_insert_11 : decode cX6_insert 11 = .ok (.bipush 8, 2) := by decide +kernel
theorem dX6_insert_13 : decode cX6_insert 13 = .ok (.istore 4, 2) := by decide +kernel
theorem dX6_insert_15 : decode cX6_insert 15 = .ok (.iload 4, 2) := by decide +kernel
theorem dX6_insert_17 : decode cX6_insert 17 = .ok (.bipush 64, 2) := by decide +kernel
theorem dX6_insert_19 : decode cX6_insert 19 = .ok (.if_icmp .gt 42, 3) := by decide +kernel
theorem dX6_insert_22 : decode cX6_insert 22 = .ok (.iload_n 3, 1) := by decide +kernel
theorem dX6_insert_23 : decode cX6_insert 23 = .ok (.iconst (-1), 1) := by decide +kernel
theorem dX6_insert_24 : decode cX6_insert 24 = .ok (.if_icmp .ne 28, 3) := by decide +kernel
theorem dX6_insert_27 : decode cX6_insert 27 = .ok (.iload 4, 2) := by decide +kernel
theorem dX6_insert_29 : decode cX6_insert 29 = .ok (.aload_n 0, 1) := by decide +kernel
theorem dX6_insert_30 : decode cX6_insert 30 = .ok (.getfield 64, 3) := by decide +kernel
theorem dX6_insert_33 : decode cX6_insert 33 = .ok (.if_icmp .le 19, 3) := by decide +kernel
theorem dX6_insert_36 : decode cX6_insert 36 = .ok (.aload_n 0, 1) := by decide +kernel
theorem dX6_insert_37 : decode cX6_insert 37 = .ok (.iload 4, 2) := by decide +kernel
theorem dX6_insert_39 : decode cX6_insert 39 = .ok (.invokevirtual 80, 3) := by decide +kernel
theorem dX6_insert_42 : decode cX6_insert 42 = .ok (.ifCond .eq 10, 3) := by decide +kernel
theorem dX6_insert_45 : decode cX6_insert 45 = .ok (.aload_n 0, 1) := by decide +kernel
theorem dX6_insert_46 : decode cX6_insert 46 = .ok (.iload_n 1, 1) := by decide +kernel
theorem dX6_insert_47 : decode cX6_insert 47 = .ok (.iload_n 2, 1) := by decide +kernel
theorem dX6_insert_48 : decode cX6_insert 48 = .ok (.invokevirtual 76, 3) := by decide +kernel
theorem dX6_insert_51 : decode cX6_insert 51 = .ok (.istore_n 3, 1) := by decide +kernel
theorem dX6_insert_52 : decode cX6_insert 52 = .ok (.iload 4, 2) := by decide +kernel
theorem dX6_insert_54 : decode cX6_insert 54 = .ok (.iconst 2, 1) := by decide +kernel
theorem dX6_insert_55 : decode cX6_insert 55 = .ok (.imul, 1) := by decide +kernel
theorem dX6_insert_56 : decode cX6_insert 56 = .ok (.istore 4, 2) := by decide +kernel
theorem dX6_insert_58 : decode cX6_insert 58 = .ok (.goto (-43), 3) := by decide +kernel
theorem dX6_insert_61 : decode cX6_insert 61 = .ok (.iload_n 3, 1) := by decide +kernel
theorem dX6_insert_62 : decode cX6_insert 62 = .ok (.iconst (-1), 1) := by decide +kernel
theorem dX6_insert_63 : decode cX6_insert 63 = .ok (.if_icmp .eq 13, 3) := by decide +kernel
theorem dX6_insert_66 : decode cX6_insert 66 = .ok (.aload_n 0, 1) := by decide +kernel
theorem dX6_insert_67 : decode cX6_insert 67 = .ok (.dup, 1) := by decide +kernel
theorem dX6_insert_68 : decode cX6_insert 68 = .ok (.getfield 48, 3) := by decide +kernel
theorem dX6_insert_71 : decode cX6_insert 71 = .ok (.iconst 1, 1) := by decide +kernel
theorem dX6_insert_72 : decode cX6_insert 72 = .ok (.iadd, 1) := by decide +kernel
theorem dX6_insert_73 : decode cX6_insert 73 = .ok (.putfield 48, 3) := by decide +kernel
theorem dX6_insert_76 : decode cX6_insert 76 = .ok (.iload_n 3, 1) := by decide +kernel
theorem dX6_insert_77 : decode cX6_insert 77 = .ok (.ireturn, 1) := by decide +kernel
theorem dX6_store_0 : decode cX6_store 0 = .ok (.aload_n 0, 1) := by decide +kernel
theorem dX6_store_1 : decode cX6_store 1 = .ok (.iload_n 1, 1) := by decide +kernel
theorem dX6_store_2 : decode cX6_store 2 = .ok (.invokevirtual 84, 3) := by decide +kernel
theorem dX6_store_5 : decode cX6_store 5 = .ok (.istore_n 3, 1) := by decide +kernel
theorem dX6_store_6 : decode cX6_store 6 = .ok (.aload_n 0, 1) := by decide +kernel
theorem dX6_store_7 : decode cX6_store 7 = .ok (.iload_n 3, 1) := by decide +kernel
theorem dX6_store_8 : decode cX6_store 8 = .ok (.invokevirtual 91, 3) := by decide +kernel
theorem dX6_store_11 : decode cX6_store 11 = .ok (.ifCond .eq 12, 3) := by decide +kernel
theorem dX6_store_14 : decode cX6_store 14 = .ok (.aload_n 0, 1) := by decide +kernel
theorem dX6_store_15 : decode cX6_store 15 = .ok (.getfield 15, 3) := by decide +kernel
theorem dX6_store_18 : decode cX6_store 18 = .ok (.iload_n 3, 1) := by decide +kernel
theorem dX6_store_19 : decode cX6_store 19 = .ok (.iload_n 2, 1) := by decide +kernel
theorem dX6_store_20 : decode cX6_store 20 = .ok (.iastore, 1) := by decide +kernel
theorem dX6_store_21 : decode cX6_store 21 = .ok (.iconst 1, 1) := by decide +kernel
theorem dX6_store_22 : decode cX6_store 22 = .ok (.ireturn, 1) := by decide +kernel
theorem dX6_store_23 : decode cX6_store 23 = .ok (.aload_n 0, 1) := by decide +kernel
theorem dX6_store_24 : decode cX6_store 24 = .ok (.iload_n 1, 1) := by decide +kernel
theorem dX6_store_25 : decode cX6_store 25 = .ok (.iload_n 2, 1) := by decide +kernel
theorem dX6_store_26 : decode cX6_store 26 = .ok (.invokevirtual 88, 3) := by decide +kernel
theorem dX6_store_29 : decode cX6_store 29 = .ok (.iconst (-1), 1) := by decide +kernel
theorem dX6_store_30 : decode cX6_store 30 = .ok (.if_icmp .eq 7, 3) := by decide +kernel
theorem dX6_store_33 : decode cX6_store 33 = .ok (.iconst 1, 1) := by decide +kernel
theorem dX6_store_34 : decode cX6_store 34 = .ok (.goto 4, 3) := by decide +kernel
theorem dX6_store_37 : decode cX6_store 37 = .ok (.iconst 0, 1) := by decide +kernel
theorem dX6_store_38 : decode cX6_store 38 = .ok (.ireturn, 1) := by decide +kernel
theorem dX6_take_0 : decode cX6_take 0 = .ok (.aload_n 0, 1) := by decide +kernel
theorem dX6_take_1 : decode cX6_take 1 = .ok (.iload_n 1, 1) := by decide +kernel
theorem dX6_take_2 : decode cX6_take 2 = .ok (.invokevirtual 84, 3) := by decide +kernel
theorem dX6_take_5 : decode cX6_take 5 = .ok (.istore_n 2, 1) := by decide +kernel
theorem dX6_take_6 : decode cX6_take 6 = .ok (.aload_n 0, 1) := by decide +kernel
theorem dX6_take_7 : decode cX6_take 7 = .ok (.iload_n 1, 1) := by decide +kernel
theorem dX6_take_8 : decode cX6_take 8 = .ok (.invokevirtual 94, 3) := by decide +kernel
theorem dX6_take_11 : decode cX6_take 11 = .ok (.istore_n 3, 1) := by decide +kernel
theorem dX6_take_12 : decode cX6_take 12 = .ok (.aload_n 0, 1) := by decide +kernel
theorem dX6_take_13 : decode cX6_take 13 = .ok (.iload_n 2, 1) := by decide +kernel
theorem dX6_take_14 : decode cX6_take 14 = .ok (.invokevirtual 91, 3) := by decide +kernel
theorem dX6_take_17 : decode cX6_take 17 = .ok (.ifCond .eq 11, 3) := by decide +kernel
theorem dX6_take_20 : decode cX6_take 20 = .ok (.aload_n 0, 1) := by decide +kernel
theorem dX6_take_21 : decode cX6_take 21 = .ok (.iload_n 3, 1) := by decide +kernel
theorem dX6_take_22 : decode cX6_take 22 = .ok (.invokevirtual 91, 3) := by decide +kernel
theorem dX6_take_25 : decode cX6_take 25 = .ok (.ifCond .ne 5, 3) := by decide +kernel
theorem dX6_take_28 : decode cX6_take 28 = .ok (.iconst (-1), 1) := by decide +kernel
theorem dX6_take_29 : decode cX6_take 29 = .ok (.ireturn, 1) := by decide +kernel
theorem dX6_take_30 : decode cX6_take 30 = .ok (.aload_n 0, 1) := by decide +kernel
theorem dX6_take_31 : decode cX6_take 31 = .ok (.getfield 15, 3) := by decide +kernel
theorem dX6_take_34 : decode cX6_take 34 = .ok (.iload_n 2, 1) := by decide +kernel
theorem dX6_take_35 : decode cX6_take 35 = .ok (.iaload, 1) := by decide +kernel
theorem dX6_take_36 : decode cX6_take 36 = .ok (.istore 4, 2) := by decide +kernel
theorem dX6_take_38 : decode cX6_take 38 = .ok (.aload_n 0, 1) := by decide +kernel
theorem dX6_take_39 : decode cX6_take 39 = .ok (.getfield 18, 3) := by decide +kernel
theorem dX6_take_42 : decode cX6_take 42 = .ok (.iload_n 3, 1) := by decide +kernel
theorem dX6_take_43 : decode cX6_take 43 = .ok (.dup2, 1) := by decide +kernel
theorem dX6_take_44 : decode cX6_take 44 = .ok (.iaload, 1) := by decide +kernel
theorem dX6_take_45 : decode cX6_take 45 = .ok (.iconst 1, 1) := by decide +kernel
theorem dX6_take_46 : decode cX6_take 46 = .ok (.aload_n 0, 1) := by decide +kernel
theorem dX6_take_47 : decode cX6_take 47 = .ok (.iload_n 2, 1) := by decide +kernel
theorem dX6_take_48 : decode cX6_take 48 = .ok (.invokevirtual 97, 3) := by decide +kernel
theorem dX6_take_51 : decode cX6_take 51 = .ok (.ishl, 1) := by decide +kernel
theorem dX6_take_52 : decode cX6_take 52 = .ok (.iconst (-1), 1) := by decide +kernel
theorem dX6_take_53 : decode cX6_take 53 = .ok (.ixor, 1) := by decide +kernel
theorem dX6_take_54 : decode cX6_take 54 = .ok (.iand, 1) := by decide +kernel
theorem dX6_take_55 : decode cX6_take 55 = .ok (.iastore, 1) := by decide +kernel
theorem dX6_take_56 : decode cX6_take 56 = .ok (.aload_n 0, 1) := by decide +kernel
theorem dX6_take_57 : decode cX6_take 57 = .ok (.getfield 9, 3) := by decide +kernel
theorem dX6_take_60 : decode cX6_take 60 = .ok (.iload_n 2, 1) := by decide +kernel
theorem dX6_take_61 : decode cX6_take 61 = .ok (.iconst (-1), 1) := by decide +kernel
theorem dX6_take_62 : decode cX6_take 62 = .ok (.iastore, 1) := by decide +kernel
theorem dX6_take_63 : decode cX6_take 63 = .ok (.aload_n 0, 1) := by decide +kernel
theorem dX6_take_64 : decode cX6_take 64 = .ok (.getfield 15, 3) := by decide +kernel
theorem dX6_take_67 : decode cX6_take 67 = .ok (.iload_n 2, 1) := by decide +kernel
theorem dX6_take_68 : decode cX6_take 68 = .ok (.iconst (-1), 1) := by decide +kernel
theorem dX6_take_69 : decode cX6_take 69 = .ok (.iastore, 1) := by decide +kernel
theorem dX6_take_70 : decode cX6_take 70 = .ok (.aload_n 0, 1) := by decide +kernel
theorem dX6_take_71 : decode cX6_take 71 = .ok (.dup, 1) := by decide +kernel
theorem dX6_take_72 : decode cX6_take 72 = .ok (.getfield 67, 3) := by decide +kernel
theorem dX6_take_75 : decode cX6_take 75 = .ok (.iconst 1, 1) := by decide +kernel
theorem dX6_take_76 : decode cX6_take 76 = .ok (.isub, 1) := by decide +kernel
theorem dX6_take_77 : decode cX6_take 77 = .ok (.putfield 67, 3) := by decide +kernel
theorem dX6_take_80 : decode cX6_take 80 = .ok (.aload_n 0, 1) := by decide +kernel
theorem dX6_take_81 : decode cX6_take 81 = .ok (.dup, 1) := by decide +kernel
theorem dX6_take_82 : decode cX6_take 82 = .ok (.getfield 51, 3) := by decide +kernel
theorem dX6_take_85 : decode cX6_take 85 = .ok (.iconst 1, 1) := by decide +kernel
theorem dX6_take_86 : decode cX6_take 86 = .ok (.iadd, 1) := by decide +kernel
theorem dX6_take_87 : decode cX6_take 87 = .ok (.putfield 51, 3) := by decide +kernel
theorem dX6_take_90 : decode cX6_take 90 = .ok (.aload_n 0, 1) := by decide +kernel
theorem dX6_take_91 : decode cX6_take 91 = .ok (.getfield 38, 3) := by decide +kernel
theorem dX6_take_94 : decode cX6_take 94 = .ok (.ifCond .eq 8, 3) := by decide +kernel
theorem dX6_take_97 : decode cX6_take 97 = .ok (.aload_n 0, 1) := by decide +kernel
theorem dX6_take_98 : decode cX6_take 98 = .ok (.iload_n 2, 1) := by decide +kernel
theorem dX6_take_99 : decode cX6_take 99 = .ok (.invokevirtual 100, 3) := by decide +kernel
theorem dX6_take_102 : decode cX6_take 102 = .ok (.iload 4, 2) := by decide +kernel
theorem dX6_take_104 : decode cX6_take 104 = .ok (.ireturn, 1) := by decide +kernel
theorem dX6_changeNear_0 : decode cX6_changeNear 0 = .ok (.aload_n 0, 1) := by decide +kernel
theorem dX6_changeNear_1 : decode cX6_changeNear 1 = .ok (.iload_n 1, 1) := by decide +kernel
theorem dX6_changeNear_2 : decode cX6_changeNear 2 = .ok (.putfield 31, 3) := by decide +kernel
theorem dX6_changeNear_5 : decode cX6_changeNear 5 = .ok (.aload_n 0, 1) := by decide +kernel
theorem dX6_changeNear_6 : decode cX6_changeNear 6 = .ok (.aload_n 0, 1) := by decide +kernel
theorem dX6_changeNear_7 : decode cX6_changeNear 7 = .ok (.getfield 64, 3) := by decide +kernel
theorem dX6_changeNear_10 : decode cX6_changeNear 10 = .ok (.invokevirtual 103, 3) := by decide +kernel
theorem dX6_changeNear_13 : decode cX6_changeNear 13 = .ok (.ireturn, 1) := by decide +kernel
theorem dX6_changeTimes_0 : decode cX6_changeTimes 0 = .ok (.aload_n 0, 1) := by decide +kernel
theorem dX6_changeTimes_1 : decode cX6_changeTimes 1 = .ok (.iload_n 1, 1) := by decide +kernel
theorem dX6_changeTimes_2 : decode cX6_changeTimes 2 = .ok (.putfield 35, 3) := by decide +kernel
theorem dX6_changeTimes_5 : decode cX6_changeTimes 5 = .ok (.aload_n 0, 1) := by decide +kernel
theorem dX6_changeTimes_6 : decode cX6_changeTimes 6 = .ok (.aload_n 0, 1) := by decide +kernel
theorem dX6_changeTimes_7 : decode cX6_changeTimes 7 = .ok (.getfield 64, 3) := by decide +kernel
theorem dX6_changeTimes_10 : decode cX6_changeTimes 10 = .ok (.invokevirtual 103, 3) := by decide +kernel
theorem dX6_changeTimes_13 : decode cX6_changeTimes 13 = .ok (.ireturn, 1) := by decide +kernel
theorem dX6_buildAnew_0 : decode cX6_buildAnew 0 = .ok (.aload_n 0, 1) := by decide +kernel
theorem dX6_buildAnew_1 : decode cX6_buildAnew 1 = .ok (.invokevirtual 73, 3) := by decide +kernel
theorem dX6_buildAnew_4 : decode cX6_buildAnew 4 = .ok (.bipush 8, 2) := by decide +kernel
theorem dX6_buildAnew_6 : decode cX6_buildAnew 6 = .ok (.istore_n 2, 1) := by decide +kernel
theorem dX6_buildAnew_7 : decode cX6_buildAnew 7 = .ok (.iload_n 2, 1) := by decide +kernel
theorem dX6_buildAnew_8 : decode cX6_buildAnew 8 = .ok (.bipush 64, 2) := by decide +kernel
theorem dX6_buildAnew_10 : decode cX6_buildAnew 10 = .ok (.if_icmp .gt 25, 3) := by decide +kernel
theorem dX6_buildAnew_13 : decode cX6_buildAnew 13 = .ok (.iload_n 2, 1) := by decide +kernel
theorem dX6_buildAnew_14 : decode cX6_buildAnew 14 = .ok (.iload_n 1, 1) := by decide +kernel
theorem dX6_buildAnew_15 : decode cX6_buildAnew 15 = .ok (.if_icmp .lt 13, 3) := by decide +kernel
theorem dX6_buildAnew_18 : decode cX6_buildAnew 18 = .ok (.aload_n 0, 1) := by decide +kernel
theorem dX6_buildAnew_19 : decode cX6_buildAnew 19 = .ok (.iload_n 2, 1) := by decide +kernel
theorem dX6_buildAnew_20 : decode cX6_buildAnew 20 = .ok (.invokevirtual 80, 3) := by decide +kernel
theorem dX6_buildAnew_23 : decode cX6_buildAnew 23 = .ok (.ifCond .eq 5, 3) := by decide +kernel
theorem dX6_buildAnew_26 : decode cX6_buildAnew 26 = .ok (.iconst 1, 1) := by decide +kernel
theorem dX6_buildAnew_27 : decode cX6_buildAnew 27 = .ok (.ireturn, 1) := by decide +kernel
theorem dX6_buildAnew_28 : decode cX6_buildAnew 28 = .ok (.iload_n 2, 1) := by decide +kernel
theorem dX6_buildAnew_29 : decode cX6_buildAnew 29 = .ok (.iconst 2, 1) := by decide +kernel
theorem dX6_buildAnew_30 : decode cX6_buildAnew 30 = .ok (.imul, 1) := by decide +kernel
theorem dX6_buildAnew_31 : decode cX6_buildAnew 31 = .ok (.istore_n 2, 1) := by decide +kernel
theorem dX6_buildAnew_32 : decode cX6_buildAnew 32 = .ok (.goto (-25), 3) := by decide +kernel
theorem dX6_buildAnew_35 : decode cX6_buildAnew 35 = .ok (.iconst 0, 1) := by decide +kernel
theorem dX6_buildAnew_36 : decode cX6_buildAnew 36 = .ok (.ireturn, 1) := by decide +kernel
theorem dX6_dropAll_0 : decode cX6_dropAll 0 = .ok (.aload_n 0, 1) := by decide +kernel
theorem dX6_dropAll_1 : decode cX6_dropAll 1 = .ok (.getfield 67, 3) := by decide +kernel
theorem dX6_dropAll_4 : decode cX6_dropAll 4 = .ok (.istore_n 1, 1) := by decide +kernel
theorem dX6_dropAll_5 : decode cX6_dropAll 5 = .ok (.aload_n 0, 1) := by decide +kernel
theorem dX6_dropAll_6 : decode cX6_dropAll 6 = .ok (.dup, 1) := by decide +kernel
theorem dX6_dropAll_7 : decode cX6_dropAll 7 = .ok (.getfield 51, 3) := by decide +kernel
theorem dX6_dropAll_10 : decode cX6_dropAll 10 = .ok (.iload_n 1, 1) := by decide +kernel
theorem dX6_dropAll_11 : decode cX6_dropAll 11 = .ok (.iadd, 1) := by decide +kernel
theorem dX6_dropAll_12 : decode cX6_dropAll 12 = .ok (.putfield 51, 3) := by decide +kernel
theorem dX6_dropAll_15 : decode cX6_dropAll 15 = .ok (.aload_n 0, 1) := by decide +kernel
theorem dX6_dropAll_16 : decode cX6_dropAll 16 = .ok (.aload_n 0, 1) := by decide +kernel
theorem dX6_dropAll_17 : decode cX6_dropAll 17 = .ok (.getfield 64, 3) := by decide +kernel
theorem dX6_dropAll_20 : decode cX6_dropAll 20 = .ok (.invokevirtual 54, 3) := by decide +kernel
theorem dX6_dropAll_23 : decode cX6_dropAll 23 = .ok (.iload_n 1, 1) := by decide +kernel
theorem dX6_dropAll_24 : decode cX6_dropAll 24 = .ok (.ireturn, 1) := by decide +kernel
theorem dX6_empty_0 : decode cX6_empty 0 = .ok (.aload_n 0, 1) := by decide +kernel
theorem dX6_empty_1 : decode cX6_empty 1 = .ok (.iload_n 1, 1) := by decide +kernel
theorem dX6_empty_2 : decode cX6_empty 2 = .ok (.putfield 64, 3) := by decide +kernel
theorem dX6_empty_5 : decode cX6_empty 5 = .ok (.aload_n 0, 1) := by decide +kernel
theorem dX6_empty_6 : decode cX6_empty 6 = .ok (.iconst 0, 1) := by decide +kernel
theorem dX6_empty_7 : decode cX6_empty 7 = .ok (.putfield 67, 3) := by decide +kernel
theorem dX6_empty_10 : decode cX6_empty 10 = .ok (.aload_n 0, 1) := by decide +kernel
theorem dX6_empty_11 : decode cX6_empty 11 = .ok (.iconst 0, 1) := by decide +kernel
theorem dX6_empty_12 : decode cX6_empty 12 = .ok (.putfield 70, 3) := by decide +kernel
theorem dX6_empty_15 : decode cX6_empty 15 = .ok (.iconst 0, 1) := by decide +kernel
theorem dX6_empty_16 : decode cX6_empty 16 = .ok (.istore_n 2, 1) := by decide +kernel
theorem dX6_empty_17 : decode cX6_empty 17 = .ok (.iload_n 2, 1) := by decide +kernel
theorem dX6_empty_18 : decode cX6_empty 18 = .ok (.bipush 64, 2) := by decide +kernel
theorem dX6_empty_20 : decode cX6_empty 20 = .ok (.if_icmp .ge 30, 3) := by decide +kernel
theorem dX6_empty_23 : decode cX6_empty 23 = .ok (.aload_n 0, 1) := by decide +kernel
theorem dX6_empty_24 : decode cX6_empty 24 = .ok (.getfield 9, 3) := by decide +kernel
theorem dX6_empty_27 : decode cX6_empty 27 = .ok (.iload_n 2, 1) := by decide +kernel
theorem dX6_empty_28 : decode cX6_empty 28 = .ok (.iconst (-1), 1) := by decide +kernel
theorem dX6_empty_29 : decode cX6_empty 29 = .ok (.iastore, 1) := by decide +kernel
theorem dX6_empty_30 : decode cX6_empty 30 = .ok (.aload_n 0, 1) := by decide +kernel
theorem dX6_empty_31 : decode cX6_empty 31 = .ok (.getfield 15, 3) := by decide +kernel
theorem dX6_empty_34 : decode cX6_empty 34 = .ok (.iload_n 2, 1) := by decide +kernel
theorem dX6_empty_35 : decode cX6_empty 35 = .ok (.iconst (-1), 1) := by decide +kernel
theorem dX6_empty_36 : decode cX6_empty 36 = .ok (.iastore, 1) := by decide +kernel
theorem dX6_empty_37 : decode cX6_empty 37 = .ok (.aload_n 0, 1) := by decide +kernel
theorem dX6_empty_38 : decode cX6_empty 38 = .ok (.getfield 18, 3) := by decide +kernel
theorem dX6_empty_41 : decode cX6_empty 41 = .ok (.iload_n 2, 1) := by decide +kernel
theorem dX6_empty_42 : decode cX6_empty 42 = .ok (.iconst 0, 1) := by decide +kernel
theorem dX6_empty_43 : decode cX6_empty 43 = .ok (.iastore, 1) := by decide +kernel
theorem dX6_empty_44 : decode cX6_empty 44 = .ok (.iinc 2 1, 3) := by decide +kernel
theorem dX6_empty_47 : decode cX6_empty 47 = .ok (.goto (-30), 3) := by decide +kernel
theorem dX6_empty_50 : decode cX6_empty 50 = .ok (.return_, 1) := by decide +kernel
theorem dX6_queueAll_0 : decode cX6_queueAll 0 = .ok (.aload_n 0, 1) := by decide +kernel
theorem dX6_queueAll_1 : decode cX6_queueAll 1 = .ok (.iconst 0, 1) := by decide +kernel
theorem dX6_queueAll_2 : decode cX6_queueAll 2 = .ok (.putfield 106, 3) := by decide +kernel
theorem dX6_queueAll_5 : decode cX6_queueAll 5 = .ok (.iconst 0, 1) := by decide +kernel
theorem dX6_queueAll_6 : decode cX6_queueAll 6 = .ok (.istore_n 1, 1) := by decide +kernel
theorem dX6_queueAll_7 : decode cX6_queueAll 7 = .ok (.iload_n 1, 1) := by decide +kernel
theorem dX6_queueAll_8 : decode cX6_queueAll 8 = .ok (.aload_n 0, 1) := by decide +kernel
theorem dX6_queueAll_9 : decode cX6_queueAll 9 = .ok (.getfield 64, 3) := by decide +kernel
theorem dX6_queueAll_12 : decode cX6_queueAll 12 = .ok (.if_icmp .ge 87, 3) := by decide +kernel
theorem dX6_queueAll_15 : decode cX6_queueAll 15 = .ok (.iload_n 1, 1) := by decide +kernel
theorem dX6_queueAll_16 : decode cX6_queueAll 16 = .ok (.aload_n 0, 1) := by decide +kernel
theorem dX6_queueAll_17 : decode cX6_queueAll 17 = .ok (.getfield 9, 3) := by decide +kernel
theorem dX6_queueAll_20 : decode cX6_queueAll 20 = .ok (.arraylength, 1) := by decide +kernel
theorem dX6_queueAll_21 : decode cX6_queueAll 21 = .ok (.if_icmp .ge 78, 3) := by decide +kernel
theorem dX6_queueAll_24 : decode cX6_queueAll 24 = .ok (.aload_n 0, 1) := by decide +kernel
theorem dX6_queueAll_25 : decode cX6_queueAll 25 = .ok (.getfield 9, 3) := by decide +kernel
theorem dX6_queueAll_28 : decode cX6_queueAll 28 = .ok (.iload_n 1, 1) := by decide +kernel
theorem dX6_queueAll_29 : decode cX6_queueAll 29 = .ok (.iaload, 1) := by decide +kernel
theorem dX6_queueAll_30 : decode cX6_queueAll 30 = .ok (.iconst (-1), 1) := by decide +kernel
theorem dX6_queueAll_31 : decode cX6_queueAll 31 = .ok (.if_icmp .eq 62, 3) := by decide +kernel
theorem dX6_queueAll_34 : decode cX6_queueAll 34 = .ok (.aload_n 0, 1) := by decide +kernel
theorem dX6_queueAll_35 : decode cX6_queueAll 35 = .ok (.getfield 106, 3) := by decide +kernel
theorem dX6_queueAll_38 : decode cX6_queueAll 38 = .ok (.ifCond .lt 55, 3) := by decide +kernel
theorem dX6_queueAll_41 : decode cX6_queueAll 41 = .ok (.aload_n 0, 1) := by decide +kernel
theorem dX6_queueAll_42 : decode cX6_queueAll 42 = .ok (.getfield 106, 3) := by decide +kernel
theorem dX6_queueAll_45 : decode cX6_queueAll 45 = .ok (.aload_n 0, 1) := by decide +kernel
theorem dX6_queueAll_46 : decode cX6_queueAll 46 = .ok (.getfield 21, 3) := by decide +kernel
theorem dX6_queueAll_49 : decode cX6_queueAll 49 = .ok (.arraylength, 1) := by decide +kernel
theorem dX6_queueAll_50 : decode cX6_queueAll 50 = .ok (.if_icmp .ge 43, 3) := by decide +kernel
theorem dX6_queueAll_53 : decode cX6_queueAll 53 = .ok (.aload_n 0, 1) := by decide +kernel
theorem dX6_queueAll_54 : decode cX6_queueAll 54 = .ok (.getfield 21, 3) := by decide +kernel
theorem dX6_queueAll_57 : decode cX6_queueAll 57 = .ok (.aload_n 0, 1) := by decide +kernel
theorem dX6_queueAll_58 : decode cX6_queueAll 58 = .ok (.getfield 106, 3) := by decide +kernel
theorem dX6_queueAll_61 : decode cX6_queueAll 61 = .ok (.aload_n 0, 1) := by decide +kernel
theorem dX6_queueAll_62 : decode cX6_queueAll 62 = .ok (.getfield 9, 3) := by decide +kernel
theorem dX6_queueAll_65 : decode cX6_queueAll 65 = .ok (.iload_n 1, 1) := by decide +kernel
theorem dX6_queueAll_66 : decode cX6_queueAll 66 = .ok (.iaload, 1) := by decide +kernel
theorem dX6_queueAll_67 : decode cX6_queueAll 67 = .ok (.iastore, 1) := by decide +kernel
theorem dX6_queueAll_68 : decode cX6_queueAll 68 = .ok (.aload_n 0, 1) := by decide +kernel
theorem dX6_queueAll_69 : decode cX6_queueAll 69 = .ok (.getfield 24, 3) := by decide +kernel
theorem dX6_queueAll_72 : decode cX6_queueAll 72 = .ok (.aload_n 0, 1) := by decide +kernel
theorem dX6_queueAll_73 : decode cX6_queueAll 73 = .ok (.getfield 106, 3) := by decide +kernel
theorem dX6_queueAll_76 : decode cX6_queueAll 76 = .ok (.aload_n 0, 1) := by decide +kernel
theorem dX6_queueAll_77 : decode cX6_queueAll 77 = .ok (.getfield 15, 3) := by decide +kernel
theorem dX6_queueAll_80 : decode cX6_queueAll 80 = .ok (.iload_n 1, 1) := by decide +kernel
theorem dX6_queueAll_81 : decode cX6_queueAll 81 = .ok (.iaload, 1) := by decide +kernel
theorem dX6_queueAll_82 : decode cX6_queueAll 82 = .ok (.iastore, 1) := by decide +kernel
theorem dX6_queueAll_83 : decode cX6_queueAll 83 = .ok (.aload_n 0, 1) := by decide +kernel
theorem dX6_queueAll_84 : decode cX6_queueAll 84 = .ok (.dup, 1) := by decide +kernel
theorem dX6_queueAll_85 : decode cX6_queueAll 85 = .ok (.getfield 106, 3) := by decide +kernel
theorem dX6_queueAll_88 : decode cX6_queueAll 88 = .ok (.iconst 1, 1) := by decide +kernel
theorem dX6_queueAll_89 : decode cX6_queueAll 89 = .ok (.iadd, 1) := by decide +kernel
theorem dX6_queueAll_90 : decode cX6_queueAll 90 = .ok (.putfield 106, 3) := by decide +kernel
theorem dX6_queueAll_93 : decode cX6_queueAll 93 = .ok (.iinc 1 1, 3) := by decide +kernel
theorem dX6_queueAll_96 : decode cX6_queueAll 96 = .ok (.goto (-89), 3) := by decide +kernel
theorem dX6_queueAll_99 : decode cX6_queueAll 99 = .ok (.return_, 1) := by decide +kernel
theorem dX6_build_0 : decode cX6_build 0 = .ok (.iload_n 1, 1) := by decide +kernel
theorem dX6_build_1 : decode cX6_build 1 = .ok (.aload_n 0, 1) := by decide +kernel
theorem dX6_build_2 : decode cX6_build 2 = .ok (.getfield 64, 3) := by decide +kernel
theorem dX6_build_5 : decode cX6_build 5 = .ok (.if_icmp .eq 13, 3) := by decide +kernel
theorem dX6_build_8 : decode cX6_build 8 = .ok (.aload_n 0, 1) := by decide +kernel
theorem dX6_build_9 : decode cX6_build 9 = .ok (.dup, 1) := by decide +kernel
theorem dX6_build_10 : decode cX6_build 10 = .ok (.getfield 45, 3) := by decide +kernel
theorem dX6_build_13 : decode cX6_build 13 = .ok (.iconst 1, 1) := by decide +kernel
theorem dX6_build_14 : decode cX6_build 14 = .ok (.iadd, 1) := by decide +kernel
theorem dX6_build_15 : decode cX6_build 15 = .ok (.putfield 45, 3) := by decide +kernel
theorem dX6_build_18 : decode cX6_build 18 = .ok (.aload_n 0, 1) := by decide +kernel
theorem dX6_build_19 : decode cX6_build 19 = .ok (.iload_n 1, 1) := by decide +kernel
theorem dX6_build_20 : decode cX6_build 20 = .ok (.invokevirtual 54, 3) := by decide +kernel
theorem dX6_build_23 : decode cX6_build 23 = .ok (.iconst 0, 1) := by decide +kernel
theorem dX6_build_24 : decode cX6_build 24 = .ok (.istore_n 2, 1) := by decide +kernel
theorem dX6_build_25 : decode cX6_build 25 = .ok (.iload_n 2, 1) := by decide +kernel
theorem dX6_build_26 : decode cX6_build 26 = .ok (.aload_n 0, 1) := by decide +kernel
theorem dX6_build_27 : decode cX6_build 27 = .ok (.getfield 106, 3) := by decide +kernel
theorem dX6_build_30 : decode cX6_build 30 = .ok (.if_icmp .ge 40, 3) := by decide +kernel
theorem dX6_build_33 : decode cX6_build 33 = .ok (.iload_n 2, 1) := by decide +kernel
theorem dX6_build_34 : decode cX6_build 34 = .ok (.aload_n 0, 1) := by decide +kernel
theorem dX6_build_35 : decode cX6_build 35 = .ok (.getfield 21, 3) := by decide +kernel
theorem dX6_build_38 : decode cX6_build 38 = .ok (.arraylength, 1) := by decide +kernel
theorem dX6_build_39 : decode cX6_build 39 = .ok (.if_icmp .ge 31, 3) := by decide +kernel
theorem dX6_build_42 : decode cX6_build 42 = .ok (.aload_n 0, 1) := by decide +kernel
theorem dX6_build_43 : decode cX6_build 43 = .ok (.aload_n 0, 1) := by decide +kernel
theorem dX6_build_44 : decode cX6_build 44 = .ok (.getfield 21, 3) := by decide +kernel
theorem dX6_build_47 : decode cX6_build 47 = .ok (.iload_n 2, 1) := by decide +kernel
theorem dX6_build_48 : decode cX6_build 48 = .ok (.iaload, 1) := by decide +kernel
theorem dX6_build_49 : decode cX6_build 49 = .ok (.aload_n 0, 1) := by decide +kernel
theorem dX6_build_50 : decode cX6_build 50 = .ok (.getfield 24, 3) := by decide +kernel
theorem dX6_build_53 : decode cX6_build 53 = .ok (.iload_n 2, 1) := by decide +kernel
theorem dX6_build_54 : decode cX6_build 54 = .ok (.iaload, 1) := by decide +kernel
theorem dX6_build_55 : decode cX6_build 55 = .ok (.invokevirtual 76, 3) := by decide +kernel
theorem dX6_build_58 : decode cX6_build 58 = .ok (.iconst (-1), 1) := by decide +kernel
theorem dX6_build_59 : decode cX6_build 59 = .ok (.if_icmp .ne 5, 3) := by decide +kernel
theorem dX6_build_62 : decode cX6_build 62 = .ok (.iconst 0, 1) := by decide +kernel
theorem dX6_build_63 : decode cX6_build 63 = .ok (.ireturn, 1) := by decide +kernel
theorem dX6_build_64 : decode cX6_build 64 = .ok (.iinc 2 1, 3) := by decide +kernel
theorem dX6_build_67 : decode cX6_build 67 = .ok (.goto (-42), 3) := by decide +kernel
theorem dX6_build_70 : decode cX6_build 70 = .ok (.iconst 1, 1) := by decide +kernel
theorem dX6_build_71 : decode cX6_build 71 = .ok (.ireturn, 1) := by decide +kernel
theorem dX6_place_0 : decode cX6_place 0 = .ok (.aload_n 0, 1) := by decide +kernel
theorem dX6_place_1 : decode cX6_place 1 = .ok (.iload_n 1, 1) := by decide +kernel
theorem dX6_place_2 : decode cX6_place 2 = .ok (.invokevirtual 94, 3) := by decide +kernel
theorem dX6_place_5 : decode cX6_place 5 = .ok (.istore_n 3, 1) := by decide +kernel
theorem dX6_place_6 : decode cX6_place 6 = .ok (.aload_n 0, 1) := by decide +kernel
theorem dX6_place_7 : decode cX6_place 7 = .ok (.iload_n 3, 1) := by decide +kernel
theorem dX6_place_8 : decode cX6_place 8 = .ok (.invokevirtual 109, 3) := by decide +kernel
theorem dX6_place_11 : decode cX6_place 11 = .ok (.istore 4, 2) := by decide +kernel
theorem dX6_place_13 : decode cX6_place 13 = .ok (.iconst 0, 1) := by decide +kernel
theorem dX6_place_14 : decode cX6_place 14 = .ok (.istore 5, 2) := by decide +kernel
theorem dX6_place_16 : decode cX6_place 16 = .ok (.iload 5, 2) := by decide +kernel
theorem dX6_place_18 : decode cX6_place 18 = .ok (.bipush 64, 2) := by decide +kernel
theorem dX6_place_20 : decode cX6_place 20 = .ok (.if_icmp .ge 51, 3) := by decide +kernel
theorem dX6_place_23 : decode cX6_place 23 = .ok (.iload 4, 2) := by decide +kernel
theorem dX6_place_25 : decode cX6_place 25 = .ok (.aload_n 0, 1) := by decide +kernel
theorem dX6_place_26 : decode cX6_place 26 = .ok (.getfield 31, 3) := by decide +kernel
theorem dX6_place_29 : decode cX6_place 29 = .ok (.if_icmp .lt 42, 3) := by decide +kernel
theorem dX6_place_32 : decode cX6_place 32 = .ok (.aload_n 0, 1) := by decide +kernel
theorem dX6_place_33 : decode cX6_place 33 = .ok (.iload_n 3, 1) := by decide +kernel
theorem dX6_place_34 : decode cX6_place 34 = .ok (.iload 4, 2) := by decide +kernel
theorem dX6_place_36 : decode cX6_place 36 = .ok (.iadd, 1) := by decide +kernel
theorem dX6_place_37 : decode cX6_place 37 = .ok (.aload_n 0, 1) := by decide +kernel
theorem dX6_place_38 : decode cX6_place 38 = .ok (.getfield 64, 3) := by decide +kernel
theorem dX6_place_41 : decode cX6_place 41 = .ok (.iconst 1, 1) := by decide +kernel
theorem dX6_place_42 : decode cX6_place 42 = .ok (.isub, 1) := by decide +kernel
theorem dX6_place_43 : decode cX6_place 43 = .ok (.iand, 1) := by decide +kernel
theorem dX6_place_44 : decode cX6_place 44 = .ok (.invokevirtual 112, 3) := by decide +kernel
theorem dX6_place_47 : decode cX6_place 47 = .ok (.istore 6, 2) := by decide +kernel
theorem dX6_place_49 : decode cX6_place 49 = .ok (.iload 6, 2) := by decide +kernel
theorem dX6_place_51 : decode cX6_place 51 = .ok (.ifCond .ne 7, 3) := by decide +kernel
theorem dX6_place_54 : decode cX6_place 54 = .ok (.iconst (-1), 1) := by decide +kernel
theorem dX6_place_55 : decode cX6_place 55 = .ok (.goto 8, 3) := by decide +kernel
theorem dX6_place_58 : decode cX6_place 58 = .ok (.iload 4, 2) := by decide +kernel
theorem dX6_place_60 : decode cX6_place 60 = .ok (.iload 6, 2) := by decide +kernel
theorem dX6_place_62 : decode cX6_place 62 = .ok (.isub, 1) := by decide +kernel
theorem dX6_place_63 : decode cX6_place 63 = .ok (.istore 4, 2) := by decide +kernel
theorem dX6_place_65 : decode cX6_place 65 = .ok (.iinc 5 1, 3) := by decide +kernel
theorem dX6_place_68 : decode cX6_place 68 = .ok (.goto (-52), 3) := by decide +kernel
theorem dX6_place_71 : decode cX6_place 71 = .ok (.iload_n 3, 1) := by decide +kernel
theorem dX6_place_72 : decode cX6_place 72 = .ok (.iload 4, 2) := by decide +kernel
theorem dX6_place_74 : decode cX6_place 74 = .ok (.iadd, 1) := by decide +kernel
theorem dX6_place_75 : decode cX6_place 75 = .ok (.aload_n 0, 1) := by decide +kernel
theorem dX6_place_76 : decode cX6_place 76 = .ok (.getfield 64, 3) := by decide +kernel
theorem dX6_place_79 : decode cX6_place 79 = .ok (.iconst 1, 1) := by decide +kernel
theorem dX6_place_80 : decode cX6_place 80 = .ok (.isub, 1) := by decide +kernel
theorem dX6_place_81 : decode cX6_place 81 = .ok (.iand, 1) := by decide +kernel
theorem dX6_place_82 : decode cX6_place 82 = .ok (.istore 5, 2) := by decide +kernel
theorem dX6_place_84 : decode cX6_place 84 = .ok (.iload 4, 2) := by decide +kernel
theorem dX6_place_86 : decode cX6_place 86 = .ok (.ifCond .lt 29, 3) := by decide +kernel
theorem dX6_place_89 : decode cX6_place 89 = .ok (.iload 4, 2) := by decide +kernel
theorem dX6_place_91 : decode cX6_place 91 = .ok (.aload_n 0, 1) := by decide +kernel
theorem dX6_place_92 : decode cX6_place 92 = .ok (.getfield 31, 3) := by decide +kernel
theorem dX6_place_95 : decode cX6_place 95 = .ok (.if_icmp .ge 20, 3) := by decide +kernel
theorem dX6_place_98 : decode cX6_place 98 = .ok (.aload_n 0, 1) := by decide +kernel
theorem dX6_place_99 : decode cX6_place 99 = .ok (.iload_n 3, 1) := by decide +kernel
theorem dX6_place_100 : decode cX6_place 100 = .ok (.invokevirtual 91, 3) := by decide +kernel
theorem dX6_place_103 : decode cX6_place 103 = .ok (.ifCond .eq 12, 3) := by decide +kernel
theorem dX6_place_106 : decode cX6_place 106 = .ok (.aload_n 0, 1) := by decide +kernel
theorem dX6_place_107 : decode cX6_place 107 = .ok (.iload 5, 2) := by decide +kernel
theorem dX6_place_109 : decode cX6_place 109 = .ok (.invokevirtual 91, 3) := by decide +kernel
theorem dX6_place_112 : decode cX6_place 112 = .ok (.ifCond .ne 5, 3) := by decide +kernel
theorem dX6_place_115 : decode cX6_place 115 = .ok (.iconst (-1), 1) := by decide +kernel
theorem dX6_place_116 : decode cX6_place 116 = .ok (.ireturn, 1) := by decide +kernel
theorem dX6_place_117 : decode cX6_place 117 = .ok (.aload_n 0, 1) := by decide +kernel
theorem dX6_place_118 : decode cX6_place 118 = .ok (.getfield 9, 3) := by decide +kernel
theorem dX6_place_121 : decode cX6_place 121 = .ok (.iload 5, 2) := by decide +kernel
theorem dX6_place_123 : decode cX6_place 123 = .ok (.iload_n 1, 1) := by decide +kernel
theorem dX6_place_124 : decode cX6_place 124 = .ok (.iastore, 1) := by decide +kernel
theorem dX6_place_125 : decode cX6_place 125 = .ok (.aload_n 0, 1) := by decide +kernel
theorem dX6_place_126 : decode cX6_place 126 = .ok (.getfield 15, 3) := by decide +kernel
theorem dX6_place_129 : decode cX6_place 129 = .ok (.iload 5, 2) := by decide +kernel
theorem dX6_place_131 : decode cX6_place 131 = .ok (.iload_n 2, 1) := by decide +kernel
theorem dX6_place_132 : decode cX6_place 132 = .ok (.iastore, 1) := by decide +kernel
theorem dX6_place_133 : decode cX6_place 133 = .ok (.aload_n 0, 1) := by decide +kernel
theorem dX6_place_134 : decode cX6_place 134 = .ok (.getfield 18, 3) := by decide +kernel
theorem dX6_place_137 : decode cX6_place 137 = .ok (.iload_n 3, 1) := by decide +kernel
theorem dX6_place_138 : decode cX6_place 138 = .ok (.dup2, 1) := by decide +kernel
theorem dX6_place_139 : decode cX6_place 139 = .ok (.iaload, 1) := by decide +kernel
theorem dX6_place_140 : decode cX6_place 140 = .ok (.iconst 1, 1) := by decide +kernel
theorem dX6_place_141 : decode cX6_place 141 = .ok (.iload 4, 2) := by decide +kernel
theorem dX6_place_143 : decode cX6_place 143 = .ok (.ishl, 1) := by decide +kernel
theorem dX6_place_144 : decode cX6_place 144 = .ok (.ior, 1) := by decide +kernel
theorem dX6_place_145 : decode cX6_place 145 = .ok (.iastore, 1) := by decide +kernel
theorem dX6_place_146 : decode cX6_place 146 = .ok (.aload_n 0, 1) := by decide +kernel
theorem dX6_place_147 : decode cX6_place 147 = .ok (.dup, 1) := by decide +kernel
theorem dX6_place_148 : decode cX6_place 148 = .ok (.getfield 67, 3) := by decide +kernel
theorem dX6_place_151 : decode cX6_place 151 = .ok (.iconst 1, 1) := by decide +kernel
theorem dX6_place_152 : decode cX6_place 152 = .ok (.iadd, 1) := by decide +kernel
theorem dX6_place_153 : decode cX6_place 153 = .ok (.putfield 67, 3) := by decide +kernel
theorem dX6_place_156 : decode cX6_place 156 = .ok (.iload 5, 2) := by decide +kernel
theorem dX6_place_158 : decode cX6_place 158 = .ok (.ireturn, 1) := by decide +kernel
theorem dX6_displaceInto_0 : decode cX6_displaceInto 0 = .ok (.aload_n 0, 1) := by decide +kernel
theorem dX6_displaceInto_1 : decode cX6_displaceInto 1 = .ok (.getfield 31, 3) := by decide +kernel
theorem dX6_displaceInto_4 : decode cX6_displaceInto 4 = .ok (.iconst 1, 1) := by decide +kernel
theorem dX6_displaceInto_5 : decode cX6_displaceInto 5 = .ok (.isub, 1) := by decide +kernel
theorem dX6_displaceInto_6 : decode cX6_displaceInto 6 = .ok (.istore_n 2, 1) := by decide +kernel
theorem dX6_displaceInto_7 : decode cX6_displaceInto 7 = .ok (.iload_n 2, 1) := by decide +kernel
theorem dX6_displaceInto_8 : decode cX6_displaceInto 8 = .ok (.iconst 1, 1) := by decide +kernel
theorem dX6_displaceInto_9 : decode cX6_displaceInto 9 = .ok (.if_icmp .lt 71, 3) := by decide +kernel
theorem dX6_displaceInto_12 : decode cX6_displaceInto 12 = .ok (.iload_n 1, 1) := by decide +kernel
theorem dX6_displaceInto_13 : decode cX6_displaceInto 13 = .ok (.iload_n 2, 1) := by decide +kernel
theorem dX6_displaceInto_14 : decode cX6_displaceInto 14 = .ok (.isub, 1) := by decide +kernel
theorem dX6_displaceInto_15 : decode cX6_displaceInto 15 = .ok (.aload_n 0, 1) := by decide +kernel
theorem dX6_displaceInto_16 : decode cX6_displaceInto 16 = .ok (.getfield 64, 3) := by decide +kernel
theorem dX6_displaceInto_19 : decode cX6_displaceInto 19 = .ok (.iconst 1, 1) := by decide +kernel
theorem dX6_displaceInto_20 : decode cX6_displaceInto 20 = .ok (.isub, 1) := by decide +kernel
theorem dX6_displaceInto_21 : decode cX6_displaceInto 21 = .ok (.iand, 1) := by decide +kernel
theorem dX6_displaceInto_22 : decode cX6_displaceInto 22 = .ok (.istore_n 3, 1) := by decide +kernel
theorem dX6_displaceInto_23 : decode cX6_displaceInto 23 = .ok (.iconst 0, 1) := by decide +kernel
theorem dX6_displaceInto_24 : decode cX6_displaceInto 24 = .ok (.istore 4, 2) := by decide +kernel
theorem dX6_displaceInto_26 : decode cX6_displaceInto 26 = .ok (.iload 4, 2) := by decide +kernel
theorem dX6_displaceInto_28 : decode cX6_displaceInto 28 = .ok (.iload_n 2, 1) := by decide +kernel
theorem dX6_displaceInto_29 : decode cX6_displaceInto 29 = .ok (.if_icmp .ge 45, 3) := by decide +kernel
theorem dX6_displaceInto_32 : decode cX6_displaceInto 32 = .ok (.aload_n 0, 1) := by decide +kernel
theorem dX6_displaceInto_33 : decode cX6_displaceInto 33 = .ok (.iload_n 3, 1) := by decide +kernel
theorem dX6_displaceInto_34 : decode cX6_displaceInto 34 = .ok (.invokevirtual 115, 3) := by decide +kernel
theorem dX6_displaceInto_37 : decode cX6_displaceInto 37 = .ok (.iload 4, 2) := by decide +kernel
theorem dX6_displaceInto_39 : decode cX6_displaceInto 39 = .ok (.ishr, 1) := by decide +kernel
theorem dX6_displaceInto_40 : decode cX6_displaceInto 40 = .ok (.iconst 1, 1) := by decide +kernel
theorem dX6_displaceInto_41 : decode cX6_displaceInto 41 = .ok (.iand, 1) := by decide +kernel
theorem dX6_displaceInto_42 : decode cX6_displaceInto 42 = .ok (.ifCond .eq 26, 3) := by decide +kernel
theorem dX6_displaceInto_45 : decode cX6_displaceInto 45 = .ok (.aload_n 0, 1) := by decide +kernel
theorem dX6_displaceInto_46 : decode cX6_displaceInto 46 = .ok (.iload_n 3, 1) := by decide +kernel
theorem dX6_displaceInto_47 : decode cX6_displaceInto 47 = .ok (.iload 4, 2) := by decide +kernel
theorem dX6_displaceInto_49 : decode cX6_displaceInto 49 = .ok (.iload_n 2, 1) := by decide +kernel
theorem dX6_displaceInto_50 : decode cX6_displaceInto 50 = .ok (.invokevirtual 118, 3) := by decide +kernel
theorem dX6_displaceInto_53 : decode cX6_displaceInto 53 = .ok (.aload_n 0, 1) := by decide +kernel
theorem dX6_displaceInto_54 : decode cX6_displaceInto 54 = .ok (.dup, 1) := by decide +kernel
theorem dX6_displaceInto_55 : decode cX6_displaceInto 55 = .ok (.getfield 70, 3) := by decide +kernel
theorem dX6_displaceInto_58 : decode cX6_displaceInto 58 = .ok (.iconst 1, 1) := by decide +kernel
theorem dX6_displaceInto_59 : decode cX6_displaceInto 59 = .ok (.iadd, 1) := by decide +kernel
theorem dX6_displaceInto_60 : decode cX6_displaceInto 60 = .ok (.putfield 70, 3) := by decide +kernel
theorem dX6_displaceInto_63 : decode cX6_displaceInto 63 = .ok (.iload_n 2, 1) := by decide +kernel
theorem dX6_displaceInto_64 : decode cX6_displaceInto 64 = .ok (.iload 4, 2) := by decide +kernel
theorem dX6_displaceInto_66 : decode cX6_displaceInto 66 = .ok (.isub, 1) := by decide +kernel
theorem dX6_displaceInto_67 : decode cX6_displaceInto 67 = .ok (.ireturn, 1) := by decide +kernel
theorem dX6_displaceInto_68 : decode cX6_displaceInto 68 = .ok (.iinc 4 1, 3) := by decide +kernel
theorem dX6_displaceInto_71 : decode cX6_displaceInto 71 = .ok (.goto (-45), 3) := by decide +kernel
theorem dX6_displaceInto_74 : decode cX6_displaceInto 74 = .ok (.iinc 2 (-1), 3) := by decide +kernel
theorem dX6_displaceInto_77 : decode cX6_displaceInto 77 = .ok (.goto (-70), 3) := by decide +kernel
theorem dX6_displaceInto_80 : decode cX6_displaceInto 80 = .ok (.iconst 0, 1) := by decide +kernel
theorem dX6_displaceInto_81 : decode cX6_displaceInto 81 = .ok (.ireturn, 1) := by decide +kernel
theorem dX6_pullFrom_0 : decode cX6_pullFrom 0 = .ok (.iload_n 1, 1) := by decide +kernel
theorem dX6_pullFrom_1 : decode cX6_pullFrom 1 = .ok (.istore_n 2, 1) := by decide +kernel
theorem dX6_pullFrom_2 : decode cX6_pullFrom 2 = .ok (.iconst 0, 1) := by decide +kernel
theorem dX6_pullFrom_3 : decode cX6_pullFrom 3 = .ok (.istore_n 3, 1) := by decide +kernel
theorem dX6_pullFrom_4 : decode cX6_pullFrom 4 = .ok (.iload_n 3, 1) := by decide +kernel
theorem dX6_pullFrom_5 : decode cX6_pullFrom 5 = .ok (.sipush 384, 3) := by decide +kernel
theorem dX6_pullFrom_8 : decode cX6_pullFrom 8 = .ok (.if_icmp .ge 44, 3) := by decide +kernel
theorem dX6_pullFrom_11 : decode cX6_pullFrom 11 = .ok (.aload_n 0, 1) := by decide +kernel
theorem dX6_pullFrom_12 : decode cX6_pullFrom 12 = .ok (.iload_n 2, 1) := by decide +kernel
theorem dX6_pullFrom_13 : decode cX6_pullFrom 13 = .ok (.invokevirtual 121, 3) := by decide +kernel
theorem dX6_pullFrom_16 : decode cX6_pullFrom 16 = .ok (.istore 4, 2) := by decide +kernel
theorem dX6_pullFrom_18 : decode cX6_pullFrom 18 = .ok (.iload 4, 2) := by decide +kernel
theorem dX6_pullFrom_20 : decode cX6_pullFrom 20 = .ok (.ifCond .ne 4, 3) := by decide +kernel
theorem dX6_pullFrom_23 : decode cX6_pullFrom 23 = .ok (.return_, 1) := by decide +kernel
theorem dX6_pullFrom_24 : decode cX6_pullFrom 24 = .ok (.aload_n 0, 1) := by decide +kernel
theorem dX6_pullFrom_25 : decode cX6_pullFrom 25 = .ok (.dup, 1) := by decide +kernel
theorem dX6_pullFrom_26 : decode cX6_pullFrom 26 = .ok (.getfield 42, 3) := by decide +kernel
theorem dX6_pullFrom_29 : decode cX6_pullFrom 29 = .ok (.iconst 1, 1) := by decide +kernel
theorem dX6_pullFrom_30 : decode cX6_pullFrom 30 = .ok (.iadd, 1) := by decide +kernel
theorem dX6_pullFrom_31 : decode cX6_pullFrom 31 = .ok (.putfield 42, 3) := by decide +kernel
theorem dX6_pullFrom_34 : decode cX6_pullFrom 34 = .ok (.iload_n 2, 1) := by decide +kernel
theorem dX6_pullFrom_35 : decode cX6_pullFrom 35 = .ok (.iload 4, 2) := by decide +kernel
theorem dX6_pullFrom_37 : decode cX6_pullFrom 37 = .ok (.iadd, 1) := by decide +kernel
theorem dX6_pullFrom_38 : decode cX6_pullFrom 38 = .ok (.aload_n 0, 1) := by decide +kernel
theorem dX6_pullFrom_39 : decode cX6_pullFrom 39 = .ok (.getfield 64, 3) := by decide +kernel
theorem dX6_pullFrom_42 : decode cX6_pullFrom 42 = .ok (.iconst 1, 1) := by decide +kernel
theorem dX6_pullFrom_43 : decode cX6_pullFrom 43 = .ok (.isub, 1) := by decide +kernel
theorem dX6_pullFrom_44 : decode cX6_pullFrom 44 = .ok (.iand, 1) := by decide +kernel
theorem dX6_pullFrom_45 : decode cX6_pullFrom 45 = .ok (.istore_n 2, 1) := by decide +kernel
theorem dX6_pullFrom_46 : decode cX6_pullFrom 46 = .ok (.iinc 3 1, 3) := by decide +kernel
theorem dX6_pullFrom_49 : decode cX6_pullFrom 49 = .ok (.goto (-45), 3) := by decide +kernel
theorem dX6_pullFrom_52 : decode cX6_pullFrom 52 = .ok (.return_, 1) := by decide +kernel
theorem dX6_pullInto_0 : decode cX6_pullInto 0 = .ok (.aload_n 0, 1) := by decide +kernel
theorem dX6_pullInto_1 : decode cX6_pullInto 1 = .ok (.getfield 31, 3) := by decide +kernel
theorem dX6_pullInto_4 : decode cX6_pullInto 4 = .ok (.iconst 1, 1) := by decide +kernel
theorem dX6_pullInto_5 : decode cX6_pullInto 5 = .ok (.isub, 1) := by decide +kernel
theorem dX6_pullInto_6 : decode cX6_pullInto 6 = .ok (.istore_n 2, 1) := by decide +kernel
theorem dX6_pullInto_7 : decode cX6_pullInto 7 = .ok (.iload_n 2, 1) := by decide +kernel
theorem dX6_pullInto_8 : decode cX6_pullInto 8 = .ok (.ifCond .lt 66, 3) := by decide +kernel
theorem dX6_pullInto_11 : decode cX6_pullInto 11 = .ok (.iload_n 1, 1) := by decide +kernel
theorem dX6_pullInto_12 : decode cX6_pullInto 12 = .ok (.iload_n 2, 1) := by decide +kernel
theorem dX6_pullInto_13 : decode cX6_pullInto 13 = .ok (.isub, 1) := by decide +kernel
theorem dX6_pullInto_14 : decode cX6_pullInto 14 = .ok (.aload_n 0, 1) := by decide +kernel
theorem dX6_pullInto_15 : decode cX6_pullInto 15 = .ok (.getfield 64, 3) := by decide +kernel
theorem dX6_pullInto_18 : decode cX6_pullInto 18 = .ok (.iconst 1, 1) := by decide +kernel
theorem dX6_pullInto_19 : decode cX6_pullInto 19 = .ok (.isub, 1) := by decide +kernel
theorem dX6_pullInto_20 : decode cX6_pullInto 20 = .ok (.iand, 1) := by decide +kernel
theorem dX6_pullInto_21 : decode cX6_pullInto 21 = .ok (.istore_n 3, 1) := by decide +kernel
theorem dX6_pullInto_22 : decode cX6_pullInto 22 = .ok (.aload_n 0, 1) := by decide +kernel
theorem dX6_pullInto_23 : decode cX6_pullInto 23 = .ok (.getfield 31, 3) := by decide +kernel
theorem dX6_pullInto_26 : decode cX6_pullInto 26 = .ok (.iconst 1, 1) := by decide +kernel
theorem dX6_pullInto_27 : decode cX6_pullInto 27 = .ok (.isub, 1) := by decide +kernel
theorem dX6_pullInto_28 : decode cX6_pullInto 28 = .ok (.istore 4, 2) := by decide +kernel
theorem dX6_pullInto_30 : decode cX6_pullInto 30 = .ok (.iload 4, 2) := by decide +kernel
theorem dX6_pullInto_32 : decode cX6_pullInto 32 = .ok (.iload_n 2, 1) := by decide +kernel
theorem dX6_pullInto_33 : decode cX6_pullInto 33 = .ok (.if_icmp .le 35, 3) := by decide +kernel
theorem dX6_pullInto_36 : decode cX6_pullInto 36 = .ok (.aload_n 0, 1) := by decide +kernel
theorem dX6_pullInto_37 : decode cX6_pullInto 37 = .ok (.iload_n 3, 1) := by decide +kernel
theorem dX6_pullInto_38 : decode cX6_pullInto 38 = .ok (.invokevirtual 115, 3) := by decide +kernel
theorem dX6_pullInto_41 : decode cX6_pullInto 41 = .ok (.iload 4, 2) := by decide +kernel
theorem dX6_pullInto_43 : decode cX6_pullInto 43 = .ok (.ishr, 1) := by decide +kernel
theorem dX6_pullInto_44 : decode cX6_pullInto 44 = .ok (.iconst 1, 1) := by decide +kernel
theorem dX6_pullInto_45 : decode cX6_pullInto 45 = .ok (.iand, 1) := by decide +kernel
theorem dX6_pullInto_46 : decode cX6_pullInto 46 = .ok (.ifCond .eq 16, 3) := by decide +kernel
theorem dX6_pullInto_49 : decode cX6_pullInto 49 = .ok (.aload_n 0, 1) := by decide +kernel
theorem dX6_pullInto_50 : decode cX6_pullInto 50 = .ok (.iload_n 3, 1) := by decide +kernel
theorem dX6_pullInto_51 : decode cX6_pullInto 51 = .ok (.iload 4, 2) := by decide +kernel
theorem dX6_pullInto_53 : decode cX6_pullInto 53 = .ok (.iload_n 2, 1) := by decide +kernel
theorem dX6_pullInto_54 : decode cX6_pullInto 54 = .ok (.invokevirtual 118, 3) := by decide +kernel
theorem dX6_pullInto_57 : decode cX6_pullInto 57 = .ok (.iload 4, 2) := by decide +kernel
theorem dX6_pullInto_59 : decode cX6_pullInto 59 = .ok (.iload_n 2, 1) := by decide +kernel
theorem dX6_pullInto_60 : decode cX6_pullInto 60 = .ok (.isub, 1) := by decide +kernel
theorem dX6_pullInto_61 : decode cX6_pullInto 61 = .ok (.ireturn, 1) := by decide +kernel
theorem dX6_pullInto_62 : decode cX6_pullInto 62 = .ok (.iinc 4 (-1), 3) := by decide +kernel
theorem dX6_pullInto_65 : decode cX6_pullInto 65 = .ok (.goto (-35), 3) := by decide +kernel
theorem dX6_pullInto_68 : decode cX6_pullInto 68 = .ok (.iinc 2 (-1), 3) := by decide +kernel
theorem dX6_pullInto_71 : decode cX6_pullInto 71 = .ok (.goto (-64), 3) := by decide +kernel
theorem dX6_pullInto_74 : decode cX6_pullInto 74 = .ok (.iconst 0, 1) := by decide +kernel
theorem dX6_pullInto_75 : decode cX6_pullInto 75 = .ok (.ireturn, 1) := by decide +kernel
theorem dX6_shift_0 : decode cX6_shift 0 = .ok (.iload_n 1, 1) := by decide +kernel
theorem dX6_shift_1 : decode cX6_shift 1 = .ok (.iload_n 2, 1) := by decide +kernel
theorem dX6_shift_2 : decode cX6_shift 2 = .ok (.iadd, 1) := by decide +kernel
theorem dX6_shift_3 : decode cX6_shift 3 = .ok (.aload_n 0, 1) := by decide +kernel
theorem dX6_shift_4 : decode cX6_shift 4 = .ok (.getfield 64, 3) := by decide +kernel
theorem dX6_shift_7 : decode cX6_shift 7 = .ok (.iconst 1, 1) := by decide +kernel
theorem dX6_shift_8 : decode cX6_shift 8 = .ok (.isub, 1) := by decide +kernel
theorem dX6_shift_9 : decode cX6_shift 9 = .ok (.iand, 1) := by decide +kernel
theorem dX6_shift_10 : decode cX6_shift 10 = .ok (.istore 4, 2) := by decide +kernel
theorem dX6_shift_12 : decode cX6_shift 12 = .ok (.iload_n 1, 1) := by decide +kernel
theorem dX6_shift_13 : decode cX6_shift 13 = .ok (.iload_n 3, 1) := by decide +kernel
theorem dX6_shift_14 : decode cX6_shift 14 = .ok (.iadd, 1) := by decide +kernel
theorem dX6_shift_15 : decode cX6_shift 15 = .ok (.aload_n 0, 1) := by decide +kernel
theorem dX6_shift_16 : decode cX6_shift 16 = .ok (.getfield 64, 3) := by decide +kernel
theorem dX6_shift_19 : decode cX6_shift 19 = .ok (.iconst 1, 1) := by decide +kernel
theorem dX6_shift_20 : decode cX6_shift 20 = .ok (.isub, 1) := by decide +kernel
theorem dX6_shift_21 : decode cX6_shift 21 = .ok (.iand, 1) := by decide +kernel
theorem dX6_shift_22 : decode cX6_shift 22 = .ok (.istore 5, 2) := by decide +kernel
theorem dX6_shift_24 : decode cX6_shift 24 = .ok (.iload 4, 2) := by decide +kernel
theorem dX6_shift_26 : decode cX6_shift 26 = .ok (.ifCond .lt 28, 3) := by decide +kernel
theorem dX6_shift_29 : decode cX6_shift 29 = .ok (.iload 4, 2) := by decide +kernel
theorem dX6_shift_31 : decode cX6_shift 31 = .ok (.aload_n 0, 1) := by decide +kernel
theorem dX6_shift_32 : decode cX6_shift 32 = .ok (.getfield 9, 3) := by decide +kernel
theorem dX6_shift_35 : decode cX6_shift 35 = .ok (.arraylength, 1) := by decide +kernel
theorem dX6_shift_36 : decode cX6_shift 36 = .ok (.if_icmp .ge 18, 3) := by decide +kernel
theorem dX6_shift_39 : decode cX6_shift 39 = .ok (.iload 5, 2) := by decide +kernel
theorem dX6_shift_41 : decode cX6_shift 41 = .ok (.ifCond .lt 13, 3) := by decide +kernel
theorem dX6_shift_44 : decode cX6_shift 44 = .ok (.iload 5, 2) := by decide +kernel
theorem dX6_shift_46 : decode cX6_shift 46 = .ok (.aload_n 0, 1) := by decide +kernel
theorem dX6_shift_47 : decode cX6_shift 47 = .ok (.getfield 9, 3) := by decide +kernel
theorem dX6_shift_50 : decode cX6_shift 50 = .ok (.arraylength, 1) := by decide +kernel
theorem dX6_shift_51 : decode cX6_shift 51 = .ok (.if_icmp .lt 4, 3) := by decide +kernel
theorem dX6_shift_54 : decode cX6_shift 54 = .ok (.return_, 1) := by decide +kernel
theorem dX6_shift_55 : decode cX6_shift 55 = .ok (.iload_n 1, 1) := by decide +kernel
theorem dX6_shift_56 : decode cX6_shift 56 = .ok (.ifCond .lt 12, 3) := by decide +kernel
theorem dX6_shift_59 : decode cX6_shift 59 = .ok (.iload_n 1, 1) := by decide +kernel
theorem dX6_shift_60 : decode cX6_shift 60 = .ok (.aload_n 0, 1) := by decide +kernel
theorem dX6_shift_61 : decode cX6_shift 61 = .ok (.getfield 18, 3) := by decide +kernel
theorem dX6_shift_64 : decode cX6_shift 64 = .ok (.arraylength, 1) := by decide +kernel
theorem dX6_shift_65 : decode cX6_shift 65 = .ok (.if_icmp .lt 4, 3) := by decide +kernel
theorem dX6_shift_68 : decode cX6_shift 68 = .ok (.return_, 1) := by decide +kernel
theorem dX6_shift_69 : decode cX6_shift 69 = .ok (.aload_n 0, 1) := by decide +kernel
theorem dX6_shift_70 : decode cX6_shift 70 = .ok (.getfield 9, 3) := by decide +kernel
theorem dX6_shift_73 : decode cX6_shift 73 = .ok (.iload 5, 2) := by decide +kernel
theorem dX6_shift_75 : decode cX6_shift 75 = .ok (.aload_n 0, 1) := by decide +kernel
theorem dX6_shift_76 : decode cX6_shift 76 = .ok (.getfield 9, 3) := by decide +kernel
theorem dX6_shift_79 : decode cX6_shift 79 = .ok (.iload 4, 2) := by decide +kernel
theorem dX6_shift_81 : decode cX6_shift 81 = .ok (.iaload, 1) := by decide +kernel
theorem dX6_shift_82 : decode cX6_shift 82 = .ok (.iastore, 1) := by decide +kernel
theorem dX6_shift_83 : decode cX6_shift 83 = .ok (.aload_n 0, 1) := by decide +kernel
theorem dX6_shift_84 : decode cX6_shift 84 = .ok (.getfield 15, 3) := by decide +kernel
theorem dX6_shift_87 : decode cX6_shift 87 = .ok (.iload 5, 2) := by decide +kernel
theorem dX6_shift_89 : decode cX6_shift 89 = .ok (.aload_n 0, 1) := by decide +kernel
theorem dX6_shift_90 : decode cX6_shift 90 = .ok (.getfield 15, 3) := by decide +kernel
theorem dX6_shift_93 : decode cX6_shift 93 = .ok (.iload 4, 2) := by decide +kernel
theorem dX6_shift_95 : decode cX6_shift 95 = .ok (.iaload, 1) := by decide +kernel
theorem dX6_shift_96 : decode cX6_shift 96 = .ok (.iastore, 1) := by decide +kernel
theorem dX6_shift_97 : decode cX6_shift 97 = .ok (.aload_n 0, 1) := by decide +kernel
theorem dX6_shift_98 : decode cX6_shift 98 = .ok (.getfield 9, 3) := by decide +kernel
theorem dX6_shift_101 : decode cX6_shift 101 = .ok (.iload 4, 2) := by decide +kernel
theorem dX6_shift_103 : decode cX6_shift 103 = .ok (.iconst (-1), 1) := by decide +kernel
theorem dX6_shift_104 : decode cX6_shift 104 = .ok (.iastore, 1) := by decide +kernel
theorem dX6_shift_105 : decode cX6_shift 105 = .ok (.aload_n 0, 1) := by decide +kernel
theorem dX6_shift_106 : decode cX6_shift 106 = .ok (.getfield 15, 3) := by decide +kernel
theorem dX6_shift_109 : decode cX6_shift 109 = .ok (.iload 4, 2) := by decide +kernel
theorem dX6_shift_111 : decode cX6_shift 111 = .ok (.iconst (-1), 1) := by decide +kernel
theorem dX6_shift_112 : decode cX6_shift 112 = .ok (.iastore, 1) := by decide +kernel
theorem dX6_shift_113 : decode cX6_shift 113 = .ok (.aload_n 0, 1) := by decide +kernel
theorem dX6_shift_114 : decode cX6_shift 114 = .ok (.getfield 18, 3) := by decide +kernel
theorem dX6_shift_117 : decode cX6_shift 117 = .ok (.iload_n 1, 1) := by decide +kernel
theorem dX6_shift_118 : decode cX6_shift 118 = .ok (.aload_n 0, 1) := by decide +kernel
theorem dX6_shift_119 : decode cX6_shift 119 = .ok (.getfield 18, 3) := by decide +kernel
theorem dX6_shift_122 : decode cX6_shift 122 = .ok (.iload_n 1, 1) := by decide +kernel
theorem dX6_shift_123 : decode cX6_shift 123 = .ok (.iaload, 1) := by decide +kernel
theorem dX6_shift_124 : decode cX6_shift 124 = .ok (.iconst 1, 1) := by decide +kernel
theorem dX6_shift_125 : decode cX6_shift 125 = .ok (.iload_n 2, 1) := by decide +kernel
theorem dX6_shift_126 : decode cX6_shift 126 = .ok (.ishl, 1) := by decide +kernel
theorem dX6_shift_127 : decode cX6_shift 127 = .ok (.iconst (-1), 1) := by decide +kernel
theorem dX6_shift_128 : decode cX6_shift 128 = .ok (.ixor, 1) := by decide +kernel
theorem dX6_shift_129 : decode cX6_shift 129 = .ok (.iand, 1) := by decide +kernel
theorem dX6_shift_130 : decode cX6_shift 130 = .ok (.iconst 1, 1) := by decide +kernel
theorem dX6_shift_131 : decode cX6_shift 131 = .ok (.iload_n 3, 1) := by decide +kernel
theorem dX6_shift_132 : decode cX6_shift 132 = .ok (.ishl, 1) := by decide +kernel
theorem dX6_shift_133 : decode cX6_shift 133 = .ok (.ior, 1) := by decide +kernel
theorem dX6_shift_134 : decode cX6_shift 134 = .ok (.iastore, 1) := by decide +kernel
theorem dX6_shift_135 : decode cX6_shift 135 = .ok (.return_, 1) := by decide +kernel
theorem dX6_hasBucket_0 : decode cX6_hasBucket 0 = .ok (.iload_n 1, 1) := by decide +kernel
theorem dX6_hasBucket_1 : decode cX6_hasBucket 1 = .ok (.ifCond .lt 21, 3) := by decide +kernel
theorem dX6_hasBucket_4 : decode cX6_hasBucket 4 = .ok (.iload_n 1, 1) := by decide +kernel
theorem dX6_hasBucket_5 : decode cX6_hasBucket 5 = .ok (.aload_n 0, 1) := by decide +kernel
theorem dX6_hasBucket_6 : decode cX6_hasBucket 6 = .ok (.getfield 64, 3) := by decide +kernel
theorem dX6_hasBucket_9 : decode cX6_hasBucket 9 = .ok (.if_icmp .ge 13, 3) := by decide +kernel
theorem dX6_hasBucket_12 : decode cX6_hasBucket 12 = .ok (.iload_n 1, 1) := by decide +kernel
theorem dX6_hasBucket_13 : decode cX6_hasBucket 13 = .ok (.bipush 64, 2) := by decide +kernel
theorem dX6_hasBucket_15 : decode cX6_hasBucket 15 = .ok (.if_icmp .ge 7, 3) := by decide +kernel
theorem dX6_hasBucket_18 : decode cX6_hasBucket 18 = .ok (.iconst 1, 1) := by decide +kernel
theorem dX6_hasBucket_19 : decode cX6_hasBucket 19 = .ok (.goto 4, 3) := by decide +kernel
theorem dX6_hasBucket_22 : decode cX6_hasBucket 22 = .ok (.iconst 0, 1) := by decide +kernel
theorem dX6_hasBucket_23 : decode cX6_hasBucket 23 = .ok (.ireturn, 1) := by decide +kernel
theorem dX6_keyIn_0 : decode cX6_keyIn 0 = .ok (.iload_n 1, 1) := by decide +kernel
theorem dX6_keyIn_1 : decode cX6_keyIn 1 = .ok (.ifCond .lt 26, 3) := by decide +kernel
theorem dX6_keyIn_4 : decode cX6_keyIn 4 = .ok (.iload_n 1, 1) := by decide +kernel
theorem dX6_keyIn_5 : decode cX6_keyIn 5 = .ok (.aload_n 0, 1) := by decide +kernel
theorem dX6_keyIn_6 : decode cX6_keyIn 6 = .ok (.getfield 64, 3) := by decide +kernel
theorem dX6_keyIn_9 : decode cX6_keyIn 9 = .ok (.if_icmp .ge 18, 3) := by decide +kernel
theorem dX6_keyIn_12 : decode cX6_keyIn 12 = .ok (.iload_n 1, 1) := by decide +kernel
theorem dX6_keyIn_13 : decode cX6_keyIn 13 = .ok (.bipush 64, 2) := by decide +kernel
theorem dX6_keyIn_15 : decode cX6_keyIn 15 = .ok (.if_icmp .ge 12, 3) := by decide +kernel
theorem dX6_keyIn_18 : decode cX6_keyIn 18 = .ok (.aload_n 0, 1) := by decide +kernel
theorem dX6_keyIn_19 : decode cX6_keyIn 19 = .ok (.getfield 9, 3) := by decide +kernel
theorem dX6_keyIn_22 : decode cX6_keyIn 22 = .ok (.iload_n 1, 1) := by decide +kernel
theorem dX6_keyIn_23 : decode cX6_keyIn 23 = .ok (.iaload, 1) := by decide +kernel
theorem dX6_keyIn_24 : decode cX6_keyIn 24 = .ok (.goto 4, 3) := by decide +kernel
theorem dX6_keyIn_27 : decode cX6_keyIn 27 = .ok (.iconst (-1), 1) := by decide +kernel
theorem dX6_keyIn_28 : decode cX6_keyIn 28 = .ok (.ireturn, 1) := by decide +kernel
theorem dX6_valueIn_0 : decode cX6_valueIn 0 = .ok (.iload_n 1, 1) := by decide +kernel
theorem dX6_valueIn_1 : decode cX6_valueIn 1 = .ok (.ifCond .lt 26, 3) := by decide +kernel
theorem dX6_valueIn_4 : decode cX6_valueIn 4 = .ok (.iload_n 1, 1) := by decide +kernel
theorem dX6_valueIn_5 : decode cX6_valueIn 5 = .ok (.aload_n 0, 1) := by decide +kernel
theorem dX6_valueIn_6 : decode cX6_valueIn 6 = .ok (.getfield 64, 3) := by decide +kernel
theorem dX6_valueIn_9 : decode cX6_valueIn 9 = .ok (.if_icmp .ge 18, 3) := by decide +kernel
theorem dX6_valueIn_12 : decode cX6_valueIn 12 = .ok (.iload_n 1, 1) := by decide +kernel
theorem dX6_valueIn_13 : decode cX6_valueIn 13 = .ok (.bipush 64, 2) := by decide +kernel
theorem dX6_valueIn_15 : decode cX6_valueIn 15 = .ok (.if_icmp .ge 12, 3) := by decide +kernel
theorem dX6_valueIn_18 : decode cX6_valueIn 18 = .ok (.aload_n 0, 1) := by decide +kernel
theorem dX6_valueIn_19 : decode cX6_valueIn 19 = .ok (.getfield 15, 3) := by decide +kernel
theorem dX6_valueIn_22 : decode cX6_valueIn 22 = .ok (.iload_n 1, 1) := by decide +kernel
theorem dX6_valueIn_23 : decode cX6_valueIn 23 = .ok (.iaload, 1) := by decide +kernel
theorem dX6_valueIn_24 : decode cX6_valueIn 24 = .ok (.goto 4, 3) := by decide +kernel
theorem dX6_valueIn_27 : decode cX6_valueIn 27 = .ok (.iconst (-1), 1) := by decide +kernel
theorem dX6_valueIn_28 : decode cX6_valueIn 28 = .ok (.ireturn, 1) := by decide +kernel
theorem dX6_hopsIn_0 : decode cX6_hopsIn 0 = .ok (.iload_n 1, 1) := by decide +kernel
theorem dX6_hopsIn_1 : decode cX6_hopsIn 1 = .ok (.ifCond .lt 26, 3) := by decide +kernel
theorem dX6_hopsIn_4 : decode cX6_hopsIn 4 = .ok (.iload_n 1, 1) := by decide +kernel
theorem dX6_hopsIn_5 : decode cX6_hopsIn 5 = .ok (.aload_n 0, 1) := by decide +kernel
theorem dX6_hopsIn_6 : decode cX6_hopsIn 6 = .ok (.getfield 64, 3) := by decide +kernel
theorem dX6_hopsIn_9 : decode cX6_hopsIn 9 = .ok (.if_icmp .ge 18, 3) := by decide +kernel
theorem dX6_hopsIn_12 : decode cX6_hopsIn 12 = .ok (.iload_n 1, 1) := by decide +kernel
theorem dX6_hopsIn_13 : decode cX6_hopsIn 13 = .ok (.bipush 64, 2) := by decide +kernel
theorem dX6_hopsIn_15 : decode cX6_hopsIn 15 = .ok (.if_icmp .ge 12, 3) := by decide +kernel
theorem dX6_hopsIn_18 : decode cX6_hopsIn 18 = .ok (.aload_n 0, 1) := by decide +kernel
theorem dX6_hopsIn_19 : decode cX6_hopsIn 19 = .ok (.getfield 18, 3) := by decide +kernel
theorem dX6_hopsIn_22 : decode cX6_hopsIn 22 = .ok (.iload_n 1, 1) := by decide +kernel
theorem dX6_hopsIn_23 : decode cX6_hopsIn 23 = .ok (.iaload, 1) := by decide +kernel
theorem dX6_hopsIn_24 : decode cX6_hopsIn 24 = .ok (.goto 4, 3) := by decide +kernel
theorem dX6_hopsIn_27 : decode cX6_hopsIn 27 = .ok (.iconst 0, 1) := by decide +kernel
theorem dX6_hopsIn_28 : decode cX6_hopsIn 28 = .ok (.ireturn, 1) := by decide +kernel
theorem dX6_stepsToFree_0 : decode cX6_stepsToFree 0 = .ok (.iconst 0, 1) := by decide +kernel
theorem dX6_stepsToFree_1 : decode cX6_stepsToFree 1 = .ok (.istore_n 2, 1) := by decide +kernel
theorem dX6_stepsToFree_2 : decode cX6_stepsToFree 2 = .ok (.iload_n 2, 1) := by decide +kernel
theorem dX6_stepsToFree_3 : decode cX6_stepsToFree 3 = .ok (.aload_n 0, 1) := by decide +kernel
theorem dX6_stepsToFree_4 : decode cX6_stepsToFree 4 = .ok (.getfield 64, 3) := by decide +kernel
theorem dX6_stepsToFree_7 : decode cX6_stepsToFree 7 = .ok (.if_icmp .ge 29, 3) := by decide +kernel
theorem dX6_stepsToFree_10 : decode cX6_stepsToFree 10 = .ok (.aload_n 0, 1) := by decide +kernel
theorem dX6_stepsToFree_11 : decode cX6_stepsToFree 11 = .ok (.iload_n 1, 1) := by decide +kernel
theorem dX6_stepsToFree_12 : decode cX6_stepsToFree 12 = .ok (.iload_n 2, 1) := by decide +kernel
theorem dX6_stepsToFree_13 : decode cX6_stepsToFree 13 = .ok (.iadd, 1) := by decide +kernel
theorem dX6_stepsToFree_14 : decode cX6_stepsToFree 14 = .ok (.aload_n 0, 1) := by decide +kernel
theorem dX6_stepsToFree_15 : decode cX6_stepsToFree 15 = .ok (.getfield 64, 3) := by decide +kernel
theorem dX6_stepsToFree_18 : decode cX6_stepsToFree 18 = .ok (.iconst 1, 1) := by decide +kernel
theorem dX6_stepsToFree_19 : decode cX6_stepsToFree 19 = .ok (.isub, 1) := by decide +kernel
theorem dX6_stepsToFree_20 : decode cX6_stepsToFree 20 = .ok (.iand, 1) := by decide +kernel
theorem dX6_stepsToFree_21 : decode cX6_stepsToFree 21 = .ok (.invokevirtual 124, 3) := by decide +kernel
theorem dX6_stepsToFree_24 : decode cX6_stepsToFree 24 = .ok (.iconst (-1), 1) := by decide +kernel
theorem dX6_stepsToFree_25 : decode cX6_stepsToFree 25 = .ok (.if_icmp .ne 5, 3) := by decide +kernel
theorem dX6_stepsToFree_28 : decode cX6_stepsToFree 28 = .ok (.iload_n 2, 1) := by decide +kernel
theorem dX6_stepsToFree_29 : decode cX6_stepsToFree 29 = .ok (.ireturn, 1) := by decide +kernel
theorem dX6_stepsToFree_30 : decode cX6_stepsToFree 30 = .ok (.iinc 2 1, 3) := by decide +kernel
theorem dX6_stepsToFree_33 : decode cX6_stepsToFree 33 = .ok (.goto (-31), 3) := by decide +kernel
theorem dX6_stepsToFree_36 : decode cX6_stepsToFree 36 = .ok (.iconst (-1), 1) := by decide +kernel
theorem dX6_stepsToFree_37 : decode cX6_stepsToFree 37 = .ok (.ireturn, 1) := by decide +kernel
theorem dX6_homeFor_0 : decode cX6_homeFor 0 = .ok (.iload_n 1, 1) := by decide +kernel
theorem dX6_homeFor_1 : decode cX6_homeFor 1 = .ok (.aload_n 0, 1) := by decide +kernel
theorem dX6_homeFor_2 : decode cX6_homeFor 2 = .ok (.getfield 35, 3) := by decide +kernel
theorem dX6_homeFor_5 : decode cX6_homeFor 5 = .ok (.imul, 1) := by decide +kernel
theorem dX6_homeFor_6 : decode cX6_homeFor 6 = .ok (.sipush 997, 3) := by decide +kernel
theorem dX6_homeFor_9 : decode cX6_homeFor 9 = .ok (.irem, 1) := by decide +kernel
theorem dX6_homeFor_10 : decode cX6_homeFor 10 = .ok (.aload_n 0, 1) := by decide +kernel
theorem dX6_homeFor_11 : decode cX6_homeFor 11 = .ok (.getfield 64, 3) := by decide +kernel
theorem dX6_homeFor_14 : decode cX6_homeFor 14 = .ok (.iconst 1, 1) := by decide +kernel
theorem dX6_homeFor_15 : decode cX6_homeFor 15 = .ok (.isub, 1) := by decide +kernel
theorem dX6_homeFor_16 : decode cX6_homeFor 16 = .ok (.iand, 1) := by decide +kernel
theorem dX6_homeFor_17 : decode cX6_homeFor 17 = .ok (.ireturn, 1) := by decide +kernel
theorem dX6_bucketWith_0 : decode cX6_bucketWith 0 = .ok (.aload_n 0, 1) := by decide +kernel
theorem dX6_bucketWith_1 : decode cX6_bucketWith 1 = .ok (.iload_n 1, 1) := by decide +kernel
theorem dX6_bucketWith_2 : decode cX6_bucketWith 2 = .ok (.invokevirtual 94, 3) := by decide +kernel
theorem dX6_bucketWith_5 : decode cX6_bucketWith 5 = .ok (.istore_n 2, 1) := by decide +kernel
theorem dX6_bucketWith_6 : decode cX6_bucketWith 6 = .ok (.iconst 0, 1) := by decide +kernel
theorem dX6_bucketWith_7 : decode cX6_bucketWith 7 = .ok (.istore_n 3, 1) := by decide +kernel
theorem dX6_bucketWith_8 : decode cX6_bucketWith 8 = .ok (.iload_n 3, 1) := by decide +kernel
theorem dX6_bucketWith_9 : decode cX6_bucketWith 9 = .ok (.aload_n 0, 1) := by decide +kernel
theorem dX6_bucketWith_10 : decode cX6_bucketWith 10 = .ok (.getfield 31, 3) := by decide +kernel
theorem dX6_bucketWith_13 : decode cX6_bucketWith 13 = .ok (.if_icmp .ge 46, 3) := by decide +kernel
theorem dX6_bucketWith_16 : decode cX6_bucketWith 16 = .ok (.iload_n 2, 1) := by decide +kernel
theorem dX6_bucketWith_17 : decode cX6_bucketWith 17 = .ok (.iload_n 3, 1) := by decide +kernel
theorem dX6_bucketWith_18 : decode cX6_bucketWith 18 = .ok (.iadd, 1) := by decide +kernel
theorem dX6_bucketWith_19 : decode cX6_bucketWith 19 = .ok (.aload_n 0, 1) := by decide +kernel
theorem dX6_bucketWith_20 : decode cX6_bucketWith 20 = .ok (.getfield 64, 3) := by decide +kernel
theorem dX6_bucketWith_23 : decode cX6_bucketWith 23 = .ok (.iconst 1, 1) := by decide +kernel
theorem dX6_bucketWith_24 : decode cX6_bucketWith 24 = .ok (.isub, 1) := by decide +kernel
theorem dX6_bucketWith_25 : decode cX6_bucketWith 25 = .ok (.iand, 1) := by decide +kernel
theorem dX6_bucketWith_26 : decode cX6_bucketWith 26 = .ok (.istore 4, 2) := by decide +kernel
theorem dX6_bucketWith_28 : decode cX6_bucketWith 28 = .ok (.aload_n 0, 1) := by decide +kernel
theorem dX6_bucketWith_29 : decode cX6_bucketWith 29 = .ok (.iload_n 2, 1) := by decide +kernel
theorem dX6_bucketWith_30 : decode cX6_bucketWith 30 = .ok (.invokevirtual 115, 3) := by decide +kernel
theorem dX6_bucketWith_33 : decode cX6_bucketWith 33 = .ok (.iload_n 3, 1) := by decide +kernel
theorem dX6_bucketWith_34 : decode cX6_bucketWith 34 = .ok (.ishr, 1) := by decide +kernel
theorem dX6_bucketWith_35 : decode cX6_bucketWith 35 = .ok (.iconst 1, 1) := by decide +kernel
theorem dX6_bucketWith_36 : decode cX6_bucketWith 36 = .ok (.iand, 1) := by decide +kernel
theorem dX6_bucketWith_37 : decode cX6_bucketWith 37 = .ok (.ifCond .eq 16, 3) := by decide +kernel
theorem dX6_bucketWith_40 : decode cX6_bucketWith 40 = .ok (.aload_n 0, 1) := by decide +kernel
theorem dX6_bucketWith_41 : decode cX6_bucketWith 41 = .ok (.iload 4, 2) := by decide +kernel
theorem dX6_bucketWith_43 : decode cX6_bucketWith 43 = .ok (.invokevirtual 124, 3) := by decide +kernel
theorem dX6_bucketWith_46 : decode cX6_bucketWith 46 = .ok (.iload_n 1, 1) := by decide +kernel
theorem dX6_bucketWith_47 : decode cX6_bucketWith 47 = .ok (.if_icmp .ne 6, 3) := by decide +kernel
theorem dX6_bucketWith_50 : decode cX6_bucketWith 50 = .ok (.iload 4, 2) := by decide +kernel
theorem dX6_bucketWith_52 : decode cX6_bucketWith 52 = .ok (.ireturn, 1) := by decide +kernel
theorem dX6_bucketWith_53 : decode cX6_bucketWith 53 = .ok (.iinc 3 1, 3) := by decide +kernel
theorem dX6_bucketWith_56 : decode cX6_bucketWith 56 = .ok (.goto (-48), 3) := by decide +kernel
theorem dX6_bucketWith_59 : decode cX6_bucketWith 59 = .ok (.iconst (-1), 1) := by decide +kernel
theorem dX6_bucketWith_60 : decode cX6_bucketWith 60 = .ok (.ireturn, 1) := by decide +kernel
theorem dX6_stepsFromHome_0 : decode cX6_stepsFromHome 0 = .ok (.aload_n 0, 1) := by decide +kernel
theorem dX6_stepsFromHome_1 : decode cX6_stepsFromHome 1 = .ok (.iload_n 1, 1) := by decide +kernel
theorem dX6_stepsFromHome_2 : decode cX6_stepsFromHome 2 = .ok (.invokevirtual 124, 3) := by decide +kernel
theorem dX6_stepsFromHome_5 : decode cX6_stepsFromHome 5 = .ok (.istore_n 2, 1) := by decide +kernel
theorem dX6_stepsFromHome_6 : decode cX6_stepsFromHome 6 = .ok (.iload_n 2, 1) := by decide +kernel
theorem dX6_stepsFromHome_7 : decode cX6_stepsFromHome 7 = .ok (.iconst (-1), 1) := by decide +kernel
theorem dX6_stepsFromHome_8 : decode cX6_stepsFromHome 8 = .ok (.if_icmp .ne 7, 3) := by decide +kernel
theorem dX6_stepsFromHome_11 : decode cX6_stepsFromHome 11 = .ok (.iconst (-1), 1) := by decide +kernel
theorem dX6_stepsFromHome_12 : decode cX6_stepsFromHome 12 = .ok (.goto 17, 3) := by decide +kernel
theorem dX6_stepsFromHome_15 : decode cX6_stepsFromHome 15 = .ok (.iload_n 1, 1) := by decide +kernel
theorem dX6_stepsFromHome_16 : decode cX6_stepsFromHome 16 = .ok (.aload_n 0, 1) := by decide +kernel
theorem dX6_stepsFromHome_17 : decode cX6_stepsFromHome 17 = .ok (.iload_n 2, 1) := by decide +kernel
theorem dX6_stepsFromHome_18 : decode cX6_stepsFromHome 18 = .ok (.invokevirtual 94, 3) := by decide +kernel
theorem dX6_stepsFromHome_21 : decode cX6_stepsFromHome 21 = .ok (.isub, 1) := by decide +kernel
theorem dX6_stepsFromHome_22 : decode cX6_stepsFromHome 22 = .ok (.aload_n 0, 1) := by decide +kernel
theorem dX6_stepsFromHome_23 : decode cX6_stepsFromHome 23 = .ok (.getfield 64, 3) := by decide +kernel
theorem dX6_stepsFromHome_26 : decode cX6_stepsFromHome 26 = .ok (.iconst 1, 1) := by decide +kernel
theorem dX6_stepsFromHome_27 : decode cX6_stepsFromHome 27 = .ok (.isub, 1) := by decide +kernel
theorem dX6_stepsFromHome_28 : decode cX6_stepsFromHome 28 = .ok (.iand, 1) := by decide +kernel
theorem dX6_stepsFromHome_29 : decode cX6_stepsFromHome 29 = .ok (.ireturn, 1) := by decide +kernel
theorem dX6_mostSteps_0 : decode cX6_mostSteps 0 = .ok (.iconst 0, 1) := by decide +kernel
theorem dX6_mostSteps_1 : decode cX6_mostSteps 1 = .ok (.istore_n 1, 1) := by decide +kernel
theorem dX6_mostSteps_2 : decode cX6_mostSteps 2 = .ok (.iconst 0, 1) := by decide +kernel
theorem dX6_mostSteps_3 : decode cX6_mostSteps 3 = .ok (.istore_n 2, 1) := by decide +kernel
theorem dX6_mostSteps_4 : decode cX6_mostSteps 4 = .ok (.iload_n 2, 1) := by decide +kernel
theorem dX6_mostSteps_5 : decode cX6_mostSteps 5 = .ok (.aload_n 0, 1) := by decide +kernel
theorem dX6_mostSteps_6 : decode cX6_mostSteps 6 = .ok (.getfield 64, 3) := by decide +kernel
theorem dX6_mostSteps_9 : decode cX6_mostSteps 9 = .ok (.if_icmp .ge 19, 3) := by decide +kernel
theorem dX6_mostSteps_12 : decode cX6_mostSteps 12 = .ok (.iload_n 1, 1) := by decide +kernel
theorem dX6_mostSteps_13 : decode cX6_mostSteps 13 = .ok (.aload_n 0, 1) := by decide +kernel
theorem dX6_mostSteps_14 : decode cX6_mostSteps 14 = .ok (.iload_n 2, 1) := by decide +kernel
theorem dX6_mostSteps_15 : decode cX6_mostSteps 15 = .ok (.invokevirtual 97, 3) := by decide +kernel
theorem dX6_mostSteps_18 : decode cX6_mostSteps 18 = .ok (.invokestatic 127, 3) := by decide +kernel
theorem dX6_mostSteps_21 : decode cX6_mostSteps 21 = .ok (.istore_n 1, 1) := by decide +kernel
theorem dX6_mostSteps_22 : decode cX6_mostSteps 22 = .ok (.iinc 2 1, 3) := by decide +kernel
theorem dX6_mostSteps_25 : decode cX6_mostSteps 25 = .ok (.goto (-21), 3) := by decide +kernel
theorem dX6_mostSteps_28 : decode cX6_mostSteps 28 = .ok (.iload_n 1, 1) := by decide +kernel
theorem dX6_mostSteps_29 : decode cX6_mostSteps 29 = .ok (.ireturn, 1) := by decide +kernel
theorem dX6_sumOfSteps_0 : decode cX6_sumOfSteps 0 = .ok (.iconst 0, 1) := by decide +kernel
theorem dX6_sumOfSteps_1 : decode cX6_sumOfSteps 1 = .ok (.istore_n 1, 1) := by decide +kernel
theorem dX6_sumOfSteps_2 : decode cX6_sumOfSteps 2 = .ok (.iconst 0, 1) := by decide +kernel
theorem dX6_sumOfSteps_3 : decode cX6_sumOfSteps 3 = .ok (.istore_n 2, 1) := by decide +kernel
theorem dX6_sumOfSteps_4 : decode cX6_sumOfSteps 4 = .ok (.iload_n 2, 1) := by decide +kernel
theorem dX6_sumOfSteps_5 : decode cX6_sumOfSteps 5 = .ok (.aload_n 0, 1) := by decide +kernel
theorem dX6_sumOfSteps_6 : decode cX6_sumOfSteps 6 = .ok (.getfield 64, 3) := by decide +kernel
theorem dX6_sumOfSteps_9 : decode cX6_sumOfSteps 9 = .ok (.if_icmp .ge 21, 3) := by decide +kernel
theorem dX6_sumOfSteps_12 : decode cX6_sumOfSteps 12 = .ok (.iload_n 1, 1) := by decide +kernel
theorem dX6_sumOfSteps_13 : decode cX6_sumOfSteps 13 = .ok (.iconst 0, 1) := by decide +kernel
theorem dX6_sumOfSteps_14 : decode cX6_sumOfSteps 14 = .ok (.aload_n 0, 1) := by decide +kernel
theorem dX6_sumOfSteps_15 : decode cX6_sumOfSteps 15 = .ok (.iload_n 2, 1) := by decide +kernel
theorem dX6_sumOfSteps_16 : decode cX6_sumOfSteps 16 = .ok (.invokevirtual 97, 3) := by decide +kernel
theorem dX6_sumOfSteps_19 : decode cX6_sumOfSteps 19 = .ok (.invokestatic 127, 3) := by decide +kernel
theorem dX6_sumOfSteps_22 : decode cX6_sumOfSteps 22 = .ok (.iadd, 1) := by decide +kernel
theorem dX6_sumOfSteps_23 : decode cX6_sumOfSteps 23 = .ok (.istore_n 1, 1) := by decide +kernel
theorem dX6_sumOfSteps_24 : decode cX6_sumOfSteps 24 = .ok (.iinc 2 1, 3) := by decide +kernel
theorem dX6_sumOfSteps_27 : decode cX6_sumOfSteps 27 = .ok (.goto (-23), 3) := by decide +kernel
theorem dX6_sumOfSteps_30 : decode cX6_sumOfSteps 30 = .ok (.iload_n 1, 1) := by decide +kernel
theorem dX6_sumOfSteps_31 : decode cX6_sumOfSteps 31 = .ok (.ireturn, 1) := by decide +kernel
theorem dX6_strayEntries_0 : decode cX6_strayEntries 0 = .ok (.iconst 0, 1) := by decide +kernel
theorem dX6_strayEntries_1 : decode cX6_strayEntries 1 = .ok (.istore_n 1, 1) := by decide +kernel
theorem dX6_strayEntries_2 : decode cX6_strayEntries 2 = .ok (.iconst 0, 1) := by decide +kernel
theorem dX6_strayEntries_3 : decode cX6_strayEntries 3 = .ok (.istore_n 2, 1) := by decide +kernel
theorem dX6_strayEntries_4 : decode cX6_strayEntries 4 = .ok (.iload_n 2, 1) := by decide +kernel
theorem dX6_strayEntries_5 : decode cX6_strayEntries 5 = .ok (.aload_n 0, 1) := by decide +kernel
theorem dX6_strayEntries_6 : decode cX6_strayEntries 6 = .ok (.getfield 64, 3) := by decide +kernel
theorem dX6_strayEntries_9 : decode cX6_strayEntries 9 = .ok (.if_icmp .ge 24, 3) := by decide +kernel
theorem dX6_strayEntries_12 : decode cX6_strayEntries 12 = .ok (.aload_n 0, 1) := by decide +kernel
theorem dX6_strayEntries_13 : decode cX6_strayEntries 13 = .ok (.iload_n 2, 1) := by decide +kernel
theorem dX6_strayEntries_14 : decode cX6_strayEntries 14 = .ok (.invokevirtual 97, 3) := by decide +kernel
theorem dX6_strayEntries_17 : decode cX6_strayEntries 17 = .ok (.aload_n 0, 1) := by decide +kernel
theorem dX6_strayEntries_18 : decode cX6_strayEntries 18 = .ok (.getfield 31, 3) := by decide +kernel
theorem dX6_strayEntries_21 : decode cX6_strayEntries 21 = .ok (.if_icmp .lt 6, 3) := by decide +kernel
theorem dX6_strayEntries_24 : decode cX6_strayEntries 24 = .ok (.iinc 1 1, 3) := by decide +kernel
theorem dX6_strayEntries_27 : decode cX6_strayEntries 27 = .ok (.iinc 2 1, 3) := by decide +kernel
theorem dX6_strayEntries_30 : decode cX6_strayEntries 30 = .ok (.goto (-26), 3) := by decide +kernel
theorem dX6_strayEntries_33 : decode cX6_strayEntries 33 = .ok (.iload_n 1, 1) := by decide +kernel
theorem dX6_strayEntries_34 : decode cX6_strayEntries 34 = .ok (.ireturn, 1) := by decide +kernel
theorem dX6_wrongHops_0 : decode cX6_wrongHops 0 = .ok (.iconst 0, 1) := by decide +kernel
theorem dX6_wrongHops_1 : decode cX6_wrongHops 1 = .ok (.istore_n 1, 1) := by decide +kernel
theorem dX6_wrongHops_2 : decode cX6_wrongHops 2 = .ok (.iconst 0, 1) := by decide +kernel
theorem dX6_wrongHops_3 : decode cX6_wrongHops 3 = .ok (.istore_n 2, 1) := by decide +kernel
theorem dX6_wrongHops_4 : decode cX6_wrongHops 4 = .ok (.iload_n 2, 1) := by decide +kernel
theorem dX6_wrongHops_5 : decode cX6_wrongHops 5 = .ok (.aload_n 0, 1) := by decide +kernel
theorem dX6_wrongHops_6 : decode cX6_wrongHops 6 = .ok (.getfield 64, 3) := by decide +kernel
theorem dX6_wrongHops_9 : decode cX6_wrongHops 9 = .ok (.if_icmp .ge 109, 3) := by decide +kernel
theorem dX6_wrongHops_12 : decode cX6_wrongHops 12 = .ok (.iconst 0, 1) := by decide +kernel
theorem dX6_wrongHops_13 : decode cX6_wrongHops 13 = .ok (.istore_n 3, 1) := by decide +kernel
theorem dX6_wrongHops_14 : decode cX6_wrongHops 14 = .ok (.iload_n 3, 1) := by decide +kernel
theorem dX6_wrongHops_15 : decode cX6_wrongHops 15 = .ok (.aload_n 0, 1) := by decide +kernel
theorem dX6_wrongHops_16 : decode cX6_wrongHops 16 = .ok (.getfield 31, 3) := by decide +kernel
theorem dX6_wrongHops_19 : decode cX6_wrongHops 19 = .ok (.if_icmp .ge 77, 3) := by decide +kernel
theorem dX6_wrongHops_22 : decode cX6_wrongHops 22 = .ok (.aload_n 0, 1) := by decide +kernel
theorem dX6_wrongHops_23 : decode cX6_wrongHops 23 = .ok (.iload_n 2, 1) := by decide +kernel
theorem dX6_wrongHops_24 : decode cX6_wrongHops 24 = .ok (.iload_n 3, 1) := by decide +kernel
theorem dX6_wrongHops_25 : decode cX6_wrongHops 25 = .ok (.iadd, 1) := by decide +kernel
theorem dX6_wrongHops_26 : decode cX6_wrongHops 26 = .ok (.aload_n 0, 1) := by decide +kernel
theorem dX6_wrongHops_27 : decode cX6_wrongHops 27 = .ok (.getfield 64, 3) := by decide +kernel
theorem dX6_wrongHops_30 : decode cX6_wrongHops 30 = .ok (.iconst 1, 1) := by decide +kernel
theorem dX6_wrongHops_31 : decode cX6_wrongHops 31 = .ok (.isub, 1) := by decide +kernel
theorem dX6_wrongHops_32 : decode cX6_wrongHops 32 = .ok (.iand, 1) := by decide +kernel
theorem dX6_wrongHops_33 : decode cX6_wrongHops 33 = .ok (.invokevirtual 124, 3) := by decide +kernel
theorem dX6_wrongHops_36 : decode cX6_wrongHops 36 = .ok (.istore 4, 2) := by decide +kernel
theorem dX6_wrongHops_38 : decode cX6_wrongHops 38 = .ok (.iload 4, 2) := by decide +kernel
theorem dX6_wrongHops_40 : decode cX6_wrongHops 40 = .ok (.iconst (-1), 1) := by decide +kernel
theorem dX6_wrongHops_41 : decode cX6_wrongHops 41 = .ok (.if_icmp .eq 17, 3) := by decide +kernel
theorem dX6_wrongHops_44 : decode cX6_wrongHops 44 = .ok (.aload_n 0, 1) := by decide +kernel
theorem dX6_wrongHops_45 : decode cX6_wrongHops 45 = .ok (.iload 4, 2) := by decide +kernel
theorem dX6_wrongHops_47 : decode cX6_wrongHops 47 = .ok (.invokevirtual 94, 3) := by decide +kernel
theorem dX6_wrongHops_50 : decode cX6_wrongHops 50 = .ok (.iload_n 2, 1) := by decide +kernel
theorem dX6_wrongHops_51 : decode cX6_wrongHops 51 = .ok (.if_icmp .ne 7, 3) := by decide +kernel
theorem dX6_wrongHops_54 : decode cX6_wrongHops 54 = .ok (.iconst 1, 1) := by decide +kernel
theorem dX6_wrongHops_55 : decode cX6_wrongHops 55 = .ok (.goto 4, 3) := by decide +kernel
theorem dX6_wrongHops_58 : decode cX6_wrongHops 58 = .ok (.iconst 0, 1) := by decide +kernel
theorem dX6_wrongHops_59 : decode cX6_wrongHops 59 = .ok (.istore 5, 2) := by decide +kernel
theorem dX6_wrongHops_61 : decode cX6_wrongHops 61 = .ok (.aload_n 0, 1) := by decide +kernel
theorem dX6_wrongHops_62 : decode cX6_wrongHops 62 = .ok (.iload_n 2, 1) := by decide +kernel
theorem dX6_wrongHops_63 : decode cX6_wrongHops 63 = .ok (.invokevirtual 115, 3) := by decide +kernel
theorem dX6_wrongHops_66 : decode cX6_wrongHops 66 = .ok (.iload_n 3, 1) := by decide +kernel
theorem dX6_wrongHops_67 : decode cX6_wrongHops 67 = .ok (.ishr, 1) := by decide +kernel
theorem dX6_wrongHops_68 : decode cX6_wrongHops 68 = .ok (.iconst 1, 1) := by decide +kernel
theorem dX6_wrongHops_69 : decode cX6_wrongHops 69 = .ok (.iand, 1) := by decide +kernel
theorem dX6_wrongHops_70 : decode cX6_wrongHops 70 = .ok (.ifCond .eq 7, 3) := by decide +kernel
theorem dX6_wrongHops_73 : decode cX6_wrongHops 73 = .ok (.iconst 1, 1) := by decide +kernel
theorem dX6_wrongHops_74 : decode cX6_wrongHops 74 = .ok (.goto 4, 3) := by decide +kernel
theorem dX6_wrongHops_77 : decode cX6_wrongHops 77 = .ok (.iconst 0, 1) := by decide +kernel
theorem dX6_wrongHops_78 : decode cX6_wrongHops 78 = .ok (.istore 6, 2) := by decide +kernel
theorem dX6_wrongHops_80 : decode cX6_wrongHops 80 = .ok (.iload 5, 2) := by decide +kernel
theorem dX6_wrongHops_82 : decode cX6_wrongHops 82 = .ok (.iload 6, 2) := by decide +kernel
theorem dX6_wrongHops_84 : decode cX6_wrongHops 84 = .ok (.if_icmp .eq 6, 3) := by decide +kernel
theorem dX6_wrongHops_87 : decode cX6_wrongHops 87 = .ok (.iinc 1 1, 3) := by decide +kernel
theorem dX6_wrongHops_90 : decode cX6_wrongHops 90 = .ok (.iinc 3 1, 3) := by decide +kernel
theorem dX6_wrongHops_93 : decode cX6_wrongHops 93 = .ok (.goto (-79), 3) := by decide +kernel
theorem dX6_wrongHops_96 : decode cX6_wrongHops 96 = .ok (.iload_n 1, 1) := by decide +kernel
theorem dX6_wrongHops_97 : decode cX6_wrongHops 97 = .ok (.aload_n 0, 1) := by decide +kernel
theorem dX6_wrongHops_98 : decode cX6_wrongHops 98 = .ok (.iload_n 2, 1) := by decide +kernel
theorem dX6_wrongHops_99 : decode cX6_wrongHops 99 = .ok (.invokevirtual 115, 3) := by decide +kernel
theorem dX6_wrongHops_102 : decode cX6_wrongHops 102 = .ok (.aload_n 0, 1) := by decide +kernel
theorem dX6_wrongHops_103 : decode cX6_wrongHops 103 = .ok (.getfield 31, 3) := by decide +kernel
theorem dX6_wrongHops_106 : decode cX6_wrongHops 106 = .ok (.ishr, 1) := by decide +kernel
theorem dX6_wrongHops_107 : decode cX6_wrongHops 107 = .ok (.invokestatic 135, 3) := by decide +kernel
theorem dX6_wrongHops_110 : decode cX6_wrongHops 110 = .ok (.iadd, 1) := by decide +kernel
theorem dX6_wrongHops_111 : decode cX6_wrongHops 111 = .ok (.istore_n 1, 1) := by decide +kernel
theorem dX6_wrongHops_112 : decode cX6_wrongHops 112 = .ok (.iinc 2 1, 3) := by decide +kernel
theorem dX6_wrongHops_115 : decode cX6_wrongHops 115 = .ok (.goto (-111), 3) := by decide +kernel
theorem dX6_wrongHops_118 : decode cX6_wrongHops 118 = .ok (.iload_n 1, 1) := by decide +kernel
theorem dX6_wrongHops_119 : decode cX6_wrongHops 119 = .ok (.ireturn, 1) := by decide +kernel
theorem dX6_twins_0 : decode cX6_twins 0 = .ok (.iconst 0, 1) := by decide +kernel
theorem dX6_twins_1 : decode cX6_twins 1 = .ok (.istore_n 1, 1) := by decide +kernel
theorem dX6_twins_2 : decode cX6_twins 2 = .ok (.iconst 0, 1) := by decide +kernel
theorem dX6_twins_3 : decode cX6_twins 3 = .ok (.istore_n 2, 1) := by decide +kernel
theorem dX6_twins_4 : decode cX6_twins 4 = .ok (.iload_n 2, 1) := by decide +kernel
theorem dX6_twins_5 : decode cX6_twins 5 = .ok (.aload_n 0, 1) := by decide +kernel
theorem dX6_twins_6 : decode cX6_twins 6 = .ok (.getfield 64, 3) := by decide +kernel
theorem dX6_twins_9 : decode cX6_twins 9 = .ok (.if_icmp .ge 47, 3) := by decide +kernel
theorem dX6_twins_12 : decode cX6_twins 12 = .ok (.iconst 0, 1) := by decide +kernel
theorem dX6_twins_13 : decode cX6_twins 13 = .ok (.istore_n 3, 1) := by decide +kernel
theorem dX6_twins_14 : decode cX6_twins 14 = .ok (.iload_n 3, 1) := by decide +kernel
theorem dX6_twins_15 : decode cX6_twins 15 = .ok (.iload_n 2, 1) := by decide +kernel
theorem dX6_twins_16 : decode cX6_twins 16 = .ok (.if_icmp .ge 34, 3) := by decide +kernel
theorem dX6_twins_19 : decode cX6_twins 19 = .ok (.aload_n 0, 1) := by decide +kernel
theorem dX6_twins_20 : decode cX6_twins 20 = .ok (.iload_n 2, 1) := by decide +kernel
theorem dX6_twins_21 : decode cX6_twins 21 = .ok (.invokevirtual 124, 3) := by decide +kernel
theorem dX6_twins_24 : decode cX6_twins 24 = .ok (.iconst (-1), 1) := by decide +kernel
theorem dX6_twins_25 : decode cX6_twins 25 = .ok (.if_icmp .eq 19, 3) := by decide +kernel
theorem dX6_twins_28 : decode cX6_twins 28 = .ok (.aload_n 0, 1) := by decide +kernel
theorem dX6_twins_29 : decode cX6_twins 29 = .ok (.iload_n 2, 1) := by decide +kernel
theorem dX6_twins_30 : decode cX6_twins 30 = .ok (.invokevirtual 124, 3) := by decide +kernel
theorem dX6_twins_33 : decode cX6_twins 33 = .ok (.aload_n 0, 1) := by decide +kernel
theorem dX6_twins_34 : decode cX6_twins 34 = .ok (.iload_n 3, 1) := by decide +kernel
theorem dX6_twins_35 : decode cX6_twins 35 = .ok (.invokevirtual 124, 3) := by decide +kernel
theorem dX6_twins_38 : decode cX6_twins 38 = .ok (.if_icmp .ne 6, 3) := by decide +kernel
theorem dX6_twins_41 : decode cX6_twins 41 = .ok (.iinc 1 1, 3) := by decide +kernel
theorem dX6_twins_44 : decode cX6_twins 44 = .ok (.iinc 3 1, 3) := by decide +kernel
theorem dX6_twins_47 : decode cX6_twins 47 = .ok (.goto (-33), 3) := by decide +kernel
theorem dX6_twins_50 : decode cX6_twins 50 = .ok (.iinc 2 1, 3) := by decide +kernel
theorem dX6_twins_53 : decode cX6_twins 53 = .ok (.goto (-49), 3) := by decide +kernel
theorem dX6_twins_56 : decode cX6_twins 56 = .ok (.iload_n 1, 1) := by decide +kernel
theorem dX6_twins_57 : decode cX6_twins 57 = .ok (.ireturn, 1) := by decide +kernel
theorem dX7_init_0 : decode cX7_init 0 = .ok (.aload_n 0, 1) := by decide +kernel
theorem dX7_init_1 : decode cX7_init 1 = .ok (.invokespecial 1, 3) := by decide +kernel
theorem dX7_init_4 : decode cX7_init 4 = .ok (.aload_n 0, 1) := by decide +kernel
theorem dX7_init_5 : decode cX7_init 5 = .ok (.new 7, 3) := by decide +kernel
theorem dX7_init_8 : decode cX7_init 8 = .ok (.dup, 1) := by decide +kernel
theorem dX7_init_9 : decode cX7_init 9 = .ok (.invokespecial 9, 3) := by decide +kernel
theorem dX7_init_12 : decode cX7_init 12 = .ok (.putfield 10, 3) := by decide +kernel
theorem dX7_init_15 : decode cX7_init 15 = .ok (.aload_n 0, 1) := by decide +kernel
theorem dX7_init_16 : decode cX7_init 16 = .ok (.new 16, 3) := by decide +kernel
theorem dX7_init_19 : decode cX7_init 19 = .ok (.dup, 1) := by decide +kernel
theorem dX7_init_20 : decode cX7_init 20 = .ok (.aload_n 0, 1) := by decide +kernel
theorem dX7_init_21 : decode cX7_init 21 = .ok (.getfield 10, 3) := by decide +kernel
theorem dX7_init_24 : decode cX7_init 24 = .ok (.invokespecial 18, 3) := by decide +kernel
theorem dX7_init_27 : decode cX7_init 27 = .ok (.putfield 21, 3) := by decide +kernel
theorem dX7_init_30 : decode cX7_init 30 = .ok (.aload_n 0, 1) := by decide +kernel
theorem dX7_init_31 : decode cX7_init 31 = .ok (.new 25, 3) := by decide +kernel
theorem dX7_init_34 : decode cX7_init 34 = .ok (.dup, 1) := by decide +kernel
theorem dX7_init_35 : decode cX7_init 35 = .ok (.invokespecial 27, 3) := by decide +kernel
theorem dX7_init_38 : decode cX7_init 38 = .ok (.putfield 28, 3) := by decide +kernel
theorem dX7_init_41 : decode cX7_init 41 = .ok (.aload_n 0, 1) := by decide +kernel
theorem dX7_init_42 : decode cX7_init 42 = .ok (.new 25, 3) := by decide +kernel
theorem dX7_init_45 : decode cX7_init 45 = .ok (.dup, 1) := by decide +kernel
theorem dX7_init_46 : decode cX7_init 46 = .ok (.invokespecial 27, 3) := by decide +kernel
theorem dX7_init_49 : decode cX7_init 49 = .ok (.putfield 32, 3) := by decide +kernel
theorem dX7_init_52 : decode cX7_init 52 = .ok (.aload_n 0, 1) := by decide +kernel
theorem dX7_init_53 : decode cX7_init 53 = .ok (.new 25, 3) := by decide +kernel
theorem dX7_init_56 : decode cX7_init 56 = .ok (.dup, 1) := by decide +kernel
theorem dX7_init_57 : decode cX7_init 57 = .ok (.invokespecial 27, 3) := by decide +kernel
theorem dX7_init_60 : decode cX7_init 60 = .ok (.putfield 35, 3) := by decide +kernel
theorem dX7_init_63 : decode cX7_init 63 = .ok (.aload_n 0, 1) := by decide +kernel
theorem dX7_init_64 : decode cX7_init 64 = .ok (.iconst 0, 1) := by decide +kernel
theorem dX7_init_65 : decode cX7_init 65 = .ok (.putfield 38, 3) := by decide +kernel
theorem dX7_init_68 : decode cX7_init 68 = .ok (.aload_n 0, 1) := by decide +kernel
theorem dX7_init_69 : decode cX7_init 69 = .ok (.new 42, 3) := by decide +kernel
theorem dX7_init_72 : decode cX7_init 72 = .ok (.dup, 1) := by decide +kernel
theorem dX7_init_73 : decode cX7_init 73 = .ok (.invokespecial 44, 3) := by decide +kernel
theorem dX7_init_76 : decode cX7_init 76 = .ok (.putfield 45, 3) := by decide +kernel
theorem dX7_init_79 : decode cX7_init 79 = .ok (.aload_n 0, 1) := by decide +kernel
theorem dX7_init_80 : decode cX7_init 80 = .ok (.new 49, 3) := by decide +kernel
theorem dX7_init_83 : decode cX7_init 83 = .ok (.dup, 1) := by decide +kernel
theorem dX7_init_84 : decode cX7_init 84 = .ok (.invokespecial 51, 3) := by decide +kernel
theorem dX7_init_87 : decode cX7_init 87 = .ok (.putfield 52, 3) := by decide +kernel
theorem dX7_init_90 : decode cX7_init 90 = .ok (.aload_n 0, 1) := by decide +kernel
theorem dX7_init_91 : decode cX7_init 91 = .ok (.getfield 28, 3) := by decide +kernel
theorem dX7_init_94 : decode cX7_init 94 = .ok (.bipush 8, 2) := by decide +kernel
theorem dX7_init_96 : decode cX7_init 96 = .ok (.iconst 3, 1) := by decide +kernel
theorem dX7_init_97 : decode cX7_init 97 = .ok (.iconst 1, 1) := by decide +kernel
theorem dX7_init_98 : decode cX7_init 98 = .ok (.invokevirtual 56, 3) := by decide +kernel
theorem dX7_init_101 : decode cX7_init 101 = .ok (.aload_n 0, 1) := by decide +kernel
theorem dX7_init_102 : decode cX7_init 102 = .ok (.getfield 28, 3) := by decide +kernel
theorem dX7_init_105 : decode cX7_init 105 = .ok (.iconst 1, 1) := by decide +kernel
theorem dX7_init_106 : decode cX7_init 106 = .ok (.bipush 10, 2) := by decide +kernel
theorem dX7_init_108 : decode cX7_init 108 = .ok (.invokevirtual 60, 3) := by decide +kernel
theorem dX7_init_111 : decode cX7_init 111 = .ok (.pop, 1) := by decide +kernel
theorem dX7_init_112 : decode cX7_init 112 = .ok (.aload_n 0, 1) := by decide +kernel
theorem dX7_init_113 : decode cX7_init 113 = .ok (.getfield 28, 3) := by decide +kernel
theorem dX7_init_116 : decode cX7_init 116 = .ok (.bipush 9, 2) := by decide +kernel
theorem dX7_init_118 : decode cX7_init 118 = .ok (.bipush 11, 2) := by decide +kernel
theorem dX7_init_120 : decode cX7_init 120 = .ok (.invokevirtual 60, 3) := by decide +kernel
theorem dX7_init_123 : decode cX7_init 123 = .ok (.pop, 1) := by decide +kernel
theorem dX7_init_124 : decode cX7_init 124 = .ok (.aload_n 0, 1) := by decide +kernel
theorem dX7_init_125 : decode cX7_init 125 = .ok (.getfield 28, 3) := by decide +kernel
theorem dX7_init_128 : decode cX7_init 128 = .ok (.iconst 3, 1) := by decide +kernel
theorem dX7_init_129 : decode cX7_init 129 = .ok (.bipush 12, 2) := by decide +kernel
theorem dX7_init_131 : decode cX7_init 131 = .ok (.invokevirtual 60, 3) := by decide +kernel
theorem dX7_init_134 : decode cX7_init 134 = .ok (.pop, 1) := by decide +kernel
theorem dX7_init_135 : decode cX7_init 135 = .ok (.aload_n 0, 1) := by decide +kernel
theorem dX7_init_136 : decode cX7_init 136 = .ok (.getfield 28, 3) := by decide +kernel
theorem dX7_init_139 : decode cX7_init 139 = .ok (.bipush 17, 2) := by decide +kernel
theorem dX7_init_141 : decode cX7_init 141 = .ok (.bipush 13, 2) := by decide +kernel
theorem dX7_init_143 : decode cX7_init 143 = .ok (.invokevirtual 60, 3) := by decide +kernel
theorem dX7_init_146 : decode cX7_init 146 = .ok (.pop, 1) := by decide +kernel
theorem dX7_init_147 : decode cX7_init 147 = .ok (.aload_n 0, 1) := by decide +kernel
theorem dX7_init_148 : decode cX7_init 148 = .ok (.getfield 28, 3) := by decide +kernel
theorem dX7_init_151 : decode cX7_init 151 = .ok (.iconst 4, 1) := by decide +kernel
theorem dX7_init_152 : decode cX7_init 152 = .ok (.bipush 14, 2) := by decide +kernel
theorem dX7_init_154 : decode cX7_init 154 = .ok (.invokevirtual 60, 3) := by decide +kernel
theorem dX7_init_157 : decode cX7_init 157 = .ok (.pop, 1) := by decide +kernel
theorem dX7_init_158 : decode cX7_init 158 = .ok (.aload_n 0, 1) := by decide +kernel
theorem dX7_init_159 : decode cX7_init 159 = .ok (.getfield 28, 3) := by decide +kernel
theorem dX7_init_162 : decode cX7_init 162 = .ok (.iconst 1, 1) := by decide +kernel
theorem dX7_init_163 : decode cX7_init 163 = .ok (.putfield 64, 3) := by decide +kernel
theorem dX7_init_166 : decode cX7_init 166 = .ok (.aload_n 0, 1) := by decide +kernel
theorem dX7_init_167 : decode cX7_init 167 = .ok (.getfield 28, 3) := by decide +kernel
theorem dX7_init_170 : decode cX7_init 170 = .ok (.bipush 9, 2) := by decide +kernel
theorem dX7_init_172 : decode cX7_init 172 = .ok (.invokevirtual 67, 3) := by decide +kernel
theorem dX7_init_175 : decode cX7_init 175 = .ok (.pop, 1) := by decide +kernel
theorem dX7_init_176 : decode cX7_init 176 = .ok (.aload_n 0, 1) := by decide +kernel
theorem dX7_init_177 : decode cX7_init 177 = .ok (.getfield 28, 3) := by decide +kernel
theorem dX7_init_180 : decode cX7_init 180 = .ok (.bipush 12, 2) := by decide +kernel
theorem dX7_init_182 : decode cX7_init 182 = .ok (.bipush 15, 2) := by decide +kernel
theorem dX7_init_184 : decode cX7_init 184 = .ok (.invokevirtual 60, 3) := by decide +kernel
theorem dX7_init_187 : decode cX7_init 187 = .ok (.pop, 1) := by decide +kernel
theorem dX7_init_188 : decode cX7_init 188 = .ok (.return_, 1) := by decide +kernel
theorem dX7_add_0 : decode cX7_add 0 = .ok (.iload_n 1, 1) := by decide +kernel
theorem dX7_add_1 : decode cX7_add 1 = .ok (.invokestatic 118, 3) := by decide +kernel
theorem dX7_add_4 : decode cX7_add 4 = .ok (.iload_n 2, 1) := by decide +kernel
theorem dX7_add_5 : decode cX7_add 5 = .ok (.invokestatic 121, 3) := by decide +kernel
theorem dX7_add_8 : decode cX7_add 8 = .ok (.aload_n 0, 1) := by decide +kernel
theorem dX7_add_9 : decode cX7_add 9 = .ok (.getfield 28, 3) := by decide +kernel
theorem dX7_add_12 : decode cX7_add 12 = .ok (.iload_n 1, 1) := by decide +kernel
theorem dX7_add_13 : decode cX7_add 13 = .ok (.invokevirtual 124, 3) := by decide +kernel
theorem dX7_add_16 : decode cX7_add 16 = .ok (.iconst (-1), 1) := by decide +kernel
theorem dX7_add_17 : decode cX7_add 17 = .ok (.if_icmp .eq 13, 3) := by decide +kernel
theorem dX7_add_20 : decode cX7_add 20 = .ok (.new 127, 3) := by decide +kernel
theorem dX7_add_23 : decode cX7_add 23 = .ok (.dup, 1) := by decide +kernel
theorem dX7_add_24 : decode cX7_add 24 = .ok (.ldc 129, 2) := by decide +kernel
theorem dX7_add_26 : decode cX7_add 26 = .ok (.invokespecial 131, 3) := by decide +kernel
theorem dX7_add_29 : decode cX7_add 29 = .ok (.athrow, 1) := by decide +kernel
theorem dX7_add_30 : decode cX7_add 30 = .ok (.aload_n 0, 1) := by decide +kernel
theorem dX7_add_31 : decode cX7_add 31 = .ok (.getfield 45, 3) := by decide +kernel
theorem dX7_add_34 : decode cX7_add 34 = .ok (.aload_n 0, 1) := by decide +kernel
theorem dX7_add_35 : decode cX7_add 35 = .ok (.getfield 28, 3) := by decide +kernel
theorem dX7_add_38 : decode cX7_add 38 = .ok (.invokevirtual 102, 3) := by decide +kernel
theorem dX7_add_41 : decode cX7_add 41 = .ok (.aload_n 0, 1) := by decide +kernel
theorem dX7_add_42 : decode cX7_add 42 = .ok (.getfield 28, 3) := by decide +kernel
theorem dX7_add_45 : decode cX7_add 45 = .ok (.iload_n 1, 1) := by decide +kernel
theorem dX7_add_46 : decode cX7_add 46 = .ok (.iload_n 2, 1) := by decide +kernel
theorem dX7_add_47 : decode cX7_add 47 = .ok (.invokevirtual 60, 3) := by decide +kernel
theorem dX7_add_50 : decode cX7_add 50 = .ok (.istore_n 3, 1) := by decide +kernel
theorem dX7_add_51 : decode cX7_add 51 = .ok (.iload_n 3, 1) := by decide +kernel
theorem dX7_add_52 : decode cX7_add 52 = .ok (.iconst (-1), 1) := by decide +kernel
theorem dX7_add_53 : decode cX7_add 53 = .ok (.if_icmp .ne 24, 3) := by decide +kernel
theorem dX7_add_56 : decode cX7_add 56 = .ok (.aload_n 0, 1) := by decide +kernel
theorem dX7_add_57 : decode cX7_add 57 = .ok (.getfield 45, 3) := by decide +kernel
theorem dX7_add_60 : decode cX7_add 60 = .ok (.aload_n 0, 1) := by decide +kernel
theorem dX7_add_61 : decode cX7_add 61 = .ok (.getfield 28, 3) := by decide +kernel
theorem dX7_add_64 : decode cX7_add 64 = .ok (.invokevirtual 132, 3) := by decide +kernel
theorem dX7_add_67 : decode cX7_add 67 = .ok (.new 127, 3) := by decide +kernel
theorem dX7_add_70 : decode cX7_add 70 = .ok (.dup, 1) := by decide +kernel
theorem dX7_add_71 : decode cX7_add 71 = .ok (.ldc 135, 2) := by decide +kernel
theorem dX7_add_73 : decode cX7_add 73 = .ok (.invokespecial 131, 3) := by decide +kernel
theorem dX7_add_76 : decode cX7_add 76 = .ok (.athrow, 1) := by decide +kernel
theorem dX7_add_77 : decode cX7_add 77 = .ok (.aload_n 0, 1) := by decide +kernel
theorem dX7_add_78 : decode cX7_add 78 = .ok (.getfield 45, 3) := by decide +kernel
theorem dX7_add_81 : decode cX7_add 81 = .ok (.invokevirtual 112, 3) := by decide +kernel
theorem dX7_add_84 : decode cX7_add 84 = .ok (.iload_n 3, 1) := by decide +kernel
theorem dX7_add_85 : decode cX7_add 85 = .ok (.ireturn, 1) := by decide +kernel
theorem dX7_put_0 : decode cX7_put 0 = .ok (.iload_n 1, 1) := by decide +kernel
theorem dX7_put_1 : decode cX7_put 1 = .ok (.invokestatic 118, 3) := by decide +kernel
theorem dX7_put_4 : decode cX7_put 4 = .ok (.iload_n 2, 1) := by decide +kernel
theorem dX7_put_5 : decode cX7_put 5 = .ok (.invokestatic 121, 3) := by decide +kernel
theorem dX7_put_8 : decode cX7_put 8 = .ok (.aload_n 0, 1) := by decide +kernel
theorem dX7_put_9 : decode cX7_put 9 = .ok (.getfield 28, 3) := by decide +kernel
theorem dX7_put_12 : decode cX7_put 12 = .ok (.aload_n 0, 1) := by decide +kernel
theorem dX7_put_13 : decode cX7_put 13 = .ok (.getfield 28, 3) := by decide +kernel
theorem dX7_put_16 : decode cX7_put 16 = .ok (.iload_n 1, 1) := by decide +kernel
theorem dX7_put_17 : decode cX7_put 17 = .ok (.invokevirtual 124, 3) := by decide +kernel
theorem dX7_put_20 : decode cX7_put 20 = .ok (.invokevirtual 137, 3) := by decide +kernel
theorem dX7_put_23 : decode cX7_put 23 = .ok (.istore_n 3, 1) := by decide +kernel
theorem dX7_put_24 : decode cX7_put 24 = .ok (.aload_n 0, 1) := by decide +kernel
theorem dX7_put_25 : decode cX7_put 25 = .ok (.getfield 45, 3) := by decide +kernel
theorem dX7_put_28 : decode cX7_put 28 = .ok (.aload_n 0, 1) := by decide +kernel
theorem dX7_put_29 : decode cX7_put 29 = .ok (.getfield 28, 3) := by decide +kernel
theorem dX7_put_32 : decode cX7_put 32 = .ok (.invokevirtual 102, 3) := by decide +kernel
theorem dX7_put_35 : decode cX7_put 35 = .ok (.aload_n 0, 1) := by decide +kernel
theorem dX7_put_36 : decode cX7_put 36 = .ok (.getfield 28, 3) := by decide +kernel
theorem dX7_put_39 : decode cX7_put 39 = .ok (.iload_n 1, 1) := by decide +kernel
theorem dX7_put_40 : decode cX7_put 40 = .ok (.iload_n 2, 1) := by decide +kernel
theorem dX7_put_41 : decode cX7_put 41 = .ok (.invokevirtual 140, 3) := by decide +kernel
theorem dX7_put_44 : decode cX7_put 44 = .ok (.ifCond .ne 24, 3) := by decide +kernel
theorem dX7_put_47 : decode cX7_put 47 = .ok (.aload_n 0, 1) := by decide +kernel
theorem dX7_put_48 : decode cX7_put 48 = .ok (.getfield 45, 3) := by decide +kernel
theorem dX7_put_51 : decode cX7_put 51 = .ok (.aload_n 0, 1) := by decide +kernel
theorem dX7_put_52 : decode cX7_put 52 = .ok (.getfield 28, 3) := by decide +kernel
theorem dX7_put_55 : decode cX7_put 55 = .ok (.invokevirtual 132, 3) := by decide +kernel
theorem dX7_put_58 : decode cX7_put 58 = .ok (.new 127, 3) := by decide +kernel
theorem dX7_put_61 : decode cX7_put 61 = .ok (.dup, 1) := by decide +kernel
theorem dX7_put_62 : decode cX7_put 62 = .ok (.ldc 135, 2) := by decide +kernel
theorem dX7_put_64 : decode cX7_put 64 = .ok (.invokespecial 131, 3) := by decide +kernel
theorem dX7_put_67 : decode cX7_put 67 = .ok (.athrow, 1) := by decide +kernel
theorem dX7_put_68 : decode cX7_put 68 = .ok (.aload_n 0, 1) := by decide +kernel
theorem dX7_put_69 : decode cX7_put 69 = .ok (.getfield 45, 3) := by decide +kernel
theorem dX7_put_72 : decode cX7_put 72 = .ok (.invokevirtual 112, 3) := by decide +kernel
theorem dX7_put_75 : decode cX7_put 75 = .ok (.iload_n 3, 1) := by decide +kernel
theorem dX7_put_76 : decode cX7_put 76 = .ok (.ireturn, 1) := by decide +kernel
theorem dX7_remove_0 : decode cX7_remove 0 = .ok (.iload_n 1, 1) := by decide +kernel
theorem dX7_remove_1 : decode cX7_remove 1 = .ok (.invokestatic 144, 3) := by decide +kernel
theorem dX7_remove_4 : decode cX7_remove 4 = .ok (.ifCond .eq 15, 3) := by decide +kernel
theorem dX7_remove_7 : decode cX7_remove 7 = .ok (.aload_n 0, 1) := by decide +kernel
theorem dX7_remove_8 : decode cX7_remove 8 = .ok (.getfield 28, 3) := by decide +kernel
theorem dX7_remove_11 : decode cX7_remove 11 = .ok (.iload_n 1, 1) := by decide +kernel
theorem dX7_remove_12 : decode cX7_remove 12 = .ok (.invokevirtual 124, 3) := by decide +kernel
theorem dX7_remove_15 : decode cX7_remove 15 = .ok (.iconst (-1), 1) := by decide +kernel
theorem dX7_remove_16 : decode cX7_remove 16 = .ok (.if_icmp .ne 13, 3) := by decide +kernel
theorem dX7_remove_19 : decode cX7_remove 19 = .ok (.new 163, 3) := by decide +kernel
theorem dX7_remove_22 : decode cX7_remove 22 = .ok (.dup, 1) := by decide +kernel
theorem dX7_remove_23 : decode cX7_remove 23 = .ok (.ldc 165, 2) := by decide +kernel
theorem dX7_remove_25 : decode cX7_remove 25 = .ok (.invokespecial 167, 3) := by decide +kernel
theorem dX7_remove_28 : decode cX7_remove 28 = .ok (.athrow, 1) := by decide +kernel
theorem dX7_remove_29 : decode cX7_remove 29 = .ok (.aload_n 0, 1) := by decide +kernel
theorem dX7_remove_30 : decode cX7_remove 30 = .ok (.getfield 45, 3) := by decide +kernel
theorem dX7_remove_33 : decode cX7_remove 33 = .ok (.aload_n 0, 1) := by decide +kernel
theorem dX7_remove_34 : decode cX7_remove 34 = .ok (.getfield 28, 3) := by decide +kernel
theorem dX7_remove_37 : decode cX7_remove 37 = .ok (.invokevirtual 102, 3) := by decide +kernel
theorem dX7_remove_40 : decode cX7_remove 40 = .ok (.aload_n 0, 1) := by decide +kernel
theorem dX7_remove_41 : decode cX7_remove 41 = .ok (.getfield 28, 3) := by decide +kernel
theorem dX7_remove_44 : decode cX7_remove 44 = .ok (.iload_n 1, 1) := by decide +kernel
theorem dX7_remove_45 : decode cX7_remove 45 = .ok (.invokevirtual 67, 3) := by decide +kernel
theorem dX7_remove_48 : decode cX7_remove 48 = .ok (.istore_n 2, 1) := by decide +kernel
theorem dX7_remove_49 : decode cX7_remove 49 = .ok (.aload_n 0, 1) := by decide +kernel
theorem dX7_remove_50 : decode cX7_remove 50 = .ok (.getfield 45, 3) := by decide +kernel
theorem dX7_remove_53 : decode cX7_remove 53 = .ok (.invokevirtual 112, 3) := by decide +kernel
theorem dX7_remove_56 : decode cX7_remove 56 = .ok (.iload_n 2, 1) := by decide +kernel
theorem dX7_remove_57 : decode cX7_remove 57 = .ok (.ireturn, 1) := by decide +kernel
theorem dX7_setNeighbourhood_0 : decode cX7_setNeighbourhood 0 = .ok (.iload_n 1, 1) := by decide +kernel
theorem dX7_setNeighbourhood_1 : decode cX7_setNeighbourhood 1 = .ok (.invokestatic 168, 3) := by decide +kernel
theorem dX7_setNeighbourhood_4 : decode cX7_setNeighbourhood 4 = .ok (.ifCond .ne 13, 3) := by decide +kernel
theorem dX7_setNeighbourhood_7 : decode cX7_setNeighbourhood 7 = .ok (.new 79, 3) := by decide +kernel
theorem dX7_setNeighbourhood_10 : decode cX7_setNeighbourhood 10 = .ok (.dup, 1) := by decide +kernel
theorem dX7_setNeighbourhood_11 : decode cX7_setNeighbourhood 11 = .ok (.ldc 171, 2) := by decide +kernel
theorem dX7_setNeighbourhood_13 : decode cX7_setNeighbourhood 13 = .ok (.invokespecial 83, 3) := by decide +kernel
theorem dX7_setNeighbourhood_16 : decode cX7_setNeighbourhood 16 = .ok (.athrow, 1) := by decide +kernel
theorem dX7_setNeighbourhood_17 : decode cX7_setNeighbourhood 17 = .ok (.aload_n 0, 1) := by decide +kernel
theorem dX7_setNeighbourhood_18 : decode cX7_setNeighbourhood 18 = .ok (.getfield 45, 3) := by decide +kernel
theorem dX7_setNeighbourhood_21 : decode cX7_setNeighbourhood 21 = .ok (.aload_n 0, 1) := by decide +kernel
theorem dX7_setNeighbourhood_22 : decode cX7_setNeighbourhood 22 = .ok (.getfield 28, 3) := by decide +kernel
theorem dX7_setNeighbourhood_25 : decode cX7_setNeighbourhood 25 = .ok (.invokevirtual 102, 3) := by decide +kernel
theorem dX7_setNeighbourhood_28 : decode cX7_setNeighbourhood 28 = .ok (.aload_n 0, 1) := by decide +kernel
theorem dX7_setNeighbourhood_29 : decode cX7_setNeighbourhood 29 = .ok (.getfield 28, 3) := by decide +kernel
theorem dX7_setNeighbourhood_32 : decode cX7_setNeighbourhood 32 = .ok (.iload_n 1, 1) := by decide +kernel
theorem dX7_setNeighbourhood_33 : decode cX7_setNeighbourhood 33 = .ok (.invokevirtual 173, 3) := by decide +kernel
theorem dX7_setNeighbourhood_36 : decode cX7_setNeighbourhood 36 = .ok (.ifCond .ne 24, 3) := by decide +kernel
theorem dX7_setNeighbourhood_39 : decode cX7_setNeighbourhood 39 = .ok (.aload_n 0, 1) := by decide +kernel
theorem dX7_setNeighbourhood_40 : decode cX7_setNeighbourhood 40 = .ok (.getfield 45, 3) := by decide +kernel
theorem dX7_setNeighbourhood_43 : decode cX7_setNeighbourhood 43 = .ok (.aload_n 0, 1) := by decide +kernel
theorem dX7_setNeighbourhood_44 : decode cX7_setNeighbourhood 44 = .ok (.getfield 28, 3) := by decide +kernel
theorem dX7_setNeighbourhood_47 : decode cX7_setNeighbourhood 47 = .ok (.invokevirtual 132, 3) := by decide +kernel
theorem dX7_setNeighbourhood_50 : decode cX7_setNeighbourhood 50 = .ok (.new 127, 3) := by decide +kernel
theorem dX7_setNeighbourhood_53 : decode cX7_setNeighbourhood 53 = .ok (.dup, 1) := by decide +kernel
theorem dX7_setNeighbourhood_54 : decode cX7_setNeighbourhood 54 = .ok (.ldc 176, 2) := by decide +kernel
theorem dX7_setNeighbourhood_56 : decode cX7_setNeighbourhood 56 = .ok (.invokespecial 131, 3) := by decide +kernel
theorem dX7_setNeighbourhood_59 : decode cX7_setNeighbourhood 59 = .ok (.athrow, 1) := by decide +kernel
theorem dX7_setNeighbourhood_60 : decode cX7_setNeighbourhood 60 = .ok (.aload_n 0, 1) := by decide +kernel
theorem dX7_setNeighbourhood_61 : decode cX7_setNeighbourhood 61 = .ok (.getfield 45, 3) := by decide +kernel
theorem dX7_setNeighbourhood_64 : decode cX7_setNeighbourhood 64 = .ok (.invokevirtual 112, 3) := by decide +kernel
theorem dX7_setNeighbourhood_67 : decode cX7_setNeighbourhood 67 = .ok (.aload_n 0, 1) := by decide +kernel
theorem dX7_setNeighbourhood_68 : decode cX7_setNeighbourhood 68 = .ok (.getfield 28, 3) := by decide +kernel
theorem dX7_setNeighbourhood_71 : decode cX7_setNeighbourhood 71 = .ok (.getfield 178, 3) := by decide +kernel
theorem dX7_setNeighbourhood_74 : decode cX7_setNeighbourhood 74 = .ok (.ireturn, 1) := by decide +kernel
theorem dX7_setMultiplier_0 : decode cX7_setMultiplier 0 = .ok (.iload_n 1, 1) := by decide +kernel
theorem dX7_setMultiplier_1 : decode cX7_setMultiplier 1 = .ok (.invokestatic 181, 3) := by decide +kernel
theorem dX7_setMultiplier_4 : decode cX7_setMultiplier 4 = .ok (.ifCond .ne 13, 3) := by decide +kernel
theorem dX7_setMultiplier_7 : decode cX7_setMultiplier 7 = .ok (.new 79, 3) := by decide +kernel
theorem dX7_setMultiplier_10 : decode cX7_setMultiplier 10 = .ok (.dup, 1) := by decide +kernel
theorem dX7_setMultiplier_11 : decode cX7_setMultiplier 11 = .ok (.ldc 184, 2) := by decide +kernel
theorem dX7_setMultiplier_13 : decode cX7_setMultiplier 13 = .ok (.invokespecial 83, 3) := by decide +kernel
theorem dX7_setMultiplier_16 : decode cX7_setMultiplier 16 = .ok (.athrow, 1) := by decide +kernel
theorem dX7_setMultiplier_17 : decode cX7_setMultiplier 17 = .ok (.aload_n 0, 1) := by decide +kernel
theorem dX7_setMultiplier_18 : decode cX7_setMultiplier 18 = .ok (.getfield 45, 3) := by decide +kernel
theorem dX7_setMultiplier_21 : decode cX7_setMultiplier 21 = .ok (.aload_n 0, 1) := by decide +kernel
theorem dX7_setMultiplier_22 : decode cX7_setMultiplier 22 = .ok (.getfield 28, 3) := by decide +kernel
theorem dX7_setMultiplier_25 : decode cX7_setMultiplier 25 = .ok (.invokevirtual 102, 3) := by decide +kernel
theorem dX7_setMultiplier_28 : decode cX7_setMultiplier 28 = .ok (.aload_n 0, 1) := by decide +kernel
theorem dX7_setMultiplier_29 : decode cX7_setMultiplier 29 = .ok (.getfield 28, 3) := by decide +kernel
theorem dX7_setMultiplier_32 : decode cX7_setMultiplier 32 = .ok (.iload_n 1, 1) := by decide +kernel
theorem dX7_setMultiplier_33 : decode cX7_setMultiplier 33 = .ok (.invokevirtual 186, 3) := by decide +kernel
theorem dX7_setMultiplier_36 : decode cX7_setMultiplier 36 = .ok (.ifCond .ne 24, 3) := by decide +kernel
theorem dX7_setMultiplier_39 : decode cX7_setMultiplier 39 = .ok (.aload_n 0, 1) := by decide +kernel
theorem dX7_setMultiplier_40 : decode cX7_setMultiplier 40 = .ok (.getfield 45, 3) := by decide +kernel
theorem dX7_setMultiplier_43 : decode cX7_setMultiplier 43 = .ok (.aload_n 0, 1) := by decide +kernel
theorem dX7_setMultiplier_44 : decode cX7_setMultiplier 44 = .ok (.getfield 28, 3) := by decide +kernel
theorem dX7_setMultiplier_47 : decode cX7_setMultiplier 47 = .ok (.invokevirtual 132, 3) := by decide +kernel
theorem dX7_setMultiplier_50 : decode cX7_setMultiplier 50 = .ok (.new 127, 3) := by decide +kernel
theorem dX7_setMultiplier_53 : decode cX7_setMultiplier 53 = .ok (.dup, 1) := by decide +kernel
theorem dX7_setMultiplier_54 : decode cX7_setMultiplier 54 = .ok (.ldc 176, 2) := by decide +kernel
theorem dX7_setMultiplier_56 : decode cX7_setMultiplier 56 = .ok (.invokespecial 131, 3) := by decide +kernel
theorem dX7_setMultiplier_59 : decode cX7_setMultiplier 59 = .ok (.athrow, 1) := by decide +kernel
theorem dX7_setMultiplier_60 : decode cX7_setMultiplier 60 = .ok (.aload_n 0, 1) := by decide +kernel
theorem dX7_setMultiplier_61 : decode cX7_setMultiplier 61 = .ok (.getfield 45, 3) := by decide +kernel
theorem dX7_setMultiplier_64 : decode cX7_setMultiplier 64 = .ok (.invokevirtual 112, 3) := by decide +kernel
theorem dX7_setMultiplier_67 : decode cX7_setMultiplier 67 = .ok (.aload_n 0, 1) := by decide +kernel
theorem dX7_setMultiplier_68 : decode cX7_setMultiplier 68 = .ok (.getfield 28, 3) := by decide +kernel
theorem dX7_setMultiplier_71 : decode cX7_setMultiplier 71 = .ok (.getfield 178, 3) := by decide +kernel
theorem dX7_setMultiplier_74 : decode cX7_setMultiplier 74 = .ok (.ireturn, 1) := by decide +kernel
theorem dX7_setPulling_0 : decode cX7_setPulling 0 = .ok (.aload_n 0, 1) := by decide +kernel
theorem dX7_setPulling_1 : decode cX7_setPulling 1 = .ok (.getfield 28, 3) := by decide +kernel
theorem dX7_setPulling_4 : decode cX7_setPulling 4 = .ok (.getfield 64, 3) := by decide +kernel
theorem dX7_setPulling_7 : decode cX7_setPulling 7 = .ok (.istore_n 2, 1) := by decide +kernel
theorem dX7_setPulling_8 : decode cX7_setPulling 8 = .ok (.aload_n 0, 1) := by decide +kernel
theorem dX7_setPulling_9 : decode cX7_setPulling 9 = .ok (.getfield 45, 3) := by decide +kernel
theorem dX7_setPulling_12 : decode cX7_setPulling 12 = .ok (.aload_n 0, 1) := by decide +kernel
theorem dX7_setPulling_13 : decode cX7_setPulling 13 = .ok (.getfield 28, 3) := by decide +kernel
theorem dX7_setPulling_16 : decode cX7_setPulling 16 = .ok (.invokevirtual 102, 3) := by decide +kernel
theorem dX7_setPulling_19 : decode cX7_setPulling 19 = .ok (.aload_n 0, 1) := by decide +kernel
theorem dX7_setPulling_20 : decode cX7_setPulling 20 = .ok (.getfield 28, 3) := by decide +kernel
theorem dX7_setPulling_23 : decode cX7_setPulling 23 = .ok (.iload_n 1, 1) := by decide +kernel
theorem dX7_setPulling_24 : decode cX7_setPulling 24 = .ok (.putfield 64, 3) := by decide +kernel
theorem dX7_setPulling_27 : decode cX7_setPulling 27 = .ok (.aload_n 0, 1) := by decide +kernel
theorem dX7_setPulling_28 : decode cX7_setPulling 28 = .ok (.getfield 45, 3) := by decide +kernel
theorem dX7_setPulling_31 : decode cX7_setPulling 31 = .ok (.invokevirtual 112, 3) := by decide +kernel
theorem dX7_setPulling_34 : decode cX7_setPulling 34 = .ok (.iload_n 2, 1) := by decide +kernel
theorem dX7_setPulling_35 : decode cX7_setPulling 35 = .ok (.ireturn, 1) := by decide +kernel
theorem dX7_grow_0 : decode cX7_grow 0 = .ok (.aload_n 0, 1) := by decide +kernel
theorem dX7_grow_1 : decode cX7_grow 1 = .ok (.getfield 45, 3) := by decide +kernel
theorem dX7_grow_4 : decode cX7_grow 4 = .ok (.aload_n 0, 1) := by decide +kernel
theorem dX7_grow_5 : decode cX7_grow 5 = .ok (.getfield 28, 3) := by decide +kernel
theorem dX7_grow_8 : decode cX7_grow 8 = .ok (.invokevirtual 102, 3) := by decide +kernel
theorem dX7_grow_11 : decode cX7_grow 11 = .ok (.aload_n 0, 1) := by decide +kernel
theorem dX7_grow_12 : decode cX7_grow 12 = .ok (.getfield 28, 3) := by decide +kernel
theorem dX7_grow_15 : decode cX7_grow 15 = .ok (.iconst 2, 1) := by decide +kernel
theorem dX7_grow_16 : decode cX7_grow 16 = .ok (.aload_n 0, 1) := by decide +kernel
theorem dX7_grow_17 : decode cX7_grow 17 = .ok (.getfield 28, 3) := by decide +kernel
theorem dX7_grow_20 : decode cX7_grow 20 = .ok (.getfield 178, 3) := by decide +kernel
theorem dX7_grow_23 : decode cX7_grow 23 = .ok (.imul, 1) := by decide +kernel
theorem dX7_grow_24 : decode cX7_grow 24 = .ok (.invokevirtual 189, 3) := by decide +kernel
theorem dX7_grow_27 : decode cX7_grow 27 = .ok (.ifCond .ne 24, 3) := by decide +kernel
theorem dX7_grow_30 : decode cX7_grow 30 = .ok (.aload_n 0, 1) := by decide +kernel
theorem dX7_grow_31 : decode cX7_grow 31 = .ok (.getfield 45, 3) := by decide +kernel
theorem dX7_grow_34 : decode cX7_grow 34 = .ok (.aload_n 0, 1) := by decide +kernel
theorem dX7_grow_35 : decode cX7_grow 35 = .ok (.getfield 28, 3) := by decide +kernel
theorem dX7_grow_38 : decode cX7_grow 38 = .ok (.invokevirtual 132, 3) := by decide +kernel
theorem dX7_grow_41 : decode cX7_grow 41 = .ok (.new 127, 3) := by decide +kernel
theorem dX7_grow_44 : decode cX7_grow 44 = .ok (.dup, 1) := by decide +kernel
theorem dX7_grow_45 : decode cX7_grow 45 = .ok (.ldc 176, 2) := by decide +kernel
theorem dX7_grow_47 : decode cX7_grow 47 = .ok (.invokespecial 131, 3) := by decide +kernel
theorem dX7_grow_50 : decode cX7_grow 50 = .ok (.athrow, 1) := by decide +kernel
theorem dX7_grow_51 : decode cX7_grow 51 = .ok (.aload_n 0, 1) := by decide +kernel
theorem dX7_grow_52 : decode cX7_grow 52 = .ok (.getfield 45, 3) := by decide +kernel
theorem dX7_grow_55 : decode cX7_grow 55 = .ok (.invokevirtual 112, 3) := by decide +kernel
theorem dX7_grow_58 : decode cX7_grow 58 = .ok (.aload_n 0, 1) := by decide +kernel
theorem dX7_grow_59 : decode cX7_grow 59 = .ok (.getfield 28, 3) := by decide +kernel
theorem dX7_grow_62 : decode cX7_grow 62 = .ok (.getfield 178, 3) := by decide +kernel
theorem dX7_grow_65 : decode cX7_grow 65 = .ok (.ireturn, 1) := by decide +kernel
theorem dX7_clear_0 : decode cX7_clear 0 = .ok (.aload_n 0, 1) := by decide +kernel
theorem dX7_clear_1 : decode cX7_clear 1 = .ok (.getfield 45, 3) := by decide +kernel
theorem dX7_clear_4 : decode cX7_clear 4 = .ok (.aload_n 0, 1) := by decide +kernel
theorem dX7_clear_5 : decode cX7_clear 5 = .ok (.getfield 28, 3) := by decide +kernel
theorem dX7_clear_8 : decode cX7_clear 8 = .ok (.invokevirtual 102, 3) := by decide +kernel
theorem dX7_clear_11 : decode cX7_clear 11 = .ok (.aload_n 0, 1) := by decide +kernel
theorem dX7_clear_12 : decode cX7_clear 12 = .ok (.getfield 28, 3) := by decide +kernel
theorem dX7_clear_15 : decode cX7_clear 15 = .ok (.invokevirtual 192, 3) := by decide +kernel
theorem dX7_clear_18 : decode cX7_clear 18 = .ok (.istore_n 1, 1) := by decide +kernel
theorem dX7_clear_19 : decode cX7_clear 19 = .ok (.aload_n 0, 1) := by decide +kernel
theorem dX7_clear_20 : decode cX7_clear 20 = .ok (.getfield 45, 3) := by decide +kernel
theorem dX7_clear_23 : decode cX7_clear 23 = .ok (.invokevirtual 112, 3) := by decide +kernel
theorem dX7_clear_26 : decode cX7_clear 26 = .ok (.iload_n 1, 1) := by decide +kernel
theorem dX7_clear_27 : decode cX7_clear 27 = .ok (.ireturn, 1) := by decide +kernel
theorem dX7_undo_0 : decode cX7_undo 0 = .ok (.aload_n 0, 1) := by decide +kernel
theorem dX7_undo_1 : decode cX7_undo 1 = .ok (.getfield 45, 3) := by decide +kernel
theorem dX7_undo_4 : decode cX7_undo 4 = .ok (.getfield 196, 3) := by decide +kernel
theorem dX7_undo_7 : decode cX7_undo 7 = .ok (.ifCond .ne 5, 3) := by decide +kernel
theorem dX7_undo_10 : decode cX7_undo 10 = .ok (.iconst (-1), 1) := by decide +kernel
theorem dX7_undo_11 : decode cX7_undo 11 = .ok (.ireturn, 1) := by decide +kernel
theorem dX7_undo_12 : decode cX7_undo 12 = .ok (.aload_n 0, 1) := by decide +kernel
theorem dX7_undo_13 : decode cX7_undo 13 = .ok (.getfield 45, 3) := by decide +kernel
theorem dX7_undo_16 : decode cX7_undo 16 = .ok (.aload_n 0, 1) := by decide +kernel
theorem dX7_undo_17 : decode cX7_undo 17 = .ok (.getfield 28, 3) := by decide +kernel
theorem dX7_undo_20 : decode cX7_undo 20 = .ok (.invokevirtual 199, 3) := by decide +kernel
theorem dX7_undo_23 : decode cX7_undo 23 = .ok (.aload_n 0, 1) := by decide +kernel
theorem dX7_undo_24 : decode cX7_undo 24 = .ok (.getfield 45, 3) := by decide +kernel
theorem dX7_undo_27 : decode cX7_undo 27 = .ok (.getfield 196, 3) := by decide +kernel
theorem dX7_undo_30 : decode cX7_undo 30 = .ok (.ireturn, 1) := by decide +kernel
theorem dX7_undoCount_0 : decode cX7_undoCount 0 = .ok (.aload_n 0, 1) := by decide +kernel
theorem dX7_undoCount_1 : decode cX7_undoCount 1 = .ok (.getfield 45, 3) := by decide +kernel
theorem dX7_undoCount_4 : decode cX7_undoCount 4 = .ok (.getfield 196, 3) := by decide +kernel
theorem dX7_undoCount_7 : decode cX7_undoCount 7 = .ok (.ireturn, 1) := by decide +kernel
theorem dX7_bucketCount_0 : decode cX7_bucketCount 0 = .ok (.aload_n 0, 1) := by decide +kernel
theorem dX7_bucketCount_1 : decode cX7_bucketCount 1 = .ok (.getfield 28, 3) := by decide +kernel
theorem dX7_bucketCount_4 : decode cX7_bucketCount 4 = .ok (.getfield 178, 3) := by decide +kernel
theorem dX7_bucketCount_7 : decode cX7_bucketCount 7 = .ok (.ireturn, 1) := by decide +kernel
theorem dX7_entryCount_0 : decode cX7_entryCount 0 = .ok (.aload_n 0, 1) := by decide +kernel
theorem dX7_entryCount_1 : decode cX7_entryCount 1 = .ok (.getfield 28, 3) := by decide +kernel
theorem dX7_entryCount_4 : decode cX7_entryCount 4 = .ok (.getfield 115, 3) := by decide +kernel
theorem dX7_entryCount_7 : decode cX7_entryCount 7 = .ok (.ireturn, 1) := by decide +kernel
theorem dX7_neighbourhood_0 : decode cX7_neighbourhood 0 = .ok (.aload_n 0, 1) := by decide +kernel
theorem dX7_neighbourhood_1 : decode cX7_neighbourhood 1 = .ok (.getfield 28, 3) := by decide +kernel
theorem dX7_neighbourhood_4 : decode cX7_neighbourhood 4 = .ok (.getfield 207, 3) := by decide +kernel
theorem dX7_neighbourhood_7 : decode cX7_neighbourhood 7 = .ok (.ireturn, 1) := by decide +kernel
theorem dX7_multiplier_0 : decode cX7_multiplier 0 = .ok (.aload_n 0, 1) := by decide +kernel
theorem dX7_multiplier_1 : decode cX7_multiplier 1 = .ok (.getfield 28, 3) := by decide +kernel
theorem dX7_multiplier_4 : decode cX7_multiplier 4 = .ok (.getfield 210, 3) := by decide +kernel
theorem dX7_multiplier_7 : decode cX7_multiplier 7 = .ok (.ireturn, 1) := by decide +kernel
theorem dX7_isPulling_0 : decode cX7_isPulling 0 = .ok (.aload_n 0, 1) := by decide +kernel
theorem dX7_isPulling_1 : decode cX7_isPulling 1 = .ok (.getfield 28, 3) := by decide +kernel
theorem dX7_isPulling_4 : decode cX7_isPulling 4 = .ok (.getfield 64, 3) := by decide +kernel
theorem dX7_isPulling_7 : decode cX7_isPulling 7 = .ok (.ireturn, 1) := by decide +kernel
theorem dX7_keyAt_0 : decode cX7_keyAt 0 = .ok (.aload_n 0, 1) := by decide +kernel
theorem dX7_keyAt_1 : decode cX7_keyAt 1 = .ok (.iload_n 1, 1) := by decide +kernel
theorem dX7_keyAt_2 : decode cX7_keyAt 2 = .ok (.invokevirtual 213, 3) := by decide +kernel
theorem dX7_keyAt_5 : decode cX7_keyAt 5 = .ok (.aload_n 0, 1) := by decide +kernel
theorem dX7_keyAt_6 : decode cX7_keyAt 6 = .ok (.getfield 28, 3) := by decide +kernel
theorem dX7_keyAt_9 : decode cX7_keyAt 9 = .ok (.iload_n 1, 1) := by decide +kernel
theorem dX7_keyAt_10 : decode cX7_keyAt 10 = .ok (.invokevirtual 216, 3) := by decide +kernel
theorem dX7_keyAt_13 : decode cX7_keyAt 13 = .ok (.ireturn, 1) := by decide +kernel
theorem dX7_valueAt_0 : decode cX7_valueAt 0 = .ok (.aload_n 0, 1) := by decide +kernel
theorem dX7_valueAt_1 : decode cX7_valueAt 1 = .ok (.iload_n 1, 1) := by decide +kernel
theorem dX7_valueAt_2 : decode cX7_valueAt 2 = .ok (.invokevirtual 213, 3) := by decide +kernel
theorem dX7_valueAt_5 : decode cX7_valueAt 5 = .ok (.aload_n 0, 1) := by decide +kernel
theorem dX7_valueAt_6 : decode cX7_valueAt 6 = .ok (.getfield 28, 3) := by decide +kernel
theorem dX7_valueAt_9 : decode cX7_valueAt 9 = .ok (.iload_n 1, 1) := by decide +kernel
theorem dX7_valueAt_10 : decode cX7_valueAt 10 = .ok (.invokevirtual 137, 3) := by decide +kernel
theorem dX7_valueAt_13 : decode cX7_valueAt 13 = .ok (.ireturn, 1) := by decide +kernel
theorem dX7_hopBits_0 : decode cX7_hopBits 0 = .ok (.aload_n 0, 1) := by decide +kernel
theorem dX7_hopBits_1 : decode cX7_hopBits 1 = .ok (.iload_n 1, 1) := by decide +kernel
theorem dX7_hopBits_2 : decode cX7_hopBits 2 = .ok (.invokevirtual 213, 3) := by decide +kernel
theorem dX7_hopBits_5 : decode cX7_hopBits 5 = .ok (.aload_n 0, 1) := by decide +kernel
theorem dX7_hopBits_6 : decode cX7_hopBits 6 = .ok (.getfield 28, 3) := by decide +kernel
theorem dX7_hopBits_9 : decode cX7_hopBits 9 = .ok (.iload_n 1, 1) := by decide +kernel
theorem dX7_hopBits_10 : decode cX7_hopBits 10 = .ok (.invokevirtual 219, 3) := by decide +kernel
theorem dX7_hopBits_13 : decode cX7_hopBits 13 = .ok (.ireturn, 1) := by decide +kernel
theorem dX7_entriesOf_0 : decode cX7_entriesOf 0 = .ok (.aload_n 0, 1) := by decide +kernel
theorem dX7_entriesOf_1 : decode cX7_entriesOf 1 = .ok (.iload_n 1, 1) := by decide +kernel
theorem dX7_entriesOf_2 : decode cX7_entriesOf 2 = .ok (.invokevirtual 213, 3) := by decide +kernel
theorem dX7_entriesOf_5 : decode cX7_entriesOf 5 = .ok (.aload_n 0, 1) := by decide +kernel
theorem dX7_entriesOf_6 : decode cX7_entriesOf 6 = .ok (.getfield 28, 3) := by decide +kernel
theorem dX7_entriesOf_9 : decode cX7_entriesOf 9 = .ok (.iload_n 1, 1) := by decide +kernel
theorem dX7_entriesOf_10 : decode cX7_entriesOf 10 = .ok (.invokevirtual 219, 3) := by decide +kernel
theorem dX7_entriesOf_13 : decode cX7_entriesOf 13 = .ok (.invokestatic 222, 3) := by decide +kernel
theorem dX7_entriesOf_16 : decode cX7_entriesOf 16 = .ok (.ireturn, 1) := by decide +kernel
theorem dX7_homeOf_0 : decode cX7_homeOf 0 = .ok (.iload_n 1, 1) := by decide +kernel
theorem dX7_homeOf_1 : decode cX7_homeOf 1 = .ok (.invokestatic 118, 3) := by decide +kernel
theorem dX7_homeOf_4 : decode cX7_homeOf 4 = .ok (.aload_n 0, 1) := by decide +kernel
theorem dX7_homeOf_5 : decode cX7_homeOf 5 = .ok (.getfield 28, 3) := by decide +kernel
theorem dX7_homeOf_8 : decode cX7_homeOf 8 = .ok (.iload_n 1, 1) := by decide +kernel
theorem dX7_homeOf_9 : decode cX7_homeOf 9 = .ok (.invokevirtual 236, 3) := by decide +kernel
theorem dX7_homeOf_12 : decode cX7_homeOf 12 = .ok (.ireturn, 1) := by decide +kernel
theorem dX7_bucketOf_0 : decode cX7_bucketOf 0 = .ok (.iload_n 1, 1) := by decide +kernel
theorem dX7_bucketOf_1 : decode cX7_bucketOf 1 = .ok (.invokestatic 118, 3) := by decide +kernel
theorem dX7_bucketOf_4 : decode cX7_bucketOf 4 = .ok (.aload_n 0, 1) := by decide +kernel
theorem dX7_bucketOf_5 : decode cX7_bucketOf 5 = .ok (.getfield 28, 3) := by decide +kernel
theorem dX7_bucketOf_8 : decode cX7_bucketOf 8 = .ok (.iload_n 1, 1) := by decide +kernel
theorem dX7_bucketOf_9 : decode cX7_bucketOf 9 = .ok (.invokevirtual 124, 3) := by decide +kernel
theorem dX7_bucketOf_12 : decode cX7_bucketOf 12 = .ok (.ireturn, 1) := by decide +kernel
theorem dX7_valueOf_0 : decode cX7_valueOf 0 = .ok (.iload_n 1, 1) := by decide +kernel
theorem dX7_valueOf_1 : decode cX7_valueOf 1 = .ok (.invokestatic 118, 3) := by decide +kernel
theorem dX7_valueOf_4 : decode cX7_valueOf 4 = .ok (.aload_n 0, 1) := by decide +kernel
theorem dX7_valueOf_5 : decode cX7_valueOf 5 = .ok (.getfield 28, 3) := by decide +kernel
theorem dX7_valueOf_8 : decode cX7_valueOf 8 = .ok (.aload_n 0, 1) := by decide +kernel
theorem dX7_valueOf_9 : decode cX7_valueOf 9 = .ok (.getfield 28, 3) := by decide +kernel
theorem dX7_valueOf_12 : decode cX7_valueOf 12 = .ok (.iload_n 1, 1) := by decide +kernel
theorem dX7_valueOf_13 : decode cX7_valueOf 13 = .ok (.invokevirtual 124, 3) := by decide +kernel
theorem dX7_valueOf_16 : decode cX7_valueOf 16 = .ok (.invokevirtual 137, 3) := by decide +kernel
theorem dX7_valueOf_19 : decode cX7_valueOf 19 = .ok (.ireturn, 1) := by decide +kernel
theorem dX7_distanceOf_0 : decode cX7_distanceOf 0 = .ok (.iload_n 1, 1) := by decide +kernel
theorem dX7_distanceOf_1 : decode cX7_distanceOf 1 = .ok (.invokestatic 118, 3) := by decide +kernel
theorem dX7_distanceOf_4 : decode cX7_distanceOf 4 = .ok (.aload_n 0, 1) := by decide +kernel
theorem dX7_distanceOf_5 : decode cX7_distanceOf 5 = .ok (.getfield 28, 3) := by decide +kernel
theorem dX7_distanceOf_8 : decode cX7_distanceOf 8 = .ok (.aload_n 0, 1) := by decide +kernel
theorem dX7_distanceOf_9 : decode cX7_distanceOf 9 = .ok (.getfield 28, 3) := by decide +kernel
theorem dX7_distanceOf_12 : decode cX7_distanceOf 12 = .ok (.iload_n 1, 1) := by decide +kernel
theorem dX7_distanceOf_13 : decode cX7_distanceOf 13 = .ok (.invokevirtual 124, 3) := by decide +kernel
theorem dX7_distanceOf_16 : decode cX7_distanceOf 16 = .ok (.invokevirtual 239, 3) := by decide +kernel
theorem dX7_distanceOf_19 : decode cX7_distanceOf 19 = .ok (.ireturn, 1) := by decide +kernel
theorem dX7_longestDistance_0 : decode cX7_longestDistance 0 = .ok (.aload_n 0, 1) := by decide +kernel
theorem dX7_longestDistance_1 : decode cX7_longestDistance 1 = .ok (.getfield 28, 3) := by decide +kernel
theorem dX7_longestDistance_4 : decode cX7_longestDistance 4 = .ok (.invokevirtual 245, 3) := by decide +kernel
theorem dX7_longestDistance_7 : decode cX7_longestDistance 7 = .ok (.ireturn, 1) := by decide +kernel
theorem dX7_sumOfDistances_0 : decode cX7_sumOfDistances 0 = .ok (.aload_n 0, 1) := by decide +kernel
theorem dX7_sumOfDistances_1 : decode cX7_sumOfDistances 1 = .ok (.getfield 28, 3) := by decide +kernel
theorem dX7_sumOfDistances_4 : decode cX7_sumOfDistances 4 = .ok (.invokevirtual 248, 3) := by decide +kernel
theorem dX7_sumOfDistances_7 : decode cX7_sumOfDistances 7 = .ok (.ireturn, 1) := by decide +kernel
theorem dX7_whyNoAdd_0 : decode cX7_whyNoAdd 0 = .ok (.iload_n 1, 1) := by decide +kernel
theorem dX7_whyNoAdd_1 : decode cX7_whyNoAdd 1 = .ok (.invokestatic 118, 3) := by decide +kernel
theorem dX7_whyNoAdd_4 : decode cX7_whyNoAdd 4 = .ok (.aload_n 0, 1) := by decide +kernel
theorem dX7_whyNoAdd_5 : decode cX7_whyNoAdd 5 = .ok (.getfield 28, 3) := by decide +kernel
theorem dX7_whyNoAdd_8 : decode cX7_whyNoAdd 8 = .ok (.iload_n 1, 1) := by decide +kernel
theorem dX7_whyNoAdd_9 : decode cX7_whyNoAdd 9 = .ok (.invokevirtual 124, 3) := by decide +kernel
theorem dX7_whyNoAdd_12 : decode cX7_whyNoAdd 12 = .ok (.iconst (-1), 1) := by decide +kernel
theorem dX7_whyNoAdd_13 : decode cX7_whyNoAdd 13 = .ok (.if_icmp .eq 5, 3) := by decide +kernel
theorem dX7_whyNoAdd_16 : decode cX7_whyNoAdd 16 = .ok (.iconst 1, 1) := by decide +kernel
theorem dX7_whyNoAdd_17 : decode cX7_whyNoAdd 17 = .ok (.ireturn, 1) := by decide +kernel
theorem dX7_whyNoAdd_18 : decode cX7_whyNoAdd 18 = .ok (.aload_n 0, 1) := by decide +kernel
theorem dX7_whyNoAdd_19 : decode cX7_whyNoAdd 19 = .ok (.iload_n 1, 1) := by decide +kernel
theorem dX7_whyNoAdd_20 : decode cX7_whyNoAdd 20 = .ok (.invokevirtual 254, 3) := by decide +kernel
theorem dX7_whyNoAdd_23 : decode cX7_whyNoAdd 23 = .ok (.iconst (-1), 1) := by decide +kernel
theorem dX7_whyNoAdd_24 : decode cX7_whyNoAdd 24 = .ok (.if_icmp .ne 7, 3) := by decide +kernel
theorem dX7_whyNoAdd_27 : decode cX7_whyNoAdd 27 = .ok (.iconst 2, 1) := by decide +kernel
theorem dX7_whyNoAdd_28 : decode cX7_whyNoAdd 28 = .ok (.goto 4, 3) := by decide +kernel
theorem dX7_whyNoAdd_31 : decode cX7_whyNoAdd 31 = .ok (.iconst 0, 1) := by decide +kernel
theorem dX7_whyNoAdd_32 : decode cX7_whyNoAdd 32 = .ok (.ireturn, 1) := by decide +kernel
theorem dX7_bucketsWith_0 : decode cX7_bucketsWith 0 = .ok (.iload_n 1, 1) := by decide +kernel
theorem dX7_bucketsWith_1 : decode cX7_bucketsWith 1 = .ok (.invokestatic 168, 3) := by decide +kernel
theorem dX7_bucketsWith_4 : decode cX7_bucketsWith 4 = .ok (.ifCond .ne 13, 3) := by decide +kernel
theorem dX7_bucketsWith_7 : decode cX7_bucketsWith 7 = .ok (.new 79, 3) := by decide +kernel
theorem dX7_bucketsWith_10 : decode cX7_bucketsWith 10 = .ok (.dup, 1) := by decide +kernel
theorem dX7_bucketsWith_11 : decode cX7_bucketsWith 11 = .ok (.ldc 171, 2) := by decide +kernel
theorem dX7_bucketsWith_13 : decode cX7_bucketsWith 13 = .ok (.invokespecial 83, 3) := by decide +kernel
theorem dX7_bucketsWith_16 : decode cX7_bucketsWith 16 = .ok (.athrow, 1) := by decide +kernel
theorem dX7_bucketsWith_17 : decode cX7_bucketsWith 17 = .ok (.aload_n 0, 1) := by decide +kernel
theorem dX7_bucketsWith_18 : decode cX7_bucketsWith 18 = .ok (.getfield 32, 3) := by decide +kernel
theorem dX7_bucketsWith_21 : decode cX7_bucketsWith 21 = .ok (.aload_n 0, 1) := by decide +kernel
theorem dX7_bucketsWith_22 : decode cX7_bucketsWith 22 = .ok (.getfield 28, 3) := by decide +kernel
theorem dX7_bucketsWith_25 : decode cX7_bucketsWith 25 = .ok (.invokevirtual 109, 3) := by decide +kernel
theorem dX7_bucketsWith_28 : decode cX7_bucketsWith 28 = .ok (.aload_n 0, 1) := by decide +kernel
theorem dX7_bucketsWith_29 : decode cX7_bucketsWith 29 = .ok (.getfield 32, 3) := by decide +kernel
theorem dX7_bucketsWith_32 : decode cX7_bucketsWith 32 = .ok (.iload_n 1, 1) := by decide +kernel
theorem dX7_bucketsWith_33 : decode cX7_bucketsWith 33 = .ok (.invokevirtual 173, 3) := by decide +kernel
theorem dX7_bucketsWith_36 : decode cX7_bucketsWith 36 = .ok (.ifCond .eq 13, 3) := by decide +kernel
theorem dX7_bucketsWith_39 : decode cX7_bucketsWith 39 = .ok (.aload_n 0, 1) := by decide +kernel
theorem dX7_bucketsWith_40 : decode cX7_bucketsWith 40 = .ok (.getfield 32, 3) := by decide +kernel
theorem dX7_bucketsWith_43 : decode cX7_bucketsWith 43 = .ok (.getfield 178, 3) := by decide +kernel
theorem dX7_bucketsWith_46 : decode cX7_bucketsWith 46 = .ok (.goto 4, 3) := by decide +kernel
theorem dX7_bucketsWith_49 : decode cX7_bucketsWith 49 = .ok (.iconst (-1), 1) := by decide +kernel
theorem dX7_bucketsWith_50 : decode cX7_bucketsWith 50 = .ok (.ireturn, 1) := by decide +kernel
theorem dX7_bestMultiplier_0 : decode cX7_bestMultiplier 0 = .ok (.iload_n 1, 1) := by decide +kernel
theorem dX7_bestMultiplier_1 : decode cX7_bestMultiplier 1 = .ok (.iconst 1, 1) := by decide +kernel
theorem dX7_bestMultiplier_2 : decode cX7_bestMultiplier 2 = .ok (.if_icmp .lt 9, 3) := by decide +kernel
theorem dX7_bestMultiplier_5 : decode cX7_bestMultiplier 5 = .ok (.iload_n 1, 1) := by decide +kernel
theorem dX7_bestMultiplier_6 : decode cX7_bestMultiplier 6 = .ok (.bipush 30, 2) := by decide +kernel
theorem dX7_bestMultiplier_8 : decode cX7_bestMultiplier 8 = .ok (.if_icmp .le 14, 3) := by decide +kernel
theorem dX7_bestMultiplier_11 : decode cX7_bestMultiplier 11 = .ok (.new 79, 3) := by decide +kernel
theorem dX7_bestMultiplier_14 : decode cX7_bestMultiplier 14 = .ok (.dup, 1) := by decide +kernel
theorem dX7_bestMultiplier_15 : decode cX7_bestMultiplier 15 = .ok (.ldc_w 263, 3) := by decide +kernel
theorem dX7_bestMultiplier_18 : decode cX7_bestMultiplier 18 = .ok (.invokespecial 83, 3) := by decide +kernel
theorem dX7_bestMultiplier_21 : decode cX7_bestMultiplier 21 = .ok (.athrow, 1) := by decide +kernel
theorem dX7_bestMultiplier_22 : decode cX7_bestMultiplier 22 = .ok (.iconst (-1), 1) := by decide +kernel
theorem dX7_bestMultiplier_23 : decode cX7_bestMultiplier 23 = .ok (.istore_n 2, 1) := by decide +kernel
theorem dX7_bestMultiplier_24 : decode cX7_bestMultiplier 24 = .ok (.iconst 0, 1) := by decide +kernel
theorem dX7_bestMultiplier_25 : decode cX7_bestMultiplier 25 = .ok (.istore_n 3, 1) := by decide +kernel
theorem dX7_bestMultiplier_26 : decode cX7_bestMultiplier 26 = .ok (.iconst 1, 1) := by decide +kernel
theorem dX7_bestMultiplier_27 : decode cX7_bestMultiplier 27 = .ok (.istore 4, 2) := by decide +kernel
theorem dX7_bestMultiplier_29 : decode cX7_bestMultiplier 29 = .ok (.iload 4, 2) := by decide +kernel
theorem dX7_bestMultiplier_31 : decode cX7_bestMultiplier 31 = .ok (.iload_n 1, 1) := by decide +kernel
theorem dX7_bestMultiplier_32 : decode cX7_bestMultiplier 32 = .ok (.if_icmp .gt 78, 3) := by decide +kernel
theorem dX7_bestMultiplier_35 : decode cX7_bestMultiplier 35 = .ok (.aload_n 0, 1) := by decide +kernel
theorem dX7_bestMultiplier_36 : decode cX7_bestMultiplier 36 = .ok (.getfield 32, 3) := by decide +kernel
theorem dX7_bestMultiplier_39 : decode cX7_bestMultiplier 39 = .ok (.aload_n 0, 1) := by decide +kernel
theorem dX7_bestMultiplier_40 : decode cX7_bestMultiplier 40 = .ok (.getfield 28, 3) := by decide +kernel
theorem dX7_bestMultiplier_43 : decode cX7_bestMultiplier 43 = .ok (.invokevirtual 109, 3) := by decide +kernel
theorem dX7_bestMultiplier_46 : decode cX7_bestMultiplier 46 = .ok (.aload_n 0, 1) := by decide +kernel
theorem dX7_bestMultiplier_47 : decode cX7_bestMultiplier 47 = .ok (.getfield 32, 3) := by decide +kernel
theorem dX7_bestMultiplier_50 : decode cX7_bestMultiplier 50 = .ok (.iload 4, 2) := by decide +kernel
theorem dX7_bestMultiplier_52 : decode cX7_bestMultiplier 52 = .ok (.invokevirtual 186, 3) := by decide +kernel
theorem dX7_bestMultiplier_55 : decode cX7_bestMultiplier 55 = .ok (.ifCond .eq 49, 3) := by decide +kernel
theorem dX7_bestMultiplier_58 : decode cX7_bestMultiplier 58 = .ok (.aload_n 0, 1) := by decide +kernel
theorem dX7_bestMultiplier_59 : decode cX7_bestMultiplier 59 = .ok (.getfield 32, 3) := by decide +kernel
theorem dX7_bestMultiplier_62 : decode cX7_bestMultiplier 62 = .ok (.getfield 178, 3) := by decide +kernel
theorem dX7_bestMultiplier_65 : decode cX7_bestMultiplier 65 = .ok (.aload_n 0, 1) := by decide +kernel
theorem dX7_bestMultiplier_66 : decode cX7_bestMultiplier 66 = .ok (.getfield 28, 3) := by decide +kernel
theorem dX7_bestMultiplier_69 : decode cX7_bestMultiplier 69 = .ok (.getfield 178, 3) := by decide +kernel
theorem dX7_bestMultiplier_72 : decode cX7_bestMultiplier 72 = .ok (.if_icmp .eq 6, 3) := by decide +kernel
theorem dX7_bestMultiplier_75 : decode cX7_bestMultiplier 75 = .ok (.goto 29, 3) := by decide +kernel
theorem dX7_bestMultiplier_78 : decode cX7_bestMultiplier 78 = .ok (.aload_n 0, 1) := by decide +kernel
theorem dX7_bestMultiplier_79 : decode cX7_bestMultiplier 79 = .ok (.getfield 32, 3) := by decide +kernel
theorem dX7_bestMultiplier_82 : decode cX7_bestMultiplier 82 = .ok (.invokevirtual 248, 3) := by decide +kernel
theorem dX7_bestMultiplier_85 : decode cX7_bestMultiplier 85 = .ok (.istore 5, 2) := by decide +kernel
theorem dX7_bestMultiplier_87 : decode cX7_bestMultiplier 87 = .ok (.iload_n 2, 1) := by decide +kernel
theorem dX7_bestMultiplier_88 : decode cX7_bestMultiplier 88 = .ok (.iconst (-1), 1) := by decide +kernel
theorem dX7_bestMultiplier_89 : decode cX7_bestMultiplier 89 = .ok (.if_icmp .eq 9, 3) := by decide +kernel
theorem dX7_bestMultiplier_92 : decode cX7_bestMultiplier 92 = .ok (.iload 5, 2) := by decide +kernel
theorem dX7_bestMultiplier_94 : decode cX7_bestMultiplier 94 = .ok (.iload_n 3, 1) := by decide +kernel
theorem dX7_bestMultiplier_95 : decode cX7_bestMultiplier 95 = .ok (.if_icmp .ge 9, 3) := by decide +kernel
theorem dX7_bestMultiplier_98 : decode cX7_bestMultiplier 98 = .ok (.iload 4, 2) := by decide +kernel
theorem dX7_bestMultiplier_100 : decode cX7_bestMultiplier 100 = .ok (.istore_n 2, 1) := by decide +kernel
theorem dX7_bestMultiplier_101 : decode cX7_bestMultiplier 101 = .ok (.iload 5, 2) := by decide +kernel
theorem dX7_bestMultiplier_103 : decode cX7_bestMultiplier 103 = .ok (.istore_n 3, 1) := by decide +kernel
theorem dX7_bestMultiplier_104 : decode cX7_bestMultiplier 104 = .ok (.iinc 4 1, 3) := by decide +kernel
theorem dX7_bestMultiplier_107 : decode cX7_bestMultiplier 107 = .ok (.goto (-78), 3) := by decide +kernel
theorem dX7_bestMultiplier_110 : decode cX7_bestMultiplier 110 = .ok (.iload_n 2, 1) := by decide +kernel
theorem dX7_bestMultiplier_111 : decode cX7_bestMultiplier 111 = .ok (.ireturn, 1) := by decide +kernel
theorem dX7_moves_0 : decode cX7_moves 0 = .ok (.aload_n 0, 1) := by decide +kernel
theorem dX7_moves_1 : decode cX7_moves 1 = .ok (.getfield 28, 3) := by decide +kernel
theorem dX7_moves_4 : decode cX7_moves 4 = .ok (.getfield 257, 3) := by decide +kernel
theorem dX7_moves_7 : decode cX7_moves 7 = .ok (.ireturn, 1) := by decide +kernel
theorem dX7_pulls_0 : decode cX7_pulls 0 = .ok (.aload_n 0, 1) := by decide +kernel
theorem dX7_pulls_1 : decode cX7_pulls 1 = .ok (.getfield 28, 3) := by decide +kernel
theorem dX7_pulls_4 : decode cX7_pulls 4 = .ok (.getfield 260, 3) := by decide +kernel
theorem dX7_pulls_7 : decode cX7_pulls 7 = .ok (.ireturn, 1) := by decide +kernel
theorem dX7_growths_0 : decode cX7_growths 0 = .ok (.aload_n 0, 1) := by decide +kernel
theorem dX7_growths_1 : decode cX7_growths 1 = .ok (.getfield 28, 3) := by decide +kernel
theorem dX7_growths_4 : decode cX7_growths 4 = .ok (.getfield 265, 3) := by decide +kernel
theorem dX7_growths_7 : decode cX7_growths 7 = .ok (.ireturn, 1) := by decide +kernel
theorem dX7_addedCount_0 : decode cX7_addedCount 0 = .ok (.aload_n 0, 1) := by decide +kernel
theorem dX7_addedCount_1 : decode cX7_addedCount 1 = .ok (.getfield 28, 3) := by decide +kernel
theorem dX7_addedCount_4 : decode cX7_addedCount 4 = .ok (.getfield 268, 3) := by decide +kernel
theorem dX7_addedCount_7 : decode cX7_addedCount 7 = .ok (.ireturn, 1) := by decide +kernel
theorem dX7_removedCount_0 : decode cX7_removedCount 0 = .ok (.aload_n 0, 1) := by decide +kernel
theorem dX7_removedCount_1 : decode cX7_removedCount 1 = .ok (.getfield 28, 3) := by decide +kernel
theorem dX7_removedCount_4 : decode cX7_removedCount 4 = .ok (.getfield 271, 3) := by decide +kernel
theorem dX7_removedCount_7 : decode cX7_removedCount 7 = .ok (.ireturn, 1) := by decide +kernel
theorem dX7_violations_0 : decode cX7_violations 0 = .ok (.aload_n 0, 1) := by decide +kernel
theorem dX7_violations_1 : decode cX7_violations 1 = .ok (.getfield 28, 3) := by decide +kernel
theorem dX7_violations_4 : decode cX7_violations 4 = .ok (.getfield 268, 3) := by decide +kernel
theorem dX7_violations_7 : decode cX7_violations 7 = .ok (.aload_n 0, 1) := by decide +kernel
theorem dX7_violations_8 : decode cX7_violations 8 = .ok (.getfield 28, 3) := by decide +kernel
theorem dX7_violations_11 : decode cX7_violations 11 = .ok (.getfield 271, 3) := by decide +kernel
theorem dX7_violations_14 : decode cX7_violations 14 = .ok (.aload_n 0, 1) := by decide +kernel
theorem dX7_violations_15 : decode cX7_violations 15 = .ok (.getfield 28, 3) := by decide +kernel
theorem dX7_violations_18 : decode cX7_violations 18 = .ok (.getfield 115, 3) := by decide +kernel
theorem dX7_violations_21 : decode cX7_violations 21 = .ok (.iadd, 1) := by decide +kernel
theorem dX7_violations_22 : decode cX7_violations 22 = .ok (.isub, 1) := by decide +kernel
theorem dX7_violations_23 : decode cX7_violations 23 = .ok (.invokestatic 274, 3) := by decide +kernel
theorem dX7_violations_26 : decode cX7_violations 26 = .ok (.istore_n 1, 1) := by decide +kernel
theorem dX7_violations_27 : decode cX7_violations 27 = .ok (.aload_n 0, 1) := by decide +kernel
theorem dX7_violations_28 : decode cX7_violations 28 = .ok (.getfield 28, 3) := by decide +kernel
theorem dX7_violations_31 : decode cX7_violations 31 = .ok (.invokevirtual 279, 3) := by decide +kernel
theorem dX7_violations_34 : decode cX7_violations 34 = .ok (.aload_n 0, 1) := by decide +kernel
theorem dX7_violations_35 : decode cX7_violations 35 = .ok (.getfield 28, 3) := by decide +kernel
theorem dX7_violations_38 : decode cX7_violations 38 = .ok (.invokevirtual 282, 3) := by decide +kernel
theorem dX7_violations_41 : decode cX7_violations 41 = .ok (.iadd, 1) := by decide +kernel
theorem dX7_violations_42 : decode cX7_violations 42 = .ok (.aload_n 0, 1) := by decide +kernel
theorem dX7_violations_43 : decode cX7_violations 43 = .ok (.getfield 28, 3) := by decide +kernel
theorem dX7_violations_46 : decode cX7_violations 46 = .ok (.invokevirtual 285, 3) := by decide +kernel
theorem dX7_violations_49 : decode cX7_violations 49 = .ok (.iadd, 1) := by decide +kernel
theorem dX7_violations_50 : decode cX7_violations 50 = .ok (.iload_n 1, 1) := by decide +kernel
theorem dX7_violations_51 : decode cX7_violations 51 = .ok (.iadd, 1) := by decide +kernel
theorem dX7_violations_52 : decode cX7_violations 52 = .ok (.ireturn, 1) := by decide +kernel
theorem dX7_needKey_0 : decode cX7_needKey 0 = .ok (.iload_n 0, 1) := by decide +kernel
theorem dX7_needKey_1 : decode cX7_needKey 1 = .ok (.invokestatic 144, 3) := by decide +kernel
theorem dX7_needKey_4 : decode cX7_needKey 4 = .ok (.ifCond .ne 14, 3) := by decide +kernel
theorem dX7_needKey_7 : decode cX7_needKey 7 = .ok (.new 79, 3) := by decide +kernel
theorem dX7_needKey_10 : decode cX7_needKey 10 = .ok (.dup, 1) := by decide +kernel
theorem dX7_needKey_11 : decode cX7_needKey 11 = .ok (.ldc_w 299, 3) := by decide +kernel
theorem dX7_needKey_14 : decode cX7_needKey 14 = .ok (.invokespecial 83, 3) := by decide +kernel
theorem dX7_needKey_17 : decode cX7_needKey 17 = .ok (.athrow, 1) := by decide +kernel
theorem dX7_needKey_18 : decode cX7_needKey 18 = .ok (.return_, 1) := by decide +kernel
theorem dX7_needValue_0 : decode cX7_needValue 0 = .ok (.iload_n 0, 1) := by decide +kernel
theorem dX7_needValue_1 : decode cX7_needValue 1 = .ok (.invokestatic 301, 3) := by decide +kernel
theorem dX7_needValue_4 : decode cX7_needValue 4 = .ok (.ifCond .ne 14, 3) := by decide +kernel
theorem dX7_needValue_7 : decode cX7_needValue 7 = .ok (.new 79, 3) := by decide +kernel
theorem dX7_needValue_10 : decode cX7_needValue 10 = .ok (.dup, 1) := by decide +kernel
theorem dX7_needValue_11 : decode cX7_needValue 11 = .ok (.ldc_w 304, 3) := by decide +kernel
theorem dX7_needValue_14 : decode cX7_needValue 14 = .ok (.invokespecial 83, 3) := by decide +kernel
theorem dX7_needValue_17 : decode cX7_needValue 17 = .ok (.athrow, 1) := by decide +kernel
theorem dX7_needValue_18 : decode cX7_needValue 18 = .ok (.return_, 1) := by decide +kernel
theorem dX7_needBucket_0 : decode cX7_needBucket 0 = .ok (.aload_n 0, 1) := by decide +kernel
theorem dX7_needBucket_1 : decode cX7_needBucket 1 = .ok (.getfield 28, 3) := by decide +kernel
theorem dX7_needBucket_4 : decode cX7_needBucket 4 = .ok (.iload_n 1, 1) := by decide +kernel
theorem dX7_needBucket_5 : decode cX7_needBucket 5 = .ok (.invokevirtual 306, 3) := by decide +kernel
theorem dX7_needBucket_8 : decode cX7_needBucket 8 = .ok (.ifCond .ne 14, 3) := by decide +kernel
theorem dX7_needBucket_11 : decode cX7_needBucket 11 = .ok (.new 309, 3) := by decide +kernel
theorem dX7_needBucket_14 : decode cX7_needBucket 14 = .ok (.dup, 1) := by decide +kernel
theorem dX7_needBucket_15 : decode cX7_needBucket 15 = .ok (.ldc_w 311, 3) := by decide +kernel
theorem dX7_needBucket_18 : decode cX7_needBucket 18 = .ok (.invokespecial 313, 3) := by decide +kernel
theorem dX7_needBucket_21 : decode cX7_needBucket 21 = .ok (.athrow, 1) := by decide +kernel
theorem dX7_needBucket_22 : decode cX7_needBucket 22 = .ok (.return_, 1) := by decide +kernel
theorem dX7_isKey_0 : decode cX7_isKey 0 = .ok (.iload_n 0, 1) := by decide +kernel
theorem dX7_isKey_1 : decode cX7_isKey 1 = .ok (.ifCond .lt 14, 3) := by decide +kernel
theorem dX7_isKey_4 : decode cX7_isKey 4 = .ok (.iload_n 0, 1) := by decide +kernel
theorem dX7_isKey_5 : decode cX7_isKey 5 = .ok (.sipush 9999, 3) := by decide +kernel
theorem dX7_isKey_8 : decode cX7_isKey 8 = .ok (.if_icmp .gt 7, 3) := by decide +kernel
theorem dX7_isKey_11 : decode cX7_isKey 11 = .ok (.iconst 1, 1) := by decide +kernel
theorem dX7_isKey_12 : decode cX7_isKey 12 = .ok (.goto 4, 3) := by decide +kernel
theorem dX7_isKey_15 : decode cX7_isKey 15 = .ok (.iconst 0, 1) := by decide +kernel
theorem dX7_isKey_16 : decode cX7_isKey 16 = .ok (.ireturn, 1) := by decide +kernel
theorem dX7_isValue_0 : decode cX7_isValue 0 = .ok (.iload_n 0, 1) := by decide +kernel
theorem dX7_isValue_1 : decode cX7_isValue 1 = .ok (.ifCond .lt 14, 3) := by decide +kernel
theorem dX7_isValue_4 : decode cX7_isValue 4 = .ok (.iload_n 0, 1) := by decide +kernel
theorem dX7_isValue_5 : decode cX7_isValue 5 = .ok (.sipush 999, 3) := by decide +kernel
theorem dX7_isValue_8 : decode cX7_isValue 8 = .ok (.if_icmp .gt 7, 3) := by decide +kernel
theorem dX7_isValue_11 : decode cX7_isValue 11 = .ok (.iconst 1, 1) := by decide +kernel
theorem dX7_isValue_12 : decode cX7_isValue 12 = .ok (.goto 4, 3) := by decide +kernel
theorem dX7_isValue_15 : decode cX7_isValue 15 = .ok (.iconst 0, 1) := by decide +kernel
theorem dX7_isValue_16 : decode cX7_isValue 16 = .ok (.ireturn, 1) := by decide +kernel
theorem dX7_isNear_0 : decode cX7_isNear 0 = .ok (.iload_n 0, 1) := by decide +kernel
theorem dX7_isNear_1 : decode cX7_isNear 1 = .ok (.iconst 2, 1) := by decide +kernel
theorem dX7_isNear_2 : decode cX7_isNear 2 = .ok (.if_icmp .lt 13, 3) := by decide +kernel
theorem dX7_isNear_5 : decode cX7_isNear 5 = .ok (.iload_n 0, 1) := by decide +kernel
theorem dX7_isNear_6 : decode cX7_isNear 6 = .ok (.bipush 6, 2) := by decide +kernel
theorem dX7_isNear_8 : decode cX7_isNear 8 = .ok (.if_icmp .gt 7, 3) := by decide +kernel
theorem dX7_isNear_11 : decode cX7_isNear 11 = .ok (.iconst 1, 1) := by decide +kernel
theorem dX7_isNear_12 : decode cX7_isNear 12 = .ok (.goto 4, 3) := by decide +kernel
theorem dX7_isNear_15 : decode cX7_isNear 15 = .ok (.iconst 0, 1) := by decide +kernel
theorem dX7_isNear_16 : decode cX7_isNear 16 = .ok (.ireturn, 1) := by decide +kernel
theorem dX7_isTimes_0 : decode cX7_isTimes 0 = .ok (.iload_n 0, 1) := by decide +kernel
theorem dX7_isTimes_1 : decode cX7_isTimes 1 = .ok (.iconst 1, 1) := by decide +kernel
theorem dX7_isTimes_2 : decode cX7_isTimes 2 = .ok (.if_icmp .lt 13, 3) := by decide +kernel
theorem dX7_isTimes_5 : decode cX7_isTimes 5 = .ok (.iload_n 0, 1) := by decide +kernel
theorem dX7_isTimes_6 : decode cX7_isTimes 6 = .ok (.bipush 99, 2) := by decide +kernel
theorem dX7_isTimes_8 : decode cX7_isTimes 8 = .ok (.if_icmp .gt 7, 3) := by decide +kernel
theorem dX7_isTimes_11 : decode cX7_isTimes 11 = .ok (.iconst 1, 1) := by decide +kernel
theorem dX7_isTimes_12 : decode cX7_isTimes 12 = .ok (.goto 4, 3) := by decide +kernel
theorem dX7_isTimes_15 : decode cX7_isTimes 15 = .ok (.iconst 0, 1) := by decide +kernel
theorem dX7_isTimes_16 : decode cX7_isTimes 16 = .ok (.ireturn, 1) := by decide +kernel
theorem dX7_tryToInsert_0 : decode cX7_tryToInsert 0 = .ok (.aload_n 0, 1) := by decide +kernel
theorem dX7_tryToInsert_1 : decode cX7_tryToInsert 1 = .ok (.getfield 28, 3) := by decide +kernel
theorem dX7_tryToInsert_4 : decode cX7_tryToInsert 4 = .ok (.iload_n 1, 1) := by decide +kernel
theorem dX7_tryToInsert_5 : decode cX7_tryToInsert 5 = .ok (.invokevirtual 124, 3) := by decide +kernel
theorem dX7_tryToInsert_8 : decode cX7_tryToInsert 8 = .ok (.iconst (-1), 1) := by decide +kernel
theorem dX7_tryToInsert_9 : decode cX7_tryToInsert 9 = .ok (.if_icmp .eq 5, 3) := by decide +kernel
theorem dX7_tryToInsert_12 : decode cX7_tryToInsert 12 = .ok (.iconst (-1), 1) := by decide +kernel
theorem dX7_tryToInsert_13 : decode cX7_tryToInsert 13 = .ok (.ireturn, 1) := by decide +kernel
theorem dX7_tryToInsert_14 : decode cX7_tryToInsert 14 = .ok (.aload_n 0, 1) := by decide +kernel
theorem dX7_tryToInsert_15 : decode cX7_tryToInsert 15 = .ok (.getfield 32, 3) := by decide +kernel
theorem dX7_tryToInsert_18 : decode cX7_tryToInsert 18 = .ok (.aload_n 0, 1) := by decide +kernel
theorem dX7_tryToInsert_19 : decode cX7_tryToInsert 19 = .ok (.getfield 28, 3) := by decide +kernel
theorem dX7_tryToInsert_22 : decode cX7_tryToInsert 22 = .ok (.invokevirtual 109, 3) := by decide +kernel
theorem dX7_tryToInsert_25 : decode cX7_tryToInsert 25 = .ok (.aload_n 0, 1) := by decide +kernel
theorem dX7_tryToInsert_26 : decode cX7_tryToInsert 26 = .ok (.getfield 32, 3) := by decide +kernel
theorem dX7_tryToInsert_29 : decode cX7_tryToInsert 29 = .ok (.iload_n 1, 1) := by decide +kernel
theorem dX7_tryToInsert_30 : decode cX7_tryToInsert 30 = .ok (.iconst 0, 1) := by decide +kernel
theorem dX7_tryToInsert_31 : decode cX7_tryToInsert 31 = .ok (.invokevirtual 60, 3) := by decide +kernel
theorem dX7_tryToInsert_34 : decode cX7_tryToInsert 34 = .ok (.ireturn, 1) := by decide +kernel
theorem dJ6_bitCount_0f7a4_0 : decode cJ6_bitCount_0f7a4 0 = .ok (.iload_n 0, 1) := by decide +kernel
theorem dJ6_bitCount_0f7a4_1 : decode cJ6_bitCount_0f7a4 1 = .ok (.iload_n 0, 1) := by decide +kernel
theorem dJ6_bitCount_0f7a4_2 : decode cJ6_bitCount_0f7a4 2 = .ok (.iconst 1, 1) := by decide +kernel
theorem dJ6_bitCount_0f7a4_3 : decode cJ6_bitCount_0f7a4 3 = .ok (.iushr, 1) := by decide +kernel
theorem dJ6_bitCount_0f7a4_4 : decode cJ6_bitCount_0f7a4 4 = .ok (.ldc_w 265, 3) := by decide +kernel
theorem dJ6_bitCount_0f7a4_7 : decode cJ6_bitCount_0f7a4 7 = .ok (.iand, 1) := by decide +kernel
theorem dJ6_bitCount_0f7a4_8 : decode cJ6_bitCount_0f7a4 8 = .ok (.isub, 1) := by decide +kernel
theorem dJ6_bitCount_0f7a4_9 : decode cJ6_bitCount_0f7a4 9 = .ok (.istore_n 0, 1) := by decide +kernel
theorem dJ6_bitCount_0f7a4_10 : decode cJ6_bitCount_0f7a4 10 = .ok (.iload_n 0, 1) := by decide +kernel
theorem dJ6_bitCount_0f7a4_11 : decode cJ6_bitCount_0f7a4 11 = .ok (.ldc_w 266, 3) := by decide +kernel
theorem dJ6_bitCount_0f7a4_14 : decode cJ6_bitCount_0f7a4 14 = .ok (.iand, 1) := by decide +kernel
theorem dJ6_bitCount_0f7a4_15 : decode cJ6_bitCount_0f7a4 15 = .ok (.iload_n 0, 1) := by decide +kernel
theorem dJ6_bitCount_0f7a4_16 : decode cJ6_bitCount_0f7a4 16 = .ok (.iconst 2, 1) := by decide +kernel
theorem dJ6_bitCount_0f7a4_17 : decode cJ6_bitCount_0f7a4 17 = .ok (.iushr, 1) := by decide +kernel
theorem dJ6_bitCount_0f7a4_18 : decode cJ6_bitCount_0f7a4 18 = .ok (.ldc_w 266, 3) := by decide +kernel
theorem dJ6_bitCount_0f7a4_21 : decode cJ6_bitCount_0f7a4 21 = .ok (.iand, 1) := by decide +kernel
theorem dJ6_bitCount_0f7a4_22 : decode cJ6_bitCount_0f7a4 22 = .ok (.iadd, 1) := by decide +kernel
theorem dJ6_bitCount_0f7a4_23 : decode cJ6_bitCount_0f7a4 23 = .ok (.istore_n 0, 1) := by decide +kernel
theorem dJ6_bitCount_0f7a4_24 : decode cJ6_bitCount_0f7a4 24 = .ok (.iload_n 0, 1) := by decide +kernel
theorem dJ6_bitCount_0f7a4_25 : decode cJ6_bitCount_0f7a4 25 = .ok (.iload_n 0, 1) := by decide +kernel
theorem dJ6_bitCount_0f7a4_26 : decode cJ6_bitCount_0f7a4 26 = .ok (.iconst 4, 1) := by decide +kernel
theorem dJ6_bitCount_0f7a4_27 : decode cJ6_bitCount_0f7a4 27 = .ok (.iushr, 1) := by decide +kernel
theorem dJ6_bitCount_0f7a4_28 : decode cJ6_bitCount_0f7a4 28 = .ok (.iadd, 1) := by decide +kernel
theorem dJ6_bitCount_0f7a4_29 : decode cJ6_bitCount_0f7a4 29 = .ok (.ldc_w 267, 3) := by decide +kernel
theorem dJ6_bitCount_0f7a4_32 : decode cJ6_bitCount_0f7a4 32 = .ok (.iand, 1) := by decide +kernel
theorem dJ6_bitCount_0f7a4_33 : decode cJ6_bitCount_0f7a4 33 = .ok (.istore_n 0, 1) := by decide +kernel
theorem dJ6_bitCount_0f7a4_34 : decode cJ6_bitCount_0f7a4 34 = .ok (.iload_n 0, 1) := by decide +kernel
theorem dJ6_bitCount_0f7a4_35 : decode cJ6_bitCount_0f7a4 35 = .ok (.iload_n 0, 1) := by decide +kernel
theorem dJ6_bitCount_0f7a4_36 : decode cJ6_bitCount_0f7a4 36 = .ok (.bipush 8, 2) := by decide +kernel
theorem dJ6_bitCount_0f7a4_38 : decode cJ6_bitCount_0f7a4 38 = .ok (.iushr, 1) := by decide +kernel
theorem dJ6_bitCount_0f7a4_39 : decode cJ6_bitCount_0f7a4 39 = .ok (.iadd, 1) := by decide +kernel
theorem dJ6_bitCount_0f7a4_40 : decode cJ6_bitCount_0f7a4 40 = .ok (.istore_n 0, 1) := by decide +kernel
theorem dJ6_bitCount_0f7a4_41 : decode cJ6_bitCount_0f7a4 41 = .ok (.iload_n 0, 1) := by decide +kernel
theorem dJ6_bitCount_0f7a4_42 : decode cJ6_bitCount_0f7a4 42 = .ok (.iload_n 0, 1) := by decide +kernel
theorem dJ6_bitCount_0f7a4_43 : decode cJ6_bitCount_0f7a4 43 = .ok (.bipush 16, 2) := by decide +kernel
theorem dJ6_bitCount_0f7a4_45 : decode cJ6_bitCount_0f7a4 45 = .ok (.iushr, 1) := by decide +kernel
theorem dJ6_bitCount_0f7a4_46 : decode cJ6_bitCount_0f7a4 46 = .ok (.iadd, 1) := by decide +kernel
theorem dJ6_bitCount_0f7a4_47 : decode cJ6_bitCount_0f7a4 47 = .ok (.istore_n 0, 1) := by decide +kernel
theorem dJ6_bitCount_0f7a4_48 : decode cJ6_bitCount_0f7a4 48 = .ok (.iload_n 0, 1) := by decide +kernel
theorem dJ6_bitCount_0f7a4_49 : decode cJ6_bitCount_0f7a4 49 = .ok (.bipush 63, 2) := by decide +kernel
theorem dJ6_bitCount_0f7a4_51 : decode cJ6_bitCount_0f7a4 51 = .ok (.iand, 1) := by decide +kernel
theorem dJ6_bitCount_0f7a4_52 : decode cJ6_bitCount_0f7a4 52 = .ok (.ireturn, 1) := by decide +kernel
theorem dJ9_abs_0f7a4_0 : decode cJ9_abs_0f7a4 0 = .ok (.iload_n 0, 1) := by decide +kernel
theorem dJ9_abs_0f7a4_1 : decode cJ9_abs_0f7a4 1 = .ok (.ifCond .ge 8, 3) := by decide +kernel
theorem dJ9_abs_0f7a4_4 : decode cJ9_abs_0f7a4 4 = .ok (.iload_n 0, 1) := by decide +kernel
theorem dJ9_abs_0f7a4_5 : decode cJ9_abs_0f7a4 5 = .ok (.ineg, 1) := by decide +kernel
theorem dJ9_abs_0f7a4_6 : decode cJ9_abs_0f7a4 6 = .ok (.goto 4, 3) := by decide +kernel
theorem dJ9_abs_0f7a4_9 : decode cJ9_abs_0f7a4 9 = .ok (.iload_n 0, 1) := by decide +kernel
theorem dJ9_abs_0f7a4_10 : decode cJ9_abs_0f7a4 10 = .ok (.ireturn, 1) := by decide +kernel
theorem dJ9_max_7cf53_0 : decode cJ9_max_7cf53 0 = .ok (.iload_n 0, 1) := by decide +kernel
theorem dJ9_max_7cf53_1 : decode cJ9_max_7cf53 1 = .ok (.iload_n 1, 1) := by decide +kernel
theorem dJ9_max_7cf53_2 : decode cJ9_max_7cf53 2 = .ok (.if_icmp .lt 7, 3) := by decide +kernel
theorem dJ9_max_7cf53_5 : decode cJ9_max_7cf53 5 = .ok (.iload_n 0, 1) := by decide +kernel
theorem dJ9_max_7cf53_6 : decode cJ9_max_7cf53 6 = .ok (.goto 4, 3) := by decide +kernel
theorem dJ9_max_7cf53_9 : decode cJ9_max_7cf53 9 = .ok (.iload_n 1, 1) := by decide +kernel
theorem dJ9_max_7cf53_10 : decode cJ9_max_7cf53 10 = .ok (.ireturn, 1) := by decide +kernel
theorem dJ9_min_7cf53_0 : decode cJ9_min_7cf53 0 = .ok (.iload_n 0, 1) := by decide +kernel
theorem dJ9_min_7cf53_1 : decode cJ9_min_7cf53 1 = .ok (.iload_n 1, 1) := by decide +kernel
theorem dJ9_min_7cf53_2 : decode cJ9_min_7cf53 2 = .ok (.if_icmp .gt 7, 3) := by decide +kernel
theorem dJ9_min_7cf53_5 : decode cJ9_min_7cf53 5 = .ok (.iload_n 0, 1) := by decide +kernel
theorem dJ9_min_7cf53_6 : decode cJ9_min_7cf53 6 = .ok (.goto 4, 3) := by decide +kernel
theorem dJ9_min_7cf53_9 : decode cJ9_min_7cf53 9 = .ok (.iload_n 1, 1) := by decide +kernel
theorem dJ9_min_7cf53_10 : decode cJ9_min_7cf53 10 = .ok (.ireturn, 1) := by decide +kernel
theorem dL_cell_0 : decode cL_cell 0 = .ok (.iload_n 1, 1) := by decide +kernel
theorem dL_cell_1 : decode cL_cell 1 = .ok (.aload_n 0, 1) := by decide +kernel
theorem dL_cell_2 : decode cL_cell 2 = .ok (.arraylength, 1) := by decide +kernel
theorem dL_cell_3 : decode cL_cell 3 = .ok (.if_icmp .ge 9, 3) := by decide +kernel
theorem dL_cell_6 : decode cL_cell 6 = .ok (.aload_n 0, 1) := by decide +kernel
theorem dL_cell_7 : decode cL_cell 7 = .ok (.iload_n 1, 1) := by decide +kernel
theorem dL_cell_8 : decode cL_cell 8 = .ok (.iaload, 1) := by decide +kernel
theorem dL_cell_9 : decode cL_cell 9 = .ok (.goto 4, 3) := by decide +kernel
theorem dL_cell_12 : decode cL_cell 12 = .ok (.iconst 0, 1) := by decide +kernel
theorem dL_cell_13 : decode cL_cell 13 = .ok (.ireturn, 1) := by decide +kernel
theorem dL_entry_0 : decode cL_entry 0 = .ok (.aload_n 0, 1) := by decide +kernel
theorem dL_entry_1 : decode cL_entry 1 = .ok (.invokevirtual 7, 3) := by decide +kernel
theorem dL_entry_4 : decode cL_entry 4 = .ok (.ifCond .ne 7, 3) := by decide +kernel
theorem dL_entry_7 : decode cL_entry 7 = .ok (.iconst (-1), 1) := by decide +kernel
theorem dL_entry_8 : decode cL_entry 8 = .ok (.goto 9, 3) := by decide +kernel
theorem dL_entry_11 : decode cL_entry 11 = .ok (.iload_n 1, 1) := by decide +kernel
theorem dL_entry_12 : decode cL_entry 12 = .ok (.aload_n 0, 1) := by decide +kernel
theorem dL_entry_13 : decode cL_entry 13 = .ok (.invokevirtual 7, 3) := by decide +kernel
theorem dL_entry_16 : decode cL_entry 16 = .ok (.irem, 1) := by decide +kernel
theorem dL_entry_17 : decode cL_entry 17 = .ok (.istore_n 2, 1) := by decide +kernel
theorem dL_entry_18 : decode cL_entry 18 = .ok (.iconst 0, 1) := by decide +kernel
theorem dL_entry_19 : decode cL_entry 19 = .ok (.istore_n 3, 1) := by decide +kernel
theorem dL_entry_20 : decode cL_entry 20 = .ok (.iload_n 3, 1) := by decide +kernel
theorem dL_entry_21 : decode cL_entry 21 = .ok (.aload_n 0, 1) := by decide +kernel
theorem dL_entry_22 : decode cL_entry 22 = .ok (.invokevirtual 13, 3) := by decide +kernel
theorem dL_entry_25 : decode cL_entry 25 = .ok (.if_icmp .ge 35, 3) := by decide +kernel
theorem dL_entry_28 : decode cL_entry 28 = .ok (.iload_n 2, 1) := by decide +kernel
theorem dL_entry_29 : decode cL_entry 29 = .ok (.ifCond .lt 31, 3) := by decide +kernel
theorem dL_entry_32 : decode cL_entry 32 = .ok (.aload_n 0, 1) := by decide +kernel
theorem dL_entry_33 : decode cL_entry 33 = .ok (.iload_n 3, 1) := by decide +kernel
theorem dL_entry_34 : decode cL_entry 34 = .ok (.invokevirtual 16, 3) := by decide +kernel
theorem dL_entry_37 : decode cL_entry 37 = .ok (.iconst (-1), 1) := by decide +kernel
theorem dL_entry_38 : decode cL_entry 38 = .ok (.if_icmp .eq 16, 3) := by decide +kernel
theorem dL_entry_41 : decode cL_entry 41 = .ok (.iload_n 2, 1) := by decide +kernel
theorem dL_entry_42 : decode cL_entry 42 = .ok (.iinc 2 (-1), 3) := by decide +kernel
theorem dL_entry_45 : decode cL_entry 45 = .ok (.ifCond .ne 9, 3) := by decide +kernel
theorem dL_entry_48 : decode cL_entry 48 = .ok (.aload_n 0, 1) := by decide +kernel
theorem dL_entry_49 : decode cL_entry 49 = .ok (.iload_n 3, 1) := by decide +kernel
theorem dL_entry_50 : decode cL_entry 50 = .ok (.invokevirtual 16, 3) := by decide +kernel
theorem dL_entry_53 : decode cL_entry 53 = .ok (.ireturn, 1) := by decide +kernel
theorem dL_entry_54 : decode cL_entry 54 = .ok (.iinc 3 1, 3) := by decide +kernel
theorem dL_entry_57 : decode cL_entry 57 = .ok (.goto (-37), 3) := by decide +kernel
theorem dL_entry_60 : decode cL_entry 60 = .ok (.iconst (-1), 1) := by decide +kernel
theorem dL_entry_61 : decode cL_entry 61 = .ok (.ireturn, 1) := by decide +kernel
theorem dL_deed_0 : decode cL_deed 0 = .ok (.iload_n 1, 1) := by decide +kernel
theorem dL_deed_1 : decode cL_deed 1 = .ok (.iconst 4, 1) := by decide +kernel
theorem dL_deed_2 : decode cL_deed 2 = .ok (.iushr, 1) := by decide +kernel
theorem dL_deed_3 : decode cL_deed 3 = .ok (.sipush 8191, 3) := by decide +kernel
theorem dL_deed_6 : decode cL_deed 6 = .ok (.iand, 1) := by decide +kernel
theorem dL_deed_7 : decode cL_deed 7 = .ok (.istore_n 2, 1) := by decide +kernel
theorem dL_deed_8 : decode cL_deed 8 = .ok (.iload_n 1, 1) := by decide +kernel
theorem dL_deed_9 : decode cL_deed 9 = .ok (.bipush 17, 2) := by decide +kernel
theorem dL_deed_11 : decode cL_deed 11 = .ok (.iushr, 1) := by decide +kernel
theorem dL_deed_12 : decode cL_deed 12 = .ok (.sipush 1023, 3) := by decide +kernel
theorem dL_deed_15 : decode cL_deed 15 = .ok (.iand, 1) := by decide +kernel
theorem dL_deed_16 : decode cL_deed 16 = .ok (.istore_n 3, 1) := by decide +kernel
theorem dL_deed_17 : decode cL_deed 17 = .ok (.iload_n 1, 1) := by decide +kernel
theorem dL_deed_18 : decode cL_deed 18 = .ok (.sipush 1024, 3) := by decide +kernel
theorem dL_deed_21 : decode cL_deed 21 = .ok (.iand, 1) := by decide +kernel
theorem dL_deed_22 : decode cL_deed 22 = .ok (.ifCond .ne 7, 3) := by decide +kernel
theorem dL_deed_25 : decode cL_deed 25 = .ok (.iload_n 2, 1) := by decide +kernel
theorem dL_deed_26 : decode cL_deed 26 = .ok (.goto 7, 3) := by decide +kernel
theorem dL_deed_29 : decode cL_deed 29 = .ok (.iload_n 2, 1) := by decide +kernel
theorem dL_deed_30 : decode cL_deed 30 = .ok (.bipush 100, 2) := by decide +kernel
theorem dL_deed_32 : decode cL_deed 32 = .ok (.irem, 1) := by decide +kernel
theorem dL_deed_33 : decode cL_deed 33 = .ok (.istore 4, 2) := by decide +kernel
theorem dL_deed_35 : decode cL_deed 35 = .ok (.aload_n 0, 1) := by decide +kernel
theorem dL_deed_36 : decode cL_deed 36 = .ok (.iload_n 2, 1) := by decide +kernel
theorem dL_deed_37 : decode cL_deed 37 = .ok (.invokestatic 20, 3) := by decide +kernel
theorem dL_deed_40 : decode cL_deed 40 = .ok (.istore 5, 2) := by decide +kernel
theorem dL_deed_42 : decode cL_deed 42 = .ok (.iload_n 1, 1) := by decide +kernel
theorem dL_deed_43 : decode cL_deed 43 = .ok (.bipush 15, 2) := by decide +kernel
theorem dL_deed_45 : decode cL_deed 45 = .ok (.iand, 1) := by decide +kernel
theorem dL_deed_46 : decode cL_deed 46 = .ok (.tableswitch 356 0 14 #[74, 74, 74, 74, 98, 123, 144, 210, 210, 210, 226, 252, 280, 300, 325], 74) := by decide +kernel
theorem dL_deed_120 : decode cL_deed 120 = .ok (.aload_n 0, 1) := by decide +kernel
theorem dL_deed_121 : decode cL_deed 121 = .ok (.iload 4, 2) := by decide +kernel
theorem dL_deed_123 : decode cL_deed 123 = .ok (.invokevirtual 26, 3) := by decide +kernel
theorem dL_deed_126 : decode cL_deed 126 = .ok (.ifCond .ne 298, 3) := by decide +kernel
theorem dL_deed_129 : decode cL_deed 129 = .ok (.aload_n 0, 1) := by decide +kernel
theorem dL_deed_130 : decode cL_deed 130 = .ok (.iload 4, 2) := by decide +kernel
theorem dL_deed_132 : decode cL_deed 132 = .ok (.iload_n 3, 1) := by decide +kernel
theorem dL_deed_133 : decode cL_deed 133 = .ok (.sipush 1000, 3) := by decide +kernel
theorem dL_deed_136 : decode cL_deed 136 = .ok (.irem, 1) := by decide +kernel
theorem dL_deed_137 : decode cL_deed 137 = .ok (.invokevirtual 29, 3) := by decide +kernel
theorem dL_deed_140 : decode cL_deed 140 = .ok (.pop, 1) := by decide +kernel
theorem dL_deed_141 : decode cL_deed 141 = .ok (.goto 283, 3) := by decide +kernel
theorem dL_deed_144 : decode cL_deed 144 = .ok (.aload_n 0, 1) := by decide +kernel
theorem dL_deed_145 : decode cL_deed 145 = .ok (.iload 4, 2) := by decide +kernel
theorem dL_deed_147 : decode cL_deed 147 = .ok (.invokevirtual 26, 3) := by decide +kernel
theorem dL_deed_150 : decode cL_deed 150 = .ok (.iconst 2, 1) := by decide +kernel
theorem dL_deed_151 : decode cL_deed 151 = .ok (.if_icmp .eq 273, 3) := by decide +kernel
theorem dL_deed_154 : decode cL_deed 154 = .ok (.aload_n 0, 1) := by decide +kernel
theorem dL_deed_155 : decode cL_deed 155 = .ok (.iload 4, 2) := by decide +kernel
theorem dL_deed_157 : decode cL_deed 157 = .ok (.iload_n 3, 1) := by decide +kernel
theorem dL_deed_158 : decode cL_deed 158 = .ok (.sipush 1000, 3) := by decide +kernel
theorem dL_deed_161 : decode cL_deed 161 = .ok (.irem, 1) := by decide +kernel
theorem dL_deed_162 : decode cL_deed 162 = .ok (.invokevirtual 33, 3) := by decide +kernel
theorem dL_deed_165 : decode cL_deed 165 = .ok (.pop, 1) := by decide +kernel
theorem dL_deed_166 : decode cL_deed 166 = .ok (.goto 258, 3) := by decide +kernel
theorem dL_deed_169 : decode cL_deed 169 = .ok (.iload 5, 2) := by decide +kernel
theorem dL_deed_171 : decode cL_deed 171 = .ok (.iconst (-1), 1) := by decide +kernel
theorem dL_deed_172 : decode cL_deed 172 = .ok (.if_icmp .eq 252, 3) := by decide +kernel
theorem dL_deed_175 : decode cL_deed 175 = .ok (.aload_n 0, 1) := by decide +kernel
theorem dL_deed_176 : decode cL_deed 176 = .ok (.iload 5, 2) := by decide +kernel
theorem dL_deed_178 : decode cL_deed 178 = .ok (.iload_n 3, 1) := by decide +kernel
theorem dL_deed_179 : decode cL_deed 179 = .ok (.sipush 1000, 3) := by decide +kernel
theorem dL_deed_182 : decode cL_deed 182 = .ok (.irem, 1) := by decide +kernel
theorem dL_deed_183 : decode cL_deed 183 = .ok (.invokevirtual 33, 3) := by decide +kernel
theorem dL_deed_186 : decode cL_deed 186 = .ok (.pop, 1) := by decide +kernel
theorem dL_deed_187 : decode cL_deed 187 = .ok (.goto 237, 3) := by decide +kernel
theorem dL_deed_190 : decode cL_deed 190 = .ok (.iconst 0, 1) := by decide +kernel
theorem dL_deed_191 : decode cL_deed 191 = .ok (.istore 6, 2) := by decide +kernel
theorem dL_deed_193 : decode cL_deed 193 = .ok (.iload 6, 2) := by decide +kernel
theorem dL_deed_195 : decode cL_deed 195 = .ok (.iconst 1, 1) := by decide +kernel
theorem dL_deed_196 : decode cL_deed 196 = .ok (.iload_n 3, 1) := by decide +kernel
theorem dL_deed_197 : decode cL_deed 197 = .ok (.bipush 6, 2) := by decide +kernel
theorem dL_deed_199 : decode cL_deed 199 = .ok (.irem, 1) := by decide +kernel
theorem dL_deed_200 : decode cL_deed 200 = .ok (.iadd, 1) := by decide +kernel
theorem dL_deed_201 : decode cL_deed 201 = .ok (.if_icmp .ge 52, 3) := by decide +kernel
theorem dL_deed_204 : decode cL_deed 204 = .ok (.iload 4, 2) := by decide +kernel
theorem dL_deed_206 : decode cL_deed 206 = .ok (.iload 6, 2) := by decide +kernel
theorem dL_deed_208 : decode cL_deed 208 = .ok (.aload_n 0, 1) := by decide +kernel
theorem dL_deed_209 : decode cL_deed 209 = .ok (.invokevirtual 13, 3) := by decide +kernel
theorem dL_deed_212 : decode cL_deed 212 = .ok (.imul, 1) := by decide +kernel
theorem dL_deed_213 : decode cL_deed 213 = .ok (.iadd, 1) := by decide +kernel
theorem dL_deed_214 : decode cL_deed 214 = .ok (.sipush 10000, 3) := by decide +kernel
theorem dL_deed_217 : decode cL_deed 217 = .ok (.irem, 1) := by decide +kernel
theorem dL_deed_218 : decode cL_deed 218 = .ok (.istore 7, 2) := by decide +kernel
theorem dL_deed_220 : decode cL_deed 220 = .ok (.aload_n 0, 1) := by decide +kernel
theorem dL_deed_221 : decode cL_deed 221 = .ok (.iload 7, 2) := by decide +kernel
theorem dL_deed_223 : decode cL_deed 223 = .ok (.invokevirtual 26, 3) := by decide +kernel
theorem dL_deed_226 : decode cL_deed 226 = .ok (.ifCond .ne 21, 3) := by decide +kernel
theorem dL_deed_229 : decode cL_deed 229 = .ok (.aload_n 0, 1) := by decide +kernel
theorem dL_deed_230 : decode cL_deed 230 = .ok (.invokevirtual 7, 3) := by decide +kernel
theorem dL_deed_233 : decode cL_deed 233 = .ok (.bipush 40, 2) := by decide +kernel
theorem dL_deed_235 : decode cL_deed 235 = .ok (.if_icmp .ge 12, 3) := by decide +kernel
theorem dL_deed_238 : decode cL_deed 238 = .ok (.aload_n 0, 1) := by decide +kernel
theorem dL_deed_239 : decode cL_deed 239 = .ok (.iload 7, 2) := by decide +kernel
theorem dL_deed_241 : decode cL_deed 241 = .ok (.iload 6, 2) := by decide +kernel
theorem dL_deed_243 : decode cL_deed 243 = .ok (.invokevirtual 29, 3) := by decide +kernel
theorem dL_deed_246 : decode cL_deed 246 = .ok (.pop, 1) := by decide +kernel
theorem dL_deed_247 : decode cL_deed 247 = .ok (.iinc 6 1, 3) := by decide +kernel
theorem dL_deed_250 : decode cL_deed 250 = .ok (.goto (-57), 3) := by decide +kernel
theorem dL_deed_253 : decode cL_deed 253 = .ok (.goto 171, 3) := by decide +kernel
theorem dL_deed_256 : decode cL_deed 256 = .ok (.iload 5, 2) := by decide +kernel
theorem dL_deed_258 : decode cL_deed 258 = .ok (.iconst (-1), 1) := by decide +kernel
theorem dL_deed_259 : decode cL_deed 259 = .ok (.if_icmp .eq 165, 3) := by decide +kernel
theorem dL_deed_262 : decode cL_deed 262 = .ok (.aload_n 0, 1) := by decide +kernel
theorem dL_deed_263 : decode cL_deed 263 = .ok (.iload 5, 2) := by decide +kernel
theorem dL_deed_265 : decode cL_deed 265 = .ok (.invokevirtual 36, 3) := by decide +kernel
theorem dL_deed_268 : decode cL_deed 268 = .ok (.pop, 1) := by decide +kernel
theorem dL_deed_269 : decode cL_deed 269 = .ok (.goto 155, 3) := by decide +kernel
theorem dL_deed_272 : decode cL_deed 272 = .ok (.aload_n 0, 1) := by decide +kernel
theorem dL_deed_273 : decode cL_deed 273 = .ok (.iconst 2, 1) := by decide +kernel
theorem dL_deed_274 : decode cL_deed 274 = .ok (.iload_n 2, 1) := by decide +kernel
theorem dL_deed_275 : decode cL_deed 275 = .ok (.iconst 5, 1) := by decide +kernel
theorem dL_deed_276 : decode cL_deed 276 = .ok (.irem, 1) := by decide +kernel
theorem dL_deed_277 : decode cL_deed 277 = .ok (.iadd, 1) := by decide +kernel
theorem dL_deed_278 : decode cL_deed 278 = .ok (.invokevirtual 39, 3) := by decide +kernel
theorem dL_deed_281 : decode cL_deed 281 = .ok (.iconst (-1), 1) := by decide +kernel
theorem dL_deed_282 : decode cL_deed 282 = .ok (.if_icmp .eq 142, 3) := by decide +kernel
theorem dL_deed_285 : decode cL_deed 285 = .ok (.aload_n 0, 1) := by decide +kernel
theorem dL_deed_286 : decode cL_deed 286 = .ok (.iconst 2, 1) := by decide +kernel
theorem dL_deed_287 : decode cL_deed 287 = .ok (.iload_n 2, 1) := by decide +kernel
theorem dL_deed_288 : decode cL_deed 288 = .ok (.iconst 5, 1) := by decide +kernel
theorem dL_deed_289 : decode cL_deed 289 = .ok (.irem, 1) := by decide +kernel
theorem dL_deed_290 : decode cL_deed 290 = .ok (.iadd, 1) := by decide +kernel
theorem dL_deed_291 : decode cL_deed 291 = .ok (.invokevirtual 42, 3) := by decide +kernel
theorem dL_deed_294 : decode cL_deed 294 = .ok (.pop, 1) := by decide +kernel
theorem dL_deed_295 : decode cL_deed 295 = .ok (.goto 129, 3) := by decide +kernel
theorem dL_deed_298 : decode cL_deed 298 = .ok (.aload_n 0, 1) := by decide +kernel
theorem dL_deed_299 : decode cL_deed 299 = .ok (.iconst 1, 1) := by decide +kernel
theorem dL_deed_300 : decode cL_deed 300 = .ok (.iload_n 2, 1) := by decide +kernel
theorem dL_deed_301 : decode cL_deed 301 = .ok (.bipush 9, 2) := by decide +kernel
theorem dL_deed_303 : decode cL_deed 303 = .ok (.irem, 1) := by decide +kernel
theorem dL_deed_304 : decode cL_deed 304 = .ok (.iadd, 1) := by decide +kernel
theorem dL_deed_305 : decode cL_deed 305 = .ok (.invokevirtual 45, 3) := by decide +kernel
theorem dL_deed_308 : decode cL_deed 308 = .ok (.istore 6, 2) := by decide +kernel
theorem dL_deed_310 : decode cL_deed 310 = .ok (.iload 6, 2) := by decide +kernel
theorem dL_deed_312 : decode cL_deed 312 = .ok (.iconst (-1), 1) := by decide +kernel
theorem dL_deed_313 : decode cL_deed 313 = .ok (.if_icmp .eq 111, 3) := by decide +kernel
theorem dL_deed_316 : decode cL_deed 316 = .ok (.aload_n 0, 1) := by decide +kernel
theorem dL_deed_317 : decode cL_deed 317 = .ok (.iload 6, 2) := by decide +kernel
theorem dL_deed_319 : decode cL_deed 319 = .ok (.invokevirtual 48, 3) := by decide +kernel
theorem dL_deed_322 : decode cL_deed 322 = .ok (.pop, 1) := by decide +kernel
theorem dL_deed_323 : decode cL_deed 323 = .ok (.goto 101, 3) := by decide +kernel
theorem dL_deed_326 : decode cL_deed 326 = .ok (.aload_n 0, 1) := by decide +kernel
theorem dL_deed_327 : decode cL_deed 327 = .ok (.iload_n 2, 1) := by decide +kernel
theorem dL_deed_328 : decode cL_deed 328 = .ok (.iconst 1, 1) := by decide +kernel
theorem dL_deed_329 : decode cL_deed 329 = .ok (.iand, 1) := by decide +kernel
theorem dL_deed_330 : decode cL_deed 330 = .ok (.iconst 1, 1) := by decide +kernel
theorem dL_deed_331 : decode cL_deed 331 = .ok (.if_icmp .ne 7, 3) := by decide +kernel
theorem dL_deed_334 : decode cL_deed 334 = .ok (.iconst 1, 1) := by decide +kernel
theorem dL_deed_335 : decode cL_deed 335 = .ok (.goto 4, 3) := by decide +kernel
theorem dL_deed_338 : decode cL_deed 338 = .ok (.iconst 0, 1) := by decide +kernel
theorem dL_deed_339 : decode cL_deed 339 = .ok (.invokevirtual 51, 3) := by decide +kernel
theorem dL_deed_342 : decode cL_deed 342 = .ok (.pop, 1) := by decide +kernel
theorem dL_deed_343 : decode cL_deed 343 = .ok (.goto 81, 3) := by decide +kernel
theorem dL_deed_346 : decode cL_deed 346 = .ok (.aload_n 0, 1) := by decide +kernel
theorem dL_deed_347 : decode cL_deed 347 = .ok (.invokevirtual 13, 3) := by decide +kernel
theorem dL_deed_350 : decode cL_deed 350 = .ok (.bipush 32, 2) := by decide +kernel
theorem dL_deed_352 : decode cL_deed 352 = .ok (.if_icmp .ge 72, 3) := by decide +kernel
theorem dL_deed_355 : decode cL_deed 355 = .ok (.aload_n 0, 1) := by decide +kernel
theorem dL_deed_356 : decode cL_deed 356 = .ok (.invokevirtual 7, 3) := by decide +kernel
theorem dL_deed_359 : decode cL_deed 359 = .ok (.iconst 3, 1) := by decide +kernel
theorem dL_deed_360 : decode cL_deed 360 = .ok (.if_icmp .ge 64, 3) := by decide +kernel
theorem dL_deed_363 : decode cL_deed 363 = .ok (.aload_n 0, 1) := by decide +kernel
theorem dL_deed_364 : decode cL_deed 364 = .ok (.invokevirtual 55, 3) := by decide +kernel
theorem dL_deed_367 : decode cL_deed 367 = .ok (.pop, 1) := by decide +kernel
theorem dL_deed_368 : decode cL_deed 368 = .ok (.goto 56, 3) := by decide +kernel
theorem dL_deed_371 : decode cL_deed 371 = .ok (.iload_n 2, 1) := by decide +kernel
theorem dL_deed_372 : decode cL_deed 372 = .ok (.bipush 7, 2) := by decide +kernel
theorem dL_deed_374 : decode cL_deed 374 = .ok (.iand, 1) := by decide +kernel
theorem dL_deed_375 : decode cL_deed 375 = .ok (.ifCond .ne 11, 3) := by decide +kernel
theorem dL_deed_378 : decode cL_deed 378 = .ok (.aload_n 0, 1) := by decide +kernel
theorem dL_deed_379 : decode cL_deed 379 = .ok (.invokevirtual 58, 3) := by decide +kernel
theorem dL_deed_382 : decode cL_deed 382 = .ok (.pop, 1) := by decide +kernel
theorem dL_deed_383 : decode cL_deed 383 = .ok (.goto 41, 3) := by decide +kernel
theorem dL_deed_386 : decode cL_deed 386 = .ok (.iload 5, 2) := by decide +kernel
theorem dL_deed_388 : decode cL_deed 388 = .ok (.iconst (-1), 1) := by decide +kernel
theorem dL_deed_389 : decode cL_deed 389 = .ok (.if_icmp .eq 35, 3) := by decide +kernel
theorem dL_deed_392 : decode cL_deed 392 = .ok (.aload_n 0, 1) := by decide +kernel
theorem dL_deed_393 : decode cL_deed 393 = .ok (.iload 5, 2) := by decide +kernel
theorem dL_deed_395 : decode cL_deed 395 = .ok (.invokevirtual 36, 3) := by decide +kernel
theorem dL_deed_398 : decode cL_deed 398 = .ok (.pop, 1) := by decide +kernel
theorem dL_deed_399 : decode cL_deed 399 = .ok (.goto 25, 3) := by decide +kernel
theorem dL_deed_402 : decode cL_deed 402 = .ok (.aload_n 0, 1) := by decide +kernel
theorem dL_deed_403 : decode cL_deed 403 = .ok (.iload_n 2, 1) := by decide +kernel
theorem dL_deed_404 : decode cL_deed 404 = .ok (.bipush 50, 2) := by decide +kernel
theorem dL_deed_406 : decode cL_deed 406 = .ok (.irem, 1) := by decide +kernel
theorem dL_deed_407 : decode cL_deed 407 = .ok (.invokevirtual 26, 3) := by decide +kernel
theorem dL_deed_410 : decode cL_deed 410 = .ok (.ifCond .ne 14, 3) := by decide +kernel
theorem dL_deed_413 : decode cL_deed 413 = .ok (.aload_n 0, 1) := by decide +kernel
theorem dL_deed_414 : decode cL_deed 414 = .ok (.iload_n 2, 1) := by decide +kernel
theorem dL_deed_415 : decode cL_deed 415 = .ok (.bipush 50, 2) := by decide +kernel
theorem dL_deed_417 : decode cL_deed 417 = .ok (.irem, 1) := by decide +kernel
theorem dL_deed_418 : decode cL_deed 418 = .ok (.bipush 7, 2) := by decide +kernel
theorem dL_deed_420 : decode cL_deed 420 = .ok (.invokevirtual 29, 3) := by decide +kernel
theorem dL_deed_423 : decode cL_deed 423 = .ok (.pop, 1) := by decide +kernel
theorem dL_deed_424 : decode cL_deed 424 = .ok (.return_, 1) := by decide +kernel
theorem dL_holds_0 : decode cL_holds 0 = .ok (.aload_n 0, 1) := by decide +kernel
theorem dL_holds_1 : decode cL_holds 1 = .ok (.invokevirtual 13, 3) := by decide +kernel
theorem dL_holds_4 : decode cL_holds 4 = .ok (.istore_n 1, 1) := by decide +kernel
theorem dL_holds_5 : decode cL_holds 5 = .ok (.aload_n 0, 1) := by decide +kernel
theorem dL_holds_6 : decode cL_holds 6 = .ok (.invokevirtual 61, 3) := by decide +kernel
theorem dL_holds_9 : decode cL_holds 9 = .ok (.istore_n 2, 1) := by decide +kernel
theorem dL_holds_10 : decode cL_holds 10 = .ok (.iconst 0, 1) := by decide +kernel
theorem dL_holds_11 : decode cL_holds 11 = .ok (.istore_n 3, 1) := by decide +kernel
theorem dL_holds_12 : decode cL_holds 12 = .ok (.iconst 0, 1) := by decide +kernel
theorem dL_holds_13 : decode cL_holds 13 = .ok (.istore 4, 2) := by decide +kernel
theorem dL_holds_15 : decode cL_holds 15 = .ok (.aload_n 0, 1) := by decide +kernel
theorem dL_holds_16 : decode cL_holds 16 = .ok (.invokevirtual 64, 3) := by decide +kernel
theorem dL_holds_19 : decode cL_holds 19 = .ok (.ifCond .ne 38, 3) := by decide +kernel
theorem dL_holds_22 : decode cL_holds 22 = .ok (.iload_n 1, 1) := by decide +kernel
theorem dL_holds_23 : decode cL_holds 23 = .ok (.bipush 8, 2) := by decide +kernel
theorem dL_holds_25 : decode cL_holds 25 = .ok (.if_icmp .eq 21, 3) := by decide +kernel
theorem dL_holds_28 : decode cL_holds 28 = .ok (.iload_n 1, 1) := by decide +kernel
theorem dL_holds_29 : decode cL_holds 29 = .ok (.bipush 16, 2) := by decide +kernel
theorem dL_holds_31 : decode cL_holds 31 = .ok (.if_icmp .eq 15, 3) := by decide +kernel
theorem dL_holds_34 : decode cL_holds 34 = .ok (.iload_n 1, 1) := by decide +kernel
theorem dL_holds_35 : decode cL_holds 35 = .ok (.bipush 32, 2) := by decide +kernel
theorem dL_holds_37 : decode cL_holds 37 = .ok (.if_icmp .eq 9, 3) := by decide +kernel
theorem dL_holds_40 : decode cL_holds 40 = .ok (.iload_n 1, 1) := by decide +kernel
theorem dL_holds_41 : decode cL_holds 41 = .ok (.bipush 64, 2) := by decide +kernel
theorem dL_holds_43 : decode cL_holds 43 = .ok (.if_icmp .ne 14, 3) := by decide +kernel
theorem dL_holds_46 : decode cL_holds 46 = .ok (.iload_n 2, 1) := by decide +kernel
theorem dL_holds_47 : decode cL_holds 47 = .ok (.iconst 2, 1) := by decide +kernel
theorem dL_holds_48 : decode cL_holds 48 = .ok (.if_icmp .lt 9, 3) := by decide +kernel
theorem dL_holds_51 : decode cL_holds 51 = .ok (.iload_n 2, 1) := by decide +kernel
theorem dL_holds_52 : decode cL_holds 52 = .ok (.bipush 6, 2) := by decide +kernel
theorem dL_holds_54 : decode cL_holds 54 = .ok (.if_icmp .le 5, 3) := by decide +kernel
theorem dL_holds_57 : decode cL_holds 57 = .ok (.iconst 0, 1) := by decide +kernel
theorem dL_holds_58 : decode cL_holds 58 = .ok (.ireturn, 1) := by decide +kernel
theorem dL_holds_59 : decode cL_holds 59 = .ok (.iconst 0, 1) := by decide +kernel
theorem dL_holds_60 : decode cL_holds 60 = .ok (.istore 5, 2) := by decide +kernel
theorem dL_holds_62 : decode cL_holds 62 = .ok (.iload 5, 2) := by decide +kernel
theorem dL_holds_64 : decode cL_holds 64 = .ok (.iload_n 1, 1) := by decide +kernel
theorem dL_holds_65 : decode cL_holds 65 = .ok (.if_icmp .ge 232, 3) := by decide +kernel
theorem dL_holds_68 : decode cL_holds 68 = .ok (.iconst 0, 1) := by decide +kernel
theorem dL_holds_69 : decode cL_holds 69 = .ok (.istore 6, 2) := by decide +kernel
theorem dL_holds_71 : decode cL_holds 71 = .ok (.iconst 0, 1) := by decide +kernel
theorem dL_holds_72 : decode cL_holds 72 = .ok (.istore 7, 2) := by decide +kernel
theorem dL_holds_74 : decode cL_holds 74 = .ok (.iconst 0, 1) := by decide +kernel
theorem dL_holds_75 : decode cL_holds 75 = .ok (.istore 8, 2) := by decide +kernel
theorem dL_holds_77 : decode cL_holds 77 = .ok (.iload 8, 2) := by decide +kernel
theorem dL_holds_79 : decode cL_holds 79 = .ok (.iload_n 2, 1) := by decide +kernel
theorem dL_holds_80 : decode cL_holds 80 = .ok (.if_icmp .ge 51, 3) := by decide +kernel
theorem dL_holds_83 : decode cL_holds 83 = .ok (.aload_n 0, 1) := by decide +kernel
theorem dL_holds_84 : decode cL_holds 84 = .ok (.iload 5, 2) := by decide +kernel
theorem dL_holds_86 : decode cL_holds 86 = .ok (.iload 8, 2) := by decide +kernel
theorem dL_holds_88 : decode cL_holds 88 = .ok (.iadd, 1) := by decide +kernel
theorem dL_holds_89 : decode cL_holds 89 = .ok (.iload_n 1, 1) := by decide +kernel
theorem dL_holds_90 : decode cL_holds 90 = .ok (.irem, 1) := by decide +kernel
theorem dL_holds_91 : decode cL_holds 91 = .ok (.invokevirtual 16, 3) := by decide +kernel
theorem dL_holds_94 : decode cL_holds 94 = .ok (.istore 9, 2) := by decide +kernel
theorem dL_holds_96 : decode cL_holds 96 = .ok (.iload 9, 2) := by decide +kernel
theorem dL_holds_98 : decode cL_holds 98 = .ok (.iconst (-1), 1) := by decide +kernel
theorem dL_holds_99 : decode cL_holds 99 = .ok (.if_icmp .eq 26, 3) := by decide +kernel
theorem dL_holds_102 : decode cL_holds 102 = .ok (.aload_n 0, 1) := by decide +kernel
theorem dL_holds_103 : decode cL_holds 103 = .ok (.iload 9, 2) := by decide +kernel
theorem dL_holds_105 : decode cL_holds 105 = .ok (.invokevirtual 67, 3) := by decide +kernel
theorem dL_holds_108 : decode cL_holds 108 = .ok (.iload 5, 2) := by decide +kernel
theorem dL_holds_110 : decode cL_holds 110 = .ok (.if_icmp .ne 15, 3) := by decide +kernel
theorem dL_holds_113 : decode cL_holds 113 = .ok (.iload 6, 2) := by decide +kernel
theorem dL_holds_115 : decode cL_holds 115 = .ok (.iconst 1, 1) := by decide +kernel
theorem dL_holds_116 : decode cL_holds 116 = .ok (.iload 8, 2) := by decide +kernel
theorem dL_holds_118 : decode cL_holds 118 = .ok (.ishl, 1) := by decide +kernel
theorem dL_holds_119 : decode cL_holds 119 = .ok (.ior, 1) := by decide +kernel
theorem dL_holds_120 : decode cL_holds 120 = .ok (.istore 6, 2) := by decide +kernel
theorem dL_holds_122 : decode cL_holds 122 = .ok (.iinc 7 1, 3) := by decide +kernel
theorem dL_holds_125 : decode cL_holds 125 = .ok (.iinc 8 1, 3) := by decide +kernel
theorem dL_holds_128 : decode cL_holds 128 = .ok (.goto (-51), 3) := by decide +kernel
theorem dL_holds_131 : decode cL_holds 131 = .ok (.aload_n 0, 1) := by decide +kernel
theorem dL_holds_132 : decode cL_holds 132 = .ok (.iload 5, 2) := by decide +kernel
theorem dL_holds_134 : decode cL_holds 134 = .ok (.invokevirtual 70, 3) := by decide +kernel
theorem dL_holds_137 : decode cL_holds 137 = .ok (.iload 6, 2) := by decide +kernel
theorem dL_holds_139 : decode cL_holds 139 = .ok (.if_icmp .ne 14, 3) := by decide +kernel
theorem dL_holds_142 : decode cL_holds 142 = .ok (.aload_n 0, 1) := by decide +kernel
theorem dL_holds_143 : decode cL_holds 143 = .ok (.iload 5, 2) := by decide +kernel
theorem dL_holds_145 : decode cL_holds 145 = .ok (.invokevirtual 73, 3) := by decide +kernel
theorem dL_holds_148 : decode cL_holds 148 = .ok (.iload 7, 2) := by decide +kernel
theorem dL_holds_150 : decode cL_holds 150 = .ok (.if_icmp .eq 5, 3) := by decide +kernel
theorem dL_holds_153 : decode cL_holds 153 = .ok (.iconst 0, 1) := by decide +kernel
theorem dL_holds_154 : decode cL_holds 154 = .ok (.ireturn, 1) := by decide +kernel
theorem dL_holds_155 : decode cL_holds 155 = .ok (.aload_n 0, 1) := by decide +kernel
theorem dL_holds_156 : decode cL_holds 156 = .ok (.iload 5, 2) := by decide +kernel
theorem dL_holds_158 : decode cL_holds 158 = .ok (.invokevirtual 16, 3) := by decide +kernel
theorem dL_holds_161 : decode cL_holds 161 = .ok (.istore 8, 2) := by decide +kernel
theorem dL_holds_163 : decode cL_holds 163 = .ok (.iload 8, 2) := by decide +kernel
theorem dL_holds_165 : decode cL_holds 165 = .ok (.iconst (-1), 1) := by decide +kernel
theorem dL_holds_166 : decode cL_holds 166 = .ok (.if_icmp .ne 7, 3) := by decide +kernel
theorem dL_holds_169 : decode cL_holds 169 = .ok (.iconst 1, 1) := by decide +kernel
theorem dL_holds_170 : decode cL_holds 170 = .ok (.goto 4, 3) := by decide +kernel
theorem dL_holds_173 : decode cL_holds 173 = .ok (.iconst 0, 1) := by decide +kernel
theorem dL_holds_174 : decode cL_holds 174 = .ok (.aload_n 0, 1) := by decide +kernel
theorem dL_holds_175 : decode cL_holds 175 = .ok (.iload 5, 2) := by decide +kernel
theorem dL_holds_177 : decode cL_holds 177 = .ok (.invokevirtual 76, 3) := by decide +kernel
theorem dL_holds_180 : decode cL_holds 180 = .ok (.iconst (-1), 1) := by decide +kernel
theorem dL_holds_181 : decode cL_holds 181 = .ok (.if_icmp .ne 7, 3) := by decide +kernel
theorem dL_holds_184 : decode cL_holds 184 = .ok (.iconst 1, 1) := by decide +kernel
theorem dL_holds_185 : decode cL_holds 185 = .ok (.goto 4, 3) := by decide +kernel
theorem dL_holds_188 : decode cL_holds 188 = .ok (.iconst 0, 1) := by decide +kernel
theorem dL_holds_189 : decode cL_holds 189 = .ok (.if_icmp .eq 5, 3) := by decide +kernel
theorem dL_holds_192 : decode cL_holds 192 = .ok (.iconst 0, 1) := by decide +kernel
theorem dL_holds_193 : decode cL_holds 193 = .ok (.ireturn, 1) := by decide +kernel
theorem dL_holds_194 : decode cL_holds 194 = .ok (.iload 8, 2) := by decide +kernel
theorem dL_holds_196 : decode cL_holds 196 = .ok (.iconst (-1), 1) := by decide +kernel
theorem dL_holds_197 : decode cL_holds 197 = .ok (.if_icmp .ne 6, 3) := by decide +kernel
theorem dL_holds_200 : decode cL_holds 200 = .ok (.goto 91, 3) := by decide +kernel
theorem dL_holds_203 : decode cL_holds 203 = .ok (.iload 5, 2) := by decide +kernel
theorem dL_holds_205 : decode cL_holds 205 = .ok (.aload_n 0, 1) := by decide +kernel
theorem dL_holds_206 : decode cL_holds 206 = .ok (.iload 8, 2) := by decide +kernel
theorem dL_holds_208 : decode cL_holds 208 = .ok (.invokevirtual 67, 3) := by decide +kernel
theorem dL_holds_211 : decode cL_holds 211 = .ok (.isub, 1) := by decide +kernel
theorem dL_holds_212 : decode cL_holds 212 = .ok (.iload_n 1, 1) := by decide +kernel
theorem dL_holds_213 : decode cL_holds 213 = .ok (.iadd, 1) := by decide +kernel
theorem dL_holds_214 : decode cL_holds 214 = .ok (.iload_n 1, 1) := by decide +kernel
theorem dL_holds_215 : decode cL_holds 215 = .ok (.irem, 1) := by decide +kernel
theorem dL_holds_216 : decode cL_holds 216 = .ok (.istore 9, 2) := by decide +kernel
theorem dL_holds_218 : decode cL_holds 218 = .ok (.iload 9, 2) := by decide +kernel
theorem dL_holds_220 : decode cL_holds 220 = .ok (.iload_n 2, 1) := by decide +kernel
theorem dL_holds_221 : decode cL_holds 221 = .ok (.if_icmp .ge 58, 3) := by decide +kernel
theorem dL_holds_224 : decode cL_holds 224 = .ok (.aload_n 0, 1) := by decide +kernel
theorem dL_holds_225 : decode cL_holds 225 = .ok (.iload 8, 2) := by decide +kernel
theorem dL_holds_227 : decode cL_holds 227 = .ok (.invokevirtual 79, 3) := by decide +kernel
theorem dL_holds_230 : decode cL_holds 230 = .ok (.iload 9, 2) := by decide +kernel
theorem dL_holds_232 : decode cL_holds 232 = .ok (.if_icmp .ne 47, 3) := by decide +kernel
theorem dL_holds_235 : decode cL_holds 235 = .ok (.aload_n 0, 1) := by decide +kernel
theorem dL_holds_236 : decode cL_holds 236 = .ok (.iload 8, 2) := by decide +kernel
theorem dL_holds_238 : decode cL_holds 238 = .ok (.invokevirtual 82, 3) := by decide +kernel
theorem dL_holds_241 : decode cL_holds 241 = .ok (.iload 5, 2) := by decide +kernel
theorem dL_holds_243 : decode cL_holds 243 = .ok (.if_icmp .ne 36, 3) := by decide +kernel
theorem dL_holds_246 : decode cL_holds 246 = .ok (.aload_n 0, 1) := by decide +kernel
theorem dL_holds_247 : decode cL_holds 247 = .ok (.iload 8, 2) := by decide +kernel
theorem dL_holds_249 : decode cL_holds 249 = .ok (.invokevirtual 85, 3) := by decide +kernel
theorem dL_holds_252 : decode cL_holds 252 = .ok (.aload_n 0, 1) := by decide +kernel
theorem dL_holds_253 : decode cL_holds 253 = .ok (.iload 5, 2) := by decide +kernel
theorem dL_holds_255 : decode cL_holds 255 = .ok (.invokevirtual 76, 3) := by decide +kernel
theorem dL_holds_258 : decode cL_holds 258 = .ok (.if_icmp .ne 21, 3) := by decide +kernel
theorem dL_holds_261 : decode cL_holds 261 = .ok (.aload_n 0, 1) := by decide +kernel
theorem dL_holds_262 : decode cL_holds 262 = .ok (.aload_n 0, 1) := by decide +kernel
theorem dL_holds_263 : decode cL_holds 263 = .ok (.iload 8, 2) := by decide +kernel
theorem dL_holds_265 : decode cL_holds 265 = .ok (.invokevirtual 67, 3) := by decide +kernel
theorem dL_holds_268 : decode cL_holds 268 = .ok (.invokevirtual 70, 3) := by decide +kernel
theorem dL_holds_271 : decode cL_holds 271 = .ok (.iload 9, 2) := by decide +kernel
theorem dL_holds_273 : decode cL_holds 273 = .ok (.ishr, 1) := by decide +kernel
theorem dL_holds_274 : decode cL_holds 274 = .ok (.iconst 1, 1) := by decide +kernel
theorem dL_holds_275 : decode cL_holds 275 = .ok (.iand, 1) := by decide +kernel
theorem dL_holds_276 : decode cL_holds 276 = .ok (.ifCond .ne 5, 3) := by decide +kernel
theorem dL_holds_279 : decode cL_holds 279 = .ok (.iconst 0, 1) := by decide +kernel
theorem dL_holds_280 : decode cL_holds 280 = .ok (.ireturn, 1) := by decide +kernel
theorem dL_holds_281 : decode cL_holds 281 = .ok (.iinc 3 1, 3) := by decide +kernel
theorem dL_holds_284 : decode cL_holds 284 = .ok (.iload 4, 2) := by decide +kernel
theorem dL_holds_286 : decode cL_holds 286 = .ok (.iload 9, 2) := by decide +kernel
theorem dL_holds_288 : decode cL_holds 288 = .ok (.iadd, 1) := by decide +kernel
theorem dL_holds_289 : decode cL_holds 289 = .ok (.istore 4, 2) := by decide +kernel
theorem dL_holds_291 : decode cL_holds 291 = .ok (.iinc 5 1, 3) := by decide +kernel
theorem dL_holds_294 : decode cL_holds 294 = .ok (.goto (-232), 3) := by decide +kernel
theorem dL_holds_297 : decode cL_holds 297 = .ok (.aload_n 0, 1) := by decide +kernel
theorem dL_holds_298 : decode cL_holds 298 = .ok (.invokevirtual 7, 3) := by decide +kernel
theorem dL_holds_301 : decode cL_holds 301 = .ok (.iload_n 3, 1) := by decide +kernel
theorem dL_holds_302 : decode cL_holds 302 = .ok (.if_icmp .ne 37, 3) := by decide +kernel
theorem dL_holds_305 : decode cL_holds 305 = .ok (.aload_n 0, 1) := by decide +kernel
theorem dL_holds_306 : decode cL_holds 306 = .ok (.invokevirtual 88, 3) := by decide +kernel
theorem dL_holds_309 : decode cL_holds 309 = .ok (.iload 4, 2) := by decide +kernel
theorem dL_holds_311 : decode cL_holds 311 = .ok (.if_icmp .ne 28, 3) := by decide +kernel
theorem dL_holds_314 : decode cL_holds 314 = .ok (.aload_n 0, 1) := by decide +kernel
theorem dL_holds_315 : decode cL_holds 315 = .ok (.invokevirtual 91, 3) := by decide +kernel
theorem dL_holds_318 : decode cL_holds 318 = .ok (.aload_n 0, 1) := by decide +kernel
theorem dL_holds_319 : decode cL_holds 319 = .ok (.invokevirtual 94, 3) := by decide +kernel
theorem dL_holds_322 : decode cL_holds 322 = .ok (.iload_n 3, 1) := by decide +kernel
theorem dL_holds_323 : decode cL_holds 323 = .ok (.iadd, 1) := by decide +kernel
theorem dL_holds_324 : decode cL_holds 324 = .ok (.if_icmp .ne 15, 3) := by decide +kernel
theorem dL_holds_327 : decode cL_holds 327 = .ok (.aload_n 0, 1) := by decide +kernel
theorem dL_holds_328 : decode cL_holds 328 = .ok (.invokevirtual 97, 3) := by decide +kernel
theorem dL_holds_331 : decode cL_holds 331 = .ok (.iload_n 2, 1) := by decide +kernel
theorem dL_holds_332 : decode cL_holds 332 = .ok (.if_icmp .ge 7, 3) := by decide +kernel
theorem dL_holds_335 : decode cL_holds 335 = .ok (.iconst 1, 1) := by decide +kernel
theorem dL_holds_336 : decode cL_holds 336 = .ok (.goto 4, 3) := by decide +kernel
theorem dL_holds_339 : decode cL_holds 339 = .ok (.iconst 0, 1) := by decide +kernel
theorem dL_holds_340 : decode cL_holds 340 = .ok (.ireturn, 1) := by decide +kernel
theorem dL_content_0 : decode cL_content 0 = .ok (.lconst 0, 1) := by decide +kernel
theorem dL_content_1 : decode cL_content 1 = .ok (.lstore_n 1, 1) := by decide +kernel
theorem dL_content_2 : decode cL_content 2 = .ok (.iconst 0, 1) := by decide +kernel
theorem dL_content_3 : decode cL_content 3 = .ok (.istore_n 3, 1) := by decide +kernel
theorem dL_content_4 : decode cL_content 4 = .ok (.iload_n 3, 1) := by decide +kernel
theorem dL_content_5 : decode cL_content 5 = .ok (.aload_n 0, 1) := by decide +kernel
theorem dL_content_6 : decode cL_content 6 = .ok (.invokevirtual 13, 3) := by decide +kernel
theorem dL_content_9 : decode cL_content 9 = .ok (.if_icmp .ge 51, 3) := by decide +kernel
theorem dL_content_12 : decode cL_content 12 = .ok (.aload_n 0, 1) := by decide +kernel
theorem dL_content_13 : decode cL_content 13 = .ok (.iload_n 3, 1) := by decide +kernel
theorem dL_content_14 : decode cL_content 14 = .ok (.invokevirtual 16, 3) := by decide +kernel
theorem dL_content_17 : decode cL_content 17 = .ok (.iconst (-1), 1) := by decide +kernel
theorem dL_content_18 : decode cL_content 18 = .ok (.if_icmp .eq 36, 3) := by decide +kernel
theorem dL_content_21 : decode cL_content 21 = .ok (.lload_n 1, 1) := by decide +kernel
theorem dL_content_22 : decode cL_content 22 = .ok (.aload_n 0, 1) := by decide +kernel
theorem dL_content_23 : decode cL_content 23 = .ok (.iload_n 3, 1) := by decide +kernel
theorem dL_content_24 : decode cL_content 24 = .ok (.invokevirtual 16, 3) := by decide +kernel
theorem dL_content_27 : decode cL_content 27 = .ok (.i2l, 1) := by decide +kernel
theorem dL_content_28 : decode cL_content 28 = .ok (.lconst 1, 1) := by decide +kernel
theorem dL_content_29 : decode cL_content 29 = .ok (.ladd, 1) := by decide +kernel
theorem dL_content_30 : decode cL_content 30 = .ok (.aload_n 0, 1) := by decide +kernel
theorem dL_content_31 : decode cL_content 31 = .ok (.iload_n 3, 1) := by decide +kernel
theorem dL_content_32 : decode cL_content 32 = .ok (.invokevirtual 16, 3) := by decide +kernel
theorem dL_content_35 : decode cL_content 35 = .ok (.i2l, 1) := by decide +kernel
theorem dL_content_36 : decode cL_content 36 = .ok (.ldc2_w 100, 3) := by decide +kernel
theorem dL_content_39 : decode cL_content 39 = .ok (.ladd, 1) := by decide +kernel
theorem dL_content_40 : decode cL_content 40 = .ok (.lmul, 1) := by decide +kernel
theorem dL_content_41 : decode cL_content 41 = .ok (.aload_n 0, 1) := by decide +kernel
theorem dL_content_42 : decode cL_content 42 = .ok (.iload_n 3, 1) := by decide +kernel
theorem dL_content_43 : decode cL_content 43 = .ok (.invokevirtual 76, 3) := by decide +kernel
theorem dL_content_46 : decode cL_content 46 = .ok (.i2l, 1) := by decide +kernel
theorem dL_content_47 : decode cL_content 47 = .ok (.ldc2_w 102, 3) := by decide +kernel
theorem dL_content_50 : decode cL_content 50 = .ok (.ladd, 1) := by decide +kernel
theorem dL_content_51 : decode cL_content 51 = .ok (.lmul, 1) := by decide +kernel
theorem dL_content_52 : decode cL_content 52 = .ok (.ladd, 1) := by decide +kernel
theorem dL_content_53 : decode cL_content 53 = .ok (.lstore_n 1, 1) := by decide +kernel
theorem dL_content_54 : decode cL_content 54 = .ok (.iinc 3 1, 3) := by decide +kernel
theorem dL_content_57 : decode cL_content 57 = .ok (.goto (-53), 3) := by decide +kernel
theorem dL_content_60 : decode cL_content 60 = .ok (.lload_n 1, 1) := by decide +kernel
theorem dL_content_61 : decode cL_content 61 = .ok (.lreturn, 1) := by decide +kernel
theorem dL_sum_0 : decode cL_sum 0 = .ok (.aload_n 0, 1) := by decide +kernel
theorem dL_sum_1 : decode cL_sum 1 = .ok (.invokevirtual 13, 3) := by decide +kernel
theorem dL_sum_4 : decode cL_sum 4 = .ok (.i2l, 1) := by decide +kernel
theorem dL_sum_5 : decode cL_sum 5 = .ok (.ldc2_w 104, 3) := by decide +kernel
theorem dL_sum_8 : decode cL_sum 8 = .ok (.aload_n 0, 1) := by decide +kernel
theorem dL_sum_9 : decode cL_sum 9 = .ok (.invokevirtual 61, 3) := by decide +kernel
theorem dL_sum_12 : decode cL_sum 12 = .ok (.i2l, 1) := by decide +kernel
theorem dL_sum_13 : decode cL_sum 13 = .ok (.lmul, 1) := by decide +kernel
theorem dL_sum_14 : decode cL_sum 14 = .ok (.ladd, 1) := by decide +kernel
theorem dL_sum_15 : decode cL_sum 15 = .ok (.ldc2_w 106, 3) := by decide +kernel
theorem dL_sum_18 : decode cL_sum 18 = .ok (.aload_n 0, 1) := by decide +kernel
theorem dL_sum_19 : decode cL_sum 19 = .ok (.invokevirtual 108, 3) := by decide +kernel
theorem dL_sum_22 : decode cL_sum 22 = .ok (.i2l, 1) := by decide +kernel
theorem dL_sum_23 : decode cL_sum 23 = .ok (.lmul, 1) := by decide +kernel
theorem dL_sum_24 : decode cL_sum 24 = .ok (.ladd, 1) := by decide +kernel
theorem dL_sum_25 : decode cL_sum 25 = .ok (.aload_n 0, 1) := by decide +kernel
theorem dL_sum_26 : decode cL_sum 26 = .ok (.invokevirtual 111, 3) := by decide +kernel
theorem dL_sum_29 : decode cL_sum 29 = .ok (.ifCond .eq 9, 3) := by decide +kernel
theorem dL_sum_32 : decode cL_sum 32 = .ok (.ldc2_w 100, 3) := by decide +kernel
theorem dL_sum_35 : decode cL_sum 35 = .ok (.goto 4, 3) := by decide +kernel
theorem dL_sum_38 : decode cL_sum 38 = .ok (.lconst 0, 1) := by decide +kernel
theorem dL_sum_39 : decode cL_sum 39 = .ok (.ladd, 1) := by decide +kernel
theorem dL_sum_40 : decode cL_sum 40 = .ok (.ldc2_w 115, 3) := by decide +kernel
theorem dL_sum_43 : decode cL_sum 43 = .ok (.aload_n 0, 1) := by decide +kernel
theorem dL_sum_44 : decode cL_sum 44 = .ok (.invokevirtual 117, 3) := by decide +kernel
theorem dL_sum_47 : decode cL_sum 47 = .ok (.i2l, 1) := by decide +kernel
theorem dL_sum_48 : decode cL_sum 48 = .ok (.lmul, 1) := by decide +kernel
theorem dL_sum_49 : decode cL_sum 49 = .ok (.ladd, 1) := by decide +kernel
theorem dL_sum_50 : decode cL_sum 50 = .ok (.ldc2_w 120, 3) := by decide +kernel
theorem dL_sum_53 : decode cL_sum 53 = .ok (.aload_n 0, 1) := by decide +kernel
theorem dL_sum_54 : decode cL_sum 54 = .ok (.invokevirtual 122, 3) := by decide +kernel
theorem dL_sum_57 : decode cL_sum 57 = .ok (.i2l, 1) := by decide +kernel
theorem dL_sum_58 : decode cL_sum 58 = .ok (.lmul, 1) := by decide +kernel
theorem dL_sum_59 : decode cL_sum 59 = .ok (.ladd, 1) := by decide +kernel
theorem dL_sum_60 : decode cL_sum 60 = .ok (.ldc2_w 125, 3) := by decide +kernel
theorem dL_sum_63 : decode cL_sum 63 = .ok (.aload_n 0, 1) := by decide +kernel
theorem dL_sum_64 : decode cL_sum 64 = .ok (.invokevirtual 127, 3) := by decide +kernel
theorem dL_sum_67 : decode cL_sum 67 = .ok (.i2l, 1) := by decide +kernel
theorem dL_sum_68 : decode cL_sum 68 = .ok (.lmul, 1) := by decide +kernel
theorem dL_sum_69 : decode cL_sum 69 = .ok (.ladd, 1) := by decide +kernel
theorem dL_sum_70 : decode cL_sum 70 = .ok (.ldc2_w 130, 3) := by decide +kernel
theorem dL_sum_73 : decode cL_sum 73 = .ok (.aload_n 0, 1) := by decide +kernel
theorem dL_sum_74 : decode cL_sum 74 = .ok (.invokevirtual 91, 3) := by decide +kernel
theorem dL_sum_77 : decode cL_sum 77 = .ok (.i2l, 1) := by decide +kernel
theorem dL_sum_78 : decode cL_sum 78 = .ok (.lmul, 1) := by decide +kernel
theorem dL_sum_79 : decode cL_sum 79 = .ok (.ladd, 1) := by decide +kernel
theorem dL_sum_80 : decode cL_sum 80 = .ok (.ldc2_w 132, 3) := by decide +kernel
theorem dL_sum_83 : decode cL_sum 83 = .ok (.aload_n 0, 1) := by decide +kernel
theorem dL_sum_84 : decode cL_sum 84 = .ok (.invokevirtual 94, 3) := by decide +kernel
theorem dL_sum_87 : decode cL_sum 87 = .ok (.i2l, 1) := by decide +kernel
theorem dL_sum_88 : decode cL_sum 88 = .ok (.lmul, 1) := by decide +kernel
theorem dL_sum_89 : decode cL_sum 89 = .ok (.ladd, 1) := by decide +kernel
theorem dL_sum_90 : decode cL_sum 90 = .ok (.lstore_n 1, 1) := by decide +kernel
theorem dL_sum_91 : decode cL_sum 91 = .ok (.iconst 0, 1) := by decide +kernel
theorem dL_sum_92 : decode cL_sum 92 = .ok (.istore_n 3, 1) := by decide +kernel
theorem dL_sum_93 : decode cL_sum 93 = .ok (.iload_n 3, 1) := by decide +kernel
theorem dL_sum_94 : decode cL_sum 94 = .ok (.aload_n 0, 1) := by decide +kernel
theorem dL_sum_95 : decode cL_sum 95 = .ok (.invokevirtual 13, 3) := by decide +kernel
theorem dL_sum_98 : decode cL_sum 98 = .ok (.if_icmp .ge 33, 3) := by decide +kernel
theorem dL_sum_101 : decode cL_sum 101 = .ok (.ldc2_w 134, 3) := by decide +kernel
theorem dL_sum_104 : decode cL_sum 104 = .ok (.lload_n 1, 1) := by decide +kernel
theorem dL_sum_105 : decode cL_sum 105 = .ok (.lmul, 1) := by decide +kernel
theorem dL_sum_106 : decode cL_sum 106 = .ok (.aload_n 0, 1) := by decide +kernel
theorem dL_sum_107 : decode cL_sum 107 = .ok (.iload_n 3, 1) := by decide +kernel
theorem dL_sum_108 : decode cL_sum 108 = .ok (.invokevirtual 16, 3) := by decide +kernel
theorem dL_sum_111 : decode cL_sum 111 = .ok (.i2l, 1) := by decide +kernel
theorem dL_sum_112 : decode cL_sum 112 = .ok (.ladd, 1) := by decide +kernel
theorem dL_sum_113 : decode cL_sum 113 = .ok (.ldc2_w 136, 3) := by decide +kernel
theorem dL_sum_116 : decode cL_sum 116 = .ok (.aload_n 0, 1) := by decide +kernel
theorem dL_sum_117 : decode cL_sum 117 = .ok (.iload_n 3, 1) := by decide +kernel
theorem dL_sum_118 : decode cL_sum 118 = .ok (.invokevirtual 76, 3) := by decide +kernel
theorem dL_sum_121 : decode cL_sum 121 = .ok (.i2l, 1) := by decide +kernel
theorem dL_sum_122 : decode cL_sum 122 = .ok (.lmul, 1) := by decide +kernel
theorem dL_sum_123 : decode cL_sum 123 = .ok (.ladd, 1) := by decide +kernel
theorem dL_sum_124 : decode cL_sum 124 = .ok (.lstore_n 1, 1) := by decide +kernel
theorem dL_sum_125 : decode cL_sum 125 = .ok (.iinc 3 1, 3) := by decide +kernel
theorem dL_sum_128 : decode cL_sum 128 = .ok (.goto (-35), 3) := by decide +kernel
theorem dL_sum_131 : decode cL_sum 131 = .ok (.lload_n 1, 1) := by decide +kernel
theorem dL_sum_132 : decode cL_sum 132 = .ok (.lreturn, 1) := by decide +kernel
theorem dL_isBuilt_0 : decode cL_isBuilt 0 = .ok (.aload_n 0, 1) := by decide +kernel
theorem dL_isBuilt_1 : decode cL_isBuilt 1 = .ok (.invokestatic 138, 3) := by decide +kernel
theorem dL_isBuilt_4 : decode cL_isBuilt 4 = .ok (.lstore_n 3, 1) := by decide +kernel
theorem dL_isBuilt_5 : decode cL_isBuilt 5 = .ok (.aload_n 0, 1) := by decide +kernel
theorem dL_isBuilt_6 : decode cL_isBuilt 6 = .ok (.invokestatic 142, 3) := by decide +kernel
theorem dL_isBuilt_9 : decode cL_isBuilt 9 = .ok (.lstore 5, 2) := by decide +kernel
theorem dL_isBuilt_11 : decode cL_isBuilt 11 = .ok (.aload_n 0, 1) := by decide +kernel
theorem dL_isBuilt_12 : decode cL_isBuilt 12 = .ok (.iload_n 1, 1) := by decide +kernel
theorem dL_isBuilt_13 : decode cL_isBuilt 13 = .ok (.invokevirtual 39, 3) := by decide +kernel
theorem dL_isBuilt_16 : decode cL_isBuilt 16 = .ok (.istore 7, 2) := by decide +kernel
theorem dL_isBuilt_18 : decode cL_isBuilt 18 = .ok (.aload_n 0, 1) := by decide +kernel
theorem dL_isBuilt_19 : decode cL_isBuilt 19 = .ok (.invokevirtual 7, 3) := by decide +kernel
theorem dL_isBuilt_22 : decode cL_isBuilt 22 = .ok (.istore 8, 2) := by decide +kernel
theorem dL_isBuilt_24 : decode cL_isBuilt 24 = .ok (.iconst 1, 1) := by decide +kernel
theorem dL_isBuilt_25 : decode cL_isBuilt 25 = .ok (.istore 9, 2) := by decide +kernel
theorem dL_isBuilt_27 : decode cL_isBuilt 27 = .ok (.iload 7, 2) := by decide +kernel
theorem dL_isBuilt_29 : decode cL_isBuilt 29 = .ok (.iconst (-1), 1) := by decide +kernel
theorem dL_isBuilt_30 : decode cL_isBuilt 30 = .ok (.if_icmp .eq 51, 3) := by decide +kernel
theorem dL_isBuilt_33 : decode cL_isBuilt 33 = .ok (.aload_n 0, 1) := by decide +kernel
theorem dL_isBuilt_34 : decode cL_isBuilt 34 = .ok (.iload_n 1, 1) := by decide +kernel
theorem dL_isBuilt_35 : decode cL_isBuilt 35 = .ok (.invokevirtual 42, 3) := by decide +kernel
theorem dL_isBuilt_38 : decode cL_isBuilt 38 = .ok (.iload 7, 2) := by decide +kernel
theorem dL_isBuilt_40 : decode cL_isBuilt 40 = .ok (.if_icmp .ne 33, 3) := by decide +kernel
theorem dL_isBuilt_43 : decode cL_isBuilt 43 = .ok (.aload_n 0, 1) := by decide +kernel
theorem dL_isBuilt_44 : decode cL_isBuilt 44 = .ok (.invokestatic 142, 3) := by decide +kernel
theorem dL_isBuilt_47 : decode cL_isBuilt 47 = .ok (.lload 5, 2) := by decide +kernel
theorem dL_isBuilt_49 : decode cL_isBuilt 49 = .ok (.lcmp, 1) := by decide +kernel
theorem dL_isBuilt_50 : decode cL_isBuilt 50 = .ok (.ifCond .ne 23, 3) := by decide +kernel
theorem dL_isBuilt_53 : decode cL_isBuilt 53 = .ok (.aload_n 0, 1) := by decide +kernel
theorem dL_isBuilt_54 : decode cL_isBuilt 54 = .ok (.invokevirtual 7, 3) := by decide +kernel
theorem dL_isBuilt_57 : decode cL_isBuilt 57 = .ok (.iload 8, 2) := by decide +kernel
theorem dL_isBuilt_59 : decode cL_isBuilt 59 = .ok (.if_icmp .ne 14, 3) := by decide +kernel
theorem dL_isBuilt_62 : decode cL_isBuilt 62 = .ok (.aload_n 0, 1) := by decide +kernel
theorem dL_isBuilt_63 : decode cL_isBuilt 63 = .ok (.invokestatic 145, 3) := by decide +kernel
theorem dL_isBuilt_66 : decode cL_isBuilt 66 = .ok (.ifCond .eq 7, 3) := by decide +kernel
theorem dL_isBuilt_69 : decode cL_isBuilt 69 = .ok (.iconst 1, 1) := by decide +kernel
theorem dL_isBuilt_70 : decode cL_isBuilt 70 = .ok (.goto 4, 3) := by decide +kernel
theorem dL_isBuilt_73 : decode cL_isBuilt 73 = .ok (.iconst 0, 1) := by decide +kernel
theorem dL_isBuilt_74 : decode cL_isBuilt 74 = .ok (.istore 9, 2) := by decide +kernel
theorem dL_isBuilt_76 : decode cL_isBuilt 76 = .ok (.aload_n 0, 1) := by decide +kernel
theorem dL_isBuilt_77 : decode cL_isBuilt 77 = .ok (.invokevirtual 149, 3) := by decide +kernel
theorem dL_isBuilt_80 : decode cL_isBuilt 80 = .ok (.pop, 1) := by decide +kernel
theorem dL_isBuilt_81 : decode cL_isBuilt 81 = .ok (.aload_n 0, 1) := by decide +kernel
theorem dL_isBuilt_82 : decode cL_isBuilt 82 = .ok (.iload_n 2, 1) := by decide +kernel
theorem dL_isBuilt_83 : decode cL_isBuilt 83 = .ok (.invokevirtual 45, 3) := by decide +kernel
theorem dL_isBuilt_86 : decode cL_isBuilt 86 = .ok (.istore 10, 2) := by decide +kernel
theorem dL_isBuilt_88 : decode cL_isBuilt 88 = .ok (.iload 10, 2) := by decide +kernel
theorem dL_isBuilt_90 : decode cL_isBuilt 90 = .ok (.iconst (-1), 1) := by decide +kernel
theorem dL_isBuilt_91 : decode cL_isBuilt 91 = .ok (.if_icmp .eq 54, 3) := by decide +kernel
theorem dL_isBuilt_94 : decode cL_isBuilt 94 = .ok (.aload_n 0, 1) := by decide +kernel
theorem dL_isBuilt_95 : decode cL_isBuilt 95 = .ok (.invokevirtual 13, 3) := by decide +kernel
theorem dL_isBuilt_98 : decode cL_isBuilt 98 = .ok (.istore 11, 2) := by decide +kernel
theorem dL_isBuilt_100 : decode cL_isBuilt 100 = .ok (.iload 9, 2) := by decide +kernel
theorem dL_isBuilt_102 : decode cL_isBuilt 102 = .ok (.ifCond .eq 35, 3) := by decide +kernel
theorem dL_isBuilt_105 : decode cL_isBuilt 105 = .ok (.aload_n 0, 1) := by decide +kernel
theorem dL_isBuilt_106 : decode cL_isBuilt 106 = .ok (.iload 10, 2) := by decide +kernel
theorem dL_isBuilt_108 : decode cL_isBuilt 108 = .ok (.invokevirtual 48, 3) := by decide +kernel
theorem dL_isBuilt_111 : decode cL_isBuilt 111 = .ok (.iload 11, 2) := by decide +kernel
theorem dL_isBuilt_113 : decode cL_isBuilt 113 = .ok (.if_icmp .ne 24, 3) := by decide +kernel
theorem dL_isBuilt_116 : decode cL_isBuilt 116 = .ok (.aload_n 0, 1) := by decide +kernel
theorem dL_isBuilt_117 : decode cL_isBuilt 117 = .ok (.invokestatic 142, 3) := by decide +kernel
theorem dL_isBuilt_120 : decode cL_isBuilt 120 = .ok (.lload 5, 2) := by decide +kernel
theorem dL_isBuilt_122 : decode cL_isBuilt 122 = .ok (.lcmp, 1) := by decide +kernel
theorem dL_isBuilt_123 : decode cL_isBuilt 123 = .ok (.ifCond .ne 14, 3) := by decide +kernel
theorem dL_isBuilt_126 : decode cL_isBuilt 126 = .ok (.aload_n 0, 1) := by decide +kernel
theorem dL_isBuilt_127 : decode cL_isBuilt 127 = .ok (.invokestatic 145, 3) := by decide +kernel
theorem dL_isBuilt_130 : decode cL_isBuilt 130 = .ok (.ifCond .eq 7, 3) := by decide +kernel
theorem dL_isBuilt_133 : decode cL_isBuilt 133 = .ok (.iconst 1, 1) := by decide +kernel
theorem dL_isBuilt_134 : decode cL_isBuilt 134 = .ok (.goto 4, 3) := by decide +kernel
theorem dL_isBuilt_137 : decode cL_isBuilt 137 = .ok (.iconst 0, 1) := by decide +kernel
theorem dL_isBuilt_138 : decode cL_isBuilt 138 = .ok (.istore 9, 2) := by decide +kernel
theorem dL_isBuilt_140 : decode cL_isBuilt 140 = .ok (.aload_n 0, 1) := by decide +kernel
theorem dL_isBuilt_141 : decode cL_isBuilt 141 = .ok (.invokevirtual 149, 3) := by decide +kernel
theorem dL_isBuilt_144 : decode cL_isBuilt 144 = .ok (.pop, 1) := by decide +kernel
theorem dL_isBuilt_145 : decode cL_isBuilt 145 = .ok (.iload 9, 2) := by decide +kernel
theorem dL_isBuilt_147 : decode cL_isBuilt 147 = .ok (.ifCond .eq 16, 3) := by decide +kernel
theorem dL_isBuilt_150 : decode cL_isBuilt 150 = .ok (.aload_n 0, 1) := by decide +kernel
theorem dL_isBuilt_151 : decode cL_isBuilt 151 = .ok (.invokestatic 138, 3) := by decide +kernel
theorem dL_isBuilt_154 : decode cL_isBuilt 154 = .ok (.lload_n 3, 1) := by decide +kernel
theorem dL_isBuilt_155 : decode cL_isBuilt 155 = .ok (.lcmp, 1) := by decide +kernel
theorem dL_isBuilt_156 : decode cL_isBuilt 156 = .ok (.ifCond .ne 7, 3) := by decide +kernel
theorem dL_isBuilt_159 : decode cL_isBuilt 159 = .ok (.iconst 1, 1) := by decide +kernel
theorem dL_isBuilt_160 : decode cL_isBuilt 160 = .ok (.goto 4, 3) := by decide +kernel
theorem dL_isBuilt_163 : decode cL_isBuilt 163 = .ok (.iconst 0, 1) := by decide +kernel
theorem dL_isBuilt_164 : decode cL_isBuilt 164 = .ok (.ireturn, 1) := by decide +kernel
theorem dL_law_0 : decode cL_law 0 = .ok (.new 8, 3) := by decide +kernel
theorem dL_law_3 : decode cL_law 3 = .ok (.dup, 1) := by decide +kernel
theorem dL_law_4 : decode cL_law 4 = .ok (.invokespecial 152, 3) := by decide +kernel
theorem dL_law_7 : decode cL_law 7 = .ok (.astore_n 1, 1) := by decide +kernel
theorem dL_law_8 : decode cL_law 8 = .ok (.aload_n 1, 1) := by decide +kernel
theorem dL_law_9 : decode cL_law 9 = .ok (.invokestatic 145, 3) := by decide +kernel
theorem dL_law_12 : decode cL_law 12 = .ok (.ifCond .ne 5, 3) := by decide +kernel
theorem dL_law_15 : decode cL_law 15 = .ok (.iconst 0, 1) := by decide +kernel
theorem dL_law_16 : decode cL_law 16 = .ok (.ireturn, 1) := by decide +kernel
theorem dL_law_17 : decode cL_law 17 = .ok (.iconst 0, 1) := by decide +kernel
theorem dL_law_18 : decode cL_law 18 = .ok (.istore_n 2, 1) := by decide +kernel
theorem dL_law_19 : decode cL_law 19 = .ok (.iload_n 2, 1) := by decide +kernel
theorem dL_law_20 : decode cL_law 20 = .ok (.bipush 14, 2) := by decide +kernel
theorem dL_law_22 : decode cL_law 22 = .ok (.if_icmp .ge 169, 3) := by decide +kernel
theorem dL_law_25 : decode cL_law 25 = .ok (.aload_n 0, 1) := by decide +kernel
theorem dL_law_26 : decode cL_law 26 = .ok (.iload_n 2, 1) := by decide +kernel
theorem dL_law_27 : decode cL_law 27 = .ok (.invokestatic 153, 3) := by decide +kernel
theorem dL_law_30 : decode cL_law 30 = .ok (.istore_n 3, 1) := by decide +kernel
theorem dL_law_31 : decode cL_law 31 = .ok (.aload_n 1, 1) := by decide +kernel
theorem dL_law_32 : decode cL_law 32 = .ok (.invokevirtual 157, 3) := by decide +kernel
theorem dL_law_35 : decode cL_law 35 = .ok (.istore 4, 2) := by decide +kernel
theorem dL_law_37 : decode cL_law 37 = .ok (.aload_n 1, 1) := by decide +kernel
theorem dL_law_38 : decode cL_law 38 = .ok (.invokestatic 138, 3) := by decide +kernel
theorem dL_law_41 : decode cL_law 41 = .ok (.lstore 5, 2) := by decide +kernel
theorem dL_law_43 : decode cL_law 43 = .ok (.aload_n 1, 1) := by decide +kernel
theorem dL_law_44 : decode cL_law 44 = .ok (.iload_n 3, 1) := by decide +kernel
theorem dL_law_45 : decode cL_law 45 = .ok (.invokestatic 160, 3) := by decide +kernel
theorem dL_law_48 : decode cL_law 48 = .ok (.aload_n 1, 1) := by decide +kernel
theorem dL_law_49 : decode cL_law 49 = .ok (.invokevirtual 157, 3) := by decide +kernel
theorem dL_law_52 : decode cL_law 52 = .ok (.iload 4, 2) := by decide +kernel
theorem dL_law_54 : decode cL_law 54 = .ok (.if_icmp .le 7, 3) := by decide +kernel
theorem dL_law_57 : decode cL_law 57 = .ok (.iconst 1, 1) := by decide +kernel
theorem dL_law_58 : decode cL_law 58 = .ok (.goto 4, 3) := by decide +kernel
theorem dL_law_61 : decode cL_law 61 = .ok (.iconst 0, 1) := by decide +kernel
theorem dL_law_62 : decode cL_law 62 = .ok (.istore 7, 2) := by decide +kernel
theorem dL_law_64 : decode cL_law 64 = .ok (.aload_n 1, 1) := by decide +kernel
theorem dL_law_65 : decode cL_law 65 = .ok (.invokestatic 145, 3) := by decide +kernel
theorem dL_law_68 : decode cL_law 68 = .ok (.ifCond .eq 25, 3) := by decide +kernel
theorem dL_law_71 : decode cL_law 71 = .ok (.iload 7, 2) := by decide +kernel
theorem dL_law_73 : decode cL_law 73 = .ok (.ifCond .ne 22, 3) := by decide +kernel
theorem dL_law_76 : decode cL_law 76 = .ok (.iload 4, 2) := by decide +kernel
theorem dL_law_78 : decode cL_law 78 = .ok (.bipush 8, 2) := by decide +kernel
theorem dL_law_80 : decode cL_law 80 = .ok (.if_icmp .ge 15, 3) := by decide +kernel
theorem dL_law_83 : decode cL_law 83 = .ok (.aload_n 1, 1) := by decide +kernel
theorem dL_law_84 : decode cL_law 84 = .ok (.invokestatic 138, 3) := by decide +kernel
theorem dL_law_87 : decode cL_law 87 = .ok (.lload 5, 2) := by decide +kernel
theorem dL_law_89 : decode cL_law 89 = .ok (.lcmp, 1) := by decide +kernel
theorem dL_law_90 : decode cL_law 90 = .ok (.ifCond .eq 5, 3) := by decide +kernel
theorem dL_law_93 : decode cL_law 93 = .ok (.iconst 0, 1) := by decide +kernel
theorem dL_law_94 : decode cL_law 94 = .ok (.ireturn, 1) := by decide +kernel
theorem dL_law_95 : decode cL_law 95 = .ok (.iload 7, 2) := by decide +kernel
theorem dL_law_97 : decode cL_law 97 = .ok (.ifCond .eq 52, 3) := by decide +kernel
theorem dL_law_100 : decode cL_law 100 = .ok (.iload 4, 2) := by decide +kernel
theorem dL_law_102 : decode cL_law 102 = .ok (.bipush 7, 2) := by decide +kernel
theorem dL_law_104 : decode cL_law 104 = .ok (.if_icmp .ge 45, 3) := by decide +kernel
theorem dL_law_107 : decode cL_law 107 = .ok (.aload_n 1, 1) := by decide +kernel
theorem dL_law_108 : decode cL_law 108 = .ok (.invokevirtual 157, 3) := by decide +kernel
theorem dL_law_111 : decode cL_law 111 = .ok (.iload 4, 2) := by decide +kernel
theorem dL_law_113 : decode cL_law 113 = .ok (.iconst 1, 1) := by decide +kernel
theorem dL_law_114 : decode cL_law 114 = .ok (.iadd, 1) := by decide +kernel
theorem dL_law_115 : decode cL_law 115 = .ok (.if_icmp .ne 34, 3) := by decide +kernel
theorem dL_law_118 : decode cL_law 118 = .ok (.iload_n 3, 1) := by decide +kernel
theorem dL_law_119 : decode cL_law 119 = .ok (.bipush 29, 2) := by decide +kernel
theorem dL_law_121 : decode cL_law 121 = .ok (.iushr, 1) := by decide +kernel
theorem dL_law_122 : decode cL_law 122 = .ok (.iconst 3, 1) := by decide +kernel
theorem dL_law_123 : decode cL_law 123 = .ok (.iand, 1) := by decide +kernel
theorem dL_law_124 : decode cL_law 124 = .ok (.iconst 1, 1) := by decide +kernel
theorem dL_law_125 : decode cL_law 125 = .ok (.if_icmp .ne 24, 3) := by decide +kernel
theorem dL_law_128 : decode cL_law 128 = .ok (.aload_n 1, 1) := by decide +kernel
theorem dL_law_129 : decode cL_law 129 = .ok (.invokevirtual 149, 3) := by decide +kernel
theorem dL_law_132 : decode cL_law 132 = .ok (.iload 4, 2) := by decide +kernel
theorem dL_law_134 : decode cL_law 134 = .ok (.if_icmp .ne 13, 3) := by decide +kernel
theorem dL_law_137 : decode cL_law 137 = .ok (.aload_n 1, 1) := by decide +kernel
theorem dL_law_138 : decode cL_law 138 = .ok (.invokestatic 138, 3) := by decide +kernel
theorem dL_law_141 : decode cL_law 141 = .ok (.lload 5, 2) := by decide +kernel
theorem dL_law_143 : decode cL_law 143 = .ok (.lcmp, 1) := by decide +kernel
theorem dL_law_144 : decode cL_law 144 = .ok (.ifCond .eq 5, 3) := by decide +kernel
theorem dL_law_147 : decode cL_law 147 = .ok (.iconst 0, 1) := by decide +kernel
theorem dL_law_148 : decode cL_law 148 = .ok (.ireturn, 1) := by decide +kernel
theorem dL_law_149 : decode cL_law 149 = .ok (.iload_n 2, 1) := by decide +kernel
theorem dL_law_150 : decode cL_law 150 = .ok (.iconst 4, 1) := by decide +kernel
theorem dL_law_151 : decode cL_law 151 = .ok (.irem, 1) := by decide +kernel
theorem dL_law_152 : decode cL_law 152 = .ok (.iconst 3, 1) := by decide +kernel
theorem dL_law_153 : decode cL_law 153 = .ok (.if_icmp .ne 32, 3) := by decide +kernel
theorem dL_law_156 : decode cL_law 156 = .ok (.aload_n 1, 1) := by decide +kernel
theorem dL_law_157 : decode cL_law 157 = .ok (.iconst 2, 1) := by decide +kernel
theorem dL_law_158 : decode cL_law 158 = .ok (.iload_n 3, 1) := by decide +kernel
theorem dL_law_159 : decode cL_law 159 = .ok (.bipush 6, 2) := by decide +kernel
theorem dL_law_161 : decode cL_law 161 = .ok (.iushr, 1) := by decide +kernel
theorem dL_law_162 : decode cL_law 162 = .ok (.bipush 7, 2) := by decide +kernel
theorem dL_law_164 : decode cL_law 164 = .ok (.iand, 1) := by decide +kernel
theorem dL_law_165 : decode cL_law 165 = .ok (.iconst 5, 1) := by decide +kernel
theorem dL_law_166 : decode cL_law 166 = .ok (.irem, 1) := by decide +kernel
theorem dL_law_167 : decode cL_law 167 = .ok (.iadd, 1) := by decide +kernel
theorem dL_law_168 : decode cL_law 168 = .ok (.iconst 1, 1) := by decide +kernel
theorem dL_law_169 : decode cL_law 169 = .ok (.iload_n 3, 1) := by decide +kernel
theorem dL_law_170 : decode cL_law 170 = .ok (.bipush 9, 2) := by decide +kernel
theorem dL_law_172 : decode cL_law 172 = .ok (.iushr, 1) := by decide +kernel
theorem dL_law_173 : decode cL_law 173 = .ok (.bipush 15, 2) := by decide +kernel
theorem dL_law_175 : decode cL_law 175 = .ok (.iand, 1) := by decide +kernel
theorem dL_law_176 : decode cL_law 176 = .ok (.iadd, 1) := by decide +kernel
theorem dL_law_177 : decode cL_law 177 = .ok (.invokestatic 164, 3) := by decide +kernel
theorem dL_law_180 : decode cL_law 180 = .ok (.ifCond .ne 5, 3) := by decide +kernel
theorem dL_law_183 : decode cL_law 183 = .ok (.iconst 0, 1) := by decide +kernel
theorem dL_law_184 : decode cL_law 184 = .ok (.ireturn, 1) := by decide +kernel
theorem dL_law_185 : decode cL_law 185 = .ok (.iinc 2 1, 3) := by decide +kernel
theorem dL_law_188 : decode cL_law 188 = .ok (.goto (-169), 3) := by decide +kernel
theorem dL_law_191 : decode cL_law 191 = .ok (.iconst 1, 1) := by decide +kernel
theorem dL_law_192 : decode cL_law 192 = .ok (.ireturn, 1) := by decide +kernel
end
section
/-! THE CONSTANTS: where each lies (zB + ..: strings 0.., their bytes 100.., the enum 200.., arrays 300..), and what it holds; out of the Statement's given facts -/
def zB : Nat := 1000000
def kTi (l : List Int32) : List Int32 ⊕ Nat := .inl l
def kTr (b : Nat) : List Int32 ⊕ Nat := .inr b
def kTf (c : List Int32 ⊕ Nat) (j : Nat) : Value := match c with
  | .inl l => .int (l.getD j 0)
  | .inr b => .ref (b + j)
def kTo (c : List Int32 ⊕ Nat) : Bool := match c with
  | .inl _ => true
  | .inr b => decide (zB ≤ b)
def kVo (v : Value) : Bool := match v with
  | .ref k => decide (zB ≤ k)
  | _ => true
def kS_text : List String := ["there is an entry with the key", "no place for the entry", "no entry with the key", "neighbourhood out of range", "the table cannot be built anew", "multiplier out of range", "greatest multiplier out of range", "key out of range", "value out of range", "no such bucket"]
def kO : List (String × Nat) := []
def kF : List (String × String × String × Value × Nat) := []
def kT : List (FieldType × Nat × Nat × (List Int32 ⊕ Nat)) := []
def kZ : List (String × String × String × Value) := []
def kR : List (String × Nat × String × Nat) := [("NeighbourHash", 129, "there is an entry with the key", zB + 0), ("NeighbourHash", 135, "no place for the entry", zB + 1), ("NeighbourHash", 165, "no entry with the key", zB + 2), ("NeighbourHash", 171, "neighbourhood out of range", zB + 3), ("NeighbourHash", 176, "the table cannot be built anew", zB + 4), ("NeighbourHash", 184, "multiplier out of range", zB + 5), ("NeighbourHash", 263, "greatest multiplier out of range", zB + 6), ("NeighbourHash", 299, "key out of range", zB + 7), ("NeighbourHash", 304, "value out of range", zB + 8), ("NeighbourHash", 311, "no such bucket", zB + 9)]
def kE : List (Nat) := []
def kN : List Cond := [(Jvm.Cond.methodLinkNest "NeighbourHash" (9 : Nat) ({ cls := "NeighbourHash$Input", name := "<init>", desc := "()V" } : Jvm.MethodName) "NeighbourHash"), (Jvm.Cond.methodLinkNest "NeighbourHash" (51 : Nat) ({ cls := "NeighbourHash$Report", name := "<init>", desc := "()V" } : Jvm.MethodName) "NeighbourHash"), (Jvm.Cond.castable "java/lang/IllegalArgumentException" "java/lang/IllegalArgumentException"), (Jvm.Cond.castable "java/lang/IllegalStateException" "java/lang/IllegalStateException"), (Jvm.Cond.castable "java/lang/IndexOutOfBoundsException" "java/lang/IndexOutOfBoundsException"), (Jvm.Cond.castable "java/util/NoSuchElementException" "java/util/NoSuchElementException"), (Jvm.Cond.declares ({ cls := "java/lang/RuntimeException", name := "<init>", desc := "(Ljava/lang/String;)V" } : Jvm.MethodName)), (Jvm.Cond.declares ({ cls := "java/lang/Exception", name := "<init>", desc := "(Ljava/lang/String;)V" } : Jvm.MethodName)), (Jvm.Cond.declares ({ cls := "java/lang/Throwable", name := "<init>", desc := "(Ljava/lang/String;)V" } : Jvm.MethodName))]
def kX : List (String × String) := []
theorem kF_hi0 : ∀ q ∈ kF, zB ≤ q.2.2.2.2 ∧ kVo q.2.2.2.1 = true := by decide +kernel
theorem kZ_hi0 : ∀ q ∈ kZ, kVo q.2.2.2 = true := by decide +kernel
theorem kT_hi0 : ∀ q ∈ kT, zB ≤ q.2.1 ∧ kTo q.2.2.2 = true := by decide +kernel
theorem kO_hi : ∀ q ∈ kO, zB ≤ q.2 := by decide +kernel
theorem kE_hi : ∀ q ∈ kE, zB ≤ q := by decide +kernel
theorem kR_hi : ∀ q ∈ kR, zB ≤ q.2.2.2 := by decide +kernel
theorem kN_nest : ∀ w ∈ kN, (∃ a i b n d z, w = .fieldLinkNest a i b n d z) ∨ (∃ a i y z, w = .methodLinkNest a i y z) ∨ (∃ a b, w = .castable a b) ∨ ∃ y, w = .declares y := by
  intro w hw
  simp only [kN, List.mem_cons, List.not_mem_nil, or_false] at hw
  rcases hw with rfl | rfl | rfl | rfl | rfl | rfl | rfl | rfl | rfl
  · exact Or.inr (Or.inl ⟨_, _, _, _, rfl⟩)
  · exact Or.inr (Or.inl ⟨_, _, _, _, rfl⟩)
  · exact Or.inr (Or.inr (Or.inl ⟨_, _, rfl⟩))
  · exact Or.inr (Or.inr (Or.inl ⟨_, _, rfl⟩))
  · exact Or.inr (Or.inr (Or.inl ⟨_, _, rfl⟩))
  · exact Or.inr (Or.inr (Or.inl ⟨_, _, rfl⟩))
  · exact Or.inr (Or.inr (Or.inr ⟨_, rfl⟩))
  · exact Or.inr (Or.inr (Or.inr ⟨_, rfl⟩))
  · exact Or.inr (Or.inr (Or.inr ⟨_, rfl⟩))
end
section
/-! THE ABSTRACT MACHINE. A world is a function from places (0 .. n-1) to cells; references are places; 'ad' tells where a place lies.
Zj: from this place of a method's code, over this world, the machine comes to the method's end with Q. -/
def zv (ad : Nat → Nat) (v : Value) : Value := match v with
  | .ref k => .ref (ad k)
  | w => w
theorem zv_cat (ad : Nat → Nat) (v : Value) : (zv ad v).category = v.category := by cases v <;> rfl
theorem zv_cats (ad : Nat → Nat) (vs : List Value) : ((vs.map (zv ad)).map fun v => v.category) = vs.map fun v => v.category := by
  induction vs with
  | nil => rfl
  | cons a l ih => simp only [List.map_cons, zv_cat, ih]
abbrev zArr : Type := (Nat → Int32) ⊕ (Nat → Int64) ⊕ (Nat → UInt32) ⊕ (Nat → UInt64) ⊕ (Nat → Option Nat)
def zc (ad : Nat → Nat) (a : zArr) : zArr := match a with
  | .inr (.inr (.inr (.inr f))) => .inr (.inr (.inr (.inr (fun j => (f j).map ad))))
  | .inr (.inr (.inr (.inl f))) => .inr (.inr (.inr (.inl f)))
  | .inr (.inr (.inl f)) => .inr (.inr (.inl f))
  | .inr (.inl f) => .inr (.inl f)
  | .inl f => .inl f
def ze (ad : Nat → Nat) (cA : Nat → ClassId) (e : va_E) : va_E := match e with
  | .inl (t, n, a) => .inl (cA t, n, zc ad a)
  | .inr (ci, fs) => .inr (ci, fs.map (zv ad))
def zw (ad : Nat → Nat) (cA : Nat → ClassId) (n : Nat) (h : Nat → va_E) : va_W := (List.range n).map fun k => (ad k, ze ad cA (h k))
theorem zw_get {ad : Nat → Nat} {cA : Nat → ClassId} {n : Nat} {h : Nat → va_E} {k : Nat} (hk : k < n) : (zw ad cA n h)[k]? = some (ad k, ze ad cA (h k)) := by
  simp [zw, hk]
theorem zw_len {ad : Nat → Nat} {cA : Nat → ClassId} {n : Nat} {h : Nat → va_E} : (zw ad cA n h).length = n := by simp [zw]
theorem zw_set {ad : Nat → Nat} {cA : Nat → ClassId} {n : Nat} {h : Nat → va_E} {k : Nat} {e : va_E} (hk : k < n) : (zw ad cA n h).set k (ad k, ze ad cA e) = zw ad cA n (va_up h k e) := by
  apply List.ext_getElem?
  intro i
  by_cases hi : i < n
  · by_cases hik : i = k
    · subst hik
      rw [List.getElem?_set_self (by rw [zw_len]; exact hi), zw_get hi]
      simp [va_up]
    · rw [List.getElem?_set_ne (Ne.symm hik), zw_get hi, zw_get hi]
      simp [va_up, hik]
  · rw [List.getElem?_eq_none (by rw [List.length_set, zw_len]; omega), List.getElem?_eq_none (by rw [zw_len]; omega)]
def zokv (n : Nat) (v : Value) : Prop := match v with
  | .ref k => k < n ∨ zB ≤ k
  | _ => True
theorem kVo_ok {v : Value} (h : kVo v = true) : zokv 0 v := by
  cases v with
  | ref k => exact Or.inr (of_decide_eq_true h)
  | _ => trivial
theorem kTo_ok {c : List Int32 ⊕ Nat} (h : kTo c = true) (j : Nat) : zokv 0 (kTf c j) := by
  cases c with
  | inl l => trivial
  | inr b => exact Or.inr (Nat.le_trans (of_decide_eq_true h) (Nat.le_add_right b j))
def zok (n : Nat) (e : va_E) : Prop := match e with
  | .inl (_, _, .inr (.inr (.inr (.inr f)))) => ∀ j k, f j = some k → k < n ∨ zB ≤ k
  | .inl _ => True
  | .inr (_, fs) => ∀ v ∈ fs, zokv n v
def zag (n n' : Nat) (ad ad' : Nat → Nat) : Prop := n ≤ n' ∧ (∀ k, k < n ∨ zB ≤ k → ad' k = ad k) ∧ (n' = n → ad' = ad)
theorem zag_rf {n : Nat} {ad : Nat → Nat} : zag n n ad ad := ⟨Nat.le_refl _, fun _ _ => rfl, fun _ => rfl⟩
theorem zag_tr {n n1 n2 : Nat} {ad a1 a2 : Nat → Nat} (h1 : zag n n1 ad a1) (h2 : zag n1 n2 a1 a2) : zag n n2 ad a2 :=
  ⟨Nat.le_trans h1.1 h2.1, fun k hk => (h2.2.1 k (hk.imp (fun h => Nat.lt_of_lt_of_le h h1.1) id)).trans (h1.2.1 k hk), fun e => by
    have e1 : n1 = n := Nat.le_antisymm (e ▸ h2.1) h1.1
    have e2 : n2 = n1 := e.trans e1.symm
    rw [h2.2.2 e2, h1.2.2 e1]⟩
theorem zag_push {n q : Nat} {ad : Nat → Nat} (h : n < zB) : zag n (n + 1) ad (va_up ad n q) :=
  ⟨Nat.le_succ _, fun k hk => by
    have : k ≠ n := by omega
    simp [va_up, this], fun e => by omega⟩
theorem zv_ag {n n' : Nat} {ad ad' : Nat → Nat} {v : Value} (h : zag n n' ad ad') (hv : zokv n v) : zv ad' v = zv ad v := by
  cases v with
  | ref k => show Value.ref (ad' k) = Value.ref (ad k); rw [h.2.1 k hv]
  | _ => rfl
theorem zvs_ag {n n' : Nat} {ad ad' : Nat → Nat} {vs : List Value} (h : zag n n' ad ad') (hv : ∀ v ∈ vs, zokv n v) : vs.map (zv ad') = vs.map (zv ad) :=
  List.map_congr_left fun v hm => zv_ag h (hv v hm)
theorem ze_ag {n n' : Nat} {ad ad' : Nat → Nat} {cA : Nat → ClassId} {e : va_E} (h : zag n n' ad ad') (he : zok n e) : ze ad' cA e = ze ad cA e := by
  rcases e with ⟨t, m, a⟩ | ⟨ci, fs⟩
  · rcases a with f | f | f | f | f
    · rfl
    · rfl
    · rfl
    · rfl
    · show (Sum.inl (cA t, m, zc ad' _) : va_E) = Sum.inl (cA t, m, zc ad _)
      have : (fun j => (f j).map ad') = fun j => (f j).map ad := by
        funext j
        cases hj : f j with
        | none => rfl
        | some k => simp only [Option.map_some]; rw [h.2.1 k (he j k hj)]
      simp only [zc, this]
  · show (Sum.inr (ci, fs.map (zv ad')) : va_E) = Sum.inr (ci, fs.map (zv ad))
    rw [zvs_ag h he]
theorem zw_ag {n n' : Nat} {ad ad' : Nat → Nat} {cA : Nat → ClassId} {hp : Nat → va_E} (h : zag n n' ad ad') (hw : ∀ k, k < n → zok n (hp k)) : zw ad' cA n hp = zw ad cA n hp := by
  unfold zw
  refine List.map_congr_left fun k hk => ?_
  have hk := List.mem_range.mp hk
  rw [ze_ag h (hw k hk), h.2.1 k (Or.inl hk)]
theorem zokv_mono {n n' : Nat} (h : n ≤ n') {v : Value} (hv : zokv n v) : zokv n' v := by
  cases v with
  | ref k => exact hv.imp (fun x => Nat.lt_of_lt_of_le x h) id
  | _ => trivial
theorem zok_mono {n n' : Nat} (h : n ≤ n') {e : va_E} (he : zok n e) : zok n' e := by
  rcases e with ⟨t, m, a⟩ | ⟨ci, fs⟩
  · rcases a with f | f | f | f | f
    · trivial
    · trivial
    · trivial
    · trivial
    · exact fun j k hj => (he j k hj).imp (fun x => Nat.lt_of_lt_of_le x h) id
  · exact fun v hv => zokv_mono h (he v hv)
/-- the world in the heap -/
def zR (D : va_G) (cA : Nat → ClassId) (sz0 : Nat) (ad : Nat → Nat) (n : Nat) (h : Nat → va_E) (H : Heap) : Prop := va_P D vwCl (zw ad cA n h) H ∧ va_D (fun q => sz0 ≤ q) (zw ad cA n h) ∧ ∀ k, k < n → zok n (h k)
def zt (cA : Nat → ClassId) : List (ClassId × FieldType) := [(cA 0, .int), (cA 1, .int), (cA 2, .int), (cA 3, .object "NeighbourHash$Table")]
/-- the launch, and the script of the law: its length, its ints -/
abbrev zL : Type := Launch × Nat × (Nat → Int32)
/-- String's formatter: null, or a reference that is never followed; it lies at the place zB + 600 -/
def zSq (ad : Nat → Nat) (A : Nat → Prop) (U : State) (H : Heap) : Prop := True
theorem zSq.moved {ad : Nat → Nat} {A : Nat → Prop} {u U : State} {H : Heap} (hv : u.vm.Alike U.vm) (h : zSq ad A u H) : zSq ad A U H := trivial
theorem zSq.kept {ad : Nat → Nat} {A : Nat → Prop} {U : State} {H H1 : Heap} (h : zSq ad A U H) (hq : ∀ a : Nat, a < H.size → ¬ A a → H1[a]? = H[a]?) : zSq ad A U H1 := trivial
def zC (l : zL) (sz0 : Nat) (ad : Nat → Nat) (U : State) (H : Heap) : Prop :=
  (∀ q ∈ kO, va_O q.1 (ad q.2) (fun a => sz0 ≤ a) U H) ∧ (∀ q ∈ kF, va_OF q.1 q.2.1 q.2.2.1 (zv ad q.2.2.2.1) (ad q.2.2.2.2) (fun a => sz0 ≤ a) U H) ∧
  (∀ q ∈ kT, va_T q.1 (ad q.2.1) q.2.2.1 (fun j => zv ad (kTf q.2.2.2 j)) (fun a => sz0 ≤ a) U H) ∧ (∀ q ∈ kZ, va_Z q.1 q.2.1 q.2.2.1 (zv ad q.2.2.2) (fun a => sz0 ≤ a) U H) ∧
  (∀ q ∈ kR, vk_R q.1 q.2.1 q.2.2.1 (ad q.2.2.2) U) ∧ (∀ w ∈ kN, va_Nw w U) ∧
  vx_Zq Bundle.tN "UNASSIGNED_STACK" Bundle.steD (fun a => sz0 ≤ a) U H ∧ vx_Zq Bundle.tN "SUPPRESSED_SENTINEL" Bundle.listD (fun a => sz0 ≤ a) U H ∧
  (∀ i ∈ kE, ∀ j ∈ kE, ad i = ad j → i = j) ∧ (∀ q ∈ kX, va_Nc q.1 q.2 U) ∧ va_AO "NeighbourHash$Table" U ∧ va_T .int (ad (zB + 500)) l.2.1 (fun j => .int (l.2.2 j)) (fun a => sz0 ≤ a) U H ∧ zSq ad (fun a => sz0 ≤ a) U H
theorem zNw_decl {y : MethodName} {s U : State} (hW : s.WarmedH U.vm) (hZ : va_Nw (.declares y) s) : va_Nw (.declares y) U := va_tabs rfl (rfl : (s.setVm U.vm).vm = U.vm) (by rw [Cond.declares_setVm hW.alike]; exact hZ)
theorem zC.moved {l : zL} {sz0 : Nat} {ad : Nat → Nat} {s U : State} {H : Heap} (hW : s.WarmedH U.vm) (hH : U.heap = H) (hq : ∀ a : Nat, a < s.heap.size → ¬ sz0 ≤ a → H[a]? = s.heap[a]?) (h : zC l sz0 ad s s.heap) : zC l sz0 ad U U.heap := by
  rw [hH]
  obtain ⟨h1, h2, h3, h4, h5, h6, h7, h8, h9, hX, hO, hY, hSq⟩ := h
  refine ⟨fun q hm => va_O.moved hW.alike ((h1 q hm).kept hq), fun q hm => va_OF.moved hW.alike ((h2 q hm).kept hq), fun q hm => va_T.moved hW.alike ((h3 q hm).kept hq), fun q hm => va_Z.moved hW.alike ((h4 q hm).kept hq), fun q hm => (h5 q hm).warm hW, fun w hm => ?_, vx_Zq.moved hW.alike (h7.kept hq), vx_Zq.moved hW.alike (h8.kept hq), h9, fun q hm => va_Nc.moved hW.alike (hX q hm), hO.moved hW.alike, va_T.moved hW.alike (hY.kept hq), zSq.moved hW.alike (hSq.kept hq)⟩
  rcases kN_nest w hm with ⟨a, i, b, n, d, z, rfl⟩ | ⟨a, i, y, z, rfl⟩ | ⟨a, b, rfl⟩ | ⟨y, rfl⟩
  · exact va_Nw.warmF hW (h6 _ hm)
  · exact va_Nw.warmM hW (h6 _ hm)
  · exact va_Nw.warmC hW (h6 _ hm)
  · exact zNw_decl hW (h6 _ hm)
theorem zC.same {l : zL} {sz0 : Nat} {ad : Nat → Nat} {s U : State} (hv : U.vm = s.vm) (hh : U.heap = s.heap) (h : zC l sz0 ad s s.heap) : zC l sz0 ad U U.heap := by
  rw [hh]
  have hA : s.vm.Alike U.vm := by rw [hv]; exact Vm.Alike.refl _
  obtain ⟨h1, h2, h3, h4, h5, h6, h7, h8, h9, hX, hO, hY, hSq⟩ := h
  refine ⟨fun q hm => va_O.moved hA (h1 q hm), fun q hm => va_OF.moved hA (h2 q hm), fun q hm => va_T.moved hA (h3 q hm), fun q hm => va_Z.moved hA (h4 q hm), fun q hm => (h5 q hm).same hv, fun w hm => ?_, vx_Zq.moved hA h7, vx_Zq.moved hA h8, h9, fun q hm => va_Nc.moved hA (hX q hm), hO.moved hA, va_T.moved hA hY, zSq.moved hA hSq⟩
  rcases kN_nest w hm with ⟨a, i, b, n, d, z, rfl⟩ | ⟨a, i, y, z, rfl⟩ | ⟨a, b, rfl⟩ | ⟨y, rfl⟩
  · exact va_Nw.same rfl hv.symm (h6 _ hm)
  · exact va_Nw.same rfl hv.symm (h6 _ hm)
  · exact va_Nw.same rfl hv.symm (h6 _ hm)
  · exact va_Nw.same rfl hv.symm (h6 _ hm)
theorem zC.ag {l : zL} {sz0 n n' : Nat} {ad ad' : Nat → Nat} {s : State} {H : Heap} (hg : zag n n' ad ad') (h : zC l sz0 ad s H) : zC l sz0 ad' s H := by
  obtain ⟨h1, h2, h3, h4, h5, h6, h7, h8, h9, hX, hO, hY, hSq⟩ := h
  have e : ∀ k, zB ≤ k → ad' k = ad k := fun k hk => hg.2.1 k (Or.inr hk)
  have ev : ∀ v, zokv 0 v → zv ad' v = zv ad v := fun v hv => zv_ag hg (zokv_mono (Nat.zero_le _) hv)
  refine ⟨fun q hm => ?_, fun q hm => ?_, fun q hm => ?_, fun q hm => ?_, fun q hm => ?_, h6, h7, h8, fun i hi j hj => ?_, hX, hO, by rw [e (zB + 500) (Nat.le_add_right _ _)]; exact hY, trivial⟩
  · rw [e _ (kO_hi q hm)]; exact h1 q hm
  · rw [e _ (kF_hi0 q hm).1, ev _ (kVo_ok (kF_hi0 q hm).2)]; exact h2 q hm
  · rw [e _ (kT_hi0 q hm).1, show (fun j => zv ad' (kTf q.2.2.2 j)) = fun j => zv ad (kTf q.2.2.2 j) from funext fun j => ev _ (kTo_ok (kT_hi0 q hm).2 j)]; exact h3 q hm
  · rw [ev _ (kVo_ok (kZ_hi0 q hm))]; exact h4 q hm
  · rw [e _ (kR_hi q hm)]; exact h5 q hm
  · rw [e _ (kE_hi i hi), e _ (kE_hi j hj)]; exact h9 i hi j hj
/-- a method: its name, code, locals, return type, exception table -/
abbrev zM : Type := MethodName × ByteArray × Nat × Option FieldType × List (Nat × Nat × Nat × Nat)
def zTs : List Cond := lw_tbl.filter goodWord
theorem zIn {w : Cond} (i : Nat) (h : lw_tbl[i]? = some w) (hg : goodWord w = true) : w ∈ zTs := List.mem_filter.mpr ⟨List.mem_of_getElem? h, hg⟩
theorem zTs_good : ∀ w ∈ zTs, goodWord w = true := fun _ h => (List.mem_filter.mp h).2
def zcode (Y : zM) : Cond := if Y.2.2.2.2 = [] then .code Y.1 Y.2.1 Y.2.2.1 Y.2.2.2.1 else .codeWith Y.1 Y.2.1 Y.2.2.1 Y.2.2.2.1 Y.2.2.2.2
def zws (Y : zM) : List Cond := zcode Y :: zTs
def zrm (d kc ks : Nat) : Room := { frames := d + 2, cells := kc, slots := ks, locals := 40 * d + 54 }
/-- what stands throughout a method's run -/
def zK (Y : zM) (d : Nat) (l : Launch) (p : Program) (R : Room) (s : State) (m : MethodId) (args : Array Value) (meth : Method) (c : Code) (sz0 : Nat) (D : va_G) (cA : Nat → ClassId) : Prop :=
  p.tables.exec = Jvm.exec ∧ c.code = Y.2.1 ∧ c.maxLocals = Y.2.2.1 ∧ meth.sig.returnType = Y.2.2.2.1 ∧ meth.locks = false ∧ s.vm.findClass Y.1.cls = some m.cls ∧ (Y.1.name = "<init>" → meth.name = "<init>") ∧
  c.exceptionTable.toList = tableOf Y.2.2.2.2 ∧ (∀ w ∈ zTs, w.before args s = true) ∧ va_K D vwCl (zt cA) s ∧ sz0 ≤ s.heap.size ∧ d + 2 ≤ R.frames ∧ 40 * d + 54 ≤ R.locals ∧ l.stackTraces = false
def zret (Y : zM) (pc : Nat) (r : Option Value) : Prop :=
  (r = none ∧ Y.2.2.2.1 = none ∧ decode Y.2.1 pc = .ok (.return_, 1)) ∨
  (∃ (v : Int32) (ty : FieldType), r = some (.int v) ∧ Y.2.2.2.1 = some ty ∧ narrow ty (.int v) = .int v ∧ decode Y.2.1 pc = .ok (.ireturn, 1)) ∨
  (∃ v : UInt32, r = some (.float v) ∧ Y.2.2.2.1 = some .float ∧ decode Y.2.1 pc = .ok (.freturn, 1)) ∨
  (∃ v : UInt64, r = some (.double v) ∧ Y.2.2.2.1 = some .double ∧ decode Y.2.1 pc = .ok (.dreturn, 1)) ∨
  (∃ v : Int64, r = some (.long v) ∧ Y.2.2.2.1 = some .long ∧ decode Y.2.1 pc = .ok (.lreturn, 1)) ∨
  (∃ (v : Value) (ty : FieldType), r = some v ∧ (v = .null ∨ ∃ a, v = .ref a) ∧ Y.2.2.2.1 = some ty ∧ ((∃ n, ty = .object n) ∨ ∃ t, ty = .array t) ∧ decode Y.2.1 pc = .ok (.areturn, 1))
abbrev zQ : Type := (Option Value ⊕ String) → Nat → (Nat → va_E) → Prop
/-- the way out: at a return with Q the goal Z is near; what is thrown goes out to the caller -/
def zX (Y : zM) (p : Program) (l : Launch) (e : Env) (R : Room) (s : State) (m : MethodId) (args : Array Value) (below : List Frame) (meth : Method) (c : Code) (sz0 : Nat) (D : va_G) (cA : Nat → ClassId) (ad : Nat → Nat) (n mc ms : Nat) (Z : State → Prop) (Q : zQ) : Prop :=
  (∀ (ad' : Nat → Nat) (n' : Nat) (h' : Nat → va_E) (r : Option Value) (H : Heap) (locs : List Loc) (pc : Nat) (ls : Array Slot), zag n n' ad ad' → Q (.inl r) n' h' → zR D cA sz0 ad' n' h' H → va_S (fun q => sz0 ≤ q) s.heap H locs → zret Y pc r →
    W p l e R s m args below meth c H locs mc ms Z (F0 m pc ls (r.toList.map (zv ad')))) ∧
  ((∀ E n' h', ¬ Q (.inr E) n' h') ∨
    ∃ (Qc : Array Value → State → Outcome → State → Prop) (XC : String → State → State → Prop), Z = vx_MQ below Qc XC args s mc ms (fun q => sz0 ≤ q) ∧
      ∀ (ad' : Nat → Nat) (n' : Nat) (h' : Nat → va_E) (E : String) (t : State), zag n n' ad ad' → Q (.inr E) n' h' → zR D cA sz0 ad' n' h' t.heap → s.vm.Alike t.vm → va_F (fun q => sz0 ≤ q) s t → XC E s t)
theorem zX.ag {Y : zM} {p : Program} {l : Launch} {e : Env} {R : Room} {s : State} {m : MethodId} {args : Array Value} {below : List Frame} {meth : Method} {c : Code} {sz0 : Nat} {D : va_G} {cA : Nat → ClassId} {ad a1 : Nat → Nat} {n n1 mc ms : Nat} {Z : State → Prop} {Q : zQ} (hg : zag n n1 ad a1) (h : zX Y p l e R s m args below meth c sz0 D cA ad n mc ms Z Q) : zX Y p l e R s m args below meth c sz0 D cA a1 n1 mc ms Z Q := by
  refine ⟨fun ad' n' h' r H locs pc ls g => h.1 ad' n' h' r H locs pc ls (zag_tr hg g), ?_⟩
  rcases h.2 with h2 | ⟨Qc, XC, h2, h3⟩
  · exact Or.inl h2
  · exact Or.inr ⟨Qc, XC, h2, fun ad' n' h' E t g => h3 ad' n' h' E t (zag_tr hg g)⟩
def zlv (ad : Nat → Nat) (lv : List (Nat × Value)) : List (Nat × Value) := lv.map fun q => (q.1, zv ad q.2)
/-- THE JUDGEMENT -/
def Zj (l : zL) (Y : zM) (d kc ks pc : Nat) (lv : List (Nat × Value)) (st : List Value) (n : Nat) (h : Nat → va_E) (Q : zQ) : Prop :=
  ∀ (p : Program) (e : Env) (R : Room) (s : State) (m : MethodId) (args : Array Value) (below : List Frame) (meth : Method) (c : Code) (sz0 : Nat) (D : va_G) (cA : Nat → ClassId) (ad : Nat → Nat) (H : Heap) (locs : List Loc) (cells slots mc ms : Nat) (ls : Array Slot) (Z : State → Prop),
    zK Y d l.1 p R s m args meth c sz0 D cA → zC l sz0 ad s s.heap → zX Y p l.1 e R s m args below meth c sz0 D cA ad n mc ms Z Q → zR D cA sz0 ad n h H → va_S (fun q => sz0 ≤ q) s.heap H locs → lv_has ls Y.2.2.1 (zlv ad lv) →
    cells + kc ≤ mc → slots + ks ≤ ms → mc ≤ R.cells → ms ≤ R.slots → W p l.1 e R s m args below meth c H locs cells slots Z (F0 m pc ls (st.map (zv ad)))
theorem zlv_at {ad : Nat → Nat} {ls : Array Slot} {nL : Nat} {lv : List (Nat × Value)} (h : lv_has ls nL (zlv ad lv)) {k i : Nat} {v : Value} (hk : lv[k]? = some (i, v)) : ls[i]? = some (.val (zv ad v)) :=
  h.2.2 (i, zv ad v) (List.mem_map.mpr ⟨(i, v), List.mem_of_getElem? hk, rfl⟩)
theorem zlv_sub {ad : Nat → Nat} {ls : Array Slot} {nL : Nat} {lv lv' : List (Nat × Value)} (h : lv_has ls nL (zlv ad lv)) (hs : ∀ q ∈ lv', q ∈ lv) : lv_has ls nL (zlv ad lv') :=
  ⟨h.1, h.2.1, fun q hq => by
    obtain ⟨q0, h0, rfl⟩ := List.mem_map.mp hq
    exact h.2.2 _ (List.mem_map.mpr ⟨q0, hs q0 h0, rfl⟩)⟩
/-- fewer locals, in any order -/
theorem z_lv {l : zL} {Y : zM} {d kc ks pc n : Nat} {lv : List (Nat × Value)} {st : List Value} {h : Nat → va_E} {Q : zQ} (lv' : List (Nat × Value)) (is : List Nat) (hs : lv_pick lv is = lv') (k : Zj l Y d kc ks pc lv' st n h Q) : Zj l Y d kc ks pc lv st n h Q := by
  intro p e R s m args below meth c sz0 D cA ad H locs cells slots mc ms ls Z hK hC hX hR hS hl
  refine k p e R s m args below meth c sz0 D cA ad H locs cells slots mc ms ls Z hK hC hX hR hS (zlv_sub hl fun q hq => ?_)
  rw [← hs] at hq
  obtain ⟨i, -, hi⟩ := List.mem_filterMap.mp hq
  exact List.mem_of_getElem? hi
/-- more room than needed -/
theorem z_room {l : zL} {Y : zM} {d d' kc ks kc' ks' pc n : Nat} {lv : List (Nat × Value)} {st : List Value} {h : Nat → va_E} {Q : zQ} (hd : d' ≤ d) (h1 : kc' ≤ kc) (h2 : ks' ≤ ks) (k : Zj l Y d' kc' ks' pc lv st n h Q) : Zj l Y d kc ks pc lv st n h Q := by
  intro p e R s m args below meth c sz0 D cA ad H locs cells slots mc ms ls Z hK hC hX hR hS hl g1 g2 g3 g4
  obtain ⟨a1, a2, a3, a4, a5, a6, a7, a8, a9, a10, a11, a12, a13, a14⟩ := hK
  exact k p e R s m args below meth c sz0 D cA ad H locs cells slots mc ms ls Z ⟨a1, a2, a3, a4, a5, a6, a7, a8, a9, a10, a11, by omega, by omega, a14⟩ hC hX hR hS hl (by omega) (by omega) g3 g4
/-- a stronger end -/
theorem z_post {l : zL} {Y : zM} {d kc ks pc n : Nat} {lv : List (Nat × Value)} {st : List Value} {h : Nat → va_E} {Q Q' : zQ} (hq : ∀ r n' h', Q' r n' h' → Q r n' h') (k : Zj l Y d kc ks pc lv st n h Q') : Zj l Y d kc ks pc lv st n h Q := by
  intro p e R s m args below meth c sz0 D cA ad H locs cells slots mc ms ls Z hK hC hX
  refine k p e R s m args below meth c sz0 D cA ad H locs cells slots mc ms ls Z hK hC ⟨fun ad' n' h' r H locs pc ls g q => hX.1 ad' n' h' r H locs pc ls g (hq _ _ _ q), ?_⟩
  rcases hX.2 with h2 | ⟨Qc, XC, h2, h3⟩
  · exact Or.inl fun E n' h' q => h2 E n' h' (hq _ _ _ q)
  · exact Or.inr ⟨Qc, XC, h2, fun ad' n' h' E t g q => h3 ad' n' h' E t g (hq _ _ _ q)⟩
end
section
theorem z_iconst {l : zL} {Y : zM} {d kc ks pc n : Nat} {lv : List (Nat × Value)} {rest : List Value} {h : Nat → va_E} {Q : zQ} {i : Int} {v : Int32} (hd : decode Y.2.1 pc = .ok (.iconst i, 1)) (hv : Int32.ofInt i = v) (k : Zj l Y d kc ks (pc + 1) lv (.int v :: rest) n h Q) : Zj l Y d kc ks pc lv rest n h Q := by
  intro p e R s m args below meth c sz0 D cA ad H locs cells slots mc ms ls Z hK hC hX hR hS hl g1 g2 g3 g4
  exact lv_iconst hK.1 hK.2.1 hd hv (k p e R s m args below meth c sz0 D cA ad H locs cells slots mc ms ls Z hK hC hX hR hS hl g1 g2 g3 g4)
theorem z_bipush {l : zL} {Y : zM} {d kc ks pc n : Nat} {lv : List (Nat × Value)} {rest : List Value} {h : Nat → va_E} {Q : zQ} {i : Int} {v : Int32} (hd : decode Y.2.1 pc = .ok (.bipush i, 2)) (hv : (Int8.ofInt i).toInt32 = v) (k : Zj l Y d kc ks (pc + 2) lv (.int v :: rest) n h Q) : Zj l Y d kc ks pc lv rest n h Q := by
  intro p e R s m args below meth c sz0 D cA ad H locs cells slots mc ms ls Z hK hC hX hR hS hl g1 g2 g3 g4
  exact lv_bipush hK.1 hK.2.1 hd hv (k p e R s m args below meth c sz0 D cA ad H locs cells slots mc ms ls Z hK hC hX hR hS hl g1 g2 g3 g4)
theorem z_sipush {l : zL} {Y : zM} {d kc ks pc n : Nat} {lv : List (Nat × Value)} {rest : List Value} {h : Nat → va_E} {Q : zQ} {i : Int} {v : Int32} (hd : decode Y.2.1 pc = .ok (.sipush i, 3)) (hv : (Int16.ofInt i).toInt32 = v) (k : Zj l Y d kc ks (pc + 3) lv (.int v :: rest) n h Q) : Zj l Y d kc ks pc lv rest n h Q := by
  intro p e R s m args below meth c sz0 D cA ad H locs cells slots mc ms ls Z hK hC hX hR hS hl g1 g2 g3 g4
  exact lv_sipush hK.1 hK.2.1 hd hv (k p e R s m args below meth c sz0 D cA ad H locs cells slots mc ms ls Z hK hC hX hR hS hl g1 g2 g3 g4)
theorem z_null {l : zL} {Y : zM} {d kc ks pc n : Nat} {lv : List (Nat × Value)} {rest : List Value} {h : Nat → va_E} {Q : zQ}  (hd : decode Y.2.1 pc = .ok (.aconst_null, 1)) (k : Zj l Y d kc ks (pc + 1) lv (.null :: rest) n h Q) : Zj l Y d kc ks pc lv rest n h Q := by
  intro p e R s m args below meth c sz0 D cA ad H locs cells slots mc ms ls Z hK hC hX hR hS hl g1 g2 g3 g4
  exact lv_null hK.1 hK.2.1 hd (k p e R s m args below meth c sz0 D cA ad H locs cells slots mc ms ls Z hK hC hX hR hS hl g1 g2 g3 g4)
theorem z_fconst0 {l : zL} {Y : zM} {d kc ks pc n : Nat} {lv : List (Nat × Value)} {rest : List Value} {h : Nat → va_E} {Q : zQ}  (hd : decode Y.2.1 pc = .ok (.fconst 0, 1)) (k : Zj l Y d kc ks (pc + 1) lv (.float FP.fconst0 :: rest) n h Q) : Zj l Y d kc ks pc lv rest n h Q := by
  intro p e R s m args below meth c sz0 D cA ad H locs cells slots mc ms ls Z hK hC hX hR hS hl g1 g2 g3 g4
  exact lv_fconst0 hK.1 hK.2.1 hd (k p e R s m args below meth c sz0 D cA ad H locs cells slots mc ms ls Z hK hC hX hR hS hl g1 g2 g3 g4)
theorem z_dconst0 {l : zL} {Y : zM} {d kc ks pc n : Nat} {lv : List (Nat × Value)} {rest : List Value} {h : Nat → va_E} {Q : zQ}  (hd : decode Y.2.1 pc = .ok (.dconst 0, 1)) (k : Zj l Y d kc ks (pc + 1) lv (.double FP.dconst0 :: rest) n h Q) : Zj l Y d kc ks pc lv rest n h Q := by
  intro p e R s m args below meth c sz0 D cA ad H locs cells slots mc ms ls Z hK hC hX hR hS hl g1 g2 g3 g4
  exact lv_dconst0 hK.1 hK.2.1 hd (k p e R s m args below meth c sz0 D cA ad H locs cells slots mc ms ls Z hK hC hX hR hS hl g1 g2 g3 g4)
theorem z_ldc {l : zL} {Y : zM} {d kc ks pc n : Nat} {lv : List (Nat × Value)} {rest : List Value} {h : Nat → va_E} {Q : zQ} {idx : Nat} {v : Int32} (hw : Jvm.Cond.constant Y.1.cls idx v ∈ zTs) (hd : decode Y.2.1 pc = .ok (.ldc idx, 2)) (k : Zj l Y d kc ks (pc + 2) lv (.int v :: rest) n h Q) : Zj l Y d kc ks pc lv rest n h Q := by
  intro p e R s m args below meth c sz0 D cA ad H locs cells slots mc ms ls Z hK hC hX hR hS hl g1 g2 g3 g4
  exact lv_ldc hK.1 hK.2.1 hK.2.2.2.2.2.1 (hK.2.2.2.2.2.2.2.2.1 _ hw) hd (k p e R s m args below meth c sz0 D cA ad H locs cells slots mc ms ls Z hK hC hX hR hS hl g1 g2 g3 g4)
theorem z_ldcw {l : zL} {Y : zM} {d kc ks pc n : Nat} {lv : List (Nat × Value)} {rest : List Value} {h : Nat → va_E} {Q : zQ} {idx : Nat} {v : Int32} (hw : Jvm.Cond.constant Y.1.cls idx v ∈ zTs) (hd : decode Y.2.1 pc = .ok (.ldc_w idx, 3)) (k : Zj l Y d kc ks (pc + 3) lv (.int v :: rest) n h Q) : Zj l Y d kc ks pc lv rest n h Q := by
  intro p e R s m args below meth c sz0 D cA ad H locs cells slots mc ms ls Z hK hC hX hR hS hl g1 g2 g3 g4
  exact lv_ldcw hK.1 hK.2.1 hK.2.2.2.2.2.1 (hK.2.2.2.2.2.2.2.2.1 _ hw) hd (k p e R s m args below meth c sz0 D cA ad H locs cells slots mc ms ls Z hK hC hX hR hS hl g1 g2 g3 g4)
theorem z_iload {l : zL} {Y : zM} {d kc ks pc n : Nat} {lv : List (Nat × Value)} {rest : List Value} {h : Nat → va_E} {Q : zQ} {i j : Nat} {v : Int32} (hd : decode Y.2.1 pc = .ok (.iload i, 2)) (hj : lv[j]? = some (i, .int v)) (k : Zj l Y d kc ks (pc + 2) lv (.int v :: rest) n h Q) : Zj l Y d kc ks pc lv rest n h Q := by
  intro p e R s m args below meth c sz0 D cA ad H locs cells slots mc ms ls Z hK hC hX hR hS hl g1 g2 g3 g4
  exact lv_iload hK.1 hK.2.1 hd (zlv_at hl hj) (k p e R s m args below meth c sz0 D cA ad H locs cells slots mc ms ls Z hK hC hX hR hS hl g1 g2 g3 g4)
theorem z_iload_n {l : zL} {Y : zM} {d kc ks pc n : Nat} {lv : List (Nat × Value)} {rest : List Value} {h : Nat → va_E} {Q : zQ} {i : Fin 4} {j : Nat} {v : Int32} (hd : decode Y.2.1 pc = .ok (.iload_n i, 1)) (hj : lv[j]? = some ((i : Nat), .int v)) (k : Zj l Y d kc ks (pc + 1) lv (.int v :: rest) n h Q) : Zj l Y d kc ks pc lv rest n h Q := by
  intro p e R s m args below meth c sz0 D cA ad H locs cells slots mc ms ls Z hK hC hX hR hS hl g1 g2 g3 g4
  exact lv_iload_n hK.1 hK.2.1 hd rfl (zlv_at hl hj) (k p e R s m args below meth c sz0 D cA ad H locs cells slots mc ms ls Z hK hC hX hR hS hl g1 g2 g3 g4)
theorem z_aload {l : zL} {Y : zM} {d kc ks pc n : Nat} {lv : List (Nat × Value)} {rest : List Value} {h : Nat → va_E} {Q : zQ} {i j : Nat} {v : Nat} (hd : decode Y.2.1 pc = .ok (.aload i, 2)) (hj : lv[j]? = some (i, .ref v)) (k : Zj l Y d kc ks (pc + 2) lv (.ref v :: rest) n h Q) : Zj l Y d kc ks pc lv rest n h Q := by
  intro p e R s m args below meth c sz0 D cA ad H locs cells slots mc ms ls Z hK hC hX hR hS hl g1 g2 g3 g4
  exact lv_aload hK.1 hK.2.1 hd (zlv_at hl hj) (k p e R s m args below meth c sz0 D cA ad H locs cells slots mc ms ls Z hK hC hX hR hS hl g1 g2 g3 g4)
theorem z_aload_n {l : zL} {Y : zM} {d kc ks pc n : Nat} {lv : List (Nat × Value)} {rest : List Value} {h : Nat → va_E} {Q : zQ} {i : Fin 4} {j : Nat} {v : Nat} (hd : decode Y.2.1 pc = .ok (.aload_n i, 1)) (hj : lv[j]? = some ((i : Nat), .ref v)) (k : Zj l Y d kc ks (pc + 1) lv (.ref v :: rest) n h Q) : Zj l Y d kc ks pc lv rest n h Q := by
  intro p e R s m args below meth c sz0 D cA ad H locs cells slots mc ms ls Z hK hC hX hR hS hl g1 g2 g3 g4
  exact lv_aload_n hK.1 hK.2.1 hd rfl (zlv_at hl hj) (k p e R s m args below meth c sz0 D cA ad H locs cells slots mc ms ls Z hK hC hX hR hS hl g1 g2 g3 g4)
theorem z_aloadN {l : zL} {Y : zM} {d kc ks pc n : Nat} {lv : List (Nat × Value)} {rest : List Value} {h : Nat → va_E} {Q : zQ} {i j : Nat} (hd : decode Y.2.1 pc = .ok (.aload i, 2)) (hj : lv[j]? = some (i, .null)) (k : Zj l Y d kc ks (pc + 2) lv (.null :: rest) n h Q) : Zj l Y d kc ks pc lv rest n h Q := by
  intro p e R s m args below meth c sz0 D cA ad H locs cells slots mc ms ls Z hK hC hX hR hS hl g1 g2 g3 g4
  exact lv_aloadN hK.1 hK.2.1 hd (zlv_at hl hj) (k p e R s m args below meth c sz0 D cA ad H locs cells slots mc ms ls Z hK hC hX hR hS hl g1 g2 g3 g4)
theorem z_aload_nN {l : zL} {Y : zM} {d kc ks pc n : Nat} {lv : List (Nat × Value)} {rest : List Value} {h : Nat → va_E} {Q : zQ} {i : Fin 4} {j : Nat} (hd : decode Y.2.1 pc = .ok (.aload_n i, 1)) (hj : lv[j]? = some ((i : Nat), .null)) (k : Zj l Y d kc ks (pc + 1) lv (.null :: rest) n h Q) : Zj l Y d kc ks pc lv rest n h Q := by
  intro p e R s m args below meth c sz0 D cA ad H locs cells slots mc ms ls Z hK hC hX hR hS hl g1 g2 g3 g4
  exact lv_aload_nN hK.1 hK.2.1 hd rfl (zlv_at hl hj) (k p e R s m args below meth c sz0 D cA ad H locs cells slots mc ms ls Z hK hC hX hR hS hl g1 g2 g3 g4)
theorem z_dload {l : zL} {Y : zM} {d kc ks pc n : Nat} {lv : List (Nat × Value)} {rest : List Value} {h : Nat → va_E} {Q : zQ} {i j : Nat} {v : UInt64} (hd : decode Y.2.1 pc = .ok (.dload i, 2)) (hj : lv[j]? = some (i, .double v)) (k : Zj l Y d kc ks (pc + 2) lv (.double v :: rest) n h Q) : Zj l Y d kc ks pc lv rest n h Q := by
  intro p e R s m args below meth c sz0 D cA ad H locs cells slots mc ms ls Z hK hC hX hR hS hl g1 g2 g3 g4
  exact lv_dload hK.1 hK.2.1 hd (zlv_at hl hj) (k p e R s m args below meth c sz0 D cA ad H locs cells slots mc ms ls Z hK hC hX hR hS hl g1 g2 g3 g4)
theorem zlv_f1 (ad : Nat → Nat) (lv : List (Nat × Value)) (i : Nat) : (zlv ad lv).filter (fun q => !(q.1 == i) && !(q.1 + 1 == i && q.2.category == 2)) = zlv ad (lv.filter (fun q => !(q.1 == i) && !(q.1 + 1 == i && q.2.category == 2))) := by
  unfold zlv
  rw [List.filter_map]
  congr 1
  exact List.filter_congr fun q _ => by simp [Function.comp, zv_cat]
theorem zlv_f2 (ad : Nat → Nat) (lv : List (Nat × Value)) (i : Nat) : (zlv ad lv).filter (fun q => !(q.1 == i) && (!(q.1 == i + 1) && !(q.1 + 1 == i && q.2.category == 2))) = zlv ad (lv.filter (fun q => !(q.1 == i) && (!(q.1 == i + 1) && !(q.1 + 1 == i && q.2.category == 2)))) := by
  unfold zlv
  rw [List.filter_map]
  congr 1
  exact List.filter_congr fun q _ => by simp [Function.comp, zv_cat]
theorem zlv_pk {ad : Nat → Nat} {ls : Array Slot} {nL : Nat} {l0 lv' : List (Nat × Value)} {is : List Nat} (h : lv_has ls nL (zlv ad l0)) (hs : lv_pick l0 is = lv') : lv_has ls nL (zlv ad lv') := zlv_sub h fun q hq => by
  rw [← hs] at hq
  obtain ⟨i, -, hi⟩ := List.mem_filterMap.mp hq
  exact List.mem_of_getElem? hi
theorem z_istore {l : zL} {Y : zM} {d kc ks pc n : Nat} {lv : List (Nat × Value)} {rest : List Value} {h : Nat → va_E} {Q : zQ} {i : Nat} {v : Int32} (is : List Nat) (lv' : List (Nat × Value)) (hd : decode Y.2.1 pc = .ok (.istore i, 2)) (hn : i < Y.2.2.1) (hp : lv_pick ((i, Value.int v) :: lv.filter (fun q => !(q.1 == i) && !(q.1 + 1 == i && q.2.category == 2))) is = lv') (k : Zj l Y d kc ks (pc + 2) lv' rest n h Q) : Zj l Y d kc ks pc lv (Value.int v :: rest) n h Q := by
  intro p e R s m args below meth c sz0 D cA ad H locs cells slots mc ms ls Z hK hC hX hR hS hl g1 g2 g3 g4
  refine lv_istore hK.1 hK.2.1 hd hl hn rfl (fun ls' hl' => ?_)
  rw [zlv_f1] at hl'
  exact k p e R s m args below meth c sz0 D cA ad H locs cells slots mc ms ls' Z hK hC hX hR hS (zlv_pk (l0 := (i, Value.int v) :: lv.filter (fun q => !(q.1 == i) && !(q.1 + 1 == i && q.2.category == 2))) hl' hp) g1 g2 g3 g4
theorem z_istore_n {l : zL} {Y : zM} {d kc ks pc n : Nat} {lv : List (Nat × Value)} {rest : List Value} {h : Nat → va_E} {Q : zQ} {i : Fin 4} {v : Int32} (is : List Nat) (lv' : List (Nat × Value)) (hd : decode Y.2.1 pc = .ok (.istore_n i, 1)) (hn : (i : Nat) < Y.2.2.1) (hp : lv_pick (((i : Nat), Value.int v) :: lv.filter (fun q => !(q.1 == (i : Nat)) && !(q.1 + 1 == (i : Nat) && q.2.category == 2))) is = lv') (k : Zj l Y d kc ks (pc + 1) lv' rest n h Q) : Zj l Y d kc ks pc lv (Value.int v :: rest) n h Q := by
  intro p e R s m args below meth c sz0 D cA ad H locs cells slots mc ms ls Z hK hC hX hR hS hl g1 g2 g3 g4
  refine lv_istore_n hK.1 hK.2.1 hd rfl hl hn rfl (fun ls' hl' => ?_)
  rw [zlv_f1] at hl'
  exact k p e R s m args below meth c sz0 D cA ad H locs cells slots mc ms ls' Z hK hC hX hR hS (zlv_pk (l0 := ((i : Nat), Value.int v) :: lv.filter (fun q => !(q.1 == (i : Nat)) && !(q.1 + 1 == (i : Nat) && q.2.category == 2))) hl' hp) g1 g2 g3 g4
theorem z_astore {l : zL} {Y : zM} {d kc ks pc n : Nat} {lv : List (Nat × Value)} {rest : List Value} {h : Nat → va_E} {Q : zQ} {i : Nat} {v : Nat} (is : List Nat) (lv' : List (Nat × Value)) (hd : decode Y.2.1 pc = .ok (.astore i, 2)) (hn : i < Y.2.2.1) (hp : lv_pick ((i, Value.ref v) :: lv.filter (fun q => !(q.1 == i) && !(q.1 + 1 == i && q.2.category == 2))) is = lv') (k : Zj l Y d kc ks (pc + 2) lv' rest n h Q) : Zj l Y d kc ks pc lv (Value.ref v :: rest) n h Q := by
  intro p e R s m args below meth c sz0 D cA ad H locs cells slots mc ms ls Z hK hC hX hR hS hl g1 g2 g3 g4
  refine lv_astore hK.1 hK.2.1 hd hl hn rfl (fun ls' hl' => ?_)
  rw [zlv_f1] at hl'
  exact k p e R s m args below meth c sz0 D cA ad H locs cells slots mc ms ls' Z hK hC hX hR hS (zlv_pk (l0 := (i, Value.ref v) :: lv.filter (fun q => !(q.1 == i) && !(q.1 + 1 == i && q.2.category == 2))) hl' hp) g1 g2 g3 g4
theorem z_astore_n {l : zL} {Y : zM} {d kc ks pc n : Nat} {lv : List (Nat × Value)} {rest : List Value} {h : Nat → va_E} {Q : zQ} {i : Fin 4} {v : Nat} (is : List Nat) (lv' : List (Nat × Value)) (hd : decode Y.2.1 pc = .ok (.astore_n i, 1)) (hn : (i : Nat) < Y.2.2.1) (hp : lv_pick (((i : Nat), Value.ref v) :: lv.filter (fun q => !(q.1 == (i : Nat)) && !(q.1 + 1 == (i : Nat) && q.2.category == 2))) is = lv') (k : Zj l Y d kc ks (pc + 1) lv' rest n h Q) : Zj l Y d kc ks pc lv (Value.ref v :: rest) n h Q := by
  intro p e R s m args below meth c sz0 D cA ad H locs cells slots mc ms ls Z hK hC hX hR hS hl g1 g2 g3 g4
  refine lv_astore_n hK.1 hK.2.1 hd rfl hl hn rfl (fun ls' hl' => ?_)
  rw [zlv_f1] at hl'
  exact k p e R s m args below meth c sz0 D cA ad H locs cells slots mc ms ls' Z hK hC hX hR hS (zlv_pk (l0 := ((i : Nat), Value.ref v) :: lv.filter (fun q => !(q.1 == (i : Nat)) && !(q.1 + 1 == (i : Nat) && q.2.category == 2))) hl' hp) g1 g2 g3 g4
theorem z_astoreN {l : zL} {Y : zM} {d kc ks pc n : Nat} {lv : List (Nat × Value)} {rest : List Value} {h : Nat → va_E} {Q : zQ} {i : Nat}  (is : List Nat) (lv' : List (Nat × Value)) (hd : decode Y.2.1 pc = .ok (.astore i, 2)) (hn : i < Y.2.2.1) (hp : lv_pick ((i, Value.null) :: lv.filter (fun q => !(q.1 == i) && !(q.1 + 1 == i && q.2.category == 2))) is = lv') (k : Zj l Y d kc ks (pc + 2) lv' rest n h Q) : Zj l Y d kc ks pc lv (Value.null :: rest) n h Q := by
  intro p e R s m args below meth c sz0 D cA ad H locs cells slots mc ms ls Z hK hC hX hR hS hl g1 g2 g3 g4
  refine lv_astoreN hK.1 hK.2.1 hd hl hn rfl (fun ls' hl' => ?_)
  rw [zlv_f1] at hl'
  exact k p e R s m args below meth c sz0 D cA ad H locs cells slots mc ms ls' Z hK hC hX hR hS (zlv_pk (l0 := (i, Value.null) :: lv.filter (fun q => !(q.1 == i) && !(q.1 + 1 == i && q.2.category == 2))) hl' hp) g1 g2 g3 g4
theorem z_astore_nN {l : zL} {Y : zM} {d kc ks pc n : Nat} {lv : List (Nat × Value)} {rest : List Value} {h : Nat → va_E} {Q : zQ} {i : Fin 4}  (is : List Nat) (lv' : List (Nat × Value)) (hd : decode Y.2.1 pc = .ok (.astore_n i, 1)) (hn : (i : Nat) < Y.2.2.1) (hp : lv_pick (((i : Nat), Value.null) :: lv.filter (fun q => !(q.1 == (i : Nat)) && !(q.1 + 1 == (i : Nat) && q.2.category == 2))) is = lv') (k : Zj l Y d kc ks (pc + 1) lv' rest n h Q) : Zj l Y d kc ks pc lv (Value.null :: rest) n h Q := by
  intro p e R s m args below meth c sz0 D cA ad H locs cells slots mc ms ls Z hK hC hX hR hS hl g1 g2 g3 g4
  refine lv_astore_nN hK.1 hK.2.1 hd rfl hl hn rfl (fun ls' hl' => ?_)
  rw [zlv_f1] at hl'
  exact k p e R s m args below meth c sz0 D cA ad H locs cells slots mc ms ls' Z hK hC hX hR hS (zlv_pk (l0 := ((i : Nat), Value.null) :: lv.filter (fun q => !(q.1 == (i : Nat)) && !(q.1 + 1 == (i : Nat) && q.2.category == 2))) hl' hp) g1 g2 g3 g4
theorem z_dstore {l : zL} {Y : zM} {d kc ks pc n : Nat} {lv : List (Nat × Value)} {rest : List Value} {h : Nat → va_E} {Q : zQ} {i : Nat} {v : UInt64} (is : List Nat) (lv' : List (Nat × Value)) (hd : decode Y.2.1 pc = .ok (.dstore i, 2)) (hn : i + 1 < Y.2.2.1) (hp : lv_pick ((i, Value.double v) :: lv.filter (fun q => !(q.1 == i) && (!(q.1 == i + 1) && !(q.1 + 1 == i && q.2.category == 2)))) is = lv') (k : Zj l Y d kc ks (pc + 2) lv' rest n h Q) : Zj l Y d kc ks pc lv (Value.double v :: rest) n h Q := by
  intro p e R s m args below meth c sz0 D cA ad H locs cells slots mc ms ls Z hK hC hX hR hS hl g1 g2 g3 g4
  refine lv_dstore hK.1 hK.2.1 hd hl hn rfl (fun ls' hl' => ?_)
  rw [zlv_f2] at hl'
  exact k p e R s m args below meth c sz0 D cA ad H locs cells slots mc ms ls' Z hK hC hX hR hS (zlv_pk (l0 := (i, Value.double v) :: lv.filter (fun q => !(q.1 == i) && (!(q.1 == i + 1) && !(q.1 + 1 == i && q.2.category == 2)))) hl' hp) g1 g2 g3 g4
theorem z_iinc {l : zL} {Y : zM} {d kc ks pc n : Nat} {lv : List (Nat × Value)} {rest : List Value} {h : Nat → va_E} {Q : zQ} {i j : Nat} {z : Int} {v : Int32} (u : Int32) (is : List Nat) (lv' : List (Nat × Value)) (hd : decode Y.2.1 pc = .ok (.iinc i z, 3)) (hj : lv[j]? = some (i, .int v)) (hv : v + Int32.ofInt z = u) (hn : i < Y.2.2.1) (hp : lv_pick ((i, Value.int u) :: lv.filter (fun q => !(q.1 == i) && !(q.1 + 1 == i && q.2.category == 2))) is = lv') (k : Zj l Y d kc ks (pc + 3) lv' rest n h Q) : Zj l Y d kc ks pc lv rest n h Q := by
  intro p e R s m args below meth c sz0 D cA ad H locs cells slots mc ms ls Z hK hC hX hR hS hl g1 g2 g3 g4
  have hj' : (zlv ad lv)[j]? = some (i, .int v) := by
    show (lv.map _)[j]? = _
    rw [List.getElem?_map, hj]
    rfl
  refine lv_iinc hK.1 hK.2.1 hd hl hj' hv hn rfl (fun ls' hl' => ?_)
  rw [zlv_f1] at hl'
  exact k p e R s m args below meth c sz0 D cA ad H locs cells slots mc ms ls' Z hK hC hX hR hS (zlv_pk (l0 := (i, Value.int u) :: lv.filter (fun q => !(q.1 == i) && !(q.1 + 1 == i && q.2.category == 2))) hl' hp) g1 g2 g3 g4
theorem z_iadd {l : zL} {Y : zM} {d kc ks pc n : Nat} {lv : List (Nat × Value)} {rest : List Value} {h : Nat → va_E} {Q : zQ} {x y : Int32} (hd : decode Y.2.1 pc = .ok (.iadd, 1)) (k : Zj l Y d kc ks (pc + 1) lv (.int (x + y) :: rest) n h Q) : Zj l Y d kc ks pc lv (.int y :: .int x :: rest) n h Q := by
  intro p e R s m args below meth c sz0 D cA ad H locs cells slots mc ms ls Z hK hC hX hR hS hl g1 g2 g3 g4
  exact lv_iadd hK.1 hK.2.1 hd (k p e R s m args below meth c sz0 D cA ad H locs cells slots mc ms ls Z hK hC hX hR hS hl g1 g2 g3 g4)
theorem z_isub {l : zL} {Y : zM} {d kc ks pc n : Nat} {lv : List (Nat × Value)} {rest : List Value} {h : Nat → va_E} {Q : zQ} {x y : Int32} (hd : decode Y.2.1 pc = .ok (.isub, 1)) (k : Zj l Y d kc ks (pc + 1) lv (.int (x - y) :: rest) n h Q) : Zj l Y d kc ks pc lv (.int y :: .int x :: rest) n h Q := by
  intro p e R s m args below meth c sz0 D cA ad H locs cells slots mc ms ls Z hK hC hX hR hS hl g1 g2 g3 g4
  exact lv_isub hK.1 hK.2.1 hd (k p e R s m args below meth c sz0 D cA ad H locs cells slots mc ms ls Z hK hC hX hR hS hl g1 g2 g3 g4)
theorem z_imul {l : zL} {Y : zM} {d kc ks pc n : Nat} {lv : List (Nat × Value)} {rest : List Value} {h : Nat → va_E} {Q : zQ} {x y : Int32} (hd : decode Y.2.1 pc = .ok (.imul, 1)) (k : Zj l Y d kc ks (pc + 1) lv (.int (x * y) :: rest) n h Q) : Zj l Y d kc ks pc lv (.int y :: .int x :: rest) n h Q := by
  intro p e R s m args below meth c sz0 D cA ad H locs cells slots mc ms ls Z hK hC hX hR hS hl g1 g2 g3 g4
  exact lv_imul hK.1 hK.2.1 hd (k p e R s m args below meth c sz0 D cA ad H locs cells slots mc ms ls Z hK hC hX hR hS hl g1 g2 g3 g4)
theorem z_iand {l : zL} {Y : zM} {d kc ks pc n : Nat} {lv : List (Nat × Value)} {rest : List Value} {h : Nat → va_E} {Q : zQ} {x y : Int32} (hd : decode Y.2.1 pc = .ok (.iand, 1)) (k : Zj l Y d kc ks (pc + 1) lv (.int (x &&& y) :: rest) n h Q) : Zj l Y d kc ks pc lv (.int y :: .int x :: rest) n h Q := by
  intro p e R s m args below meth c sz0 D cA ad H locs cells slots mc ms ls Z hK hC hX hR hS hl g1 g2 g3 g4
  exact lv_iand hK.1 hK.2.1 hd (k p e R s m args below meth c sz0 D cA ad H locs cells slots mc ms ls Z hK hC hX hR hS hl g1 g2 g3 g4)
theorem z_ior {l : zL} {Y : zM} {d kc ks pc n : Nat} {lv : List (Nat × Value)} {rest : List Value} {h : Nat → va_E} {Q : zQ} {x y : Int32} (hd : decode Y.2.1 pc = .ok (.ior, 1)) (k : Zj l Y d kc ks (pc + 1) lv (.int (x ||| y) :: rest) n h Q) : Zj l Y d kc ks pc lv (.int y :: .int x :: rest) n h Q := by
  intro p e R s m args below meth c sz0 D cA ad H locs cells slots mc ms ls Z hK hC hX hR hS hl g1 g2 g3 g4
  exact lv_ior hK.1 hK.2.1 hd (k p e R s m args below meth c sz0 D cA ad H locs cells slots mc ms ls Z hK hC hX hR hS hl g1 g2 g3 g4)
theorem z_ixor {l : zL} {Y : zM} {d kc ks pc n : Nat} {lv : List (Nat × Value)} {rest : List Value} {h : Nat → va_E} {Q : zQ} {x y : Int32} (hd : decode Y.2.1 pc = .ok (.ixor, 1)) (k : Zj l Y d kc ks (pc + 1) lv (.int (x ^^^ y) :: rest) n h Q) : Zj l Y d kc ks pc lv (.int y :: .int x :: rest) n h Q := by
  intro p e R s m args below meth c sz0 D cA ad H locs cells slots mc ms ls Z hK hC hX hR hS hl g1 g2 g3 g4
  exact lv_ixor hK.1 hK.2.1 hd (k p e R s m args below meth c sz0 D cA ad H locs cells slots mc ms ls Z hK hC hX hR hS hl g1 g2 g3 g4)
theorem z_idiv {l : zL} {Y : zM} {d kc ks pc n : Nat} {lv : List (Nat × Value)} {rest : List Value} {h : Nat → va_E} {Q : zQ} {x y : Int32} (hne : ¬ y = 0) (hd : decode Y.2.1 pc = .ok (.idiv, 1)) (k : Zj l Y d kc ks (pc + 1) lv (.int (x / y) :: rest) n h Q) : Zj l Y d kc ks pc lv (.int y :: .int x :: rest) n h Q := by
  intro p e R s m args below meth c sz0 D cA ad H locs cells slots mc ms ls Z hK hC hX hR hS hl g1 g2 g3 g4
  exact lv_idiv hK.1 hK.2.1 hd hne (k p e R s m args below meth c sz0 D cA ad H locs cells slots mc ms ls Z hK hC hX hR hS hl g1 g2 g3 g4)
theorem z_irem {l : zL} {Y : zM} {d kc ks pc n : Nat} {lv : List (Nat × Value)} {rest : List Value} {h : Nat → va_E} {Q : zQ} {x y : Int32} (hne : ¬ y = 0) (hd : decode Y.2.1 pc = .ok (.irem, 1)) (k : Zj l Y d kc ks (pc + 1) lv (.int (x - x / y * y) :: rest) n h Q) : Zj l Y d kc ks pc lv (.int y :: .int x :: rest) n h Q := by
  intro p e R s m args below meth c sz0 D cA ad H locs cells slots mc ms ls Z hK hC hX hR hS hl g1 g2 g3 g4
  exact lv_irem hK.1 hK.2.1 hd hne (k p e R s m args below meth c sz0 D cA ad H locs cells slots mc ms ls Z hK hC hX hR hS hl g1 g2 g3 g4)
theorem z_ineg {l : zL} {Y : zM} {d kc ks pc n : Nat} {lv : List (Nat × Value)} {rest : List Value} {h : Nat → va_E} {Q : zQ} {x : Int32} (hd : decode Y.2.1 pc = .ok (.ineg, 1)) (k : Zj l Y d kc ks (pc + 1) lv (.int (-x) :: rest) n h Q) : Zj l Y d kc ks pc lv (.int x :: rest) n h Q := by
  intro p e R s m args below meth c sz0 D cA ad H locs cells slots mc ms ls Z hK hC hX hR hS hl g1 g2 g3 g4
  exact lv_ineg hK.1 hK.2.1 hd (k p e R s m args below meth c sz0 D cA ad H locs cells slots mc ms ls Z hK hC hX hR hS hl g1 g2 g3 g4)
theorem z_ishl {l : zL} {Y : zM} {d kc ks pc n : Nat} {lv : List (Nat × Value)} {rest : List Value} {h : Nat → va_E} {Q : zQ} {x y : Int32} (hd : decode Y.2.1 pc = .ok (.ishl, 1)) (k : Zj l Y d kc ks (pc + 1) lv (.int (x <<< (y &&& 31)) :: rest) n h Q) : Zj l Y d kc ks pc lv (.int y :: .int x :: rest) n h Q := by
  intro p e R s m args below meth c sz0 D cA ad H locs cells slots mc ms ls Z hK hC hX hR hS hl g1 g2 g3 g4
  exact lv_ishl hK.1 hK.2.1 hd (k p e R s m args below meth c sz0 D cA ad H locs cells slots mc ms ls Z hK hC hX hR hS hl g1 g2 g3 g4)
theorem z_ishr {l : zL} {Y : zM} {d kc ks pc n : Nat} {lv : List (Nat × Value)} {rest : List Value} {h : Nat → va_E} {Q : zQ} {x y : Int32} (hd : decode Y.2.1 pc = .ok (.ishr, 1)) (k : Zj l Y d kc ks (pc + 1) lv (.int (x >>> (y &&& 31)) :: rest) n h Q) : Zj l Y d kc ks pc lv (.int y :: .int x :: rest) n h Q := by
  intro p e R s m args below meth c sz0 D cA ad H locs cells slots mc ms ls Z hK hC hX hR hS hl g1 g2 g3 g4
  exact lv_ishr hK.1 hK.2.1 hd (k p e R s m args below meth c sz0 D cA ad H locs cells slots mc ms ls Z hK hC hX hR hS hl g1 g2 g3 g4)
def zushr (x y : Int32) : Int32 := (x.toUInt32 >>> (y.toUInt32 &&& Int32.toUInt32 31)).toInt32
theorem z_iushr {l : zL} {Y : zM} {d kc ks pc n : Nat} {lv : List (Nat × Value)} {rest : List Value} {h : Nat → va_E} {Q : zQ} {x y : Int32} (hd : decode Y.2.1 pc = .ok (.iushr, 1)) (k : Zj l Y d kc ks (pc + 1) lv (.int (zushr x y) :: rest) n h Q) : Zj l Y d kc ks pc lv (.int y :: .int x :: rest) n h Q := by
  intro p e R s m args below meth c sz0 D cA ad H locs cells slots mc ms ls Z hK hC hX hR hS hl g1 g2 g3 g4
  exact lv_iushr hK.1 hK.2.1 (v := zushr x y) hd rfl (k p e R s m args below meth c sz0 D cA ad H locs cells slots mc ms ls Z hK hC hX hR hS hl g1 g2 g3 g4)
theorem z_i2l {l : zL} {Y : zM} {d kc ks pc n : Nat} {lv : List (Nat × Value)} {rest : List Value} {h : Nat → va_E} {Q : zQ} {x : Int32} (hd : decode Y.2.1 pc = .ok (.i2l, 1)) (k : Zj l Y d kc ks (pc + 1) lv (.long x.toInt64 :: rest) n h Q) : Zj l Y d kc ks pc lv (.int x :: rest) n h Q := by
  intro p e R s m args below meth c sz0 D cA ad H locs cells slots mc ms ls Z hK hC hX hR hS hl g1 g2 g3 g4
  exact lv_i2l hK.1 hK.2.1 (v := x.toInt64) hd rfl (k p e R s m args below meth c sz0 D cA ad H locs cells slots mc ms ls Z hK hC hX hR hS hl g1 g2 g3 g4)
def zi2c (x : Int32) : Int32 := (x.toUInt32 % 65536).toInt32
theorem z_i2c {l : zL} {Y : zM} {d kc ks pc n : Nat} {lv : List (Nat × Value)} {rest : List Value} {h : Nat → va_E} {Q : zQ} {x : Int32} (hd : decode Y.2.1 pc = .ok (.i2c, 1)) (k : Zj l Y d kc ks (pc + 1) lv (.int (zi2c x) :: rest) n h Q) : Zj l Y d kc ks pc lv (.int x :: rest) n h Q := by
  intro p e R s m args below meth c sz0 D cA ad H locs cells slots mc ms ls Z hK hC hX hR hS hl g1 g2 g3 g4
  exact lv_i2c hK.1 hK.2.1 (v := zi2c x) hd rfl (k p e R s m args below meth c sz0 D cA ad H locs cells slots mc ms ls Z hK hC hX hR hS hl g1 g2 g3 g4)
theorem z_i2d {l : zL} {Y : zM} {d kc ks pc n : Nat} {lv : List (Nat × Value)} {rest : List Value} {h : Nat → va_E} {Q : zQ} {x : Int32} (hd : decode Y.2.1 pc = .ok (.i2d, 1)) (k : Zj l Y d kc ks (pc + 1) lv (.double (FP.i2d x) :: rest) n h Q) : Zj l Y d kc ks pc lv (.int x :: rest) n h Q := by
  intro p e R s m args below meth c sz0 D cA ad H locs cells slots mc ms ls Z hK hC hX hR hS hl g1 g2 g3 g4
  exact lv_i2d hK.1 hK.2.1 hd (k p e R s m args below meth c sz0 D cA ad H locs cells slots mc ms ls Z hK hC hX hR hS hl g1 g2 g3 g4)
theorem z_i2f {l : zL} {Y : zM} {d kc ks pc n : Nat} {lv : List (Nat × Value)} {rest : List Value} {h : Nat → va_E} {Q : zQ} {x : Int32} (hd : decode Y.2.1 pc = .ok (.i2f, 1)) (k : Zj l Y d kc ks (pc + 1) lv (.float (FP.i2f x) :: rest) n h Q) : Zj l Y d kc ks pc lv (.int x :: rest) n h Q := by
  intro p e R s m args below meth c sz0 D cA ad H locs cells slots mc ms ls Z hK hC hX hR hS hl g1 g2 g3 g4
  exact lv_i2f hK.1 hK.2.1 hd (k p e R s m args below meth c sz0 D cA ad H locs cells slots mc ms ls Z hK hC hX hR hS hl g1 g2 g3 g4)
theorem z_f2d {l : zL} {Y : zM} {d kc ks pc n : Nat} {lv : List (Nat × Value)} {rest : List Value} {h : Nat → va_E} {Q : zQ} {x : UInt32} (hne : vf_n64 (FP.f2d x)) (hd : decode Y.2.1 pc = .ok (.f2d, 1)) (k : Zj l Y d kc ks (pc + 1) lv (.double (FP.f2d x) :: rest) n h Q) : Zj l Y d kc ks pc lv (.float x :: rest) n h Q := by
  intro p e R s m args below meth c sz0 D cA ad H locs cells slots mc ms ls Z hK hC hX hR hS hl g1 g2 g3 g4
  exact lv_f2d hK.1 hK.2.1 hd hne (k p e R s m args below meth c sz0 D cA ad H locs cells slots mc ms ls Z hK hC hX hR hS hl g1 g2 g3 g4)
theorem z_ddiv {l : zL} {Y : zM} {d kc ks pc n : Nat} {lv : List (Nat × Value)} {rest : List Value} {h : Nat → va_E} {Q : zQ} {x y : UInt64} (hne : vf_n64 (FP.ddiv x y)) (hd : decode Y.2.1 pc = .ok (.ddiv, 1)) (k : Zj l Y d kc ks (pc + 1) lv (.double (FP.ddiv x y) :: rest) n h Q) : Zj l Y d kc ks pc lv (.double y :: .double x :: rest) n h Q := by
  intro p e R s m args below meth c sz0 D cA ad H locs cells slots mc ms ls Z hK hC hX hR hS hl g1 g2 g3 g4
  exact lv_ddiv hK.1 hK.2.1 hd hne (k p e R s m args below meth c sz0 D cA ad H locs cells slots mc ms ls Z hK hC hX hR hS hl g1 g2 g3 g4)
theorem z_fdiv {l : zL} {Y : zM} {d kc ks pc n : Nat} {lv : List (Nat × Value)} {rest : List Value} {h : Nat → va_E} {Q : zQ} {x y : UInt32} (hne : vf_n32 (FP.fdiv x y)) (hd : decode Y.2.1 pc = .ok (.fdiv, 1)) (k : Zj l Y d kc ks (pc + 1) lv (.float (FP.fdiv x y) :: rest) n h Q) : Zj l Y d kc ks pc lv (.float y :: .float x :: rest) n h Q := by
  intro p e R s m args below meth c sz0 D cA ad H locs cells slots mc ms ls Z hK hC hX hR hS hl g1 g2 g3 g4
  exact lv_fdiv hK.1 hK.2.1 hd hne (k p e R s m args below meth c sz0 D cA ad H locs cells slots mc ms ls Z hK hC hX hR hS hl g1 g2 g3 g4)
theorem z_dcmp {l : zL} {Y : zM} {d kc ks pc n : Nat} {lv : List (Nat × Value)} {rest : List Value} {h : Nat → va_E} {Q : zQ} {x y : UInt64} {op : CmpOp} (hd : decode Y.2.1 pc = .ok (.dcmp op, 1)) (k : Zj l Y d kc ks (pc + 1) lv (.int (Op.cmpValue (FP.dcmp x y) op) :: rest) n h Q) : Zj l Y d kc ks pc lv (.double y :: .double x :: rest) n h Q := by
  intro p e R s m args below meth c sz0 D cA ad H locs cells slots mc ms ls Z hK hC hX hR hS hl g1 g2 g3 g4
  exact lv_dcmp hK.1 hK.2.1 hd (k p e R s m args below meth c sz0 D cA ad H locs cells slots mc ms ls Z hK hC hX hR hS hl g1 g2 g3 g4)
theorem z_lcmp {l : zL} {Y : zM} {d kc ks pc n : Nat} {lv : List (Nat × Value)} {rest : List Value} {h : Nat → va_E} {Q : zQ} {x y : Int64} (hd : decode Y.2.1 pc = .ok (.lcmp, 1)) (k : Zj l Y d kc ks (pc + 1) lv (.int (lg_cmp x y) :: rest) n h Q) : Zj l Y d kc ks pc lv (.long y :: .long x :: rest) n h Q := by
  intro p e R s m args below meth c sz0 D cA ad H locs cells slots mc ms ls Z hK hC hX hR hS hl g1 g2 g3 g4
  exact W.lcmp hK.1 hK.2.1 hd (k p e R s m args below meth c sz0 D cA ad H locs cells slots mc ms ls Z hK hC hX hR hS hl g1 g2 g3 g4)
theorem z_dup {l : zL} {Y : zM} {d kc ks pc n : Nat} {lv : List (Nat × Value)} {rest : List Value} {h : Nat → va_E} {Q : zQ} {v : Value} (hv : v.category = 1) (hd : decode Y.2.1 pc = .ok (.dup, 1)) (k : Zj l Y d kc ks (pc + 1) lv (v :: v :: rest) n h Q) : Zj l Y d kc ks pc lv (v :: rest) n h Q := by
  intro p e R s m args below meth c sz0 D cA ad H locs cells slots mc ms ls Z hK hC hX hR hS hl g1 g2 g3 g4
  exact lv_dup hK.1 hK.2.1 hd ((zv_cat ad v).trans hv) (k p e R s m args below meth c sz0 D cA ad H locs cells slots mc ms ls Z hK hC hX hR hS hl g1 g2 g3 g4)
theorem z_pop {l : zL} {Y : zM} {d kc ks pc n : Nat} {lv : List (Nat × Value)} {rest : List Value} {h : Nat → va_E} {Q : zQ} {v : Value} (hv : v.category = 1) (hd : decode Y.2.1 pc = .ok (.pop, 1)) (k : Zj l Y d kc ks (pc + 1) lv rest n h Q) : Zj l Y d kc ks pc lv (v :: rest) n h Q := by
  intro p e R s m args below meth c sz0 D cA ad H locs cells slots mc ms ls Z hK hC hX hR hS hl g1 g2 g3 g4
  exact lv_pop hK.1 hK.2.1 hd ((zv_cat ad v).trans hv) (k p e R s m args below meth c sz0 D cA ad H locs cells slots mc ms ls Z hK hC hX hR hS hl g1 g2 g3 g4)
theorem z_dup2 {l : zL} {Y : zM} {d kc ks pc n : Nat} {lv : List (Nat × Value)} {rest : List Value} {h : Nat → va_E} {Q : zQ} {v u : Value} (hv : v.category = 1) (hu : u.category = 1) (hd : decode Y.2.1 pc = .ok (.dup2, 1)) (k : Zj l Y d kc ks (pc + 1) lv (v :: u :: v :: u :: rest) n h Q) : Zj l Y d kc ks pc lv (v :: u :: rest) n h Q := by
  intro p e R s m args below meth c sz0 D cA ad H locs cells slots mc ms ls Z hK hC hX hR hS hl g1 g2 g3 g4
  exact lv_dup2_11 hK.1 hK.2.1 hd ((zv_cat ad v).trans hv) ((zv_cat ad u).trans hu) (k p e R s m args below meth c sz0 D cA ad H locs cells slots mc ms ls Z hK hC hX hR hS hl g1 g2 g3 g4)
theorem z_dup_x1 {l : zL} {Y : zM} {d kc ks pc n : Nat} {lv : List (Nat × Value)} {rest : List Value} {h : Nat → va_E} {Q : zQ} {v u : Value} (hv : v.category = 1) (hu : u.category = 1) (hd : decode Y.2.1 pc = .ok (.dup_x1, 1)) (k : Zj l Y d kc ks (pc + 1) lv (v :: u :: v :: rest) n h Q) : Zj l Y d kc ks pc lv (v :: u :: rest) n h Q := by
  intro p e R s m args below meth c sz0 D cA ad H locs cells slots mc ms ls Z hK hC hX hR hS hl g1 g2 g3 g4
  exact lv_dup_x1 hK.1 hK.2.1 hd ((zv_cat ad v).trans hv) ((zv_cat ad u).trans hu) (k p e R s m args below meth c sz0 D cA ad H locs cells slots mc ms ls Z hK hC hX hR hS hl g1 g2 g3 g4)
theorem z_if_eq {l : zL} {Y : zM} {d kc ks pc n : Nat} {lv : List (Nat × Value)} {rest : List Value} {h : Nat → va_E} {Q : zQ} {x : Int32} {off : Int} {tgt : Nat} (hd : decode Y.2.1 pc = .ok (.ifCond .eq off, 3)) (ht : (pc : Int) + off = (tgt : Int)) (kt : x = 0 → Zj l Y d kc ks tgt lv rest n h Q) (kf : ¬ x = 0 → Zj l Y d kc ks (pc + 3) lv rest n h Q) : Zj l Y d kc ks pc lv (.int x :: rest) n h Q := by
  intro p e R s m args below meth c sz0 D cA ad H locs cells slots mc ms ls Z hK hC hX hR hS hl g1 g2 g3 g4
  exact lv_if_eq hK.1 hK.2.1 hd ht (fun q => kt q p e R s m args below meth c sz0 D cA ad H locs cells slots mc ms ls Z hK hC hX hR hS hl g1 g2 g3 g4) (fun q => kf q p e R s m args below meth c sz0 D cA ad H locs cells slots mc ms ls Z hK hC hX hR hS hl g1 g2 g3 g4)
theorem z_if_ne {l : zL} {Y : zM} {d kc ks pc n : Nat} {lv : List (Nat × Value)} {rest : List Value} {h : Nat → va_E} {Q : zQ} {x : Int32} {off : Int} {tgt : Nat} (hd : decode Y.2.1 pc = .ok (.ifCond .ne off, 3)) (ht : (pc : Int) + off = (tgt : Int)) (kt : ¬ x = 0 → Zj l Y d kc ks tgt lv rest n h Q) (kf : x = 0 → Zj l Y d kc ks (pc + 3) lv rest n h Q) : Zj l Y d kc ks pc lv (.int x :: rest) n h Q := by
  intro p e R s m args below meth c sz0 D cA ad H locs cells slots mc ms ls Z hK hC hX hR hS hl g1 g2 g3 g4
  exact lv_if_ne hK.1 hK.2.1 hd ht (fun q => kt q p e R s m args below meth c sz0 D cA ad H locs cells slots mc ms ls Z hK hC hX hR hS hl g1 g2 g3 g4) (fun q => kf q p e R s m args below meth c sz0 D cA ad H locs cells slots mc ms ls Z hK hC hX hR hS hl g1 g2 g3 g4)
theorem z_if_lt {l : zL} {Y : zM} {d kc ks pc n : Nat} {lv : List (Nat × Value)} {rest : List Value} {h : Nat → va_E} {Q : zQ} {x : Int32} {off : Int} {tgt : Nat} (hd : decode Y.2.1 pc = .ok (.ifCond .lt off, 3)) (ht : (pc : Int) + off = (tgt : Int)) (kt : x < 0 → Zj l Y d kc ks tgt lv rest n h Q) (kf : ¬ x < 0 → Zj l Y d kc ks (pc + 3) lv rest n h Q) : Zj l Y d kc ks pc lv (.int x :: rest) n h Q := by
  intro p e R s m args below meth c sz0 D cA ad H locs cells slots mc ms ls Z hK hC hX hR hS hl g1 g2 g3 g4
  exact lv_if_lt hK.1 hK.2.1 hd ht (fun q => kt q p e R s m args below meth c sz0 D cA ad H locs cells slots mc ms ls Z hK hC hX hR hS hl g1 g2 g3 g4) (fun q => kf q p e R s m args below meth c sz0 D cA ad H locs cells slots mc ms ls Z hK hC hX hR hS hl g1 g2 g3 g4)
theorem z_if_ge {l : zL} {Y : zM} {d kc ks pc n : Nat} {lv : List (Nat × Value)} {rest : List Value} {h : Nat → va_E} {Q : zQ} {x : Int32} {off : Int} {tgt : Nat} (hd : decode Y.2.1 pc = .ok (.ifCond .ge off, 3)) (ht : (pc : Int) + off = (tgt : Int)) (kt : 0 ≤ x → Zj l Y d kc ks tgt lv rest n h Q) (kf : ¬ 0 ≤ x → Zj l Y d kc ks (pc + 3) lv rest n h Q) : Zj l Y d kc ks pc lv (.int x :: rest) n h Q := by
  intro p e R s m args below meth c sz0 D cA ad H locs cells slots mc ms ls Z hK hC hX hR hS hl g1 g2 g3 g4
  exact lv_if_ge hK.1 hK.2.1 hd ht (fun q => kt q p e R s m args below meth c sz0 D cA ad H locs cells slots mc ms ls Z hK hC hX hR hS hl g1 g2 g3 g4) (fun q => kf q p e R s m args below meth c sz0 D cA ad H locs cells slots mc ms ls Z hK hC hX hR hS hl g1 g2 g3 g4)
theorem z_if_gt {l : zL} {Y : zM} {d kc ks pc n : Nat} {lv : List (Nat × Value)} {rest : List Value} {h : Nat → va_E} {Q : zQ} {x : Int32} {off : Int} {tgt : Nat} (hd : decode Y.2.1 pc = .ok (.ifCond .gt off, 3)) (ht : (pc : Int) + off = (tgt : Int)) (kt : 0 < x → Zj l Y d kc ks tgt lv rest n h Q) (kf : ¬ 0 < x → Zj l Y d kc ks (pc + 3) lv rest n h Q) : Zj l Y d kc ks pc lv (.int x :: rest) n h Q := by
  intro p e R s m args below meth c sz0 D cA ad H locs cells slots mc ms ls Z hK hC hX hR hS hl g1 g2 g3 g4
  exact lv_if_gt hK.1 hK.2.1 hd ht (fun q => kt q p e R s m args below meth c sz0 D cA ad H locs cells slots mc ms ls Z hK hC hX hR hS hl g1 g2 g3 g4) (fun q => kf q p e R s m args below meth c sz0 D cA ad H locs cells slots mc ms ls Z hK hC hX hR hS hl g1 g2 g3 g4)
theorem z_if_le {l : zL} {Y : zM} {d kc ks pc n : Nat} {lv : List (Nat × Value)} {rest : List Value} {h : Nat → va_E} {Q : zQ} {x : Int32} {off : Int} {tgt : Nat} (hd : decode Y.2.1 pc = .ok (.ifCond .le off, 3)) (ht : (pc : Int) + off = (tgt : Int)) (kt : x ≤ 0 → Zj l Y d kc ks tgt lv rest n h Q) (kf : ¬ x ≤ 0 → Zj l Y d kc ks (pc + 3) lv rest n h Q) : Zj l Y d kc ks pc lv (.int x :: rest) n h Q := by
  intro p e R s m args below meth c sz0 D cA ad H locs cells slots mc ms ls Z hK hC hX hR hS hl g1 g2 g3 g4
  exact lv_if_le hK.1 hK.2.1 hd ht (fun q => kt q p e R s m args below meth c sz0 D cA ad H locs cells slots mc ms ls Z hK hC hX hR hS hl g1 g2 g3 g4) (fun q => kf q p e R s m args below meth c sz0 D cA ad H locs cells slots mc ms ls Z hK hC hX hR hS hl g1 g2 g3 g4)
theorem z_icmp_eq {l : zL} {Y : zM} {d kc ks pc n : Nat} {lv : List (Nat × Value)} {rest : List Value} {h : Nat → va_E} {Q : zQ} {x y : Int32} {off : Int} {tgt : Nat} (hd : decode Y.2.1 pc = .ok (.if_icmp .eq off, 3)) (ht : (pc : Int) + off = (tgt : Int)) (kt : x = y → Zj l Y d kc ks tgt lv rest n h Q) (kf : ¬ x = y → Zj l Y d kc ks (pc + 3) lv rest n h Q) : Zj l Y d kc ks pc lv (.int y :: .int x :: rest) n h Q := by
  intro p e R s m args below meth c sz0 D cA ad H locs cells slots mc ms ls Z hK hC hX hR hS hl g1 g2 g3 g4
  exact lv_icmp_eq hK.1 hK.2.1 hd ht (fun q => kt q p e R s m args below meth c sz0 D cA ad H locs cells slots mc ms ls Z hK hC hX hR hS hl g1 g2 g3 g4) (fun q => kf q p e R s m args below meth c sz0 D cA ad H locs cells slots mc ms ls Z hK hC hX hR hS hl g1 g2 g3 g4)
theorem z_icmp_ne {l : zL} {Y : zM} {d kc ks pc n : Nat} {lv : List (Nat × Value)} {rest : List Value} {h : Nat → va_E} {Q : zQ} {x y : Int32} {off : Int} {tgt : Nat} (hd : decode Y.2.1 pc = .ok (.if_icmp .ne off, 3)) (ht : (pc : Int) + off = (tgt : Int)) (kt : ¬ x = y → Zj l Y d kc ks tgt lv rest n h Q) (kf : x = y → Zj l Y d kc ks (pc + 3) lv rest n h Q) : Zj l Y d kc ks pc lv (.int y :: .int x :: rest) n h Q := by
  intro p e R s m args below meth c sz0 D cA ad H locs cells slots mc ms ls Z hK hC hX hR hS hl g1 g2 g3 g4
  exact lv_icmp_ne hK.1 hK.2.1 hd ht (fun q => kt q p e R s m args below meth c sz0 D cA ad H locs cells slots mc ms ls Z hK hC hX hR hS hl g1 g2 g3 g4) (fun q => kf q p e R s m args below meth c sz0 D cA ad H locs cells slots mc ms ls Z hK hC hX hR hS hl g1 g2 g3 g4)
theorem z_icmp_lt {l : zL} {Y : zM} {d kc ks pc n : Nat} {lv : List (Nat × Value)} {rest : List Value} {h : Nat → va_E} {Q : zQ} {x y : Int32} {off : Int} {tgt : Nat} (hd : decode Y.2.1 pc = .ok (.if_icmp .lt off, 3)) (ht : (pc : Int) + off = (tgt : Int)) (kt : x < y → Zj l Y d kc ks tgt lv rest n h Q) (kf : ¬ x < y → Zj l Y d kc ks (pc + 3) lv rest n h Q) : Zj l Y d kc ks pc lv (.int y :: .int x :: rest) n h Q := by
  intro p e R s m args below meth c sz0 D cA ad H locs cells slots mc ms ls Z hK hC hX hR hS hl g1 g2 g3 g4
  exact lv_icmp_lt hK.1 hK.2.1 hd ht (fun q => kt q p e R s m args below meth c sz0 D cA ad H locs cells slots mc ms ls Z hK hC hX hR hS hl g1 g2 g3 g4) (fun q => kf q p e R s m args below meth c sz0 D cA ad H locs cells slots mc ms ls Z hK hC hX hR hS hl g1 g2 g3 g4)
theorem z_icmp_ge {l : zL} {Y : zM} {d kc ks pc n : Nat} {lv : List (Nat × Value)} {rest : List Value} {h : Nat → va_E} {Q : zQ} {x y : Int32} {off : Int} {tgt : Nat} (hd : decode Y.2.1 pc = .ok (.if_icmp .ge off, 3)) (ht : (pc : Int) + off = (tgt : Int)) (kt : y ≤ x → Zj l Y d kc ks tgt lv rest n h Q) (kf : ¬ y ≤ x → Zj l Y d kc ks (pc + 3) lv rest n h Q) : Zj l Y d kc ks pc lv (.int y :: .int x :: rest) n h Q := by
  intro p e R s m args below meth c sz0 D cA ad H locs cells slots mc ms ls Z hK hC hX hR hS hl g1 g2 g3 g4
  exact lv_icmp_ge hK.1 hK.2.1 hd ht (fun q => kt q p e R s m args below meth c sz0 D cA ad H locs cells slots mc ms ls Z hK hC hX hR hS hl g1 g2 g3 g4) (fun q => kf q p e R s m args below meth c sz0 D cA ad H locs cells slots mc ms ls Z hK hC hX hR hS hl g1 g2 g3 g4)
theorem z_icmp_gt {l : zL} {Y : zM} {d kc ks pc n : Nat} {lv : List (Nat × Value)} {rest : List Value} {h : Nat → va_E} {Q : zQ} {x y : Int32} {off : Int} {tgt : Nat} (hd : decode Y.2.1 pc = .ok (.if_icmp .gt off, 3)) (ht : (pc : Int) + off = (tgt : Int)) (kt : y < x → Zj l Y d kc ks tgt lv rest n h Q) (kf : ¬ y < x → Zj l Y d kc ks (pc + 3) lv rest n h Q) : Zj l Y d kc ks pc lv (.int y :: .int x :: rest) n h Q := by
  intro p e R s m args below meth c sz0 D cA ad H locs cells slots mc ms ls Z hK hC hX hR hS hl g1 g2 g3 g4
  exact lv_icmp_gt hK.1 hK.2.1 hd ht (fun q => kt q p e R s m args below meth c sz0 D cA ad H locs cells slots mc ms ls Z hK hC hX hR hS hl g1 g2 g3 g4) (fun q => kf q p e R s m args below meth c sz0 D cA ad H locs cells slots mc ms ls Z hK hC hX hR hS hl g1 g2 g3 g4)
theorem z_icmp_le {l : zL} {Y : zM} {d kc ks pc n : Nat} {lv : List (Nat × Value)} {rest : List Value} {h : Nat → va_E} {Q : zQ} {x y : Int32} {off : Int} {tgt : Nat} (hd : decode Y.2.1 pc = .ok (.if_icmp .le off, 3)) (ht : (pc : Int) + off = (tgt : Int)) (kt : x ≤ y → Zj l Y d kc ks tgt lv rest n h Q) (kf : ¬ x ≤ y → Zj l Y d kc ks (pc + 3) lv rest n h Q) : Zj l Y d kc ks pc lv (.int y :: .int x :: rest) n h Q := by
  intro p e R s m args below meth c sz0 D cA ad H locs cells slots mc ms ls Z hK hC hX hR hS hl g1 g2 g3 g4
  exact lv_icmp_le hK.1 hK.2.1 hd ht (fun q => kt q p e R s m args below meth c sz0 D cA ad H locs cells slots mc ms ls Z hK hC hX hR hS hl g1 g2 g3 g4) (fun q => kf q p e R s m args below meth c sz0 D cA ad H locs cells slots mc ms ls Z hK hC hX hR hS hl g1 g2 g3 g4)
theorem z_goto {l : zL} {Y : zM} {d kc ks pc n : Nat} {lv : List (Nat × Value)} {rest : List Value} {h : Nat → va_E} {Q : zQ}  {off : Int} {tgt : Nat}  (hd : decode Y.2.1 pc = .ok (.goto off, 3)) (ht : (pc : Int) + off = (tgt : Int)) (k : Zj l Y d kc ks tgt lv rest n h Q) : Zj l Y d kc ks pc lv rest n h Q := by
  intro p e R s m args below meth c sz0 D cA ad H locs cells slots mc ms ls Z hK hC hX hR hS hl g1 g2 g3 g4
  exact lv_goto hK.1 hK.2.1 hd ht (k p e R s m args below meth c sz0 D cA ad H locs cells slots mc ms ls Z hK hC hX hR hS hl g1 g2 g3 g4)
theorem z_ifnonnull {l : zL} {Y : zM} {d kc ks pc n : Nat} {lv : List (Nat × Value)} {rest : List Value} {h : Nat → va_E} {Q : zQ} {v : Nat} {off : Int} {tgt : Nat}  (hd : decode Y.2.1 pc = .ok (.ifnonnull off, 3)) (ht : (pc : Int) + off = (tgt : Int)) (k : Zj l Y d kc ks tgt lv rest n h Q) : Zj l Y d kc ks pc lv (.ref v :: rest) n h Q := by
  intro p e R s m args below meth c sz0 D cA ad H locs cells slots mc ms ls Z hK hC hX hR hS hl g1 g2 g3 g4
  exact lv_ifnonnull hK.1 hK.2.1 hd ht (k p e R s m args below meth c sz0 D cA ad H locs cells slots mc ms ls Z hK hC hX hR hS hl g1 g2 g3 g4)
theorem z_ifnull {l : zL} {Y : zM} {d kc ks pc n : Nat} {lv : List (Nat × Value)} {rest : List Value} {h : Nat → va_E} {Q : zQ} {v : Nat} {off : Int} (hd : decode Y.2.1 pc = .ok (.ifnull off, 3)) (k : Zj l Y d kc ks (pc + 3) lv rest n h Q) : Zj l Y d kc ks pc lv (.ref v :: rest) n h Q := by
  intro p e R s m args below meth c sz0 D cA ad H locs cells slots mc ms ls Z hK hC hX hR hS hl g1 g2 g3 g4
  exact lv_ifnull hK.1 hK.2.1 hd (k p e R s m args below meth c sz0 D cA ad H locs cells slots mc ms ls Z hK hC hX hR hS hl g1 g2 g3 g4)
theorem z_ifnullN {l : zL} {Y : zM} {d kc ks pc n : Nat} {lv : List (Nat × Value)} {rest : List Value} {h : Nat → va_E} {Q : zQ}  {off : Int} {tgt : Nat}  (hd : decode Y.2.1 pc = .ok (.ifnull off, 3)) (ht : (pc : Int) + off = (tgt : Int)) (k : Zj l Y d kc ks tgt lv rest n h Q) : Zj l Y d kc ks pc lv (.null :: rest) n h Q := by
  intro p e R s m args below meth c sz0 D cA ad H locs cells slots mc ms ls Z hK hC hX hR hS hl g1 g2 g3 g4
  exact lv_ifnullN hK.1 hK.2.1 hd ht (k p e R s m args below meth c sz0 D cA ad H locs cells slots mc ms ls Z hK hC hX hR hS hl g1 g2 g3 g4)
theorem z_ifnonnullN {l : zL} {Y : zM} {d kc ks pc n : Nat} {lv : List (Nat × Value)} {rest : List Value} {h : Nat → va_E} {Q : zQ} {off : Int} (hd : decode Y.2.1 pc = .ok (.ifnonnull off, 3)) (k : Zj l Y d kc ks (pc + 3) lv rest n h Q) : Zj l Y d kc ks pc lv (.null :: rest) n h Q := by
  intro p e R s m args below meth c sz0 D cA ad H locs cells slots mc ms ls Z hK hC hX hR hS hl g1 g2 g3 g4
  exact lv_ifnonnullN hK.1 hK.2.1 hd (k p e R s m args below meth c sz0 D cA ad H locs cells slots mc ms ls Z hK hC hX hR hS hl g1 g2 g3 g4)
theorem z_lookup {l : zL} {Y : zM} {d kc ks pc n : Nat} {lv : List (Nat × Value)} {rest : List Value} {h : Nat → va_E} {Q : zQ} {dflt : Int} {ps : Array (Int × Int)} {len : Nat} {x : Int32} (off : Int) (tgt : Nat) (hd : decode Y.2.1 pc = .ok (.lookupswitch dflt ps, len)) (hp : (ps.toList.zip (ps.toList.drop 1)).all (fun (a, next) => a.1 < next.1) = true) (ho : Op.lookupswitch.offset ps.toList dflt x.toInt = off) (ht : (pc : Int) + off = (tgt : Int)) (k : Zj l Y d kc ks tgt lv rest n h Q) : Zj l Y d kc ks pc lv (.int x :: rest) n h Q := by
  intro p e R s m args below meth c sz0 D cA ad H locs cells slots mc ms ls Z hK hC hX hR hS hl g1 g2 g3 g4
  exact lv_lookup hK.1 hK.2.1 hd hp ho ht (k p e R s m args below meth c sz0 D cA ad H locs cells slots mc ms ls Z hK hC hX hR hS hl g1 g2 g3 g4)
theorem z_tableOut {l : zL} {Y : zM} {d kc ks pc n : Nat} {lv : List (Nat × Value)} {rest : List Value} {h : Nat → va_E} {Q : zQ} {dflt lo hi : Int} {offs : Array Int} {len : Nat} {x : Int32} (tgt : Nat) (hd : decode Y.2.1 pc = .ok (.tableswitch dflt lo hi offs, len)) (hx : x.toInt < lo ∨ hi < x.toInt) (ht : (pc : Int) + dflt = (tgt : Int)) (k : Zj l Y d kc ks tgt lv rest n h Q) : Zj l Y d kc ks pc lv (.int x :: rest) n h Q := by
  intro p e R s m args below meth c sz0 D cA ad H locs cells slots mc ms ls Z hK hC hX hR hS hl g1 g2 g3 g4
  exact lv_tableOut hK.1 hK.2.1 hd hx ht (k p e R s m args below meth c sz0 D cA ad H locs cells slots mc ms ls Z hK hC hX hR hS hl g1 g2 g3 g4)
theorem z_tableIn {l : zL} {Y : zM} {d kc ks pc n : Nat} {lv : List (Nat × Value)} {rest : List Value} {h : Nat → va_E} {Q : zQ} {dflt lo hi : Int} {offs : Array Int} {len : Nat} {x : Int32} (off : Int) (tgt : Nat) (hd : decode Y.2.1 pc = .ok (.tableswitch dflt lo hi offs, len)) (h1 : ¬ x.toInt < lo) (h2 : ¬ hi < x.toInt) (ho : offs[(x.toInt - lo).toNat]? = some off) (ht : (pc : Int) + off = (tgt : Int)) (k : Zj l Y d kc ks tgt lv rest n h Q) : Zj l Y d kc ks pc lv (.int x :: rest) n h Q := by
  intro p e R s m args below meth c sz0 D cA ad H locs cells slots mc ms ls Z hK hC hX hR hS hl g1 g2 g3 g4
  exact lv_tableIn hK.1 hK.2.1 hd h1 h2 ho ht (k p e R s m args below meth c sz0 D cA ad H locs cells slots mc ms ls Z hK hC hX hR hS hl g1 g2 g3 g4)
end
section
/-! RULES THAT TOUCH THE WORLD: fields, arrays, new cells, constants -/
theorem zR_set {D : va_G} {cA : Nat → ClassId} {sz0 n a : Nat} {ad : Nat → Nat} {h : Nat → va_E} {e : va_E} {H H1 : Heap} (hR : zR D cA sz0 ad n h H) (ha : a < n) (hok : zok n e) (hP : va_P D vwCl ((zw ad cA n h).set a (ad a, ze ad cA e)) H1) (hD : va_D (fun q => sz0 ≤ q) ((zw ad cA n h).set a (ad a, ze ad cA e))) : zR D cA sz0 ad n (va_up h a e) H1 := by
  rw [zw_set ha] at hP hD
  refine ⟨hP, hD, fun k hk => ?_⟩
  by_cases hka : k = a
  · subst hka
    simp only [va_up, if_true]
    exact hok
  · simp only [va_up, if_neg hka]
    exact hR.2.2 k hk
/-- a field of a class by the pool's entry -/
def zF (own : String) (idx ci k : Nat) : Prop := ∃ (C : String) (T : u_T) (N : Nat), vwCl[ci]? = some (C, T, N) ∧ k < N ∧ (Cond.fieldLink own idx (T k).1 (T k).2.1 (T k).2.2.1) ∈ zTs ∧ (∀ w ∈ u_ws C T N, w ∈ zTs)
/-- what a class's fields are, for writing -/
def zG (ci : Nat) (ty0 : Nat → FieldType) : Prop := ∃ (C : String) (T : u_T) (N : Nat), vwCl[ci]? = some (C, T, N) ∧ (∀ k, k < N → parseFieldDescriptor (T k).2.2.1 = some (ty0 k)) ∧ (∀ a, a < N → ∀ b, b < N → a ≠ b → (T a).2.1 ≠ (T b).2.1)
def zFin (ci k : Nat) (b : Bool) : Prop := ∀ (C : String) (T : u_T) (N : Nat), vwCl[ci]? = some (C, T, N) → (T k).2.2.2 = b
def zDecl (ci k : Nat) (own : String) : Prop := ∀ (C : String) (T : u_T) (N : Nat), vwCl[ci]? = some (C, T, N) → (T k).1 = own
theorem z_get {l : zL} {Y : zM} {d kc ks pc n : Nat} {lv : List (Nat × Value)} {rest : List Value} {h : Nat → va_E} {Q : zQ} {a ci k idx : Nat} {fs : List Value} {v : Value} (ha : a < n) (hh : h a = .inr (ci, fs)) (hf : zF Y.1.cls idx ci k) (hv : fs[k]? = some v) (hd : decode Y.2.1 pc = .ok (.getfield idx, 3)) (kk : Zj l Y d kc ks (pc + 3) lv (v :: rest) n h Q) : Zj l Y d kc ks pc lv (.ref a :: rest) n h Q := by
  intro p e R s m args below meth c sz0 D cA ad H locs cells slots mc ms ls Z hK hC hX hR hS hl g1 g2 g3 g4
  obtain ⟨C, T, N, hc, hkN, hlink, hin⟩ := hf
  obtain ⟨hx, hb, -, -, -, hown, -, -, hts, hKK, -⟩ := id hK
  have he : (zw ad cA n h)[a]? = some (ad a, .inr (ci, fs.map (zv ad))) := by rw [zw_get ha, hh]; rfl
  exact va_get (v := zv ad v) hx hb hts hin hown hKK hR.1 a he hc k hkN (hts _ hlink) (fun _ h9 => h9) (by rw [List.getElem?_map, hv]; rfl) hd (kk p e R s m args below meth c sz0 D cA ad H locs cells slots mc ms ls Z hK hC hX hR hS hl g1 g2 g3 g4)
theorem z_put0 {l : zL} {Y : zM} {d kc ks pc n : Nat} {lv : List (Nat × Value)} {rest : List Value} {h : Nat → va_E} {Q : zQ} {a ci k idx : Nat} {fs : List Value} {v : Value} {ty0 : Nat → FieldType} (ha : a < n) (hh : h a = .inr (ci, fs)) (hf : zF Y.1.cls idx ci k) (hg : zG ci ty0) (hfin : zFin ci k false) (hn : ∀ ad, narrow (ty0 k) (zv ad v) = zv ad v ∧ fits (ty0 k) (zv ad v) = true) (hov : zokv n v) (hlen : k < fs.length) (hd : decode Y.2.1 pc = .ok (.putfield idx, 3)) (kk : Zj l Y d kc ks (pc + 3) lv rest n (va_up h a (.inr (ci, fs.set k v))) Q) : Zj l Y d kc ks pc lv (v :: .ref a :: rest) n h Q := by
  intro p e R s m args below meth c sz0 D cA ad H locs cells slots mc ms ls Z hK hC hX hR hS hl g1 g2 g3 g4
  obtain ⟨C, T, N, hc, hkN, hlink, hin⟩ := hf
  obtain ⟨C', T', N', hc', hty, hnm⟩ := hg
  obtain ⟨rfl, rfl, rfl⟩ : C' = C ∧ T' = T ∧ N' = N := by
    have := Option.some.inj (hc'.symm.trans hc)
    exact ⟨congrArg (fun q => q.1) this, congrArg (fun q => q.2.1) this, congrArg (fun q => q.2.2) this⟩
  obtain ⟨hx, hb, -, -, -, hown, -, -, hts, hKK, -⟩ := id hK
  have he : (zw ad cA n h)[a]? = some (ad a, .inr (ci, fs.map (zv ad))) := by rw [zw_get ha, hh]; rfl
  have hok : zok n (.inr (ci, fs.set k v) : va_E) := by
    have h0 : zok n (h a) := hR.2.2 a ha
    rw [hh] at h0
    intro u hu
    rcases List.mem_or_eq_of_mem_set hu with h1 | h1
    · exact h0 u h1
    · rw [h1]; exact hov
  refine va_put (v := zv ad v) hx hb hts hin ty0 hty hnm hown hKK hR.1 hR.2.1 hS a he hc k hkN (hts _ hlink) (fun _ h9 => h9) (hfin _ _ _ hc) (hty k hkN) (hn ad).1 (hn ad).2 (by rw [List.length_map]; exact hlen) hd (fun H1 locs1 hP hD hS1 => ?_)
  rw [← List.map_set] at hP hD
  exact kk p e R s m args below meth c sz0 D cA ad H1 locs1 cells slots mc ms ls Z hK hC hX (zR_set hR ha hok hP hD) hS1 hl g1 g2 g3 g4
theorem z_putF0 {l : zL} {Y : zM} {d kc ks pc n : Nat} {lv : List (Nat × Value)} {rest : List Value} {h : Nat → va_E} {Q : zQ} {a ci k idx : Nat} {fs : List Value} {v : Value} {ty0 : Nat → FieldType} (ha : a < n) (hh : h a = .inr (ci, fs)) (hf : zF Y.1.cls idx ci k) (hg : zG ci ty0) (hfin : zFin ci k true) (hdecl : zDecl ci k Y.1.cls) (hinit : Y.1.name = "<init>") (hn : ∀ ad, narrow (ty0 k) (zv ad v) = zv ad v ∧ fits (ty0 k) (zv ad v) = true) (hov : zokv n v) (hlen : k < fs.length) (hd : decode Y.2.1 pc = .ok (.putfield idx, 3)) (kk : Zj l Y d kc ks (pc + 3) lv rest n (va_up h a (.inr (ci, fs.set k v))) Q) : Zj l Y d kc ks pc lv (v :: .ref a :: rest) n h Q := by
  intro p e R s m args below meth c sz0 D cA ad H locs cells slots mc ms ls Z hK hC hX hR hS hl g1 g2 g3 g4
  obtain ⟨C, T, N, hc, hkN, hlink, hin⟩ := hf
  obtain ⟨C', T', N', hc', hty, hnm⟩ := hg
  obtain ⟨rfl, rfl, rfl⟩ : C' = C ∧ T' = T ∧ N' = N := by
    have := Option.some.inj (hc'.symm.trans hc)
    exact ⟨congrArg (fun q => q.1) this, congrArg (fun q => q.2.1) this, congrArg (fun q => q.2.2) this⟩
  obtain ⟨hx, hb, -, -, -, hown, hi1, -, hts, hKK, -⟩ := id hK
  have he : (zw ad cA n h)[a]? = some (ad a, .inr (ci, fs.map (zv ad))) := by rw [zw_get ha, hh]; rfl
  have hok : zok n (.inr (ci, fs.set k v) : va_E) := by
    have h0 : zok n (h a) := hR.2.2 a ha
    rw [hh] at h0
    intro u hu
    rcases List.mem_or_eq_of_mem_set hu with h1 | h1
    · exact h0 u h1
    · rw [h1]; exact hov
  refine va_putF (v := zv ad v) hx hb hts hin ty0 hty hnm hown hKK hR.1 hR.2.1 hS a he hc k hkN (hts _ hlink) (fun _ h9 => h9) (hfin _ _ _ hc) (hi1 hinit) (hdecl _ _ _ hc) (hty k hkN) (hn ad).1 (hn ad).2 (by rw [List.length_map]; exact hlen) hd (fun H1 locs1 hP hD hS1 => ?_)
  rw [← List.map_set] at hP hD
  exact kk p e R s m args below meth c sz0 D cA ad H1 locs1 cells slots mc ms ls Z hK hC hX (zR_set hR ha hok hP hD) hS1 hl g1 g2 g3 g4
-- arrays
theorem z_iald {l : zL} {Y : zM} {d kc ks pc n : Nat} {lv : List (Nat × Value)} {rest : List Value} {h : Nat → va_E} {Q : zQ} {a N : Nat} {f : Nat → Int32} {i : Int32} (ha : a < n) (hh : h a = .inl (0, N, .inl f)) (hin : vp_in i N) (hd : decode Y.2.1 pc = .ok (.iaload, 1)) (kk : Zj l Y d kc ks (pc + 1) lv (.int (f i.toNatClampNeg) :: rest) n h Q) : Zj l Y d kc ks pc lv (.int i :: .ref a :: rest) n h Q := by
  intro p e R s m args below meth c sz0 D cA ad H locs cells slots mc ms ls Z hK hC hX hR hS hl g1 g2 g3 g4
  obtain ⟨hx, hb, -, -, -, hown, -, -, hts, hKK, -⟩ := id hK
  have he : (zw ad cA n h)[a]? = some (ad a, .inl (cA 0, N, .inl f)) := by rw [zw_get ha, hh]; rfl
  exact va_iald hx hb hKK hR.1 a 0 he rfl hin hd (kk p e R s m args below meth c sz0 D cA ad H locs cells slots mc ms ls Z hK hC hX hR hS hl g1 g2 g3 g4)
theorem z_aald {l : zL} {Y : zM} {d kc ks pc n : Nat} {lv : List (Nat × Value)} {rest : List Value} {h : Nat → va_E} {Q : zQ} {a N q : Nat} {f : Nat → Option Nat} {i : Int32} (ha : a < n) (hh : h a = .inl (3, N, .inr (.inr (.inr (.inr f))))) (hin : vp_in i N) (hq : f i.toNatClampNeg = some q) (hd : decode Y.2.1 pc = .ok (.aaload, 1)) (kk : Zj l Y d kc ks (pc + 1) lv (.ref q :: rest) n h Q) : Zj l Y d kc ks pc lv (.int i :: .ref a :: rest) n h Q := by
  intro p e R s m args below meth c sz0 D cA ad H locs cells slots mc ms ls Z hK hC hX hR hS hl g1 g2 g3 g4
  obtain ⟨hx, hb, -, -, -, hown, -, -, hts, hKK, -⟩ := id hK
  have he : (zw ad cA n h)[a]? = some (ad a, .inl (cA 3, N, .inr (.inr (.inr (.inr (fun j => (f j).map ad)))))) := by rw [zw_get ha, hh]; rfl
  refine va_aldq hx hb hKK hR.1 a 3 he rfl hin hd ?_
  have e1 : va_rf ((f i.toNatClampNeg).map ad) = .ref (ad q) := by rw [hq]; rfl
  show W p l.1 e R s m args below meth c H locs cells slots Z (F0 m (pc + 1) ls (va_rf ((f i.toNatClampNeg).map ad) :: rest.map (zv ad)))
  rw [e1]
  exact kk p e R s m args below meth c sz0 D cA ad H locs cells slots mc ms ls Z hK hC hX hR hS hl g1 g2 g3 g4
theorem z_alen {l : zL} {Y : zM} {d kc ks pc n : Nat} {lv : List (Nat × Value)} {rest : List Value} {h : Nat → va_E} {Q : zQ} {a t N : Nat} {c0 : zArr} {v : Int32} (ha : a < n) (hh : h a = .inl (t, N, c0)) (ht : t < 4) (hv : Int32.ofNat N = v) (hd : decode Y.2.1 pc = .ok (.arraylength, 1)) (kk : Zj l Y d kc ks (pc + 1) lv (.int v :: rest) n h Q) : Zj l Y d kc ks pc lv (.ref a :: rest) n h Q := by
  intro p e R s m args below meth c sz0 D cA ad H locs cells slots mc ms ls Z hK hC hX hR hS hl g1 g2 g3 g4
  obtain ⟨hx, hb, -, -, -, hown, -, -, hts, hKK, -⟩ := id hK
  have he : (zw ad cA n h)[a]? = some (ad a, .inl (cA t, N, zc ad c0)) := by rw [zw_get ha, hh]; rfl
  have hty : ∃ ty, (zt cA)[t]? = some (cA t, ty) := by
    rcases (show t = 0 ∨ t = 1 ∨ t = 2 ∨ t = 3 by omega) with rfl | rfl | rfl | rfl
    · exact ⟨_, rfl⟩
    · exact ⟨_, rfl⟩
    · exact ⟨_, rfl⟩
    · exact ⟨_, rfl⟩
  obtain ⟨ty, hty⟩ := hty
  exact va_alen hx hb hKK hR.1 a t he hty hv hd (kk p e R s m args below meth c sz0 D cA ad H locs cells slots mc ms ls Z hK hC hX hR hS hl g1 g2 g3 g4)
theorem z_iast {l : zL} {Y : zM} {d kc ks pc n : Nat} {lv : List (Nat × Value)} {rest : List Value} {h : Nat → va_E} {Q : zQ} {a N : Nat} {f : Nat → Int32} {i x : Int32} (ha : a < n) (hh : h a = .inl (0, N, .inl f)) (hin : vp_in i N) (hd : decode Y.2.1 pc = .ok (.iastore, 1)) (kk : Zj l Y d kc ks (pc + 1) lv rest n (va_up h a (.inl (0, N, .inl (va_up f i.toNatClampNeg x)))) Q) : Zj l Y d kc ks pc lv (.int x :: .int i :: .ref a :: rest) n h Q := by
  intro p e R s m args below meth c sz0 D cA ad H locs cells slots mc ms ls Z hK hC hX hR hS hl g1 g2 g3 g4
  obtain ⟨hx, hb, -, -, -, hown, -, -, hts, hKK, -⟩ := id hK
  have he : (zw ad cA n h)[a]? = some (ad a, .inl (cA 0, N, .inl f)) := by rw [zw_get ha, hh]; rfl
  refine va_iast hx hb hKK hR.1 hR.2.1 hS a 0 he rfl hin hd (fun H1 locs1 hP hD hS1 => ?_)
  exact kk p e R s m args below meth c sz0 D cA ad H1 locs1 cells slots mc ms ls Z hK hC hX (zR_set hR ha (e := .inl (0, N, .inl (va_up f i.toNatClampNeg x))) trivial hP hD) hS1 hl g1 g2 g3 g4
end
section
/-! NEW CELLS, CONSTANTS, RETURNS, THROWS, CALLS -/
theorem zw_push {ad : Nat → Nat} {cA : Nat → ClassId} {n q : Nat} {h : Nat → va_E} {e : va_E} (hn : n < zB) (hok : ∀ k, k < n → zok n (h k)) (he : zok n e) : zw ad cA n h ++ [(q, ze ad cA e)] = zw (va_up ad n q) cA (n + 1) (va_up h n e) := by
  have hg : zag n (n + 1) ad (va_up ad n q) := zag_push hn
  apply List.ext_getElem?
  intro i
  by_cases hi : i < n
  · rw [List.getElem?_append_left (by rw [zw_len]; exact hi), zw_get hi, zw_get (Nat.lt_succ_of_lt hi)]
    have hin : i ≠ n := Nat.ne_of_lt hi
    have e1 : va_up ad n q i = ad i := by simp [va_up, hin]
    have e2 : va_up h n e i = h i := by simp [va_up, hin]
    rw [e1, e2, ze_ag hg (hok i hi)]
  · by_cases hin : i = n
    · subst hin
      rw [List.getElem?_append_right (by rw [zw_len]; exact Nat.le_refl _), zw_len, Nat.sub_self, zw_get (Nat.lt_succ_self _)]
      have e1 : va_up ad i q i = q := by simp [va_up]
      have e2 : va_up h i e i = e := by simp [va_up]
      rw [e1, e2, ze_ag hg he]
      rfl
    · rw [List.getElem?_eq_none (by rw [List.length_append, zw_len]; simp; omega), List.getElem?_eq_none (by rw [zw_len]; omega)]
theorem zR_push {D : va_G} {cA : Nat → ClassId} {sz0 n q : Nat} {ad : Nat → Nat} {h : Nat → va_E} {e : va_E} {H1 : Heap} (hn : n < zB) (hok : ∀ k, k < n → zok n (h k)) (he : zok n e) (hP : va_P D vwCl (zw ad cA n h ++ [(q, ze ad cA e)]) H1) (hD : va_D (fun q => sz0 ≤ q) (zw ad cA n h ++ [(q, ze ad cA e)])) : zR D cA sz0 (va_up ad n q) (n + 1) (va_up h n e) H1 := by
  rw [zw_push hn hok he] at hP hD
  refine ⟨hP, hD, fun k hk => ?_⟩
  by_cases hkn : k = n
  · subst hkn
    simp only [va_up, if_true]
    exact zok_mono (Nat.le_succ _) he
  · simp only [va_up, if_neg hkn]
    exact zok_mono (Nat.le_succ _) (hok k (by omega))
theorem zlv_ag {n n' : Nat} {ad ad' : Nat → Nat} {lv : List (Nat × Value)} (hg : zag n n' ad ad') (hv : ∀ q ∈ lv, zokv n q.2) : zlv ad' lv = zlv ad lv := List.map_congr_left fun q hq => by rw [zv_ag hg (hv q hq)]
/-- a class whose objects are made: its words, and what its fields hold at first -/
def zN (own : String) (idx ci : Nat) (fs : List Value) : Prop := ∃ (C : String) (T : u_T) (N : Nat) (ty : Nat → FieldType), vwCl[ci]? = some (C, T, N) ∧ N = fs.length ∧ (∀ k, k < N → parseFieldDescriptor (T k).2.2.1 = some (ty k)) ∧ (∀ w ∈ u_ws C T N, w ∈ zTs) ∧ Cond.classLink own idx C ∈ zTs ∧ Cond.instantiable C N ∈ zTs ∧ Cond.initialized C ∈ zTs ∧ (∀ v ∈ fs, v = .null ∨ ∃ x, v = .int x) ∧ (∀ j, j < N → defaultValue (ty j) = vp_V fs j)
theorem z_new {l : zL} {Y : zM} {d kc ks k2 s2 pc n : Nat} {lv : List (Nat × Value)} {rest : List Value} {h : Nat → va_E} {Q : zQ} {ci idx : Nat} {fs : List Value} (hf : zN Y.1.cls idx ci fs) (hn : n < zB) (hlv : ∀ q ∈ lv, zokv n q.2) (hst : ∀ v ∈ rest, zokv n v) (hk : 1 + k2 ≤ kc) (hs : fs.length + s2 ≤ ks) (hd : decode Y.2.1 pc = .ok (.new idx, 3)) (kk : Zj l Y d k2 s2 (pc + 3) lv (.ref n :: rest) (n + 1) (va_up h n (.inr (ci, fs))) Q) : Zj l Y d kc ks pc lv rest n h Q := by
  intro p e R s m args below meth c sz0 D cA ad H locs cells slots mc ms ls Z hK hC hX hR hS hl g1 g2 g3 g4
  obtain ⟨C, T, N, ty, hc, hN, hty, hin, hcl, hinst, hini, hnr, hfs⟩ := hf
  obtain ⟨hx, hb, -, -, -, hown, -, -, hts, hKK, hsz, -⟩ := id hK
  have hfe : fs.map (zv ad) = fs := by
    have : ∀ v ∈ fs, zv ad v = v := fun v hv => by
      rcases hnr v hv with rfl | ⟨x, rfl⟩ <;> rfl
    calc fs.map (zv ad) = fs.map id := List.map_congr_left this
      _ = fs := List.map_id fs
  have hok : zok n (.inr (ci, fs) : va_E) := fun v hv => by
    rcases hnr v hv with rfl | ⟨x, rfl⟩ <;> trivial
  refine va_new (fs := fs) hx hb hts hin ty hty hown (hts _ hcl) (hts _ hinst) (hts _ hini) hKK hR.1 hR.2.1 hS (fun q hq => Nat.le_trans hsz hq) hc hfs (by omega) (by omega) hd (fun q H1 hP hD hS1 => ?_)
  have e0 : (q, (.inr (ci, fs) : va_E)) = (q, ze ad cA (.inr (ci, fs))) := by show _ = (q, (Sum.inr (ci, fs.map (zv ad)) : va_E)); rw [hfe]
  rw [e0] at hP hD
  have hg : zag n (n + 1) ad (va_up ad n q) := zag_push hn
  have e1 : zv (va_up ad n q) (.ref n) = .ref q := by simp [zv, va_up]
  have e2 : (Value.ref q :: rest.map (zv ad)) = (Value.ref n :: rest).map (zv (va_up ad n q)) := by rw [List.map_cons, e1, zvs_ag hg hst]
  rw [e2]
  exact kk p e R s m args below meth c sz0 D cA (va_up ad n q) H1 locs (cells + 1) (slots + N) mc ms ls Z hK (hC.ag hg) (hX.ag hg) (zR_push hn hR.2.2 hok hP hD) hS1 (by rw [zlv_ag hg hlv]; exact hl) (by omega) (by omega) g3 g4
theorem zt_uniq {D : va_G} {cA : Nat → ClassId} {s : State} {cB : ClassId} {ty : FieldType} {t : Nat} (hK : va_K D vwCl (zt cA) s) (hK1 : va_K D vwCl (zt cA ++ [(cB, ty)]) s) (ht : (zt cA)[t]? = some (cA t, ty)) : cB = cA t := by
  have h1 := (hK.2 t _ ht).2
  have h2 := (hK1.2 4 (cB, ty) rfl).2
  cases ty with
  | object C =>
    obtain ⟨_, _, _, _, _, e1⟩ := h1
    obtain ⟨_, _, _, _, _, e2⟩ := h2
    exact Option.some.inj (e2.symm.trans e1)
  | _ => exact Option.some.inj (Eq.trans (Eq.symm h2) h1)
theorem z_newa0 {l : zL} {Y : zM} {d kc ks k2 s2 pc n : Nat} {lv : List (Nat × Value)} {rest : List Value} {h : Nat → va_E} {Q : zQ} {N : Int32} {N' : Nat} (hw : Cond.arrayClass .int ∈ zTs) (hn0 : ¬ N < 0) (hN : N.toNatClampNeg = N') (hb4 : N' * 4 ≤ 536870912) (hn : n < zB) (hlv : ∀ q ∈ lv, zokv n q.2) (hst : ∀ v ∈ rest, zokv n v) (hk : 1 + k2 ≤ kc) (hs : N' + s2 ≤ ks) (hd : decode Y.2.1 pc = .ok (.newarray .int, 2)) (kk : Zj l Y d k2 s2 (pc + 2) lv (.ref n :: rest) (n + 1) (va_up h n (.inl (0, N', .inl (fun _ => 0)))) Q) : Zj l Y d kc ks pc lv (.int N :: rest) n h Q := by
  intro p e R s m args below meth c sz0 D cA ad H locs cells slots mc ms ls Z hK hC hX hR hS hl g1 g2 g3 g4
  obtain ⟨hx, hb, -, -, -, hown, -, -, hts, hKK, hsz, -⟩ := id hK
  refine va_newa (atype := .int) (ty := .int) (a0 := (N', .inl (fun _ => 0))) hx hb (hts _ hw) rfl hKK hR.1 hR.2.1 hS (fun q hq => Nat.le_trans hsz hq) (fun _ => rfl) hn0 hN hb4 (by omega) (by omega) hd (fun q cB H1 hK1 hP hD hS1 => ?_)
  obtain rfl : cB = cA 0 := zt_uniq hKK hK1 rfl
  have hg : zag n (n + 1) ad (va_up ad n q) := zag_push hn
  have e1 : zv (va_up ad n q) (.ref n) = .ref q := by simp [zv, va_up]
  have e2 : (Value.ref q :: rest.map (zv ad)) = (Value.ref n :: rest).map (zv (va_up ad n q)) := by rw [List.map_cons, e1, zvs_ag hg hst]
  rw [e2]
  exact kk p e R s m args below meth c sz0 D cA (va_up ad n q) H1 locs (cells + 1) (slots + N') mc ms ls Z hK (hC.ag hg) (hX.ag hg) (zR_push hn hR.2.2 (e := .inl (0, N', .inl (fun _ => 0))) trivial hP hD) hS1 (by rw [zlv_ag hg hlv]; exact hl) (by omega) (by omega) g3 g4
theorem z_newq {l : zL} {Y : zM} {d kc ks k2 s2 pc n : Nat} {lv : List (Nat × Value)} {rest : List Value} {h : Nat → va_E} {Q : zQ} {N : Int32} {N' idx : Nat} (hw : Cond.classLink Y.1.cls idx "NeighbourHash$Table" ∈ zTs) (hn0 : ¬ N < 0) (hN : N.toNatClampNeg = N') (hb4 : N' * 4 ≤ 536870912) (hn : n < zB) (hlv : ∀ q ∈ lv, zokv n q.2) (hst : ∀ v ∈ rest, zokv n v) (hk : 1 + k2 ≤ kc) (hs : N' + s2 ≤ ks) (hd : decode Y.2.1 pc = .ok (.anewarray idx, 3)) (kk : Zj l Y d k2 s2 (pc + 3) lv (.ref n :: rest) (n + 1) (va_up h n (.inl (3, N', .inr (.inr (.inr (.inr (fun _ => none))))))) Q) : Zj l Y d kc ks pc lv (.int N :: rest) n h Q := by
  intro p e R s m args below meth c sz0 D cA ad H locs cells slots mc ms ls Z hK hC hX hR hS hl g1 g2 g3 g4
  obtain ⟨hx, hb, -, -, -, hown, -, -, hts, hKK, hsz, -⟩ := id hK
  refine va_newq hx hb hown (hts _ hw) hC.2.2.2.2.2.2.2.2.2.2.1 hKK hR.1 hR.2.1 hS (fun q hq => Nat.le_trans hsz hq) hn0 hN hb4 (by omega) (by omega) hd (fun q cB H1 hK1 hP hD hS1 => ?_)
  obtain rfl : cB = cA 3 := zt_uniq hKK hK1 rfl
  have hg : zag n (n + 1) ad (va_up ad n q) := zag_push hn
  have e1 : zv (va_up ad n q) (.ref n) = .ref q := by simp [zv, va_up]
  have e2 : (Value.ref q :: rest.map (zv ad)) = (Value.ref n :: rest).map (zv (va_up ad n q)) := by rw [List.map_cons, e1, zvs_ag hg hst]
  rw [e2]
  exact kk p e R s m args below meth c sz0 D cA (va_up ad n q) H1 locs (cells + 1) (slots + N') mc ms ls Z hK (hC.ag hg) (hX.ag hg) (zR_push hn hR.2.2 (e := .inl (3, N', .inr (.inr (.inr (.inr (fun _ => none)))))) (fun j k hj => by cases hj) hP hD) hS1 (by rw [zlv_ag hg hlv]; exact hl) (by omega) (by omega) g3 g4
theorem z_aast {l : zL} {Y : zM} {d kc ks pc n : Nat} {lv : List (Nat × Value)} {rest : List Value} {h : Nat → va_E} {Q : zQ} {a N v : Nat} {vs : List Value} {f : Nat → Option Nat} {i : Int32} (ha : a < n) (hh : h a = .inl (3, N, .inr (.inr (.inr (.inr f))))) (hv : v < n) (hhv : h v = .inr (4, vs)) (hin : vp_in i N) (hd : decode Y.2.1 pc = .ok (.aastore, 1)) (kk : Zj l Y d kc ks (pc + 1) lv rest n (va_up h a (.inl (3, N, .inr (.inr (.inr (.inr (va_up f i.toNatClampNeg (some v)))))))) Q) : Zj l Y d kc ks pc lv (.ref v :: .int i :: .ref a :: rest) n h Q := by
  intro p e R s m args below meth c sz0 D cA ad H locs cells slots mc ms ls Z hK hC hX hR hS hl g1 g2 g3 g4
  obtain ⟨hx, hb, -, -, -, hown, -, -, hts, hKK, -⟩ := id hK
  have he : (zw ad cA n h)[a]? = some (ad a, .inl (cA 3, N, .inr (.inr (.inr (.inr (fun j => (f j).map ad)))))) := by rw [zw_get ha, hh]; rfl
  have hev : (zw ad cA n h)[v]? = some (ad v, .inr (4, vs.map (zv ad))) := by rw [zw_get hv, hhv]; rfl
  refine va_astq (r := (RX6, TX6, 16)) hx hb hKK hR.1 hR.2.1 hS a 3 v 4 he rfl hev rfl hin hd (fun H1 locs1 hP hD hS1 => ?_)
  have e1 : va_up (fun j => (f j).map ad) i.toNatClampNeg (some (ad v)) = fun j => (va_up f i.toNatClampNeg (some v) j).map ad := by
    funext j
    by_cases hj : j = i.toNatClampNeg
    · simp [va_up, hj]
    · simp [va_up, hj]
  rw [e1] at hP hD
  have hok : zok n (.inl (3, N, .inr (.inr (.inr (.inr (va_up f i.toNatClampNeg (some v)))))) : va_E) := by
    have h0 : zok n (h a) := hR.2.2 a ha
    rw [hh] at h0
    intro j k hj
    by_cases hji : j = i.toNatClampNeg
    · simp only [va_up, hji, if_true] at hj
      cases hj
      exact Or.inl hv
    · simp only [va_up, if_neg hji] at hj
      exact h0 j k hj
  exact kk p e R s m args below meth c sz0 D cA ad H1 locs1 cells slots mc ms ls Z hK hC hX (zR_set hR ha hok hP hD) hS1 hl g1 g2 g3 g4
-- constants
theorem z_gets {l : zL} {Y : zM} {d kc ks pc n : Nat} {lv : List (Nat × Value)} {rest : List Value} {h : Nat → va_E} {Q : zQ} {idx : Nat} {C nm ds : String} {v : Value} (hm : (C, nm, ds, v) ∈ kZ) (hw : Cond.fieldLink Y.1.cls idx C nm ds ∈ zTs) (hd : decode Y.2.1 pc = .ok (.getstatic idx, 3)) (kk : Zj l Y d kc ks (pc + 3) lv (v :: rest) n h Q) : Zj l Y d kc ks pc lv rest n h Q := by
  intro p e R s m args below meth c sz0 D cA ad H locs cells slots mc ms ls Z hK hC hX hR hS hl g1 g2 g3 g4
  obtain ⟨hx, hb, -, -, -, hown, -, -, hts, hKK, -⟩ := id hK
  exact va_gets hx hb (hC.2.2.2.1 _ hm) hS hown (hts _ hw) (fun _ h9 => h9) hd (kk p e R s m args below meth c sz0 D cA ad H locs cells slots mc ms ls Z hK hC hX hR hS hl g1 g2 g3 g4)
theorem z_getsN {l : zL} {Y : zM} {d kc ks pc n : Nat} {lv : List (Nat × Value)} {rest : List Value} {h : Nat → va_E} {Q : zQ} {idx : Nat} {C nm ds host : String} {v : Value} (hm : (C, nm, ds, v) ∈ kZ) (hw : Cond.fieldLinkNest Y.1.cls idx C nm ds host ∈ kN) (hd : decode Y.2.1 pc = .ok (.getstatic idx, 3)) (kk : Zj l Y d kc ks (pc + 3) lv (v :: rest) n h Q) : Zj l Y d kc ks pc lv rest n h Q := by
  intro p e R s m args below meth c sz0 D cA ad H locs cells slots mc ms ls Z hK hC hX hR hS hl g1 g2 g3 g4
  obtain ⟨hx, hb, -, -, -, hown, -, -, hts, hKK, -⟩ := id hK
  exact va_getsN hx hb (hC.2.2.2.1 _ hm) hS hown (va_Nw.use rfl (hC.2.2.2.2.2.1 _ hw)) (fun _ h9 => h9) hd (kk p e R s m args below meth c sz0 D cA ad H locs cells slots mc ms ls Z hK hC hX hR hS hl g1 g2 g3 g4)
theorem z_ldcS {l : zL} {Y : zM} {d kc ks pc n : Nat} {lv : List (Nat × Value)} {rest : List Value} {h : Nat → va_E} {Q : zQ} {idx a : Nat} {tx : String} (hm : (Y.1.cls, idx, tx, a) ∈ kR) (hd : decode Y.2.1 pc = .ok (.ldc idx, 2)) (kk : Zj l Y d kc ks (pc + 2) lv (.ref a :: rest) n h Q) : Zj l Y d kc ks pc lv rest n h Q := by
  intro p e R s m args below meth c sz0 D cA ad H locs cells slots mc ms ls Z hK hC hX hR hS hl g1 g2 g3 g4
  obtain ⟨hx, hb, -, -, -, hown, -, -, hts, hKK, -⟩ := id hK
  exact va_ldcS hx hb hown (hC.2.2.2.2.1 _ hm) hd (kk p e R s m args below meth c sz0 D cA ad H locs cells slots mc ms ls Z hK hC hX hR hS hl g1 g2 g3 g4)
theorem z_ldcSW {l : zL} {Y : zM} {d kc ks pc n : Nat} {lv : List (Nat × Value)} {rest : List Value} {h : Nat → va_E} {Q : zQ} {idx a : Nat} {tx : String} (hm : (Y.1.cls, idx, tx, a) ∈ kR) (hd : decode Y.2.1 pc = .ok (.ldc_w idx, 3)) (kk : Zj l Y d kc ks (pc + 3) lv (.ref a :: rest) n h Q) : Zj l Y d kc ks pc lv rest n h Q := by
  intro p e R s m args below meth c sz0 D cA ad H locs cells slots mc ms ls Z hK hC hX hR hS hl g1 g2 g3 g4
  obtain ⟨hx, hb, -, -, -, hown, -, -, hts, hKK, -⟩ := id hK
  have hZ := hC.2.2.2.2.1 _ hm
  have k1 := kk p e R s m args below meth c sz0 D cA ad H locs cells slots mc ms ls Z hK hC hX hR hS hl g1 g2 g3 g4
  intro T hT X
  obtain ⟨t, a1, b1⟩ := k1 T hT X
  exact ⟨t, X.ldcStringW hx hown (text := tx) (a := ad a) hZ.1 hZ.2 (g := F0 m pc ls (rest.map (zv ad))) rfl (by rw [hb]; exact hd) t a1, b1⟩
theorem z_getC {l : zL} {Y : zM} {d kc ks pc n : Nat} {lv : List (Nat × Value)} {rest : List Value} {h : Nat → va_E} {Q : zQ} {idx a : Nat} {C nm ds : String} {v : Value} (hm : (C, nm, ds, v, a) ∈ kF) (hw : Cond.fieldLink Y.1.cls idx C nm ds ∈ zTs) (hd : decode Y.2.1 pc = .ok (.getfield idx, 3)) (kk : Zj l Y d kc ks (pc + 3) lv (v :: rest) n h Q) : Zj l Y d kc ks pc lv (.ref a :: rest) n h Q := by
  intro p e R s m args below meth c sz0 D cA ad H locs cells slots mc ms ls Z hK hC hX hR hS hl g1 g2 g3 g4
  obtain ⟨hx, hb, -, -, -, hown, -, -, hts, hKK, -⟩ := id hK
  exact vk_getf hx hb (hC.2.1 _ hm) hS hown (hts _ hw) (fun _ h9 => h9) hd (kk p e R s m args below meth c sz0 D cA ad H locs cells slots mc ms ls Z hK hC hX hR hS hl g1 g2 g3 g4)
theorem zT_at {ty : FieldType} {t N : Nat} {f : Nat → Value} {A : Nat → Prop} {s : State} {H : Heap} {i : Int32} (h : va_T ty t N f A s H) (hin : vp_in i N) : ∃ cell : Cell, H[t]? = some cell ∧ s.isArrayOf cell ty ∧ cell.vm ≠ .unknown ∧ ¬ (i < 0 ∨ cell.slots.size ≤ i.toNatClampNeg) ∧ cell.slots[i.toNatClampNeg]? = some (f i.toNatClampNeg) := by
  obtain ⟨cell, h1, h2, h3, h4, h5, h6, h7⟩ := h
  have hlt : i.toNatClampNeg < N := Nat.not_le.mp fun q => hin (Or.inr q)
  exact ⟨cell, h1, h2, h3, fun q => q.elim (fun q => hin (Or.inl q)) (fun q => by omega), h6 _ hlt⟩
theorem z_aaldC {l : zL} {Y : zM} {d kc ks pc n : Nat} {lv : List (Nat × Value)} {rest : List Value} {h : Nat → va_E} {Q : zQ} {a N b : Nat} {E : String} {i : Int32} (hm : (.object E, a, N, kTr b) ∈ kT) (hin : vp_in i N) (hd : decode Y.2.1 pc = .ok (.aaload, 1)) (kk : Zj l Y d kc ks (pc + 1) lv (.ref (b + i.toNatClampNeg) :: rest) n h Q) : Zj l Y d kc ks pc lv (.int i :: .ref a :: rest) n h Q := by
  intro p e R s m args below meth c sz0 D cA ad H locs cells slots mc ms ls Z hK hC hX hR hS hl g1 g2 g3 g4
  obtain ⟨hx, hb, -⟩ := id hK
  obtain ⟨cell, h1, h2, h3, h4, h5⟩ := zT_at ((hC.2.2.1 _ hm).kept hS.2.1) hin
  exact W.aald hx hb h1 h2 rfl h3 h4 h5 rfl rfl hd (kk p e R s m args below meth c sz0 D cA ad H locs cells slots mc ms ls Z hK hC hX hR hS hl g1 g2 g3 g4)
theorem z_ialdC {l : zL} {Y : zM} {d kc ks pc n : Nat} {lv : List (Nat × Value)} {rest : List Value} {h : Nat → va_E} {Q : zQ} {a N : Nat} {L : List Int32} {i : Int32} (hm : (.int, a, N, kTi L) ∈ kT) (hin : vp_in i N) (hd : decode Y.2.1 pc = .ok (.iaload, 1)) (kk : Zj l Y d kc ks (pc + 1) lv (.int (L.getD i.toNatClampNeg 0) :: rest) n h Q) : Zj l Y d kc ks pc lv (.int i :: .ref a :: rest) n h Q := by
  intro p e R s m args below meth c sz0 D cA ad H locs cells slots mc ms ls Z hK hC hX hR hS hl g1 g2 g3 g4
  obtain ⟨hx, hb, -⟩ := id hK
  obtain ⟨cell, h1, h2, h3, h4, h5⟩ := zT_at ((hC.2.2.1 _ hm).kept hS.2.1) hin
  exact W.iald hx hb h1 h2 h3 h4 h5 rfl rfl hd (kk p e R s m args below meth c sz0 D cA ad H locs cells slots mc ms ls Z hK hC hX hR hS hl g1 g2 g3 g4)
theorem z_baldC {l : zL} {Y : zM} {d kc ks pc n : Nat} {lv : List (Nat × Value)} {rest : List Value} {h : Nat → va_E} {Q : zQ} {a N : Nat} {L : List Int32} {i : Int32} (hm : (.byte, a, N, kTi L) ∈ kT) (hin : vp_in i N) (hd : decode Y.2.1 pc = .ok (.baload, 1)) (kk : Zj l Y d kc ks (pc + 1) lv (.int (L.getD i.toNatClampNeg 0) :: rest) n h Q) : Zj l Y d kc ks pc lv (.int i :: .ref a :: rest) n h Q := by
  intro p e R s m args below meth c sz0 D cA ad H locs cells slots mc ms ls Z hK hC hX hR hS hl g1 g2 g3 g4
  obtain ⟨hx, hb, -⟩ := id hK
  obtain ⟨cell, h1, h2, h3, h4, h5⟩ := zT_at ((hC.2.2.1 _ hm).kept hS.2.1) hin
  exact W.bald hx hb h1 h2 h3 h4 h5 rfl rfl hd (kk p e R s m args below meth c sz0 D cA ad H locs cells slots mc ms ls Z hK hC hX hR hS hl g1 g2 g3 g4)
theorem z_alenC {l : zL} {Y : zM} {d kc ks pc n : Nat} {lv : List (Nat × Value)} {rest : List Value} {h : Nat → va_E} {Q : zQ} {a N : Nat} {ty : FieldType} {L : List Int32 ⊕ Nat} {v : Int32} (hm : (ty, a, N, L) ∈ kT) (hv : Int32.ofNat N = v) (hd : decode Y.2.1 pc = .ok (.arraylength, 1)) (kk : Zj l Y d kc ks (pc + 1) lv (.int v :: rest) n h Q) : Zj l Y d kc ks pc lv (.ref a :: rest) n h Q := by
  intro p e R s m args below meth c sz0 D cA ad H locs cells slots mc ms ls Z hK hC hX hR hS hl g1 g2 g3 g4
  obtain ⟨hx, hb, -⟩ := id hK
  obtain ⟨cell, h1, h2, h3, h4, h5, -⟩ := (hC.2.2.1 _ hm).kept hS.2.1
  exact W.alen hx hb h1 h2 (h5.trans hv) rfl rfl hd (kk p e R s m args below meth c sz0 D cA ad H locs cells slots mc ms ls Z hK hC hX hR hS hl g1 g2 g3 g4)
theorem z_sld {l : zL} {Y : zM} {d kc ks pc n : Nat} {lv : List (Nat × Value)} {rest : List Value} {h : Nat → va_E} {Q : zQ} {i : Int32} (hin : vp_in i l.2.1) (hd : decode Y.2.1 pc = .ok (.iaload, 1)) (kk : Zj l Y d kc ks (pc + 1) lv (.int (l.2.2 i.toNatClampNeg) :: rest) n h Q) : Zj l Y d kc ks pc lv (.int i :: .ref (zB + 500) :: rest) n h Q := by
  intro p e R s m args below meth c sz0 D cA ad H locs cells slots mc ms ls Z hK hC hX hR hS hl g1 g2 g3 g4
  obtain ⟨hx, hb, -⟩ := id hK
  obtain ⟨cell, h1, h2, h3, h4, h5⟩ := zT_at (hC.2.2.2.2.2.2.2.2.2.2.2.1.kept hS.2.1) hin
  exact W.iald hx hb h1 h2 h3 h4 h5 rfl rfl hd (kk p e R s m args below meth c sz0 D cA ad H locs cells slots mc ms ls Z hK hC hX hR hS hl g1 g2 g3 g4)
theorem z_slen {l : zL} {Y : zM} {d kc ks pc n : Nat} {lv : List (Nat × Value)} {rest : List Value} {h : Nat → va_E} {Q : zQ} (hd : decode Y.2.1 pc = .ok (.arraylength, 1)) (kk : Zj l Y d kc ks (pc + 1) lv (.int (Int32.ofNat l.2.1) :: rest) n h Q) : Zj l Y d kc ks pc lv (.ref (zB + 500) :: rest) n h Q := by
  intro p e R s m args below meth c sz0 D cA ad H locs cells slots mc ms ls Z hK hC hX hR hS hl g1 g2 g3 g4
  obtain ⟨hx, hb, -⟩ := id hK
  obtain ⟨cell, h1, h2, h3, h4, h5, -⟩ := hC.2.2.2.2.2.2.2.2.2.2.2.1.kept hS.2.1
  exact W.alen hx hb h1 h2 h5 rfl rfl hd (kk p e R s m args below meth c sz0 D cA ad H locs cells slots mc ms ls Z hK hC hX hR hS hl g1 g2 g3 g4)
end
section
/-! RETURNS, THROWS, CALLS, AND WHAT A WALK SAYS OF ITS METHOD -/
theorem z_ret {l : zL} {Y : zM} {d kc ks pc n : Nat} {lv : List (Nat × Value)} {h : Nat → va_E} {Q : zQ} (r : Option Value) (hr : zret Y pc r) (hq : Q (.inl r) n h) : Zj l Y d kc ks pc lv r.toList n h Q := by
  intro p e R s m args below meth c sz0 D cA ad H locs cells slots mc ms ls Z hK hC hX hR hS hl g1 g2 g3 g4
  exact W.widen (by omega) (by omega) (hX.1 ad n h r H locs pc ls zag_rf hq hR hS hr)
theorem z_vret {l : zL} {Y : zM} {d kc ks pc n : Nat} {lv : List (Nat × Value)} {h : Nat → va_E} {Q : zQ} (hr : Y.2.2.2.1 = none) (hd : decode Y.2.1 pc = .ok (.return_, 1)) (hq : Q (.inl none) n h) : Zj l Y d kc ks pc lv [] n h Q := z_ret none (Or.inl ⟨rfl, hr, hd⟩) hq
theorem z_iret {l : zL} {Y : zM} {d kc ks pc n : Nat} {lv : List (Nat × Value)} {h : Nat → va_E} {Q : zQ} {v : Int32} (hr : Y.2.2.2.1 = some .int) (hd : decode Y.2.1 pc = .ok (.ireturn, 1)) (hq : Q (.inl (some (.int v))) n h) : Zj l Y d kc ks pc lv [.int v] n h Q := z_ret (some (.int v)) (Or.inr (Or.inl ⟨v, .int, rfl, hr, rfl, hd⟩)) hq
theorem z_zret {l : zL} {Y : zM} {d kc ks pc n : Nat} {lv : List (Nat × Value)} {h : Nat → va_E} {Q : zQ} {v : Int32} {ty : FieldType} (hr : Y.2.2.2.1 = some ty) (hn : narrow ty (.int v) = .int v) (hd : decode Y.2.1 pc = .ok (.ireturn, 1)) (hq : Q (.inl (some (.int v))) n h) : Zj l Y d kc ks pc lv [.int v] n h Q := z_ret (some (.int v)) (Or.inr (Or.inl ⟨v, ty, rfl, hr, hn, hd⟩)) hq
theorem z_fret {l : zL} {Y : zM} {d kc ks pc n : Nat} {lv : List (Nat × Value)} {h : Nat → va_E} {Q : zQ} {v : UInt32} (hr : Y.2.2.2.1 = some .float) (hd : decode Y.2.1 pc = .ok (.freturn, 1)) (hq : Q (.inl (some (.float v))) n h) : Zj l Y d kc ks pc lv [.float v] n h Q := z_ret (some (.float v)) (Or.inr (Or.inr (Or.inl ⟨v, rfl, hr, hd⟩))) hq
theorem z_dret {l : zL} {Y : zM} {d kc ks pc n : Nat} {lv : List (Nat × Value)} {h : Nat → va_E} {Q : zQ} {v : UInt64} (hr : Y.2.2.2.1 = some .double) (hd : decode Y.2.1 pc = .ok (.dreturn, 1)) (hq : Q (.inl (some (.double v))) n h) : Zj l Y d kc ks pc lv [.double v] n h Q := z_ret (some (.double v)) (Or.inr (Or.inr (Or.inr (Or.inl ⟨v, rfl, hr, hd⟩)))) hq
theorem z_aret {l : zL} {Y : zM} {d kc ks pc n : Nat} {lv : List (Nat × Value)} {h : Nat → va_E} {Q : zQ} {v : Nat} {ty : FieldType} (hr : Y.2.2.2.1 = some ty) (hty : (∃ n, ty = .object n) ∨ ∃ t, ty = .array t) (hd : decode Y.2.1 pc = .ok (.areturn, 1)) (hq : Q (.inl (some (.ref v))) n h) : Zj l Y d kc ks pc lv [.ref v] n h Q := z_ret (some (.ref v)) (Or.inr (Or.inr (Or.inr (Or.inr (Or.inr ⟨.ref v, ty, rfl, Or.inr ⟨v, rfl⟩, hr, hty, hd⟩))))) hq
/-- the words of a throw of a new E with a text -/
def zE (own : String) (ik is ic : Nat) (E tx : String) (names : List String) : Prop := Bundle.fit E = true ∧ (∀ n ∈ names, Bundle.fit n = true) ∧ names.length ≤ 5 ∧ Cond.classLink own ik E ∈ zTs ∧ Cond.initialized E ∈ zTs ∧ (∃ sa, (own, is, tx, sa) ∈ kR) ∧ (∀ w ∈ (vx_atS own ic E names).filter goodWord, w ∈ zTs) ∧ (∀ w ∈ (vx_atS own ic E names).filter (fun w => !goodWord w), w ∈ kN) ∧ (∀ w ∈ Cond.classLink own ik E :: Cond.initialized E :: vx_atS own ic E names, vx_ot w = true)
theorem zKN {l : zL} {sz0 : Nat} {ad : Nat → Nat} {s : State} {H : Heap} {args : Array Value} (hC : zC l sz0 ad s H) : ∀ w ∈ kN, w.before args s = true := by
  intro w hm
  have h6 := hC.2.2.2.2.2.1 w hm
  rcases kN_nest w hm with ⟨a, i, b, n, d, z, rfl⟩ | ⟨a, i, y, z, rfl⟩ | ⟨a, b, rfl⟩ | ⟨y, rfl⟩
  · exact va_Nw.use rfl h6
  · exact va_Nw.use rfl h6
  · exact va_Nw.use rfl h6
  · exact va_Nw.use rfl h6
theorem zR_kept {D : va_G} {cA : Nat → ClassId} {sz0 n : Nat} {ad : Nat → Nat} {h : Nat → va_E} {H H1 : Heap} (hR : zR D cA sz0 ad n h H) (hq : ∀ q : Nat, q < H.size → H1[q]? = H[q]?) : zR D cA sz0 ad n h H1 := ⟨hR.1.kept fun k q hk => hq q.1 (hR.1 k q hk).lt, hR.2⟩
theorem z_throwS {l : zL} {Y : zM} {d kc ks pc n : Nat} {lv : List (Nat × Value)} {h : Nat → va_E} {Q : zQ} {ik is ic : Nat} {E tx : String} {names : List String} (hE : zE Y.1.cls ik is ic E tx names) (hh : Y.2.2.2.2 = []) (hk : 1 ≤ kc) (hs : 6 ≤ ks) (hdd : 4 ≤ d := by omega)
    (d0 : decode Y.2.1 pc = .ok (.new ik, 3)) (d3 : decode Y.2.1 (pc + 3) = .ok (.dup, 1)) (d4 : decode Y.2.1 (pc + 4) = .ok (.ldc is, 2)) (d6 : decode Y.2.1 (pc + 6) = .ok (.invokespecial ic, 3)) (d9 : decode Y.2.1 (pc + 9) = .ok (.athrow, 1))
    (hq : Q (.inr E) n h) : Zj l Y d kc ks pc lv [] n h Q := by
  intro p e R s m args below meth c sz0 D cA ad H locs cells slots mc ms ls Z hK hC hX hR hS hl g1 g2 g3 g4
  obtain ⟨hx, hb, hml, hrt, hlocks, hown, hinit, htab, hts, hKK, hsz, hfr, hlo, hst⟩ := id hK
  obtain ⟨e1, e2, e9, e3, e4, ⟨sa, e5⟩, e6, e7, e8⟩ := hE
  rcases hX.2 with h2 | ⟨Qc, XC, rfl, h3⟩
  · exact absurd hq (h2 E n h)
  · refine vx_throwS (names := names) (text := tx) (sa := ad sa) hx hb hst hown e1 e2 (hts _ e3) (hts _ e4) (hC.2.2.2.2.1 _ e5) (vx_hat (fun w hw => hts w (e6 w hw)) e7 (zKN hC)) e8 hC.2.2.2.2.2.2.1 hC.2.2.2.2.2.2.2.1 hS (by rw [hl.1, hml]) d0 d3 d4 d6 d9 (fun x hx => by rw [htab, hh] at hx; cases hx) (by omega) (by simp only [List.map_nil, List.sum_nil]; omega) (by omega) (by omega) hlocks (fun t hA hz hk => ?_) hS.2.2 (by omega) (by omega)
    exact h3 ad n h E t zag_rf hq (zR_kept hR hk) hA ⟨Nat.le_trans hS.1 hz, fun q g5 g6 => (hk q (Nat.lt_of_lt_of_le g5 hS.1)).trans (hS.2.1 q g5 g6)⟩
theorem z_throwSW {l : zL} {Y : zM} {d kc ks pc n : Nat} {lv : List (Nat × Value)} {h : Nat → va_E} {Q : zQ} {ik is ic : Nat} {E tx : String} {names : List String} (hE : zE Y.1.cls ik is ic E tx names) (hh : Y.2.2.2.2 = []) (hk : 1 ≤ kc) (hs : 6 ≤ ks) (hdd : 4 ≤ d := by omega)
    (d0 : decode Y.2.1 pc = .ok (.new ik, 3)) (d3 : decode Y.2.1 (pc + 3) = .ok (.dup, 1)) (d4 : decode Y.2.1 (pc + 4) = .ok (.ldc_w is, 3)) (d7 : decode Y.2.1 (pc + 7) = .ok (.invokespecial ic, 3)) (d10 : decode Y.2.1 (pc + 10) = .ok (.athrow, 1))
    (hq : Q (.inr E) n h) : Zj l Y d kc ks pc lv [] n h Q := by
  intro p e R s m args below meth c sz0 D cA ad H locs cells slots mc ms ls Z hK hC hX hR hS hl g1 g2 g3 g4
  obtain ⟨hx, hb, hml, hrt, hlocks, hown, hinit, htab, hts, hKK, hsz, hfr, hlo, hst⟩ := id hK
  obtain ⟨e1, e2, e9, e3, e4, ⟨sa, e5⟩, e6, e7, e8⟩ := hE
  rcases hX.2 with h2 | ⟨Qc, XC, rfl, h3⟩
  · exact absurd hq (h2 E n h)
  · refine vx_throwSW (names := names) (text := tx) (sa := ad sa) hx hb hst hown e1 e2 (hts _ e3) (hts _ e4) (hC.2.2.2.2.1 _ e5) (vx_hat (fun w hw => hts w (e6 w hw)) e7 (zKN hC)) e8 hC.2.2.2.2.2.2.1 hC.2.2.2.2.2.2.2.1 hS (by rw [hl.1, hml]) d0 d3 d4 d7 d10 (fun x hx => by rw [htab, hh] at hx; cases hx) (by omega) (by simp only [List.map_nil, List.sum_nil]; omega) (by omega) (by omega) hlocks (fun t hA hz hk => ?_) hS.2.2 (by omega) (by omega)
    exact h3 ad n h E t zag_rf hq (zR_kept hR hk) hA ⟨Nat.le_trans hS.1 hz, fun q g5 g6 => (hk q (Nat.lt_of_lt_of_le g5 hS.1)).trans (hS.2.1 q g5 g6)⟩
-- what a walk says of its method
def zPc (l : zL) (D : va_G) (cA : Nat → ClassId) (sz0 : Nat) (ad : Nat → Nat) (n : Nat) (h : Nat → va_E) (As : List Value) : Array Value → State → Prop := va_Pc (As.map (zv ad)) (fun U => zR D cA sz0 ad n h U.heap ∧ va_K D vwCl (zt cA) U ∧ zC l sz0 ad U U.heap ∧ sz0 ≤ U.heap.size)
def zQc (D : va_G) (cA : Nat → ClassId) (sz0 : Nat) (ad : Nat → Nat) (n : Nat) (Q : zQ) : Array Value → State → Outcome → State → Prop := fun _ st o t => ∃ (ad' : Nat → Nat) (n' : Nat) (h' : Nat → va_E) (r : Option Value), o = .returned (r.map (zv ad')) ∧ zag n n' ad ad' ∧ Q (.inl r) n' h' ∧ zR D cA sz0 ad' n' h' t.heap ∧ va_F (fun q => sz0 ≤ q) st t
def zXC (D : va_G) (cA : Nat → ClassId) (sz0 : Nat) (ad : Nat → Nat) (n : Nat) (Q : zQ) : String → State → State → Prop := fun E st t => ∃ (ad' : Nat → Nat) (n' : Nat) (h' : Nat → va_E), zag n n' ad ad' ∧ Q (.inr E) n' h' ∧ zR D cA sz0 ad' n' h' t.heap ∧ va_F (fun q => sz0 ≤ q) st t
theorem zlv_args (ad : Nat → Nat) : ∀ (vs : List Value) (i : Nat), lv_args i (vs.map (zv ad)) = zlv ad (lv_args i vs)
  | [], _ => rfl
  | v :: vs, i => by
    show (i, zv ad v) :: lv_args (if (zv ad v).category = 2 then i + 2 else i + 1) (vs.map (zv ad)) = (i, zv ad v) :: zlv ad (lv_args (if v.category = 2 then i + 2 else i + 1) vs)
    rw [zv_cat, zlv_args ad vs]
theorem zlg_len (ad : Nat → Nat) (vs : List Value) : (lg_sl (vs.map (zv ad))).length = (lg_sl vs).length := by
  induction vs with
  | nil => rfl
  | cons v vs ih =>
    have h1 : (lg_sl ((v :: vs).map (zv ad))).length = (if (zv ad v).category = 2 then [Slot.val (zv ad v), Slot.second] else [Slot.val (zv ad v)]).length + (lg_sl (vs.map (zv ad))).length := by
      simp only [lg_sl, List.map_cons, List.flatMap_cons, List.length_append]
    have h2 : (lg_sl (v :: vs)).length = (if v.category = 2 then [Slot.val v, Slot.second] else [Slot.val v]).length + (lg_sl vs).length := by
      simp only [lg_sl, List.flatMap_cons, List.length_append]
    rw [h1, h2, ih, zv_cat]
    by_cases hc : v.category = 2 <;> simp [hc]
theorem zws_in {Y : zM} {args : Array Value} {s : State} (h : ∀ w ∈ zws Y, w.before args s = true) : ∀ w ∈ zTs, w.before args s = true := fun w hw => h w (List.mem_cons_of_mem _ hw)
/-- the ways out of a body: by the kit's end rows -/
theorem zX_met {Y : zM} {p : Program} {l : Launch} {e : Env} {R : Room} {s : State} {m : MethodId} {args : Array Value} {below : List Frame} {meth : Method} {c : Code} {sz0 : Nat} {D : va_G} {cA : Nat → ClassId} {ad : Nat → Nat} {n mc ms : Nat} {Q : zQ}
    (hx : p.tables.exec = Jvm.exec) (hb : c.code = Y.2.1) (hrt : meth.sig.returnType = Y.2.2.2.1) (hlocks : meth.locks = false) :
    ∀ (ad' : Nat → Nat) (n' : Nat) (h' : Nat → va_E) (r : Option Value) (H : Heap) (locs : List Loc) (pc : Nat) (ls : Array Slot), zag n n' ad ad' → Q (.inl r) n' h' → zR D cA sz0 ad' n' h' H → va_S (fun q => sz0 ≤ q) s.heap H locs → zret Y pc r →
    W p l e R s m args below meth c H locs mc ms (MQ below (zQc D cA sz0 ad n Q) args s mc ms (fun q => sz0 ≤ q)) (F0 m pc ls (r.toList.map (zv ad'))) := by
  intro ad' n' h' r H locs pc ls hg hq hR hS hr
  have key : ∀ t : State, t.heap = H → s.WarmedH t.vm → zQc D cA sz0 ad n Q args s (.returned (r.map (zv ad'))) t := fun t ht _ => ⟨ad', n', h', r, rfl, hg, hq, by rw [ht]; exact hR, hS.F ht⟩
  rcases hr with ⟨rfl, h1, h2⟩ | ⟨v, ty, rfl, h1, h2, h3⟩ | ⟨v, rfl, h1, h2⟩ | ⟨v, rfl, h1, h2⟩ | ⟨v, rfl, h1, h2⟩ | ⟨v, ty, rfl, h0, h1, h2, h3⟩
  · exact W.vret hx hb (hrt.trans h1) key hS.2.2 h2 hlocks
  · exact W.zret hx hb (hrt.trans h1) h2 key hS.2.2 h3 hlocks
  · exact W.fret hx hb (hrt.trans h1) key hS.2.2 h2 hlocks
  · exact W.dret hx hb (hrt.trans h1) key hS.2.2 h2 hlocks
  · exact W.lret hx hb (hrt.trans h1) key hS.2.2 h2 hlocks
  · exact W.aret hx hb (hrt.trans h1) h2 (by rcases h0 with rfl | ⟨a, rfl⟩
                                             · exact Or.inl rfl
                                             · exact Or.inr ⟨_, rfl⟩) key hS.2.2 h3 hlocks
theorem z_met {l : zL} {Y : zM} {d kc ks n : Nat} {h : Nat → va_E} {Q : zQ} {As : List Value} {D : va_G} {cA : Nat → ClassId} {sz0 : Nat} {ad : Nat → Nat} (hy : plainName Y.1.cls = true) (hh : Y.2.2.2.2 = []) (hlen : (lg_sl As).length ≤ Y.2.2.1) (hst : l.1.stackTraces = false) (hno : ∀ E n' h', ¬ Q (.inr E) n' h') (body : Zj l Y d kc ks 0 (lv_args 0 As) [] n h Q) :
    Met l.1 Y.1 (zws Y) (zrm d kc ks) (zPc l D cA sz0 ad n h As) (zQc D cA sz0 ad n Q) kc ks (fun q => sz0 ≤ q) := by
  have hw : zws Y = Cond.code Y.1 Y.2.1 Y.2.2.1 Y.2.2.2.1 :: zTs := by unfold zws zcode; rw [if_pos hh]
  refine Met.ofW (cc := Y.2.1) (maxL := Y.2.2.1) (ret := Y.2.2.2.1) hy hw ?_
  intro p e s m args below meth c s₁ B hml hv
  obtain ⟨rfl, hR, hKK, hC, hsz⟩ := hv
  have hts := zws_in (Y := Y) (atoms_spec (ws := zws Y) B.pre)
  have htab : c.exceptionTable.toList = tableOf Y.2.2.2.2 := by
    obtain ⟨meth9, c9, h1, h2, -, -, -, -, h7, -⟩ := Cond.code_spec B.named (atoms_spec (ws := zws Y) B.pre _ (by rw [hw]; exact List.mem_cons_self))
    cases Option.some.inj (h1.symm.trans B.method)
    cases Option.some.inj (h2.symm.trans (Stand.of_body B).code)
    rw [Array.isEmpty_iff.mp h7, hh]
    rfl
  have hl := lv_entry (As.map (zv ad)) (n := Y.2.2.1) (by rw [zlg_len]; exact hlen)
  rw [lg_entry_eq]
  rw [zlv_args] at hl
  exact body p e (zrm d kc ks) s m _ below meth c sz0 D cA ad s.heap [] 0 0 kc ks _ _ ⟨B.exec, B.bytes, hml, B.returns, B.notSynchronized, findClass_of_methodNamed B.named, fun hi => ((name_of_methodNamed B.named B.method).1).trans hi, htab, hts, hKK, hsz, Nat.le_refl _, Nat.le_refl _, hst⟩ hC ⟨zX_met B.exec B.bytes B.returns B.notSynchronized, Or.inl hno⟩ hR va_S.rf hl (by omega) (by omega) (Nat.le_refl _) (Nat.le_refl _)
theorem z_vmet {l : zL} {Y : zM} {d kc ks n : Nat} {h : Nat → va_E} {Q : zQ} {As : List Value} {D : va_G} {cA : Nat → ClassId} {sz0 : Nat} {ad : Nat → Nat} (hy : plainName Y.1.cls = true) (hlen : (lg_sl As).length ≤ Y.2.2.1) (hst : l.1.stackTraces = false) (body : Zj l Y d kc ks 0 (lv_args 0 As) [] n h Q) :
    vx_Met l.1 Y.1 (zws Y) (zrm d kc ks) (zPc l D cA sz0 ad n h As) (zQc D cA sz0 ad n Q) (zXC D cA sz0 ad n Q) kc ks (fun q => sz0 ≤ q) := by
  have go : ∀ (p : Program) (e : Env) (s : State) (m : MethodId) (args : Array Value) (below : List Frame) (meth : Method) (c : Code) (s₁ : State), BodyLoose p l.1 Y.1 (headSpec (zws Y) (zrm d kc ks)) Y.2.1 Y.2.2.1 Y.2.2.2.1 e s m args below meth c s₁ → c.maxLocals = Y.2.2.1 → c.exceptionTable.toList = tableOf Y.2.2.2.2 → zPc l D cA sz0 ad n h As args s →
      W p l.1 e (headSpec (zws Y) (zrm d kc ks)).room s m args below meth c s.heap [] 0 0 (vx_MQ below (zQc D cA sz0 ad n Q) (zXC D cA sz0 ad n Q) args s kc ks (fun q => sz0 ≤ q)) (entryFrame m args Y.2.2.1) := by
    intro p e s m args below meth c s₁ B hml htab hv
    obtain ⟨rfl, hR, hKK, hC, hsz⟩ := hv
    have hts := zws_in (Y := Y) (atoms_spec (ws := zws Y) B.pre)
    have hl := lv_entry (As.map (zv ad)) (n := Y.2.2.1) (by rw [zlg_len]; exact hlen)
    rw [lg_entry_eq]
    rw [zlv_args] at hl
    exact body p e (zrm d kc ks) s m _ below meth c sz0 D cA ad s.heap [] 0 0 kc ks _ _ ⟨B.exec, B.bytes, hml, B.returns, B.notSynchronized, findClass_of_methodNamed B.named, fun hi => ((name_of_methodNamed B.named B.method).1).trans hi, htab, hts, hKK, hsz, Nat.le_refl _, Nat.le_refl _, hst⟩ hC ⟨fun ad' n' h' r H locs pc ls hg hq hR hS hr => vx_ret (zX_met B.exec B.bytes B.returns B.notSynchronized ad' n' h' r H locs pc ls hg hq hR hS hr), Or.inr ⟨_, _, rfl, fun ad' n' h' E t hg hq hR hA hF => ⟨ad', n', h', hg, hq, hR, hF⟩⟩⟩ hR va_S.rf hl (by omega) (by omega) (Nat.le_refl _) (Nat.le_refl _)
  by_cases hh : Y.2.2.2.2 = []
  · have hw : zws Y = Cond.code Y.1 Y.2.1 Y.2.2.1 Y.2.2.2.1 :: zTs := by unfold zws zcode; rw [if_pos hh]
    refine vx_ofW (cc := Y.2.1) (maxL := Y.2.2.1) (ret := Y.2.2.2.1) hy hw ?_
    intro p e s m args below meth c s₁ B hml ht hv
    have htab : c.exceptionTable.toList = tableOf Y.2.2.2.2 := by
      rw [hh]
      cases hc : c.exceptionTable.toList with
      | nil => rfl
      | cons a r => exact (ht a (by rw [hc]; exact List.mem_cons_self)).elim
    exact go p e s m args below meth c s₁ B hml htab hv
  · have hw : zws Y = Cond.codeWith Y.1 Y.2.1 Y.2.2.1 Y.2.2.2.1 Y.2.2.2.2 :: zTs := by unfold zws zcode; rw [if_neg hh]
    refine vx_ofWH (cc := Y.2.1) (maxL := Y.2.2.1) (ret := Y.2.2.2.1) (hh := Y.2.2.2.2) hy hw ?_
    intro p e s m args below meth c s₁ B hml hv
    exact go p e s m args below meth c s₁ B hml (vx_table (x := Y.1) B (atoms_spec (ws := zws Y) B.pre _ (by rw [hw]; exact List.mem_cons_self))) hv
end
section
/-! CALLS: the callee's walk is run, the caller goes on in the world that it leaves -/
theorem zrm_ok {d k1 s1 nL : Nat} {R : Room} (hn : nL ≤ 20) (h1 : d + 1 + 2 ≤ R.frames) (h2 : 40 * (d + 1) + 54 ≤ R.locals) : (zrm d k1 s1).frames + 1 ≤ R.frames ∧ 8 + (nL + 11) + (zrm d k1 s1).locals ≤ R.locals := by
  refine ⟨?_, ?_⟩
  · show d + 2 + 1 ≤ _
    exact Nat.le_trans (Nat.le_of_eq (by rw [Nat.add_right_comm])) h1
  · show 8 + (nL + 11) + (40 * d + 54) ≤ _
    have h3 : 8 + (nL + 11) ≤ 40 := by omega
    have h4 : 40 * (d + 1) + 54 = 40 + (40 * d + 54) := by rw [Nat.mul_add, Nat.add_right_comm]; exact Nat.add_comm _ _
    rw [h4] at h2
    exact Nat.le_trans (Nat.add_le_add_right h3 _) h2
theorem zGood {L : List Cond} (h : ∀ w ∈ L, w ∈ zTs) : GoodIn zTs L := fun w hw => ⟨h w hw, good_of_word (zTs_good w (h w hw))⟩
theorem zGoodws {Y : zM} (h : zcode Y ∈ zTs) : GoodIn zTs (zws Y) := zGood fun w hw => by
  rcases List.mem_cons.mp hw with rfl | hw
  · exact h
  · exact hw
/-- a method as it can be called: its own words -/
def zY (Y : zM) (k : Nat) : Prop := plainName Y.1.cls = true ∧ zcode Y ∈ zTs ∧ Cond.initialized Y.1.cls ∈ zTs ∧ (Y.1.cls ≠ "java/lang/invoke/MethodHandle" ∧ Y.1.cls ≠ "java/lang/invoke/VarHandle" ∧ (parseMethodDescriptor Y.1.desc).map (fun d => d.parameters.length) = some k)
def zYv (Y : zM) : Prop := Cond.instanceMethod Y.1 ∈ zTs ∧ Cond.selects Y.1.cls Y.1 Y.1 ∈ zTs
theorem zPc_blind {l : zL} {D : va_G} {cA : Nat → ClassId} {sz0 n : Nat} {ad : Nat → Nat} {h : Nat → va_E} {As : List Value} : FrameBlind (zPc l D cA sz0 ad n h As) := by
  intro a U g mk q
  obtain ⟨q0, qR, qK, qC, qz⟩ := q
  exact ⟨q0, qR, va_K.moved (u := U) (U := U.calling g mk a) (Vm.Alike.refl U.vm) qK, zC.same (s := U) (U := U.calling g mk a) rfl rfl qC, qz⟩
theorem zPc_of {l : zL} {D : va_G} {cA : Nat → ClassId} {sz0 n : Nat} {ad : Nat → Nat} {h : Nat → va_E} {As : List Value} {s : State} {H : Heap} {locs : List Loc} (hKK : va_K D vwCl (zt cA) s) (hC : zC l sz0 ad s s.heap) (hR : zR D cA sz0 ad n h H) (hS : va_S (fun q => sz0 ≤ q) s.heap H locs) (hsz : sz0 ≤ s.heap.size) : ∀ U : State, U.heap = H → s.WarmedH U.vm → zPc l D cA sz0 ad n h As (As.map (zv ad)).toArray U :=
  fun U hU hW => ⟨rfl, by rw [hU]; exact hR, va_K.moved hW.alike hKK, hC.moved hW hU hS.2.1, by rw [hU]; exact Nat.le_trans hsz hS.1⟩
theorem z_stk (ad : Nat → Nat) (r : Option Value) (rest : List Value) : (r.map (zv ad)).toList ++ rest.map (zv ad) = (r.toList ++ rest).map (zv ad) := by
  cases r <;> rfl
/-- behind a call that has come back, or has thrown -/
theorem z_behind {l : zL} {Y : zM} {d kc ks k1 s1 k2 s2 pc n : Nat} {lv : List (Nat × Value)} {rest st : List Value} {Q Q' : zQ}
    {p : Program} {e : Env} {R : Room} {s : State} {m : MethodId} {args : Array Value} {below : List Frame} {meth : Method} {c : Code} {sz0 : Nat} {D : va_G} {cA : Nat → ClassId} {ad : Nat → Nat} {H : Heap} {locs : List Loc} {cells slots mc ms : Nat} {ls : Array Slot} {Z : State → Prop} {a : Array Value}
    (hk : k1 + k2 ≤ kc) (hs : s1 + s2 ≤ ks) (kr : ∀ r n' h', Q' (.inl r) n' h' → n' = n ∧ Zj l Y d k2 s2 (pc + 3) lv (r.toList ++ rest) n h' Q)
    (kx : ∀ E n' h', Q' (.inr E) n' h' → Y.2.2.2.2 = [] ∧ Q (.inr E) n' h')
    (hK : zK Y d l.1 p R s m args meth c sz0 D cA) (hC : zC l sz0 ad s s.heap) (hX : zX Y p l.1 e R s m args below meth c sz0 D cA ad n mc ms Z Q) (hS : va_S (fun q => sz0 ≤ q) s.heap H locs) (hl : lv_has ls Y.2.2.1 (zlv ad lv))
    (g1 : cells + kc ≤ mc) (g2 : slots + ks ≤ ms) (g3 : mc ≤ R.cells) (g4 : ms ≤ R.slots)
    (hr : vx_Run p l.1 e R s m args below meth c H locs cells slots k1 s1 (F0 m pc ls (st.map (zv ad))) (rest.map (zv ad)) (zQc D cA sz0 ad n Q' a) (zXC D cA sz0 ad n Q') (fun q => sz0 ≤ q)) : W p l.1 e R s m args below meth c H locs cells slots Z (F0 m pc ls (st.map (zv ad))) := by
  intro T hT X
  rcases hr T hT X with ⟨v, st₀, t, T', L, h0, X', hL, e1, e2, ⟨ad', n', h', r, hv, hg, hq, hR', hF⟩, go⟩ | ⟨q, st₀, t, T', L, E, ce, h0, X', hL, e1, e2, ⟨ad', n', h', hg, hq, hR', hF⟩, hce, hcv, hcl, go⟩
  · obtain ⟨k1', k2', k3⟩ := vx_keep h0 e1 hS (fun q _ h => h) (fun q h => h) hL hF
    obtain ⟨hn, kk⟩ := kr r n' h' hq
    subst hn
    have ha := hg.2.2 rfl
    subst ha
    have hv' : v = r.map (zv ad') := by cases hv; rfl
    subst hv'
    rw [z_stk] at go
    obtain ⟨t2, a1, b1⟩ := kk p e R s m args below meth c sz0 D cA ad' T'.heap (locs ++ L) (cells + k1) (slots + s1) mc ms ls Z hK hC hX (by rw [e1]; exact hR') k3 hl (by omega) (by omega) g3 g4 T' rfl X'
    exact ⟨t2, go t2 a1, b1⟩
  · obtain ⟨k1', k2', k3⟩ := vx_keep h0 e1 hS (fun q _ h => h) (fun q h => h) hL hF
    obtain ⟨hh, hq2⟩ := kx E n' h' hq
    obtain ⟨hx, hb, hml, hrt, hlocks, hown, hinit, htab, hts, hKK, hsz, hfr, hlo, hst⟩ := id hK
    rcases hX.2 with h2 | ⟨Qc, XC, rfl, h3⟩
    · exact absurd hq2 (h2 E n' h')
    · have hw : vx_W p l.1 e R s m args below meth c T'.heap (locs ++ L) (cells + k1) (slots + s1) (vx_MQ below Qc XC args s mc ms (fun q => sz0 ≤ q)) (F0 m pc ls (rest.map (zv ad))) q :=
        vx_out (fun x hx => by rw [htab, hh] at hx; cases hx) hlocks (by rw [e1]; exact hce) hcv hcl (fun t1 ht hA => h3 ad' n' h' E t1 hg hq2 (by rw [ht, e1]; exact hR') hA (k3.F ht)) k3.2.2 (by omega) (by omega)
      obtain ⟨t2, a1, b1⟩ := hw T' rfl X'
      exact ⟨t2, go.trans a1, b1⟩
theorem va_toVx {p : Program} {l : Launch} {e : Env} {R : Room} {s : State} {m : MethodId} {args : Array Value} {below : List Frame} {meth : Method} {c : Code} {H : Heap} {locs : List Loc} {cells slots mc ms : Nat} {g : JFrame} {rest : List Value} {Qa : State → Outcome → State → Prop} {XC : String → State → State → Prop} {free : Addr → Prop} (h : va_Run p l e R s m args below meth c H locs cells slots mc ms g rest Qa free) : vx_Run p l e R s m args below meth c H locs cells slots mc ms g rest Qa XC free := fun T hT X => Or.inl (h T hT X)
theorem z_callV {l : zL} {Y Y' : zM} {d kc ks k1 s1 k2 s2 pc n idx k : Nat} {lv : List (Nat × Value)} {rest As : List Value} {h : Nat → va_E} {Q : zQ} {b ci : Nat} {fs : List Value} (Q' : zQ) (hY : zY Y' k) (hYv : zYv Y') (hh : Y'.2.2.2.2 = []) (hnL : Y'.2.2.1 ≤ 20) (hlink : Cond.methodLink Y.1.cls idx Y'.1 ∈ zTs) (hb : b < n) (hhb : h b = .inr (ci, fs)) (hci : (vwCl[ci]?).map (fun q => q.1) = some Y'.1.cls) (hlen : As.length = k) (hsl : (lg_sl (.ref b :: As)).length ≤ Y'.2.2.1) (hcat : (rest.map fun v => v.category).sum ≤ 8) (hd : decode Y.2.1 pc = .ok (.invokevirtual idx, 3))
    (body : Zj l Y' d k1 s1 0 (lv_args 0 (.ref b :: As)) [] n h Q') (hk : k1 + k2 ≤ kc) (hs : s1 + s2 ≤ ks)
    (kr : ∀ r n' h', Q' (.inl r) n' h' → n' = n ∧ Zj l Y (d + 1) k2 s2 (pc + 3) lv (r.toList ++ rest) n h' Q)
    (kx : ∀ E n' h', Q' (.inr E) n' h' → Y.2.2.2.2 = [] ∧ Q (.inr E) n' h') : Zj l Y (d + 1) kc ks pc lv (As.reverse ++ .ref b :: rest) n h Q := by
  intro p e R s m args below meth c sz0 D cA ad H locs cells slots mc ms ls Z hK hC hX hR hS hl g1 g2 g3 g4
  obtain ⟨hx, hbb, hml, hrt, hlocks, hown, hinit, htab, hts, hKK, hsz, hfr, hlo, hst⟩ := id hK
  obtain ⟨y1, y2, y3, y4⟩ := hY
  obtain ⟨q, hq, hq1⟩ : ∃ q, vwCl[ci]? = some q ∧ q.1 = Y'.1.cls := by
    cases hq : vwCl[ci]? with
    | none => rw [hq] at hci; cases hci
    | some q => rw [hq] at hci; exact ⟨q, rfl, Option.some.inj hci⟩
  have he : (zw ad cA n h)[b]? = some (ad b, .inr (ci, fs.map (zv ad))) := by rw [zw_get hb, hhb]; rfl
  have hM := z_vmet (D := D) (cA := cA) (sz0 := sz0) (ad := ad) y1 hsl hst body
  have hw : zws Y' = Cond.code Y'.1 Y'.2.1 Y'.2.2.1 Y'.2.2.2.1 :: zTs := by unfold zws zcode; rw [if_pos hh]
  have hrv := va_recv hKK hR.1 hq he
  rw [hq1] at hrv
  have hr := vx_runV (cells := cells) (slots := slots) (below := below) (e := e) (p := p) (meth := meth) (locs := locs) (As := As.map (zv ad)) (rest := rest.map (zv ad)) (g := F0 m pc ls ((As.reverse ++ .ref b :: rest).map (zv ad))) (C := Y'.1.cls) (b := ad b) (index := idx) (H := H) (S := ⟨hx, hbb, hml, hown, hts⟩) (hM := hM)
    (cw := cwV (own := Y.1.cls) (R := R) k hts (zGood fun w hw1 => by
      rcases List.mem_append.mp hw1 with h1 | h1
      · simp only [List.mem_cons, List.not_mem_nil, or_false] at h1
        rcases h1 with rfl | rfl | rfl | rfl
        · exact hlink
        · exact hYv.1
        · exact hYv.2
        · exact y3
      · exact (zGoodws y2 w h1).1) hw rfl rfl ⟨rfl, y4⟩ (zrm_ok hnL hfr hlo))
    (hp := ⟨zPc_blind, hrv, fun U hU hW => by
      exact zPc_of (As := .ref b :: As) hKK hC hR hS hsz U hU hW⟩) rfl (by rw [List.length_map]; exact hlen) hl.1 (by simp only [List.map_append, List.map_reverse, List.map_cons]; rfl) (by
      have := lv_room (m := m) (pc := pc) (ls := ls) (rest := ((As.reverse ++ .ref b :: rest).map (zv ad))) (st := rest.map (zv ad)) (by rw [zv_cats]; exact hcat)
      exact this) hd ⟨by omega, by omega⟩
  exact z_behind hk hs kr kx hK hC hX hS hl g1 g2 g3 g4 hr
theorem z_callS {l : zL} {Y Y' : zM} {d kc ks k1 s1 k2 s2 pc n idx k : Nat} {lv : List (Nat × Value)} {rest As : List Value} {h : Nat → va_E} {Q : zQ} (Q' : zQ) (hY : zY Y' k) (hstat : Cond.static Y'.1 ∈ zTs) (hh : Y'.2.2.2.2 = []) (hnL : Y'.2.2.1 ≤ 20) (hlink : Cond.methodLink Y.1.cls idx Y'.1 ∈ zTs) (hlen : As.length = k) (hsl : (lg_sl As).length ≤ Y'.2.2.1) (hcat : (rest.map fun v => v.category).sum ≤ 8) (hd : decode Y.2.1 pc = .ok (.invokestatic idx, 3))
    (body : Zj l Y' d k1 s1 0 (lv_args 0 As) [] n h Q') (hk : k1 + k2 ≤ kc) (hs : s1 + s2 ≤ ks)
    (kr : ∀ r n' h', Q' (.inl r) n' h' → n' = n ∧ Zj l Y (d + 1) k2 s2 (pc + 3) lv (r.toList ++ rest) n h' Q)
    (kx : ∀ E n' h', Q' (.inr E) n' h' → Y.2.2.2.2 = [] ∧ Q (.inr E) n' h') : Zj l Y (d + 1) kc ks pc lv (As.reverse ++ rest) n h Q := by
  intro p e R s m args below meth c sz0 D cA ad H locs cells slots mc ms ls Z hK hC hX hR hS hl g1 g2 g3 g4
  obtain ⟨hx, hbb, hml, hrt, hlocks, hown, hinit, htab, hts, hKK, hsz, hfr, hlo, hst⟩ := id hK
  obtain ⟨y1, y2, y3, y4⟩ := hY
  have hM := z_vmet (D := D) (cA := cA) (sz0 := sz0) (ad := ad) y1 hsl hst body
  have hw : zws Y' = Cond.code Y'.1 Y'.2.1 Y'.2.2.1 Y'.2.2.2.1 :: zTs := by unfold zws zcode; rw [if_pos hh]
  have hr := vx_runS (cells := cells) (slots := slots) (below := below) (e := e) (p := p) (meth := meth) (locs := locs) (As := As.map (zv ad)) (rest := rest.map (zv ad)) (g := F0 m pc ls ((As.reverse ++ rest).map (zv ad))) (index := idx) (H := H) (S := ⟨hx, hbb, hml, hown, hts⟩) (hM := hM)
    (cw := va_cwS (own := Y.1.cls) (R := R) k hts (zGood fun w hw1 => by
      rcases List.mem_append.mp hw1 with h1 | h1
      · simp only [List.mem_cons, List.not_mem_nil, or_false] at h1
        rcases h1 with rfl | rfl | rfl
        · exact hlink
        · exact hstat
        · exact y3
      · exact (zGoodws y2 w h1).1) hw rfl rfl y4 (zrm_ok hnL hfr hlo))
    (hp := ⟨zPc_blind, fun U hU hW => zPc_of (As := As) hKK hC hR hS hsz U hU hW⟩) rfl (by rw [List.length_map]; exact hlen) hl.1 (by simp only [List.map_append, List.map_reverse]) (by
      have := lv_room (m := m) (pc := pc) (ls := ls) (rest := ((As.reverse ++ rest).map (zv ad))) (st := rest.map (zv ad)) (by rw [zv_cats]; exact hcat)
      exact this) hd ⟨by omega, by omega⟩
  exact z_behind hk hs kr kx hK hC hX hS hl g1 g2 g3 g4 hr
/-- a static method with handlers, of this class -/
theorem z_callSW {l : zL} {Y Y' : zM} {d kc ks k1 s1 k2 s2 pc n idx k : Nat} {lv : List (Nat × Value)} {rest As : List Value} {h : Nat → va_E} {Q : zQ} (Q' : zQ) (hY : zY Y' k) (hstat : Cond.static Y'.1 ∈ zTs) (hh : Y'.2.2.2.2 ≠ []) (hnL : Y'.2.2.1 ≤ 20) (hlink : Cond.methodLink Y.1.cls idx Y'.1 ∈ zTs) (hlen : As.length = k) (hsl : (lg_sl As).length ≤ Y'.2.2.1) (hcat : (rest.map fun v => v.category).sum ≤ 8) (hd : decode Y.2.1 pc = .ok (.invokestatic idx, 3))
    (body : Zj l Y' d k1 s1 0 (lv_args 0 As) [] n h Q') (hk : k1 + k2 ≤ kc) (hs : s1 + s2 ≤ ks)
    (kr : ∀ r n' h', Q' (.inl r) n' h' → n' = n ∧ Zj l Y (d + 1) k2 s2 (pc + 3) lv (r.toList ++ rest) n h' Q)
    (kx : ∀ E n' h', Q' (.inr E) n' h' → Y.2.2.2.2 = [] ∧ Q (.inr E) n' h') : Zj l Y (d + 1) kc ks pc lv (As.reverse ++ rest) n h Q := by
  intro p e R s m args below meth c sz0 D cA ad H locs cells slots mc ms ls Z hK hC hX hR hS hl g1 g2 g3 g4
  obtain ⟨hx, hbb, hml, hrt, hlocks, hown, hinit, htab, hts, hKK, hsz, hfr, hlo, hst⟩ := id hK
  obtain ⟨y1, y2, y3, y4⟩ := hY
  have hM := z_vmet (D := D) (cA := cA) (sz0 := sz0) (ad := ad) y1 hsl hst body
  have hw : zws Y' = Cond.codeWith Y'.1 Y'.2.1 Y'.2.2.1 Y'.2.2.2.1 Y'.2.2.2.2 :: zTs := by unfold zws zcode; rw [if_neg hh]
  have hr := vx_runSX (cells := cells) (slots := slots) (below := below) (e := e) (p := p) (meth := meth) (locs := locs) (As := As.map (zv ad)) (rest := rest.map (zv ad)) (g := F0 m pc ls ((As.reverse ++ rest).map (zv ad))) (index := idx) (H := H) (S := ⟨hx, hbb, hml, hown, hts⟩) (hM := hM)
    (cw := vx_cwSW (own := Y.1.cls) (R := R) k hts (zGood fun w hw1 => by
      rcases List.mem_append.mp hw1 with h1 | h1
      · simp only [List.mem_cons, List.not_mem_nil, or_false] at h1
        rcases h1 with rfl | rfl | rfl
        · exact hlink
        · exact hstat
        · exact y3
      · exact (zGoodws y2 w h1).1) hw rfl rfl y4 (zrm_ok hnL hfr hlo))
    (hp := ⟨zPc_blind, fun U hU hW => zPc_of (As := As) hKK hC hR hS hsz U hU hW⟩) rfl (by rw [List.length_map]; exact hlen) hl.1 (by simp only [List.map_append, List.map_reverse]) (by
      have := lv_room (m := m) (pc := pc) (ls := ls) (rest := ((As.reverse ++ rest).map (zv ad))) (st := rest.map (zv ad)) (by rw [zv_cats]; exact hcat)
      exact this) hd ⟨by omega, by omega⟩
  exact z_behind hk hs kr kx hK hC hX hS hl g1 g2 g3 g4 hr
/-- a nest mate's private static method, that throws nothing -/
theorem z_callSN {l : zL} {Y Y' : zM} {d kc ks k1 s1 k2 s2 pc n idx k : Nat} {host : String} {lv : List (Nat × Value)} {rest As : List Value} {h : Nat → va_E} {Q : zQ} (Q' : zQ) (hY : zY Y' k) (hstat : Cond.static Y'.1 ∈ zTs) (hh : Y'.2.2.2.2 = []) (hnL : Y'.2.2.1 ≤ 20) (hlink : Cond.methodLinkNest Y.1.cls idx Y'.1 host ∈ kN) (hlen : As.length = k) (hsl : (lg_sl As).length ≤ Y'.2.2.1) (hcat : (rest.map fun v => v.category).sum ≤ 8) (hd : decode Y.2.1 pc = .ok (.invokestatic idx, 3)) (hno : ∀ E n' h', ¬ Q' (.inr E) n' h')
    (body : Zj l Y' d k1 s1 0 (lv_args 0 As) [] n h Q') (hk : k1 + k2 ≤ kc) (hs : s1 + s2 ≤ ks)
    (kr : ∀ r n' h', Q' (.inl r) n' h' → n' = n ∧ Zj l Y (d + 1) k2 s2 (pc + 3) lv (r.toList ++ rest) n h' Q) : Zj l Y (d + 1) kc ks pc lv (As.reverse ++ rest) n h Q := by
  intro p e R s m args below meth c sz0 D cA ad H locs cells slots mc ms ls Z hK hC hX hR hS hl g1 g2 g3 g4
  obtain ⟨hx, hbb, hml, hrt, hlocks, hown, hinit, htab, hts, hKK, hsz, hfr, hlo, hst⟩ := id hK
  obtain ⟨y1, y2, y3, y4⟩ := hY
  have hM := z_met (D := D) (cA := cA) (sz0 := sz0) (ad := ad) y1 hh hsl hst hno body
  have hw : zws Y' = Cond.code Y'.1 Y'.2.1 Y'.2.2.1 Y'.2.2.2.1 :: zTs := by unfold zws zcode; rw [if_pos hh]
  have hr := va_runSN (cells := cells) (slots := slots) (below := below) (e := e) (p := p) (meth := meth) (locs := locs) (As := As.map (zv ad)) (rest := rest.map (zv ad)) (g := F0 m pc ls ((As.reverse ++ rest).map (zv ad))) (index := idx) (H := H) (S := ⟨hx, hbb, hml, hown, hts⟩) (hM := hM)
    (cw := ⟨va_cnB (own := Y.1.cls) (R := R) (host := host) k hts (zGoodws y2) hw rfl rfl (hC.2.2.2.2.2.1 _ hlink) (hts _ y3) y4 (zrm_ok hnL hfr hlo), hts _ hstat, trivial⟩)
    (hp := ⟨zPc_blind, fun U hU hW => zPc_of (As := As) hKK hC hR hS hsz U hU hW⟩) rfl (by rw [List.length_map]; exact hlen) hl.1 (by simp only [List.map_append, List.map_reverse]) (by
      have := lv_room (m := m) (pc := pc) (ls := ls) (rest := ((As.reverse ++ rest).map (zv ad))) (st := rest.map (zv ad)) (by rw [zv_cats]; exact hcat)
      exact this) hd ⟨by omega, by omega⟩
  exact z_behind (Q' := Q') hk hs kr (fun E n' h' q => absurd q (hno E n' h')) hK hC hX hS hl g1 g2 g3 g4 (va_toVx hr)
end
section
/-! CONSTRUCTORS' CALLS, CATCHING CALLS, MATH, COPIES, WRITES OF FIELDS BY KIND -/
theorem z_objInit {l : zL} {Y : zM} {d kc ks pc n idx a : Nat} {lv : List (Nat × Value)} {rest : List Value} {h : Nat → va_E} {Q : zQ} (h1 : Cond.methodLink Y.1.cls idx Lib.objectInit ∈ zTs) (h2 : Cond.instanceMethod Lib.objectInit ∈ zTs) (h3 : Cond.code Lib.objectInit ⟨#[0xb1]⟩ 1 none ∈ zTs) (hcat : (rest.map fun v => v.category).sum ≤ 8) (hd : decode Y.2.1 pc = .ok (.invokespecial idx, 3)) (kk : Zj l Y d kc ks (pc + 3) lv rest n h Q) : Zj l Y d kc ks pc lv (.ref a :: rest) n h Q := by
  intro p e R s m args below meth c sz0 D cA ad H locs cells slots mc ms ls Z hK hC hX hR hS hl g1 g2 g3 g4
  obtain ⟨hx, hb, hml, hrt, hlocks, hown, hinit, htab, hts, hKK, hsz, hfr, hlo, hst⟩ := id hK
  have hlo' : 54 ≤ R.locals := Nat.le_trans (Nat.le_add_left 54 (40 * d)) hlo
  refine W.objInit hx hb hown (hts _ h1) (hts _ h2) (hts _ h3) (g := F0 m pc ls (.ref (ad a) :: rest.map (zv ad))) rfl (by rw [hml]; exact hl.1) rfl hd (by omega) ?_ (kk p e R s m args below meth c sz0 D cA ad H locs cells slots mc ms ls Z hK hC hX hR hS hl g1 g2 g3 g4)
  show 2 * 0 + _ + 12 ≤ _
  rw [zv_cats]
  refine Nat.le_trans ?_ hlo'
  generalize (rest.map fun v => v.category).sum = z at hcat
  show 0 + z + 12 ≤ 54
  have : z + 12 ≤ 20 := Nat.add_le_add_right hcat 12
  rw [Nat.zero_add]
  exact Nat.le_trans this (Nat.le_of_ble_eq_true rfl)
theorem z_behindI {l : zL} {Y : zM} {d kc ks k1 s1 k2 s2 pc n : Nat} {lv : List (Nat × Value)} {rest st : List Value} {Q Q' : zQ}
    {p : Program} {e : Env} {R : Room} {s : State} {m : MethodId} {args : Array Value} {below : List Frame} {meth : Method} {c : Code} {sz0 : Nat} {D : va_G} {cA : Nat → ClassId} {ad : Nat → Nat} {H : Heap} {locs : List Loc} {cells slots mc ms : Nat} {ls : Array Slot} {Z : State → Prop} {a : Array Value}
    (hk : k1 + k2 ≤ kc) (hs : s1 + s2 ≤ ks) (hlv : ∀ q ∈ lv, zokv n q.2) (hrest : ∀ v ∈ rest, zokv n v) (kr : ∀ r n' h', Q' (.inl r) n' h' → r = none ∧ Zj l Y d k2 s2 (pc + 3) lv rest n' h' Q)
    (hK : zK Y d l.1 p R s m args meth c sz0 D cA) (hC : zC l sz0 ad s s.heap) (hX : zX Y p l.1 e R s m args below meth c sz0 D cA ad n mc ms Z Q) (hS : va_S (fun q => sz0 ≤ q) s.heap H locs) (hl : lv_has ls Y.2.2.1 (zlv ad lv))
    (g1 : cells + kc ≤ mc) (g2 : slots + ks ≤ ms) (g3 : mc ≤ R.cells) (g4 : ms ≤ R.slots)
    (hr : va_Run p l.1 e R s m args below meth c H locs cells slots k1 s1 (F0 m pc ls (st.map (zv ad))) (rest.map (zv ad)) (zQc D cA sz0 ad n Q' a) (fun q => sz0 ≤ q)) : W p l.1 e R s m args below meth c H locs cells slots Z (F0 m pc ls (st.map (zv ad))) := by
  intro T hT X
  obtain ⟨v, st₀, t, T', L, h0, X', hL, e1, e2, ⟨ad', n', h', r, hv, hg, hq, hR', hF⟩, go⟩ := hr T hT X
  obtain ⟨k1', k2', k3⟩ := vx_keep h0 e1 hS (fun q _ h => h) (fun q h => h) hL hF
  obtain ⟨hn, kk⟩ := kr r n' h' hq
  subst hn
  have hv' : v = none := by cases hv; rfl
  subst hv'
  obtain ⟨t2, a1, b1⟩ := kk p e R s m args below meth c sz0 D cA ad' T'.heap (locs ++ L) (cells + k1) (slots + s1) mc ms ls Z hK (hC.ag hg) (hX.ag hg) (by rw [e1]; exact hR') k3 (by rw [zlv_ag hg hlv]; exact hl) (by omega) (by omega) g3 g4 T' rfl X'
  rw [zvs_ag hg hrest] at a1
  exact ⟨t2, go t2 a1, b1⟩
theorem z_callI {l : zL} {Y Y' : zM} {d kc ks k1 s1 k2 s2 pc n idx k : Nat} {lv : List (Nat × Value)} {rest As : List Value} {h : Nat → va_E} {Q : zQ} {b : Nat} (Q' : zQ) (hY : zY Y' k) (hi : Cond.instanceMethod Y'.1 ∈ zTs) (hnm : Y'.1.name = "<init>") (hrn : Y'.2.2.2.1 = none) (hh : Y'.2.2.2.2 = []) (hnL : Y'.2.2.1 ≤ 20) (hlink : Cond.methodLink Y.1.cls idx Y'.1 ∈ zTs) (hlen : As.length = k) (hsl : (lg_sl (.ref b :: As)).length ≤ Y'.2.2.1) (hcat : (rest.map fun v => v.category).sum ≤ 8) (hd : decode Y.2.1 pc = .ok (.invokespecial idx, 3)) (hno : ∀ E n' h', ¬ Q' (.inr E) n' h')
    (body : Zj l Y' d k1 s1 0 (lv_args 0 (.ref b :: As)) [] n h Q') (hk : k1 + k2 ≤ kc) (hs : s1 + s2 ≤ ks) (hlv : ∀ q ∈ lv, zokv n q.2) (hrest : ∀ v ∈ rest, zokv n v)
    (kr : ∀ r n' h', Q' (.inl r) n' h' → r = none ∧ Zj l Y (d + 1) k2 s2 (pc + 3) lv rest n' h' Q) : Zj l Y (d + 1) kc ks pc lv (As.reverse ++ .ref b :: rest) n h Q := by
  intro p e R s m args below meth c sz0 D cA ad H locs cells slots mc ms ls Z hK hC hX hR hS hl g1 g2 g3 g4
  obtain ⟨hx, hbb, hml, hrt, hlocks, hown, hinit, htab, hts, hKK, hsz, hfr, hlo, hst⟩ := id hK
  obtain ⟨y1, y2, y3, y4⟩ := hY
  have hM := z_met (D := D) (cA := cA) (sz0 := sz0) (ad := ad) y1 hh hsl hst hno body
  have hw : zws Y' = Cond.code Y'.1 Y'.2.1 Y'.2.2.1 none :: zTs := by unfold zws zcode; rw [if_pos hh, hrn]
  have hr := va_runI (cells := cells) (slots := slots) (below := below) (e := e) (p := p) (meth := meth) (locs := locs) (As := As.map (zv ad)) (rest := rest.map (zv ad)) (g := F0 m pc ls ((As.reverse ++ .ref b :: rest).map (zv ad))) (b := ad b) (index := idx) (H := H) (S := ⟨hx, hbb, hml, hown, hts⟩) (hM := hM)
    (cw := cwI (own := Y.1.cls) (R := R) k hts (zGoodws y2) hw rfl rfl (hts _ y3) (hts _ hlink) (hts _ hi) hnm y4 (zrm_ok hnL hfr hlo))
    (hp := ⟨zPc_blind, fun U hU hW => by
      exact zPc_of (As := .ref b :: As) hKK hC hR hS hsz U hU hW⟩) rfl (by rw [List.length_map]; exact hlen) hl.1 (by simp only [List.map_append, List.map_reverse, List.map_cons]; rfl) (by
      have := lv_room (m := m) (pc := pc) (ls := ls) (rest := ((As.reverse ++ .ref b :: rest).map (zv ad))) (st := rest.map (zv ad)) (by rw [zv_cats]; exact hcat)
      exact this) hd ⟨by omega, by omega⟩
  exact z_behindI hk hs hlv hrest kr hK hC hX hS hl g1 g2 g3 g4 hr
theorem z_callIN {l : zL} {Y Y' : zM} {d kc ks k1 s1 k2 s2 pc n idx k : Nat} {host : String} {lv : List (Nat × Value)} {rest As : List Value} {h : Nat → va_E} {Q : zQ} {b : Nat} (Q' : zQ) (hY : zY Y' k) (hi : Cond.instanceMethod Y'.1 ∈ zTs) (hnm : Y'.1.name = "<init>") (hrn : Y'.2.2.2.1 = none) (hh : Y'.2.2.2.2 = []) (hnL : Y'.2.2.1 ≤ 20) (hlink : Cond.methodLinkNest Y.1.cls idx Y'.1 host ∈ kN) (hlen : As.length = k) (hsl : (lg_sl (.ref b :: As)).length ≤ Y'.2.2.1) (hcat : (rest.map fun v => v.category).sum ≤ 8) (hd : decode Y.2.1 pc = .ok (.invokespecial idx, 3)) (hno : ∀ E n' h', ¬ Q' (.inr E) n' h')
    (body : Zj l Y' d k1 s1 0 (lv_args 0 (.ref b :: As)) [] n h Q') (hk : k1 + k2 ≤ kc) (hs : s1 + s2 ≤ ks) (hlv : ∀ q ∈ lv, zokv n q.2) (hrest : ∀ v ∈ rest, zokv n v)
    (kr : ∀ r n' h', Q' (.inl r) n' h' → r = none ∧ Zj l Y (d + 1) k2 s2 (pc + 3) lv rest n' h' Q) : Zj l Y (d + 1) kc ks pc lv (As.reverse ++ .ref b :: rest) n h Q := by
  intro p e R s m args below meth c sz0 D cA ad H locs cells slots mc ms ls Z hK hC hX hR hS hl g1 g2 g3 g4
  obtain ⟨hx, hbb, hml, hrt, hlocks, hown, hinit, htab, hts, hKK, hsz, hfr, hlo, hst⟩ := id hK
  obtain ⟨y1, y2, y3, y4⟩ := hY
  have hM := z_met (D := D) (cA := cA) (sz0 := sz0) (ad := ad) y1 hh hsl hst hno body
  have hw : zws Y' = Cond.code Y'.1 Y'.2.1 Y'.2.2.1 none :: zTs := by unfold zws zcode; rw [if_pos hh, hrn]
  have hr := va_runIN (cells := cells) (slots := slots) (below := below) (e := e) (p := p) (meth := meth) (locs := locs) (As := As.map (zv ad)) (rest := rest.map (zv ad)) (g := F0 m pc ls ((As.reverse ++ .ref b :: rest).map (zv ad))) (b := ad b) (index := idx) (H := H) (S := ⟨hx, hbb, hml, hown, hts⟩) (hM := hM)
    (cw := ⟨va_cnB (own := Y.1.cls) (R := R) (host := host) k hts (zGoodws y2) hw rfl rfl (hC.2.2.2.2.2.1 _ hlink) (hts _ y3) y4 (zrm_ok hnL hfr hlo), hnm, hts _ hi⟩)
    (hp := ⟨zPc_blind, fun U hU hW => by
      exact zPc_of (As := .ref b :: As) hKK hC hR hS hsz U hU hW⟩) rfl (by rw [List.length_map]; exact hlen) hl.1 (by simp only [List.map_append, List.map_reverse, List.map_cons]; rfl) (by
      have := lv_room (m := m) (pc := pc) (ls := ls) (rest := ((As.reverse ++ .ref b :: rest).map (zv ad))) (st := rest.map (zv ad)) (by rw [zv_cats]; exact hcat)
      exact this) hd ⟨by omega, by omega⟩
  exact z_behindI hk hs hlv hrest kr hK hC hX hS hl g1 g2 g3 g4 hr
/-- a handler 'astore k; iconst v; ireturn' -/
def zH (Y : zM) (hpc : Nat) (v : Int32) : Prop := ∃ (len : Nat) (i : Int), Y.2.2.2.1 = some .int ∧ ((∃ k : Fin 4, (k : Nat) < Y.2.2.1 ∧ decode Y.2.1 hpc = .ok (.astore_n k, 1) ∧ len = 1) ∨ (∃ k : Nat, k < Y.2.2.1 ∧ decode Y.2.1 hpc = .ok (.astore k, 2) ∧ len = 2)) ∧ decode Y.2.1 (hpc + len) = .ok (.iconst i, 1) ∧ Int32.ofInt i = v ∧ decode Y.2.1 (hpc + len + 1) = .ok (.ireturn, 1)
/-- E is caught here, at pc, and v answered -/
def zCatch (Y : zM) (pc : Nat) (E : String) (v : Int32) : Prop := ∃ (pre : List ExceptionTableEntry) (x : ExceptionTableEntry) (suf : List ExceptionTableEntry), tableOf Y.2.2.2.2 = pre ++ x :: suf ∧ (∀ z ∈ pre, covers z pc = false ∨ (z.catchType ≠ 0 ∧ ∃ nm : String, Cond.classLink Y.1.cls z.catchType nm ∈ zTs ∧ (E, nm) ∈ kX)) ∧ covers x pc = true ∧ x.catchType ≠ 0 ∧ Cond.classLink Y.1.cls x.catchType E ∈ zTs ∧ Cond.castable E E ∈ kN ∧ zH Y x.handlerPc v
theorem z_tryV {l : zL} {Y Y' : zM} {d kc ks k1 s1 k2 s2 pc n idx k : Nat} {lv : List (Nat × Value)} {rest As : List Value} {h : Nat → va_E} {Q : zQ} {b ci : Nat} {fs : List Value} (Q' : zQ) (hY : zY Y' k) (hYv : zYv Y') (hh : Y'.2.2.2.2 = []) (hnL : Y'.2.2.1 ≤ 20) (hlink : Cond.methodLink Y.1.cls idx Y'.1 ∈ zTs) (hb : b < n) (hhb : h b = .inr (ci, fs)) (hci : (vwCl[ci]?).map (fun q => q.1) = some Y'.1.cls) (hlen : As.length = k) (hsl : (lg_sl (.ref b :: As)).length ≤ Y'.2.2.1) (hcat : (rest.map fun v => v.category).sum ≤ 8) (hd : decode Y.2.1 pc = .ok (.invokevirtual idx, 3))
    (body : Zj l Y' d k1 s1 0 (lv_args 0 (.ref b :: As)) [] n h Q') (hk : k1 + k2 ≤ kc) (hs : s1 + s2 ≤ ks)
    (kr : ∀ r n' h', Q' (.inl r) n' h' → n' = n ∧ Zj l Y (d + 1) k2 s2 (pc + 3) lv (r.toList ++ rest) n h' Q)
    (kx : ∀ E n' h', Q' (.inr E) n' h' → n' = n ∧ ∃ v, zCatch Y pc E v ∧ Q (.inl (some (.int v))) n h') : Zj l Y (d + 1) kc ks pc lv (As.reverse ++ .ref b :: rest) n h Q := by
  intro p e R s m args below meth c sz0 D cA ad H locs cells slots mc ms ls Z hK hC hX hR hS hl g1 g2 g3 g4
  obtain ⟨hx, hbb, hml, hrt, hlocks, hown, hinit, htab, hts, hKK, hsz, hfr, hlo, hst⟩ := id hK
  obtain ⟨y1, y2, y3, y4⟩ := hY
  obtain ⟨q, hq, hq1⟩ : ∃ q, vwCl[ci]? = some q ∧ q.1 = Y'.1.cls := by
    cases hq : vwCl[ci]? with
    | none => rw [hq] at hci; cases hci
    | some q => rw [hq] at hci; exact ⟨q, rfl, Option.some.inj hci⟩
  have he : (zw ad cA n h)[b]? = some (ad b, .inr (ci, fs.map (zv ad))) := by rw [zw_get hb, hhb]; rfl
  have hM := z_vmet (D := D) (cA := cA) (sz0 := sz0) (ad := ad) y1 hsl hst body
  have hw : zws Y' = Cond.code Y'.1 Y'.2.1 Y'.2.2.1 Y'.2.2.2.1 :: zTs := by unfold zws zcode; rw [if_pos hh]
  have hrv := va_recv hKK hR.1 hq he
  rw [hq1] at hrv
  have hr := vx_runV (cells := cells) (slots := slots) (below := below) (e := e) (p := p) (meth := meth) (locs := locs) (As := As.map (zv ad)) (rest := rest.map (zv ad)) (g := F0 m pc ls ((As.reverse ++ .ref b :: rest).map (zv ad))) (C := Y'.1.cls) (b := ad b) (index := idx) (H := H) (S := ⟨hx, hbb, hml, hown, hts⟩) (hM := hM)
    (cw := cwV (own := Y.1.cls) (R := R) k hts (zGood fun w hw1 => by
      rcases List.mem_append.mp hw1 with h1 | h1
      · simp only [List.mem_cons, List.not_mem_nil, or_false] at h1
        rcases h1 with rfl | rfl | rfl | rfl
        · exact hlink
        · exact hYv.1
        · exact hYv.2
        · exact y3
      · exact (zGoodws y2 w h1).1) hw rfl rfl ⟨rfl, y4⟩ (zrm_ok hnL hfr hlo))
    (hp := ⟨zPc_blind, hrv, fun U hU hW => by
      exact zPc_of (As := .ref b :: As) hKK hC hR hS hsz U hU hW⟩) rfl (by rw [List.length_map]; exact hlen) hl.1 (by simp only [List.map_append, List.map_reverse, List.map_cons]; rfl) (by
      have := lv_room (m := m) (pc := pc) (ls := ls) (rest := ((As.reverse ++ .ref b :: rest).map (zv ad))) (st := rest.map (zv ad)) (by rw [zv_cats]; exact hcat)
      exact this) hd ⟨by omega, by omega⟩
  intro T hT X
  rcases hr T hT X with ⟨v, st₀, t, T', L, h0, X', hL, e1, e2, ⟨ad', n', h', r, hv, hg, hq, hR', hF⟩, go⟩ | ⟨q, st₀, t, T', L, E, ce, h0, X', hL, e1, e2, ⟨ad', n', h', hg, hq, hR', hF⟩, hce, hcv, hcl, go⟩
  · obtain ⟨k1', k2', k3⟩ := vx_keep h0 e1 hS (fun q _ h => h) (fun q h => h) hL hF
    obtain ⟨hn, kk⟩ := kr r n' h' hq
    subst hn
    have ha := hg.2.2 rfl
    subst ha
    have hv' : v = r.map (zv ad') := by cases hv; rfl
    subst hv'
    rw [z_stk] at go
    obtain ⟨t2, a1, b1⟩ := kk p e R s m args below meth c sz0 D cA ad' T'.heap (locs ++ L) (cells + k1) (slots + s1) mc ms ls Z hK hC hX (by rw [e1]; exact hR') k3 hl (by omega) (by omega) g3 g4 T' rfl X'
    exact ⟨t2, go t2 a1, b1⟩
  · obtain ⟨k1', k2', k3⟩ := vx_keep h0 e1 hS (fun q _ h => h) (fun q h => h) hL hF
    obtain ⟨hn, v, hc, hq2⟩ := kx E n' h' hq
    subst hn
    have ha := hg.2.2 rfl
    subst ha
    obtain ⟨pre, x, suf, c1, c2, c3, c4, c5, c6, len, i, hri, hst1, hic, hv, hir⟩ := hc
    have hR2 : zR D cA sz0 ad' n' h' T'.heap := by rw [e1]; exact hR'
    have fin : ∀ ls2 : Array Slot, W p l.1 e R s m args below meth c T'.heap (locs ++ L) (cells + k1) (slots + s1) Z (F0 m (x.handlerPc + len) ls2 []) := fun ls2 =>
      lv_iconst hx hbb hic hv (W.widen (by omega) (by omega) (hX.1 ad' n' h' (some (.int v)) T'.heap (locs ++ L) _ ls2 zag_rf hq2 hR2 k3 (Or.inr (Or.inl ⟨v, .int, rfl, hri, rfl, hir⟩))))
    have hw2 : vx_W p l.1 e R s m args below meth c T'.heap (locs ++ L) (cells + k1) (slots + s1) Z (F0 m pc ls (rest.map (zv ad'))) q := by
      refine vx_catch (name := E) hown pre x suf (htab.trans c1) (fun z hz => ?_) c3 c4 (hts _ c5) (zKN hC _ c6) (by rw [e1]; exact hce) hcv hcl ?_
      · rcases c2 z hz with h1 | ⟨h1, nm, h2, h3⟩
        · exact Or.inl h1
        · exact Or.inr ⟨h1, nm, hts _ h2, hC.2.2.2.2.2.2.2.2.2.1 _ h3⟩
      · rcases hst1 with ⟨kf, h1, h2, rfl⟩ | ⟨kf, h1, h2, rfl⟩
        · exact lv_astore_n hx hbb h2 rfl hl h1 rfl (fun ls2 _ => fin ls2)
        · exact lv_astore hx hbb h2 hl h1 rfl (fun ls2 _ => fin ls2)
    obtain ⟨t2, a1, b1⟩ := hw2 T' rfl X'
    exact ⟨t2, go.trans a1, b1⟩
-- the JDK's own
theorem z_mmax {l : zL} {Y : zM} {d kc ks pc n idx : Nat} {lv : List (Nat × Value)} {rest : List Value} {h : Nat → va_E} {Q : zQ} {x y : Int32} (h1 : Cond.methodLink Y.1.cls idx Lib.Math.max.name ∈ zTs) (h2 : Cond.static Lib.Math.max.name ∈ zTs) (h3 : Cond.initialized "java/lang/Math" ∈ zTs) (h4 : Cond.code Lib.Math.max.name Lib.Math.max.code 2 (some .int) ∈ zTs) (hcat : (rest.map fun v => v.category).sum ≤ 8) (hd : decode Y.2.1 pc = .ok (.invokestatic idx, 3)) (kk : Zj l Y d kc ks (pc + 3) lv (.int (if x < y then y else x) :: rest) n h Q) : Zj l Y d kc ks pc lv (.int y :: .int x :: rest) n h Q := by
  intro p e R s m args below meth c sz0 D cA ad H locs cells slots mc ms ls Z hK hC hX hR hS hl g1 g2 g3 g4
  obtain ⟨hx, hb, hml, hrt, hlocks, hown, hinit, htab, hts, hKK, hsz, hfr, hlo, hst⟩ := id hK
  have hlo' : 54 ≤ R.locals := Nat.le_trans (Nat.le_add_left 54 (40 * d)) hlo
  exact va_mmax hx hb (by rw [hl.1, hml]) hown (hts _ h1) (hts _ h2) (hts _ h3) (hts _ h4) (by omega) (by rw [zv_cats]; exact Nat.le_trans (Nat.add_le_add_right hcat 13) (Nat.le_trans (Nat.le_of_ble_eq_true rfl) hlo')) (by omega) (by omega) hd (kk p e R s m args below meth c sz0 D cA ad H locs cells slots mc ms ls Z hK hC hX hR hS hl g1 g2 g3 g4)
theorem z_mmin {l : zL} {Y : zM} {d kc ks pc n idx : Nat} {lv : List (Nat × Value)} {rest : List Value} {h : Nat → va_E} {Q : zQ} {x y : Int32} (h1 : Cond.methodLink Y.1.cls idx Lib.Math.min.name ∈ zTs) (h2 : Cond.static Lib.Math.min.name ∈ zTs) (h3 : Cond.initialized "java/lang/Math" ∈ zTs) (h4 : Cond.code Lib.Math.min.name Lib.Math.min.code 2 (some .int) ∈ zTs) (hcat : (rest.map fun v => v.category).sum ≤ 8) (hd : decode Y.2.1 pc = .ok (.invokestatic idx, 3)) (kk : Zj l Y d kc ks (pc + 3) lv (.int (if y < x then y else x) :: rest) n h Q) : Zj l Y d kc ks pc lv (.int y :: .int x :: rest) n h Q := by
  intro p e R s m args below meth c sz0 D cA ad H locs cells slots mc ms ls Z hK hC hX hR hS hl g1 g2 g3 g4
  obtain ⟨hx, hb, hml, hrt, hlocks, hown, hinit, htab, hts, hKK, hsz, hfr, hlo, hst⟩ := id hK
  have hlo' : 54 ≤ R.locals := Nat.le_trans (Nat.le_add_left 54 (40 * d)) hlo
  exact va_mmin hx hb (by rw [hl.1, hml]) hown (hts _ h1) (hts _ h2) (hts _ h3) (hts _ h4) (by omega) (by rw [zv_cats]; exact Nat.le_trans (Nat.add_le_add_right hcat 13) (Nat.le_trans (Nat.le_of_ble_eq_true rfl) hlo')) (by omega) (by omega) hd (kk p e R s m args below meth c sz0 D cA ad H locs cells slots mc ms ls Z hK hC hX hR hS hl g1 g2 g3 g4)
theorem z_mabs {l : zL} {Y : zM} {d kc ks pc n idx : Nat} {lv : List (Nat × Value)} {rest : List Value} {h : Nat → va_E} {Q : zQ} {x : Int32} (h1 : Cond.methodLink Y.1.cls idx Lib.Math.abs.name ∈ zTs) (h2 : Cond.static Lib.Math.abs.name ∈ zTs) (h3 : Cond.initialized "java/lang/Math" ∈ zTs) (h4 : Cond.code Lib.Math.abs.name Lib.Math.abs.code 1 (some .int) ∈ zTs) (hcat : (rest.map fun v => v.category).sum ≤ 8) (hd : decode Y.2.1 pc = .ok (.invokestatic idx, 3)) (kk : Zj l Y d kc ks (pc + 3) lv (.int (if 0 ≤ x then x else 0 - x) :: rest) n h Q) : Zj l Y d kc ks pc lv (.int x :: rest) n h Q := by
  intro p e R s m args below meth c sz0 D cA ad H locs cells slots mc ms ls Z hK hC hX hR hS hl g1 g2 g3 g4
  obtain ⟨hx, hb, hml, hrt, hlocks, hown, hinit, htab, hts, hKK, hsz, hfr, hlo, hst⟩ := id hK
  have hlo' : 54 ≤ R.locals := Nat.le_trans (Nat.le_add_left 54 (40 * d)) hlo
  exact va_mabs hx hb (by rw [hl.1, hml]) hown (hts _ h1) (hts _ h2) (hts _ h3) (hts _ h4) (by omega) (by
    rw [zv_cats]
    generalize (rest.map fun v => v.category).sum = z at hcat
    omega) (by omega) (by omega) hd (kk p e R s m args below meth c sz0 D cA ad H locs cells slots mc ms ls Z hK hC hX hR hS hl g1 g2 g3 g4)
theorem z_copyi {l : zL} {Y : zM} {d kc ks pc n idx : Nat} {lv : List (Nat × Value)} {rest : List Value} {h : Nat → va_E} {Q : zQ} {a0 a n0 n1 : Nat} {f g : Nat → Int32} {sp dp cnt : Int32} (w1 : Cond.methodLink Y.1.cls idx arraycopyName ∈ zTs) (w2 : Cond.native arraycopyName ∈ zTs) (w3 : Cond.static arraycopyName ∈ zTs) (w4 : Cond.initialized "java/lang/System" ∈ zTs) (ha0 : a0 < n) (hh0 : h a0 = .inl (0, n0, .inl f)) (ha : a < n) (hh : h a = .inl (0, n1, .inl g)) (h1 : ¬ sp < 0) (h2 : ¬ dp < 0) (h3 : ¬ cnt < 0) (h4 : sp.toNatClampNeg + cnt.toNatClampNeg ≤ n0) (h5 : dp.toNatClampNeg + cnt.toNatClampNeg ≤ n1) (hcat : (rest.map fun v => v.category).sum ≤ 8) (hd : decode Y.2.1 pc = .ok (.invokestatic idx, 3)) (kk : Zj l Y d kc ks (pc + 3) lv rest n (va_up h a (.inl (0, n1, .inl (va_cpy f g sp.toNatClampNeg dp.toNatClampNeg cnt.toNatClampNeg)))) Q) : Zj l Y d kc ks pc lv (.int cnt :: .int dp :: .ref a :: .int sp :: .ref a0 :: rest) n h Q := by
  intro p e R s m args below meth c sz0 D cA ad H locs cells slots mc ms ls Z hK hC hX hR hS hl g1 g2 g3 g4
  obtain ⟨hx, hb, hml, hrt, hlocks, hown, hinit, htab, hts, hKK, hsz, hfr, hlo, hst⟩ := id hK
  have hlo' : 54 ≤ R.locals := Nat.le_trans (Nat.le_add_left 54 (40 * d)) hlo
  have he0 : (zw ad cA n h)[a0]? = some (ad a0, .inl (cA 0, n0, .inl f)) := by rw [zw_get ha0, hh0]; rfl
  have he : (zw ad cA n h)[a]? = some (ad a, .inl (cA 0, n1, .inl g)) := by rw [zw_get ha, hh]; rfl
  refine va_copyi hx hb (by rw [hl.1, hml]) hown (hts _ w1) (hts _ w2) (hts _ w3) (hts _ w4) hKK hR.1 hR.2.1 hS a0 a 0 0 he0 he rfl rfl rfl h1 h2 h3 h4 h5 (fun i _ => rfl) (by omega) (by rw [zv_cats]; exact Nat.le_trans (Nat.add_le_add_right hcat _) (Nat.le_trans (Nat.le_of_ble_eq_true rfl) hlo')) hd (fun H1 locs1 hP hD hS1 => ?_)
  exact kk p e R s m args below meth c sz0 D cA ad H1 locs1 cells slots mc ms ls Z hK hC hX (zR_set hR ha (e := .inl (0, n1, .inl (va_cpy f g sp.toNatClampNeg dp.toNatClampNeg cnt.toNatClampNeg))) trivial hP hD) hS1 hl g1 g2 g3 g4
-- writes of fields, by kind
theorem z_puti {l : zL} {Y : zM} {d kc ks pc n : Nat} {lv : List (Nat × Value)} {rest : List Value} {h : Nat → va_E} {Q : zQ} {a ci k idx : Nat} {fs : List Value} {x : Int32} {ty0 : Nat → FieldType} (ha : a < n) (hh : h a = .inr (ci, fs)) (hf : zF Y.1.cls idx ci k) (hg : zG ci ty0) (hty : ty0 k = .int) (hfin : zFin ci k false) (hlen : k < fs.length) (hd : decode Y.2.1 pc = .ok (.putfield idx, 3)) (kk : Zj l Y d kc ks (pc + 3) lv rest n (va_up h a (.inr (ci, fs.set k (.int x)))) Q) : Zj l Y d kc ks pc lv (.int x :: .ref a :: rest) n h Q :=
  z_put0 ha hh hf hg hfin (fun ad => by rw [hty]; exact ⟨rfl, rfl⟩) trivial hlen hd kk
theorem z_putz {l : zL} {Y : zM} {d kc ks pc n : Nat} {lv : List (Nat × Value)} {rest : List Value} {h : Nat → va_E} {Q : zQ} {a ci k idx : Nat} {fs : List Value} {x : Int32} {ty0 : Nat → FieldType} (hx : x = 0 ∨ x = 1) (ha : a < n) (hh : h a = .inr (ci, fs)) (hf : zF Y.1.cls idx ci k) (hg : zG ci ty0) (hty : ty0 k = .boolean) (hfin : zFin ci k false) (hlen : k < fs.length) (hd : decode Y.2.1 pc = .ok (.putfield idx, 3)) (kk : Zj l Y d kc ks (pc + 3) lv rest n (va_up h a (.inr (ci, fs.set k (.int x)))) Q) : Zj l Y d kc ks pc lv (.int x :: .ref a :: rest) n h Q :=
  z_put0 ha hh hf hg hfin (fun ad => by rw [hty]; rcases hx with rfl | rfl <;> exact ⟨rfl, rfl⟩) trivial hlen hd kk
theorem z_putr {l : zL} {Y : zM} {d kc ks pc n : Nat} {lv : List (Nat × Value)} {rest : List Value} {h : Nat → va_E} {Q : zQ} {a ci k idx : Nat} {fs : List Value} {q : Nat} {C : String} {ty0 : Nat → FieldType} (ha : a < n) (hh : h a = .inr (ci, fs)) (hf : zF Y.1.cls idx ci k) (hg : zG ci ty0) (hty : ty0 k = .object C) (hfin : zFin ci k false) (hov : q < n ∨ zB ≤ q) (hlen : k < fs.length) (hd : decode Y.2.1 pc = .ok (.putfield idx, 3)) (kk : Zj l Y d kc ks (pc + 3) lv rest n (va_up h a (.inr (ci, fs.set k (.ref q)))) Q) : Zj l Y d kc ks pc lv (.ref q :: .ref a :: rest) n h Q :=
  z_put0 ha hh hf hg hfin (fun ad => by rw [hty]; exact ⟨rfl, rfl⟩) hov hlen hd kk
theorem z_putN {l : zL} {Y : zM} {d kc ks pc n : Nat} {lv : List (Nat × Value)} {rest : List Value} {h : Nat → va_E} {Q : zQ} {a ci k idx : Nat} {fs : List Value} {C : String} {ty0 : Nat → FieldType} (ha : a < n) (hh : h a = .inr (ci, fs)) (hf : zF Y.1.cls idx ci k) (hg : zG ci ty0) (hty : ty0 k = .object C) (hfin : zFin ci k false) (hlen : k < fs.length) (hd : decode Y.2.1 pc = .ok (.putfield idx, 3)) (kk : Zj l Y d kc ks (pc + 3) lv rest n (va_up h a (.inr (ci, fs.set k .null))) Q) : Zj l Y d kc ks pc lv (.null :: .ref a :: rest) n h Q :=
  z_put0 ha hh hf hg hfin (fun ad => by rw [hty]; exact ⟨rfl, rfl⟩) trivial hlen hd kk
theorem z_putFr {l : zL} {Y : zM} {d kc ks pc n : Nat} {lv : List (Nat × Value)} {rest : List Value} {h : Nat → va_E} {Q : zQ} {a ci k idx : Nat} {fs : List Value} {q : Nat} {ty0 : Nat → FieldType} (ha : a < n) (hh : h a = .inr (ci, fs)) (hf : zF Y.1.cls idx ci k) (hg : zG ci ty0) (hty : (∃ C, ty0 k = .object C) ∨ ∃ t, ty0 k = .array t) (hfin : zFin ci k true) (hdecl : zDecl ci k Y.1.cls) (hinit : Y.1.name = "<init>") (hov : q < n ∨ zB ≤ q) (hlen : k < fs.length) (hd : decode Y.2.1 pc = .ok (.putfield idx, 3)) (kk : Zj l Y d kc ks (pc + 3) lv rest n (va_up h a (.inr (ci, fs.set k (.ref q)))) Q) : Zj l Y d kc ks pc lv (.ref q :: .ref a :: rest) n h Q :=
  z_putF0 ha hh hf hg hfin hdecl hinit (fun ad => by rcases hty with ⟨C, e⟩ | ⟨t, e⟩ <;> rw [e] <;> exact ⟨rfl, rfl⟩) hov hlen hd kk
end
section
theorem z_lconst {l : zL} {Y : zM} {d kc ks pc n : Nat} {lv : List (Nat × Value)} {rest : List Value} {h : Nat → va_E} {Q : zQ} {i : Fin 2} {v : Int64} (hd : decode Y.2.1 pc = .ok (.lconst i, 1)) (hv : Int64.ofNat (i : Nat) = v) (k : Zj l Y d kc ks (pc + 1) lv (.long v :: rest) n h Q) : Zj l Y d kc ks pc lv rest n h Q := by
  intro p e R s m args below meth c sz0 D cA ad H locs cells slots mc ms ls Z hK hC hX hR hS hl g1 g2 g3 g4
  exact lv_lconst hK.1 hK.2.1 hd hv (k p e R s m args below meth c sz0 D cA ad H locs cells slots mc ms ls Z hK hC hX hR hS hl g1 g2 g3 g4)
theorem z_ldc2 {l : zL} {Y : zM} {d kc ks pc n : Nat} {lv : List (Nat × Value)} {rest : List Value} {h : Nat → va_E} {Q : zQ} {idx : Nat} {v : Int64} (hw : Jvm.Cond.constantLong Y.1.cls idx v ∈ zTs) (hd : decode Y.2.1 pc = .ok (.ldc2_w idx, 3)) (k : Zj l Y d kc ks (pc + 3) lv (.long v :: rest) n h Q) : Zj l Y d kc ks pc lv rest n h Q := by
  intro p e R s m args below meth c sz0 D cA ad H locs cells slots mc ms ls Z hK hC hX hR hS hl g1 g2 g3 g4
  exact lv_ldc2 hK.1 hK.2.1 hK.2.2.2.2.2.1 (hK.2.2.2.2.2.2.2.2.1 _ hw) hd (k p e R s m args below meth c sz0 D cA ad H locs cells slots mc ms ls Z hK hC hX hR hS hl g1 g2 g3 g4)
theorem z_lload {l : zL} {Y : zM} {d kc ks pc n : Nat} {lv : List (Nat × Value)} {rest : List Value} {h : Nat → va_E} {Q : zQ} {i j : Nat} {v : Int64} (hd : decode Y.2.1 pc = .ok (.lload i, 2)) (hj : lv[j]? = some (i, .long v)) (k : Zj l Y d kc ks (pc + 2) lv (.long v :: rest) n h Q) : Zj l Y d kc ks pc lv rest n h Q := by
  intro p e R s m args below meth c sz0 D cA ad H locs cells slots mc ms ls Z hK hC hX hR hS hl g1 g2 g3 g4
  exact lv_lload hK.1 hK.2.1 hd (zlv_at hl hj) (k p e R s m args below meth c sz0 D cA ad H locs cells slots mc ms ls Z hK hC hX hR hS hl g1 g2 g3 g4)
theorem z_lload_n {l : zL} {Y : zM} {d kc ks pc n : Nat} {lv : List (Nat × Value)} {rest : List Value} {h : Nat → va_E} {Q : zQ} {i : Fin 4} {j : Nat} {v : Int64} (hd : decode Y.2.1 pc = .ok (.lload_n i, 1)) (hj : lv[j]? = some ((i : Nat), .long v)) (k : Zj l Y d kc ks (pc + 1) lv (.long v :: rest) n h Q) : Zj l Y d kc ks pc lv rest n h Q := by
  intro p e R s m args below meth c sz0 D cA ad H locs cells slots mc ms ls Z hK hC hX hR hS hl g1 g2 g3 g4
  exact lv_lload_n hK.1 hK.2.1 hd rfl (zlv_at hl hj) (k p e R s m args below meth c sz0 D cA ad H locs cells slots mc ms ls Z hK hC hX hR hS hl g1 g2 g3 g4)
theorem z_lstore {l : zL} {Y : zM} {d kc ks pc n : Nat} {lv : List (Nat × Value)} {rest : List Value} {h : Nat → va_E} {Q : zQ} {i : Nat} {v : Int64} (is : List Nat) (lv' : List (Nat × Value)) (hd : decode Y.2.1 pc = .ok (.lstore i, 2)) (hn : i + 1 < Y.2.2.1) (hp : lv_pick ((i, Value.long v) :: lv.filter (fun q => !(q.1 == i) && (!(q.1 == i + 1) && !(q.1 + 1 == i && q.2.category == 2)))) is = lv') (k : Zj l Y d kc ks (pc + 2) lv' rest n h Q) : Zj l Y d kc ks pc lv (Value.long v :: rest) n h Q := by
  intro p e R s m args below meth c sz0 D cA ad H locs cells slots mc ms ls Z hK hC hX hR hS hl g1 g2 g3 g4
  refine lv_lstore hK.1 hK.2.1 hd hl hn rfl (fun ls' hl' => ?_)
  rw [zlv_f2] at hl'
  exact k p e R s m args below meth c sz0 D cA ad H locs cells slots mc ms ls' Z hK hC hX hR hS (zlv_pk (l0 := (i, Value.long v) :: lv.filter (fun q => !(q.1 == i) && (!(q.1 == i + 1) && !(q.1 + 1 == i && q.2.category == 2)))) hl' hp) g1 g2 g3 g4
theorem z_lstore_n {l : zL} {Y : zM} {d kc ks pc n : Nat} {lv : List (Nat × Value)} {rest : List Value} {h : Nat → va_E} {Q : zQ} {i : Fin 4} {v : Int64} (is : List Nat) (lv' : List (Nat × Value)) (hd : decode Y.2.1 pc = .ok (.lstore_n i, 1)) (hn : (i : Nat) + 1 < Y.2.2.1) (hp : lv_pick (((i : Nat), Value.long v) :: lv.filter (fun q => !(q.1 == (i : Nat)) && (!(q.1 == (i : Nat) + 1) && !(q.1 + 1 == (i : Nat) && q.2.category == 2)))) is = lv') (k : Zj l Y d kc ks (pc + 1) lv' rest n h Q) : Zj l Y d kc ks pc lv (Value.long v :: rest) n h Q := by
  intro p e R s m args below meth c sz0 D cA ad H locs cells slots mc ms ls Z hK hC hX hR hS hl g1 g2 g3 g4
  refine lv_lstore_n hK.1 hK.2.1 hd rfl hl hn rfl (fun ls' hl' => ?_)
  rw [zlv_f2] at hl'
  exact k p e R s m args below meth c sz0 D cA ad H locs cells slots mc ms ls' Z hK hC hX hR hS (zlv_pk (l0 := ((i : Nat), Value.long v) :: lv.filter (fun q => !(q.1 == (i : Nat)) && (!(q.1 == (i : Nat) + 1) && !(q.1 + 1 == (i : Nat) && q.2.category == 2)))) hl' hp) g1 g2 g3 g4
theorem z_ladd {l : zL} {Y : zM} {d kc ks pc n : Nat} {lv : List (Nat × Value)} {rest : List Value} {h : Nat → va_E} {Q : zQ} {x y : Int64} (hd : decode Y.2.1 pc = .ok (.ladd, 1)) (k : Zj l Y d kc ks (pc + 1) lv (.long (x + y) :: rest) n h Q) : Zj l Y d kc ks pc lv (.long y :: .long x :: rest) n h Q := by
  intro p e R s m args below meth c sz0 D cA ad H locs cells slots mc ms ls Z hK hC hX hR hS hl g1 g2 g3 g4
  exact lv_ladd hK.1 hK.2.1 hd (k p e R s m args below meth c sz0 D cA ad H locs cells slots mc ms ls Z hK hC hX hR hS hl g1 g2 g3 g4)
theorem z_lmul {l : zL} {Y : zM} {d kc ks pc n : Nat} {lv : List (Nat × Value)} {rest : List Value} {h : Nat → va_E} {Q : zQ} {x y : Int64} (hd : decode Y.2.1 pc = .ok (.lmul, 1)) (k : Zj l Y d kc ks (pc + 1) lv (.long (x * y) :: rest) n h Q) : Zj l Y d kc ks pc lv (.long y :: .long x :: rest) n h Q := by
  intro p e R s m args below meth c sz0 D cA ad H locs cells slots mc ms ls Z hK hC hX hR hS hl g1 g2 g3 g4
  exact lv_lmul hK.1 hK.2.1 hd (k p e R s m args below meth c sz0 D cA ad H locs cells slots mc ms ls Z hK hC hX hR hS hl g1 g2 g3 g4)
theorem z_lret {l : zL} {Y : zM} {d kc ks pc n : Nat} {lv : List (Nat × Value)} {h : Nat → va_E} {Q : zQ} {v : Int64} (hr : Y.2.2.2.1 = some .long) (hd : decode Y.2.1 pc = .ok (.lreturn, 1)) (hq : Q (.inl (some (.long v))) n h) : Zj l Y d kc ks pc lv [.long v] n h Q := z_ret (some (.long v)) (Or.inr (Or.inr (Or.inr (Or.inr (Or.inl ⟨v, rfl, hr, hd⟩))))) hq
end
section
/-! what the tables say: methods (m.., yo.., yv.., ys..), fields (f..), links (l..), by their places -/
theorem inX2 : ∀ w ∈ u_ws RX2 TX2 3, w ∈ zTs := by decide +kernel
theorem gg2 : zG 0 tyX2 := ⟨RX2, TX2, 3, rfl, tyX2_ok, nmX2⟩
theorem fin2_0 : zFin 0 0 true := by
  intro C T N h
  have h : some (RX2, TX2, 3) = some (C, T, N) := h
  cases h
  rfl
theorem dcl2_0 : zDecl 0 0 RX2 := by
  intro C T N h
  have h : some (RX2, TX2, 3) = some (C, T, N) := h
  cases h
  rfl
theorem fin2_1 : zFin 0 1 false := by
  intro C T N h
  have h : some (RX2, TX2, 3) = some (C, T, N) := h
  cases h
  rfl
theorem fin2_2 : zFin 0 2 false := by
  intro C T N h
  have h : some (RX2, TX2, 3) = some (C, T, N) := h
  cases h
  rfl
theorem inX3 : ∀ w ∈ u_ws RX3 TX3 6, w ∈ zTs := by decide +kernel
theorem gg3 : zG 1 tyX3 := ⟨RX3, TX3, 6, rfl, tyX3_ok, nmX3⟩
theorem fin3_0 : zFin 1 0 true := by
  intro C T N h
  have h : some (RX3, TX3, 6) = some (C, T, N) := h
  cases h
  rfl
theorem dcl3_0 : zDecl 1 0 RX3 := by
  intro C T N h
  have h : some (RX3, TX3, 6) = some (C, T, N) := h
  cases h
  rfl
theorem fin3_1 : zFin 1 1 false := by
  intro C T N h
  have h : some (RX3, TX3, 6) = some (C, T, N) := h
  cases h
  rfl
theorem fin3_2 : zFin 1 2 false := by
  intro C T N h
  have h : some (RX3, TX3, 6) = some (C, T, N) := h
  cases h
  rfl
theorem fin3_3 : zFin 1 3 false := by
  intro C T N h
  have h : some (RX3, TX3, 6) = some (C, T, N) := h
  cases h
  rfl
theorem fin3_4 : zFin 1 4 false := by
  intro C T N h
  have h : some (RX3, TX3, 6) = some (C, T, N) := h
  cases h
  rfl
theorem fin3_5 : zFin 1 5 false := by
  intro C T N h
  have h : some (RX3, TX3, 6) = some (C, T, N) := h
  cases h
  rfl
theorem inX4 : ∀ w ∈ u_ws RX4 TX4 2, w ∈ zTs := by decide +kernel
theorem gg4 : zG 2 tyX4 := ⟨RX4, TX4, 2, rfl, tyX4_ok, nmX4⟩
theorem fin4_0 : zFin 2 0 true := by
  intro C T N h
  have h : some (RX4, TX4, 2) = some (C, T, N) := h
  cases h
  rfl
theorem dcl4_0 : zDecl 2 0 RX4 := by
  intro C T N h
  have h : some (RX4, TX4, 2) = some (C, T, N) := h
  cases h
  rfl
theorem fin4_1 : zFin 2 1 false := by
  intro C T N h
  have h : some (RX4, TX4, 2) = some (C, T, N) := h
  cases h
  rfl
theorem inX5 : ∀ w ∈ u_ws RX5 TX5 12, w ∈ zTs := by decide +kernel
theorem gg5 : zG 3 tyX5 := ⟨RX5, TX5, 12, rfl, tyX5_ok, nmX5⟩
theorem fin5_0 : zFin 3 0 true := by
  intro C T N h
  have h : some (RX5, TX5, 12) = some (C, T, N) := h
  cases h
  rfl
theorem dcl5_0 : zDecl 3 0 RX5 := by
  intro C T N h
  have h : some (RX5, TX5, 12) = some (C, T, N) := h
  cases h
  rfl
theorem fin5_1 : zFin 3 1 true := by
  intro C T N h
  have h : some (RX5, TX5, 12) = some (C, T, N) := h
  cases h
  rfl
theorem dcl5_1 : zDecl 3 1 RX5 := by
  intro C T N h
  have h : some (RX5, TX5, 12) = some (C, T, N) := h
  cases h
  rfl
theorem fin5_2 : zFin 3 2 true := by
  intro C T N h
  have h : some (RX5, TX5, 12) = some (C, T, N) := h
  cases h
  rfl
theorem dcl5_2 : zDecl 3 2 RX5 := by
  intro C T N h
  have h : some (RX5, TX5, 12) = some (C, T, N) := h
  cases h
  rfl
theorem fin5_3 : zFin 3 3 true := by
  intro C T N h
  have h : some (RX5, TX5, 12) = some (C, T, N) := h
  cases h
  rfl
theorem dcl5_3 : zDecl 3 3 RX5 := by
  intro C T N h
  have h : some (RX5, TX5, 12) = some (C, T, N) := h
  cases h
  rfl
theorem fin5_4 : zFin 3 4 true := by
  intro C T N h
  have h : some (RX5, TX5, 12) = some (C, T, N) := h
  cases h
  rfl
theorem dcl5_4 : zDecl 3 4 RX5 := by
  intro C T N h
  have h : some (RX5, TX5, 12) = some (C, T, N) := h
  cases h
  rfl
theorem fin5_5 : zFin 3 5 false := by
  intro C T N h
  have h : some (RX5, TX5, 12) = some (C, T, N) := h
  cases h
  rfl
theorem fin5_6 : zFin 3 6 false := by
  intro C T N h
  have h : some (RX5, TX5, 12) = some (C, T, N) := h
  cases h
  rfl
theorem fin5_7 : zFin 3 7 false := by
  intro C T N h
  have h : some (RX5, TX5, 12) = some (C, T, N) := h
  cases h
  rfl
theorem fin5_8 : zFin 3 8 false := by
  intro C T N h
  have h : some (RX5, TX5, 12) = some (C, T, N) := h
  cases h
  rfl
theorem fin5_9 : zFin 3 9 false := by
  intro C T N h
  have h : some (RX5, TX5, 12) = some (C, T, N) := h
  cases h
  rfl
theorem fin5_10 : zFin 3 10 false := by
  intro C T N h
  have h : some (RX5, TX5, 12) = some (C, T, N) := h
  cases h
  rfl
theorem fin5_11 : zFin 3 11 false := by
  intro C T N h
  have h : some (RX5, TX5, 12) = some (C, T, N) := h
  cases h
  rfl
theorem inX6 : ∀ w ∈ u_ws RX6 TX6 16, w ∈ zTs := by decide +kernel
theorem gg6 : zG 4 tyX6 := ⟨RX6, TX6, 16, rfl, tyX6_ok, nmX6⟩
theorem fin6_0 : zFin 4 0 true := by
  intro C T N h
  have h : some (RX6, TX6, 16) = some (C, T, N) := h
  cases h
  rfl
theorem dcl6_0 : zDecl 4 0 RX6 := by
  intro C T N h
  have h : some (RX6, TX6, 16) = some (C, T, N) := h
  cases h
  rfl
theorem fin6_1 : zFin 4 1 true := by
  intro C T N h
  have h : some (RX6, TX6, 16) = some (C, T, N) := h
  cases h
  rfl
theorem dcl6_1 : zDecl 4 1 RX6 := by
  intro C T N h
  have h : some (RX6, TX6, 16) = some (C, T, N) := h
  cases h
  rfl
theorem fin6_2 : zFin 4 2 true := by
  intro C T N h
  have h : some (RX6, TX6, 16) = some (C, T, N) := h
  cases h
  rfl
theorem dcl6_2 : zDecl 4 2 RX6 := by
  intro C T N h
  have h : some (RX6, TX6, 16) = some (C, T, N) := h
  cases h
  rfl
theorem fin6_3 : zFin 4 3 true := by
  intro C T N h
  have h : some (RX6, TX6, 16) = some (C, T, N) := h
  cases h
  rfl
theorem dcl6_3 : zDecl 4 3 RX6 := by
  intro C T N h
  have h : some (RX6, TX6, 16) = some (C, T, N) := h
  cases h
  rfl
theorem fin6_4 : zFin 4 4 true := by
  intro C T N h
  have h : some (RX6, TX6, 16) = some (C, T, N) := h
  cases h
  rfl
theorem dcl6_4 : zDecl 4 4 RX6 := by
  intro C T N h
  have h : some (RX6, TX6, 16) = some (C, T, N) := h
  cases h
  rfl
theorem fin6_5 : zFin 4 5 false := by
  intro C T N h
  have h : some (RX6, TX6, 16) = some (C, T, N) := h
  cases h
  rfl
theorem fin6_6 : zFin 4 6 false := by
  intro C T N h
  have h : some (RX6, TX6, 16) = some (C, T, N) := h
  cases h
  rfl
theorem fin6_7 : zFin 4 7 false := by
  intro C T N h
  have h : some (RX6, TX6, 16) = some (C, T, N) := h
  cases h
  rfl
theorem fin6_8 : zFin 4 8 false := by
  intro C T N h
  have h : some (RX6, TX6, 16) = some (C, T, N) := h
  cases h
  rfl
theorem fin6_9 : zFin 4 9 false := by
  intro C T N h
  have h : some (RX6, TX6, 16) = some (C, T, N) := h
  cases h
  rfl
theorem fin6_10 : zFin 4 10 false := by
  intro C T N h
  have h : some (RX6, TX6, 16) = some (C, T, N) := h
  cases h
  rfl
theorem fin6_11 : zFin 4 11 false := by
  intro C T N h
  have h : some (RX6, TX6, 16) = some (C, T, N) := h
  cases h
  rfl
theorem fin6_12 : zFin 4 12 false := by
  intro C T N h
  have h : some (RX6, TX6, 16) = some (C, T, N) := h
  cases h
  rfl
theorem fin6_13 : zFin 4 13 false := by
  intro C T N h
  have h : some (RX6, TX6, 16) = some (C, T, N) := h
  cases h
  rfl
theorem fin6_14 : zFin 4 14 false := by
  intro C T N h
  have h : some (RX6, TX6, 16) = some (C, T, N) := h
  cases h
  rfl
theorem fin6_15 : zFin 4 15 false := by
  intro C T N h
  have h : some (RX6, TX6, 16) = some (C, T, N) := h
  cases h
  rfl
theorem inX7 : ∀ w ∈ u_ws RX7 TX7 8, w ∈ zTs := by decide +kernel
theorem gg7 : zG 5 tyX7 := ⟨RX7, TX7, 8, rfl, tyX7_ok, nmX7⟩
theorem fin7_0 : zFin 5 0 true := by
  intro C T N h
  have h : some (RX7, TX7, 8) = some (C, T, N) := h
  cases h
  rfl
theorem dcl7_0 : zDecl 5 0 RX7 := by
  intro C T N h
  have h : some (RX7, TX7, 8) = some (C, T, N) := h
  cases h
  rfl
theorem fin7_1 : zFin 5 1 true := by
  intro C T N h
  have h : some (RX7, TX7, 8) = some (C, T, N) := h
  cases h
  rfl
theorem dcl7_1 : zDecl 5 1 RX7 := by
  intro C T N h
  have h : some (RX7, TX7, 8) = some (C, T, N) := h
  cases h
  rfl
theorem fin7_2 : zFin 5 2 true := by
  intro C T N h
  have h : some (RX7, TX7, 8) = some (C, T, N) := h
  cases h
  rfl
theorem dcl7_2 : zDecl 5 2 RX7 := by
  intro C T N h
  have h : some (RX7, TX7, 8) = some (C, T, N) := h
  cases h
  rfl
theorem fin7_3 : zFin 5 3 true := by
  intro C T N h
  have h : some (RX7, TX7, 8) = some (C, T, N) := h
  cases h
  rfl
theorem dcl7_3 : zDecl 5 3 RX7 := by
  intro C T N h
  have h : some (RX7, TX7, 8) = some (C, T, N) := h
  cases h
  rfl
theorem fin7_4 : zFin 5 4 true := by
  intro C T N h
  have h : some (RX7, TX7, 8) = some (C, T, N) := h
  cases h
  rfl
theorem dcl7_4 : zDecl 5 4 RX7 := by
  intro C T N h
  have h : some (RX7, TX7, 8) = some (C, T, N) := h
  cases h
  rfl
theorem fin7_5 : zFin 5 5 false := by
  intro C T N h
  have h : some (RX7, TX7, 8) = some (C, T, N) := h
  cases h
  rfl
theorem fin7_6 : zFin 5 6 true := by
  intro C T N h
  have h : some (RX7, TX7, 8) = some (C, T, N) := h
  cases h
  rfl
theorem dcl7_6 : zDecl 5 6 RX7 := by
  intro C T N h
  have h : some (RX7, TX7, 8) = some (C, T, N) := h
  cases h
  rfl
theorem fin7_7 : zFin 5 7 true := by
  intro C T N h
  have h : some (RX7, TX7, 8) = some (C, T, N) := h
  cases h
  rfl
theorem dcl7_7 : zDecl 5 7 RX7 := by
  intro C T N h
  have h : some (RX7, TX7, 8) = some (C, T, N) := h
  cases h
  rfl
abbrev mX7_init : zM := (yX7_init, cX7_init, 1, none, [])
theorem yoX7_init : zY mX7_init 0 := ⟨by decide +kernel, zIn 33 (by decide +kernel) (by decide +kernel), zIn 13 (by decide +kernel) (by decide +kernel), by decide +kernel⟩
theorem yiX7_init : Cond.instanceMethod yX7_init ∈ zTs := zIn 32 (by decide +kernel) (by decide +kernel)
abbrev mX3_init : zM := (yX3_init, cX3_init, 1, none, [])
theorem yoX3_init : zY mX3_init 0 := ⟨by decide +kernel, zIn 41 (by decide +kernel) (by decide +kernel), zIn 14 (by decide +kernel) (by decide +kernel), by decide +kernel⟩
theorem yiX3_init : Cond.instanceMethod yX3_init ∈ zTs := zIn 40 (by decide +kernel) (by decide +kernel)
abbrev mX5_init : zM := (yX5_init, cX5_init, 2, none, [])
theorem yoX5_init : zY mX5_init 1 := ⟨by decide +kernel, zIn 62 (by decide +kernel) (by decide +kernel), zIn 15 (by decide +kernel) (by decide +kernel), by decide +kernel⟩
theorem yiX5_init : Cond.instanceMethod yX5_init ∈ zTs := zIn 61 (by decide +kernel) (by decide +kernel)
abbrev mX6_init : zM := (yX6_init, cX6_init, 1, none, [])
theorem yoX6_init : zY mX6_init 0 := ⟨by decide +kernel, zIn 68 (by decide +kernel) (by decide +kernel), zIn 16 (by decide +kernel) (by decide +kernel), by decide +kernel⟩
theorem yiX6_init : Cond.instanceMethod yX6_init ∈ zTs := zIn 67 (by decide +kernel) (by decide +kernel)
abbrev mX6_begin : zM := (yX6_begin, cX6_begin, 4, none, [])
theorem yoX6_begin : zY mX6_begin 3 := ⟨by decide +kernel, zIn 73 (by decide +kernel) (by decide +kernel), zIn 16 (by decide +kernel) (by decide +kernel), by decide +kernel⟩
theorem yiX6_begin : Cond.instanceMethod yX6_begin ∈ zTs := zIn 71 (by decide +kernel) (by decide +kernel)
theorem yvX6_begin : zYv mX6_begin := ⟨yiX6_begin, zIn 72 (by decide +kernel) (by decide +kernel)⟩
abbrev mX6_empty : zM := (yX6_empty, cX6_empty, 3, none, [])
theorem yoX6_empty : zY mX6_empty 1 := ⟨by decide +kernel, zIn 77 (by decide +kernel) (by decide +kernel), zIn 16 (by decide +kernel) (by decide +kernel), by decide +kernel⟩
theorem yiX6_empty : Cond.instanceMethod yX6_empty ∈ zTs := zIn 76 (by decide +kernel) (by decide +kernel)
theorem yvX6_empty : zYv mX6_empty := ⟨yiX6_empty, zIn 0 (by decide +kernel) (by decide +kernel)⟩
abbrev mX2_init : zM := (yX2_init, cX2_init, 2, none, [])
theorem yoX2_init : zY mX2_init 0 := ⟨by decide +kernel, zIn 174 (by decide +kernel) (by decide +kernel), zIn 17 (by decide +kernel) (by decide +kernel), by decide +kernel⟩
theorem yiX2_init : Cond.instanceMethod yX2_init ∈ zTs := zIn 173 (by decide +kernel) (by decide +kernel)
abbrev mX4_init : zM := (yX4_init, cX4_init, 1, none, [])
theorem yoX4_init : zY mX4_init 0 := ⟨by decide +kernel, zIn 194 (by decide +kernel) (by decide +kernel), zIn 18 (by decide +kernel) (by decide +kernel), by decide +kernel⟩
theorem yiX4_init : Cond.instanceMethod yX4_init ∈ zTs := zIn 193 (by decide +kernel) (by decide +kernel)
abbrev mX6_insert : zM := (yX6_insert, cX6_insert, 5, some .int, [])
theorem yoX6_insert : zY mX6_insert 2 := ⟨by decide +kernel, zIn 206 (by decide +kernel) (by decide +kernel), zIn 16 (by decide +kernel) (by decide +kernel), by decide +kernel⟩
theorem yiX6_insert : Cond.instanceMethod yX6_insert ∈ zTs := zIn 204 (by decide +kernel) (by decide +kernel)
theorem yvX6_insert : zYv mX6_insert := ⟨yiX6_insert, zIn 205 (by decide +kernel) (by decide +kernel)⟩
abbrev mX6_queueAll : zM := (yX6_queueAll, cX6_queueAll, 2, none, [])
theorem yoX6_queueAll : zY mX6_queueAll 0 := ⟨by decide +kernel, zIn 210 (by decide +kernel) (by decide +kernel), zIn 16 (by decide +kernel) (by decide +kernel), by decide +kernel⟩
theorem yiX6_queueAll : Cond.instanceMethod yX6_queueAll ∈ zTs := zIn 209 (by decide +kernel) (by decide +kernel)
theorem yvX6_queueAll : zYv mX6_queueAll := ⟨yiX6_queueAll, zIn 1 (by decide +kernel) (by decide +kernel)⟩
abbrev mX6_place : zM := (yX6_place, cX6_place, 7, some .int, [])
theorem yoX6_place : zY mX6_place 2 := ⟨by decide +kernel, zIn 214 (by decide +kernel) (by decide +kernel), zIn 16 (by decide +kernel) (by decide +kernel), by decide +kernel⟩
theorem yiX6_place : Cond.instanceMethod yX6_place ∈ zTs := zIn 213 (by decide +kernel) (by decide +kernel)
theorem yvX6_place : zYv mX6_place := ⟨yiX6_place, zIn 2 (by decide +kernel) (by decide +kernel)⟩
abbrev mX6_homeFor : zM := (yX6_homeFor, cX6_homeFor, 2, some .int, [])
theorem yoX6_homeFor : zY mX6_homeFor 1 := ⟨by decide +kernel, zIn 218 (by decide +kernel) (by decide +kernel), zIn 16 (by decide +kernel) (by decide +kernel), by decide +kernel⟩
theorem yiX6_homeFor : Cond.instanceMethod yX6_homeFor ∈ zTs := zIn 216 (by decide +kernel) (by decide +kernel)
theorem yvX6_homeFor : zYv mX6_homeFor := ⟨yiX6_homeFor, zIn 217 (by decide +kernel) (by decide +kernel)⟩
abbrev mX6_stepsToFree : zM := (yX6_stepsToFree, cX6_stepsToFree, 3, some .int, [])
theorem yoX6_stepsToFree : zY mX6_stepsToFree 1 := ⟨by decide +kernel, zIn 222 (by decide +kernel) (by decide +kernel), zIn 16 (by decide +kernel) (by decide +kernel), by decide +kernel⟩
theorem yiX6_stepsToFree : Cond.instanceMethod yX6_stepsToFree ∈ zTs := zIn 220 (by decide +kernel) (by decide +kernel)
theorem yvX6_stepsToFree : zYv mX6_stepsToFree := ⟨yiX6_stepsToFree, zIn 221 (by decide +kernel) (by decide +kernel)⟩
abbrev mX6_keyIn : zM := (yX6_keyIn, cX6_keyIn, 2, some .int, [])
theorem yoX6_keyIn : zY mX6_keyIn 1 := ⟨by decide +kernel, zIn 226 (by decide +kernel) (by decide +kernel), zIn 16 (by decide +kernel) (by decide +kernel), by decide +kernel⟩
theorem yiX6_keyIn : Cond.instanceMethod yX6_keyIn ∈ zTs := zIn 224 (by decide +kernel) (by decide +kernel)
theorem yvX6_keyIn : zYv mX6_keyIn := ⟨yiX6_keyIn, zIn 225 (by decide +kernel) (by decide +kernel)⟩
abbrev mX6_displaceInto : zM := (yX6_displaceInto, cX6_displaceInto, 5, some .int, [])
theorem yoX6_displaceInto : zY mX6_displaceInto 1 := ⟨by decide +kernel, zIn 230 (by decide +kernel) (by decide +kernel), zIn 16 (by decide +kernel) (by decide +kernel), by decide +kernel⟩
theorem yiX6_displaceInto : Cond.instanceMethod yX6_displaceInto ∈ zTs := zIn 229 (by decide +kernel) (by decide +kernel)
theorem yvX6_displaceInto : zYv mX6_displaceInto := ⟨yiX6_displaceInto, zIn 3 (by decide +kernel) (by decide +kernel)⟩
abbrev mX6_hopsIn : zM := (yX6_hopsIn, cX6_hopsIn, 2, some .int, [])
theorem yoX6_hopsIn : zY mX6_hopsIn 1 := ⟨by decide +kernel, zIn 234 (by decide +kernel) (by decide +kernel), zIn 16 (by decide +kernel) (by decide +kernel), by decide +kernel⟩
theorem yiX6_hopsIn : Cond.instanceMethod yX6_hopsIn ∈ zTs := zIn 232 (by decide +kernel) (by decide +kernel)
theorem yvX6_hopsIn : zYv mX6_hopsIn := ⟨yiX6_hopsIn, zIn 233 (by decide +kernel) (by decide +kernel)⟩
abbrev mX6_shift : zM := (yX6_shift, cX6_shift, 6, none, [])
theorem yoX6_shift : zY mX6_shift 3 := ⟨by decide +kernel, zIn 238 (by decide +kernel) (by decide +kernel), zIn 16 (by decide +kernel) (by decide +kernel), by decide +kernel⟩
theorem yiX6_shift : Cond.instanceMethod yX6_shift ∈ zTs := zIn 237 (by decide +kernel) (by decide +kernel)
theorem yvX6_shift : zYv mX6_shift := ⟨yiX6_shift, zIn 4 (by decide +kernel) (by decide +kernel)⟩
abbrev mX6_hasBucket : zM := (yX6_hasBucket, cX6_hasBucket, 2, some .boolean, [])
theorem yoX6_hasBucket : zY mX6_hasBucket 1 := ⟨by decide +kernel, zIn 242 (by decide +kernel) (by decide +kernel), zIn 16 (by decide +kernel) (by decide +kernel), by decide +kernel⟩
theorem yiX6_hasBucket : Cond.instanceMethod yX6_hasBucket ∈ zTs := zIn 240 (by decide +kernel) (by decide +kernel)
theorem yvX6_hasBucket : zYv mX6_hasBucket := ⟨yiX6_hasBucket, zIn 241 (by decide +kernel) (by decide +kernel)⟩
abbrev mX6_build : zM := (yX6_build, cX6_build, 3, some .boolean, [])
theorem yoX6_build : zY mX6_build 1 := ⟨by decide +kernel, zIn 246 (by decide +kernel) (by decide +kernel), zIn 16 (by decide +kernel) (by decide +kernel), by decide +kernel⟩
theorem yiX6_build : Cond.instanceMethod yX6_build ∈ zTs := zIn 245 (by decide +kernel) (by decide +kernel)
theorem yvX6_build : zYv mX6_build := ⟨yiX6_build, zIn 5 (by decide +kernel) (by decide +kernel)⟩
abbrev mX6_take : zM := (yX6_take, cX6_take, 5, some .int, [])
theorem yoX6_take : zY mX6_take 1 := ⟨by decide +kernel, zIn 250 (by decide +kernel) (by decide +kernel), zIn 16 (by decide +kernel) (by decide +kernel), by decide +kernel⟩
theorem yiX6_take : Cond.instanceMethod yX6_take ∈ zTs := zIn 248 (by decide +kernel) (by decide +kernel)
theorem yvX6_take : zYv mX6_take := ⟨yiX6_take, zIn 249 (by decide +kernel) (by decide +kernel)⟩
abbrev mX6_bucketWith : zM := (yX6_bucketWith, cX6_bucketWith, 5, some .int, [])
theorem yoX6_bucketWith : zY mX6_bucketWith 1 := ⟨by decide +kernel, zIn 254 (by decide +kernel) (by decide +kernel), zIn 16 (by decide +kernel) (by decide +kernel), by decide +kernel⟩
theorem yiX6_bucketWith : Cond.instanceMethod yX6_bucketWith ∈ zTs := zIn 252 (by decide +kernel) (by decide +kernel)
theorem yvX6_bucketWith : zYv mX6_bucketWith := ⟨yiX6_bucketWith, zIn 253 (by decide +kernel) (by decide +kernel)⟩
abbrev mX6_stepsFromHome : zM := (yX6_stepsFromHome, cX6_stepsFromHome, 3, some .int, [])
theorem yoX6_stepsFromHome : zY mX6_stepsFromHome 1 := ⟨by decide +kernel, zIn 258 (by decide +kernel) (by decide +kernel), zIn 16 (by decide +kernel) (by decide +kernel), by decide +kernel⟩
theorem yiX6_stepsFromHome : Cond.instanceMethod yX6_stepsFromHome ∈ zTs := zIn 256 (by decide +kernel) (by decide +kernel)
theorem yvX6_stepsFromHome : zYv mX6_stepsFromHome := ⟨yiX6_stepsFromHome, zIn 257 (by decide +kernel) (by decide +kernel)⟩
abbrev mX6_pullFrom : zM := (yX6_pullFrom, cX6_pullFrom, 5, none, [])
theorem yoX6_pullFrom : zY mX6_pullFrom 1 := ⟨by decide +kernel, zIn 262 (by decide +kernel) (by decide +kernel), zIn 16 (by decide +kernel) (by decide +kernel), by decide +kernel⟩
theorem yiX6_pullFrom : Cond.instanceMethod yX6_pullFrom ∈ zTs := zIn 261 (by decide +kernel) (by decide +kernel)
theorem yvX6_pullFrom : zYv mX6_pullFrom := ⟨yiX6_pullFrom, zIn 6 (by decide +kernel) (by decide +kernel)⟩
abbrev mX6_pullInto : zM := (yX6_pullInto, cX6_pullInto, 5, some .int, [])
theorem yoX6_pullInto : zY mX6_pullInto 1 := ⟨by decide +kernel, zIn 266 (by decide +kernel) (by decide +kernel), zIn 16 (by decide +kernel) (by decide +kernel), by decide +kernel⟩
theorem yiX6_pullInto : Cond.instanceMethod yX6_pullInto ∈ zTs := zIn 265 (by decide +kernel) (by decide +kernel)
theorem yvX6_pullInto : zYv mX6_pullInto := ⟨yiX6_pullInto, zIn 7 (by decide +kernel) (by decide +kernel)⟩
abbrev mX7_undo : zM := (yX7_undo, cX7_undo, 1, some .int, [])
theorem yoX7_undo : zY mX7_undo 0 := ⟨by decide +kernel, zIn 295 (by decide +kernel) (by decide +kernel), zIn 13 (by decide +kernel) (by decide +kernel), by decide +kernel⟩
theorem yiX7_undo : Cond.instanceMethod yX7_undo ∈ zTs := zIn 293 (by decide +kernel) (by decide +kernel)
theorem yvX7_undo : zYv mX7_undo := ⟨yiX7_undo, zIn 294 (by decide +kernel) (by decide +kernel)⟩
abbrev mX2_goBack : zM := (yX2_goBack, cX2_goBack, 2, none, [])
theorem yoX2_goBack : zY mX2_goBack 1 := ⟨by decide +kernel, zIn 299 (by decide +kernel) (by decide +kernel), zIn 17 (by decide +kernel) (by decide +kernel), by decide +kernel⟩
theorem yiX2_goBack : Cond.instanceMethod yX2_goBack ∈ zTs := zIn 297 (by decide +kernel) (by decide +kernel)
theorem yvX2_goBack : zYv mX2_goBack := ⟨yiX2_goBack, zIn 298 (by decide +kernel) (by decide +kernel)⟩
abbrev mX2_takeBack : zM := (yX2_takeBack, cX2_takeBack, 3, none, [])
theorem yoX2_takeBack : zY mX2_takeBack 1 := ⟨by decide +kernel, zIn 303 (by decide +kernel) (by decide +kernel), zIn 17 (by decide +kernel) (by decide +kernel), by decide +kernel⟩
theorem yiX2_takeBack : Cond.instanceMethod yX2_takeBack ∈ zTs := zIn 301 (by decide +kernel) (by decide +kernel)
theorem yvX2_takeBack : zYv mX2_takeBack := ⟨yiX2_takeBack, zIn 302 (by decide +kernel) (by decide +kernel)⟩
abbrev mX2_nextPlace : zM := (yX2_nextPlace, cX2_nextPlace, 1, some (.object "NeighbourHash$Table"), [])
theorem yoX2_nextPlace : zY mX2_nextPlace 0 := ⟨by decide +kernel, zIn 307 (by decide +kernel) (by decide +kernel), zIn 17 (by decide +kernel) (by decide +kernel), by decide +kernel⟩
theorem yiX2_nextPlace : Cond.instanceMethod yX2_nextPlace ∈ zTs := zIn 306 (by decide +kernel) (by decide +kernel)
theorem yvX2_nextPlace : zYv mX2_nextPlace := ⟨yiX2_nextPlace, zIn 8 (by decide +kernel) (by decide +kernel)⟩
abbrev mX6_copyFrom : zM := (yX6_copyFrom, cX6_copyFrom, 2, none, [])
theorem yoX6_copyFrom : zY mX6_copyFrom 1 := ⟨by decide +kernel, zIn 311 (by decide +kernel) (by decide +kernel), zIn 16 (by decide +kernel) (by decide +kernel), by decide +kernel⟩
theorem yiX6_copyFrom : Cond.instanceMethod yX6_copyFrom ∈ zTs := zIn 309 (by decide +kernel) (by decide +kernel)
theorem yvX6_copyFrom : zYv mX6_copyFrom := ⟨yiX6_copyFrom, zIn 310 (by decide +kernel) (by decide +kernel)⟩
abbrev mX7_undoCount : zM := (yX7_undoCount, cX7_undoCount, 1, some .int, [])
theorem yoX7_undoCount : zY mX7_undoCount 0 := ⟨by decide +kernel, zIn 318 (by decide +kernel) (by decide +kernel), zIn 13 (by decide +kernel) (by decide +kernel), by decide +kernel⟩
theorem yiX7_undoCount : Cond.instanceMethod yX7_undoCount ∈ zTs := zIn 316 (by decide +kernel) (by decide +kernel)
theorem yvX7_undoCount : zYv mX7_undoCount := ⟨yiX7_undoCount, zIn 317 (by decide +kernel) (by decide +kernel)⟩
abbrev mL_cell : zM := (yL_cell, cL_cell, 2, some .int, [])
theorem yoL_cell : zY mL_cell 2 := ⟨by decide +kernel, zIn 321 (by decide +kernel) (by decide +kernel), zIn 12 (by decide +kernel) (by decide +kernel), by decide +kernel⟩
theorem ysL_cell : Cond.static yL_cell ∈ zTs := zIn 320 (by decide +kernel) (by decide +kernel)
abbrev mL_deed : zM := (yL_deed, cL_deed, 8, none, [])
theorem yoL_deed : zY mL_deed 2 := ⟨by decide +kernel, zIn 324 (by decide +kernel) (by decide +kernel), zIn 12 (by decide +kernel) (by decide +kernel), by decide +kernel⟩
theorem ysL_deed : Cond.static yL_deed ∈ zTs := zIn 323 (by decide +kernel) (by decide +kernel)
abbrev mL_entry : zM := (yL_entry, cL_entry, 4, some .int, [])
theorem yoL_entry : zY mL_entry 2 := ⟨by decide +kernel, zIn 327 (by decide +kernel) (by decide +kernel), zIn 12 (by decide +kernel) (by decide +kernel), by decide +kernel⟩
theorem ysL_entry : Cond.static yL_entry ∈ zTs := zIn 326 (by decide +kernel) (by decide +kernel)
abbrev mX7_entryCount : zM := (yX7_entryCount, cX7_entryCount, 1, some .int, [])
theorem yoX7_entryCount : zY mX7_entryCount 0 := ⟨by decide +kernel, zIn 331 (by decide +kernel) (by decide +kernel), zIn 13 (by decide +kernel) (by decide +kernel), by decide +kernel⟩
theorem yiX7_entryCount : Cond.instanceMethod yX7_entryCount ∈ zTs := zIn 329 (by decide +kernel) (by decide +kernel)
theorem yvX7_entryCount : zYv mX7_entryCount := ⟨yiX7_entryCount, zIn 330 (by decide +kernel) (by decide +kernel)⟩
abbrev mX7_bucketCount : zM := (yX7_bucketCount, cX7_bucketCount, 1, some .int, [])
theorem yoX7_bucketCount : zY mX7_bucketCount 0 := ⟨by decide +kernel, zIn 335 (by decide +kernel) (by decide +kernel), zIn 13 (by decide +kernel) (by decide +kernel), by decide +kernel⟩
theorem yiX7_bucketCount : Cond.instanceMethod yX7_bucketCount ∈ zTs := zIn 333 (by decide +kernel) (by decide +kernel)
theorem yvX7_bucketCount : zYv mX7_bucketCount := ⟨yiX7_bucketCount, zIn 334 (by decide +kernel) (by decide +kernel)⟩
abbrev mX7_keyAt : zM := (yX7_keyAt, cX7_keyAt, 2, some .int, [])
theorem yoX7_keyAt : zY mX7_keyAt 1 := ⟨by decide +kernel, zIn 339 (by decide +kernel) (by decide +kernel), zIn 13 (by decide +kernel) (by decide +kernel), by decide +kernel⟩
theorem yiX7_keyAt : Cond.instanceMethod yX7_keyAt ∈ zTs := zIn 337 (by decide +kernel) (by decide +kernel)
theorem yvX7_keyAt : zYv mX7_keyAt := ⟨yiX7_keyAt, zIn 338 (by decide +kernel) (by decide +kernel)⟩
abbrev mX7_needBucket : zM := (yX7_needBucket, cX7_needBucket, 2, none, [])
theorem yoX7_needBucket : zY mX7_needBucket 1 := ⟨by decide +kernel, zIn 343 (by decide +kernel) (by decide +kernel), zIn 13 (by decide +kernel) (by decide +kernel), by decide +kernel⟩
theorem yiX7_needBucket : Cond.instanceMethod yX7_needBucket ∈ zTs := zIn 342 (by decide +kernel) (by decide +kernel)
theorem yvX7_needBucket : zYv mX7_needBucket := ⟨yiX7_needBucket, zIn 9 (by decide +kernel) (by decide +kernel)⟩
abbrev mX7_whyNoAdd : zM := (yX7_whyNoAdd, cX7_whyNoAdd, 2, some .int, [])
theorem yoX7_whyNoAdd : zY mX7_whyNoAdd 1 := ⟨by decide +kernel, zIn 418 (by decide +kernel) (by decide +kernel), zIn 13 (by decide +kernel) (by decide +kernel), by decide +kernel⟩
theorem yiX7_whyNoAdd : Cond.instanceMethod yX7_whyNoAdd ∈ zTs := zIn 416 (by decide +kernel) (by decide +kernel)
theorem yvX7_whyNoAdd : zYv mX7_whyNoAdd := ⟨yiX7_whyNoAdd, zIn 417 (by decide +kernel) (by decide +kernel)⟩
abbrev mX7_needKey : zM := (yX7_needKey, cX7_needKey, 1, none, [])
theorem yoX7_needKey : zY mX7_needKey 1 := ⟨by decide +kernel, zIn 421 (by decide +kernel) (by decide +kernel), zIn 13 (by decide +kernel) (by decide +kernel), by decide +kernel⟩
theorem ysX7_needKey : Cond.static yX7_needKey ∈ zTs := zIn 420 (by decide +kernel) (by decide +kernel)
abbrev mX7_isKey : zM := (yX7_isKey, cX7_isKey, 1, some .boolean, [])
theorem yoX7_isKey : zY mX7_isKey 1 := ⟨by decide +kernel, zIn 424 (by decide +kernel) (by decide +kernel), zIn 13 (by decide +kernel) (by decide +kernel), by decide +kernel⟩
theorem ysX7_isKey : Cond.static yX7_isKey ∈ zTs := zIn 423 (by decide +kernel) (by decide +kernel)
abbrev mX7_tryToInsert : zM := (yX7_tryToInsert, cX7_tryToInsert, 2, some .int, [])
theorem yoX7_tryToInsert : zY mX7_tryToInsert 1 := ⟨by decide +kernel, zIn 445 (by decide +kernel) (by decide +kernel), zIn 13 (by decide +kernel) (by decide +kernel), by decide +kernel⟩
theorem yiX7_tryToInsert : Cond.instanceMethod yX7_tryToInsert ∈ zTs := zIn 444 (by decide +kernel) (by decide +kernel)
theorem yvX7_tryToInsert : zYv mX7_tryToInsert := ⟨yiX7_tryToInsert, zIn 11 (by decide +kernel) (by decide +kernel)⟩
abbrev mX7_add : zM := (yX7_add, cX7_add, 4, some .int, [])
theorem yoX7_add : zY mX7_add 2 := ⟨by decide +kernel, zIn 450 (by decide +kernel) (by decide +kernel), zIn 13 (by decide +kernel) (by decide +kernel), by decide +kernel⟩
theorem yiX7_add : Cond.instanceMethod yX7_add ∈ zTs := zIn 448 (by decide +kernel) (by decide +kernel)
theorem yvX7_add : zYv mX7_add := ⟨yiX7_add, zIn 449 (by decide +kernel) (by decide +kernel)⟩
abbrev mX7_needValue : zM := (yX7_needValue, cX7_needValue, 1, none, [])
theorem yoX7_needValue : zY mX7_needValue 1 := ⟨by decide +kernel, zIn 453 (by decide +kernel) (by decide +kernel), zIn 13 (by decide +kernel) (by decide +kernel), by decide +kernel⟩
theorem ysX7_needValue : Cond.static yX7_needValue ∈ zTs := zIn 452 (by decide +kernel) (by decide +kernel)
abbrev mX7_isValue : zM := (yX7_isValue, cX7_isValue, 1, some .boolean, [])
theorem yoX7_isValue : zY mX7_isValue 1 := ⟨by decide +kernel, zIn 456 (by decide +kernel) (by decide +kernel), zIn 13 (by decide +kernel) (by decide +kernel), by decide +kernel⟩
theorem ysX7_isValue : Cond.static yX7_isValue ∈ zTs := zIn 455 (by decide +kernel) (by decide +kernel)
abbrev mX2_mark : zM := (yX2_mark, cX2_mark, 3, none, [])
theorem yoX2_mark : zY mX2_mark 1 := ⟨by decide +kernel, zIn 477 (by decide +kernel) (by decide +kernel), zIn 17 (by decide +kernel) (by decide +kernel), by decide +kernel⟩
theorem yiX2_mark : Cond.instanceMethod yX2_mark ∈ zTs := zIn 475 (by decide +kernel) (by decide +kernel)
theorem yvX2_mark : zYv mX2_mark := ⟨yiX2_mark, zIn 476 (by decide +kernel) (by decide +kernel)⟩
abbrev mX2_keep : zM := (yX2_keep, cX2_keep, 1, none, [])
theorem yoX2_keep : zY mX2_keep 0 := ⟨by decide +kernel, zIn 483 (by decide +kernel) (by decide +kernel), zIn 17 (by decide +kernel) (by decide +kernel), by decide +kernel⟩
theorem yiX2_keep : Cond.instanceMethod yX2_keep ∈ zTs := zIn 481 (by decide +kernel) (by decide +kernel)
theorem yvX2_keep : zYv mX2_keep := ⟨yiX2_keep, zIn 482 (by decide +kernel) (by decide +kernel)⟩
abbrev mX7_put : zM := (yX7_put, cX7_put, 4, some .int, [])
theorem yoX7_put : zY mX7_put 2 := ⟨by decide +kernel, zIn 490 (by decide +kernel) (by decide +kernel), zIn 13 (by decide +kernel) (by decide +kernel), by decide +kernel⟩
theorem yiX7_put : Cond.instanceMethod yX7_put ∈ zTs := zIn 488 (by decide +kernel) (by decide +kernel)
theorem yvX7_put : zYv mX7_put := ⟨yiX7_put, zIn 489 (by decide +kernel) (by decide +kernel)⟩
abbrev mX6_valueIn : zM := (yX6_valueIn, cX6_valueIn, 2, some .int, [])
theorem yoX6_valueIn : zY mX6_valueIn 1 := ⟨by decide +kernel, zIn 494 (by decide +kernel) (by decide +kernel), zIn 16 (by decide +kernel) (by decide +kernel), by decide +kernel⟩
theorem yiX6_valueIn : Cond.instanceMethod yX6_valueIn ∈ zTs := zIn 492 (by decide +kernel) (by decide +kernel)
theorem yvX6_valueIn : zYv mX6_valueIn := ⟨yiX6_valueIn, zIn 493 (by decide +kernel) (by decide +kernel)⟩
abbrev mX6_store : zM := (yX6_store, cX6_store, 4, some .boolean, [])
theorem yoX6_store : zY mX6_store 2 := ⟨by decide +kernel, zIn 498 (by decide +kernel) (by decide +kernel), zIn 16 (by decide +kernel) (by decide +kernel), by decide +kernel⟩
theorem yiX6_store : Cond.instanceMethod yX6_store ∈ zTs := zIn 496 (by decide +kernel) (by decide +kernel)
theorem yvX6_store : zYv mX6_store := ⟨yiX6_store, zIn 497 (by decide +kernel) (by decide +kernel)⟩
abbrev mX7_remove : zM := (yX7_remove, cX7_remove, 3, some .int, [])
theorem yoX7_remove : zY mX7_remove 1 := ⟨by decide +kernel, zIn 503 (by decide +kernel) (by decide +kernel), zIn 13 (by decide +kernel) (by decide +kernel), by decide +kernel⟩
theorem yiX7_remove : Cond.instanceMethod yX7_remove ∈ zTs := zIn 501 (by decide +kernel) (by decide +kernel)
theorem yvX7_remove : zYv mX7_remove := ⟨yiX7_remove, zIn 502 (by decide +kernel) (by decide +kernel)⟩
abbrev mX7_bucketsWith : zM := (yX7_bucketsWith, cX7_bucketsWith, 2, some .int, [])
theorem yoX7_bucketsWith : zY mX7_bucketsWith 1 := ⟨by decide +kernel, zIn 523 (by decide +kernel) (by decide +kernel), zIn 13 (by decide +kernel) (by decide +kernel), by decide +kernel⟩
theorem yiX7_bucketsWith : Cond.instanceMethod yX7_bucketsWith ∈ zTs := zIn 521 (by decide +kernel) (by decide +kernel)
theorem yvX7_bucketsWith : zYv mX7_bucketsWith := ⟨yiX7_bucketsWith, zIn 522 (by decide +kernel) (by decide +kernel)⟩
abbrev mX7_isNear : zM := (yX7_isNear, cX7_isNear, 1, some .boolean, [])
theorem yoX7_isNear : zY mX7_isNear 1 := ⟨by decide +kernel, zIn 526 (by decide +kernel) (by decide +kernel), zIn 13 (by decide +kernel) (by decide +kernel), by decide +kernel⟩
theorem ysX7_isNear : Cond.static yX7_isNear ∈ zTs := zIn 525 (by decide +kernel) (by decide +kernel)
abbrev mX6_changeNear : zM := (yX6_changeNear, cX6_changeNear, 2, some .boolean, [])
theorem yoX6_changeNear : zY mX6_changeNear 1 := ⟨by decide +kernel, zIn 531 (by decide +kernel) (by decide +kernel), zIn 16 (by decide +kernel) (by decide +kernel), by decide +kernel⟩
theorem yiX6_changeNear : Cond.instanceMethod yX6_changeNear ∈ zTs := zIn 529 (by decide +kernel) (by decide +kernel)
theorem yvX6_changeNear : zYv mX6_changeNear := ⟨yiX6_changeNear, zIn 530 (by decide +kernel) (by decide +kernel)⟩
abbrev mX6_buildAnew : zM := (yX6_buildAnew, cX6_buildAnew, 3, some .boolean, [])
theorem yoX6_buildAnew : zY mX6_buildAnew 1 := ⟨by decide +kernel, zIn 535 (by decide +kernel) (by decide +kernel), zIn 16 (by decide +kernel) (by decide +kernel), by decide +kernel⟩
theorem yiX6_buildAnew : Cond.instanceMethod yX6_buildAnew ∈ zTs := zIn 533 (by decide +kernel) (by decide +kernel)
theorem yvX6_buildAnew : zYv mX6_buildAnew := ⟨yiX6_buildAnew, zIn 534 (by decide +kernel) (by decide +kernel)⟩
abbrev mX7_setNeighbourhood : zM := (yX7_setNeighbourhood, cX7_setNeighbourhood, 2, some .int, [])
theorem yoX7_setNeighbourhood : zY mX7_setNeighbourhood 1 := ⟨by decide +kernel, zIn 539 (by decide +kernel) (by decide +kernel), zIn 13 (by decide +kernel) (by decide +kernel), by decide +kernel⟩
theorem yiX7_setNeighbourhood : Cond.instanceMethod yX7_setNeighbourhood ∈ zTs := zIn 537 (by decide +kernel) (by decide +kernel)
theorem yvX7_setNeighbourhood : zYv mX7_setNeighbourhood := ⟨yiX7_setNeighbourhood, zIn 538 (by decide +kernel) (by decide +kernel)⟩
abbrev mX7_bestMultiplier : zM := (yX7_bestMultiplier, cX7_bestMultiplier, 6, some .int, [])
theorem yoX7_bestMultiplier : zY mX7_bestMultiplier 1 := ⟨by decide +kernel, zIn 544 (by decide +kernel) (by decide +kernel), zIn 13 (by decide +kernel) (by decide +kernel), by decide +kernel⟩
theorem yiX7_bestMultiplier : Cond.instanceMethod yX7_bestMultiplier ∈ zTs := zIn 542 (by decide +kernel) (by decide +kernel)
theorem yvX7_bestMultiplier : zYv mX7_bestMultiplier := ⟨yiX7_bestMultiplier, zIn 543 (by decide +kernel) (by decide +kernel)⟩
abbrev mX6_changeTimes : zM := (yX6_changeTimes, cX6_changeTimes, 2, some .boolean, [])
theorem yoX6_changeTimes : zY mX6_changeTimes 1 := ⟨by decide +kernel, zIn 549 (by decide +kernel) (by decide +kernel), zIn 16 (by decide +kernel) (by decide +kernel), by decide +kernel⟩
theorem yiX6_changeTimes : Cond.instanceMethod yX6_changeTimes ∈ zTs := zIn 547 (by decide +kernel) (by decide +kernel)
theorem yvX6_changeTimes : zYv mX6_changeTimes := ⟨yiX6_changeTimes, zIn 548 (by decide +kernel) (by decide +kernel)⟩
abbrev mX6_sumOfSteps : zM := (yX6_sumOfSteps, cX6_sumOfSteps, 3, some .int, [])
theorem yoX6_sumOfSteps : zY mX6_sumOfSteps 0 := ⟨by decide +kernel, zIn 553 (by decide +kernel) (by decide +kernel), zIn 16 (by decide +kernel) (by decide +kernel), by decide +kernel⟩
theorem yiX6_sumOfSteps : Cond.instanceMethod yX6_sumOfSteps ∈ zTs := zIn 551 (by decide +kernel) (by decide +kernel)
theorem yvX6_sumOfSteps : zYv mX6_sumOfSteps := ⟨yiX6_sumOfSteps, zIn 552 (by decide +kernel) (by decide +kernel)⟩
abbrev mX7_setMultiplier : zM := (yX7_setMultiplier, cX7_setMultiplier, 2, some .int, [])
theorem yoX7_setMultiplier : zY mX7_setMultiplier 1 := ⟨by decide +kernel, zIn 560 (by decide +kernel) (by decide +kernel), zIn 13 (by decide +kernel) (by decide +kernel), by decide +kernel⟩
theorem yiX7_setMultiplier : Cond.instanceMethod yX7_setMultiplier ∈ zTs := zIn 558 (by decide +kernel) (by decide +kernel)
theorem yvX7_setMultiplier : zYv mX7_setMultiplier := ⟨yiX7_setMultiplier, zIn 559 (by decide +kernel) (by decide +kernel)⟩
abbrev mX7_isTimes : zM := (yX7_isTimes, cX7_isTimes, 1, some .boolean, [])
theorem yoX7_isTimes : zY mX7_isTimes 1 := ⟨by decide +kernel, zIn 563 (by decide +kernel) (by decide +kernel), zIn 13 (by decide +kernel) (by decide +kernel), by decide +kernel⟩
theorem ysX7_isTimes : Cond.static yX7_isTimes ∈ zTs := zIn 562 (by decide +kernel) (by decide +kernel)
abbrev mX7_setPulling : zM := (yX7_setPulling, cX7_setPulling, 3, some .boolean, [])
theorem yoX7_setPulling : zY mX7_setPulling 1 := ⟨by decide +kernel, zIn 568 (by decide +kernel) (by decide +kernel), zIn 13 (by decide +kernel) (by decide +kernel), by decide +kernel⟩
theorem yiX7_setPulling : Cond.instanceMethod yX7_setPulling ∈ zTs := zIn 566 (by decide +kernel) (by decide +kernel)
theorem yvX7_setPulling : zYv mX7_setPulling := ⟨yiX7_setPulling, zIn 567 (by decide +kernel) (by decide +kernel)⟩
abbrev mX7_grow : zM := (yX7_grow, cX7_grow, 1, some .int, [])
theorem yoX7_grow : zY mX7_grow 0 := ⟨by decide +kernel, zIn 572 (by decide +kernel) (by decide +kernel), zIn 13 (by decide +kernel) (by decide +kernel), by decide +kernel⟩
theorem yiX7_grow : Cond.instanceMethod yX7_grow ∈ zTs := zIn 570 (by decide +kernel) (by decide +kernel)
theorem yvX7_grow : zYv mX7_grow := ⟨yiX7_grow, zIn 571 (by decide +kernel) (by decide +kernel)⟩
abbrev mX7_clear : zM := (yX7_clear, cX7_clear, 2, some .int, [])
theorem yoX7_clear : zY mX7_clear 0 := ⟨by decide +kernel, zIn 577 (by decide +kernel) (by decide +kernel), zIn 13 (by decide +kernel) (by decide +kernel), by decide +kernel⟩
theorem yiX7_clear : Cond.instanceMethod yX7_clear ∈ zTs := zIn 575 (by decide +kernel) (by decide +kernel)
theorem yvX7_clear : zYv mX7_clear := ⟨yiX7_clear, zIn 576 (by decide +kernel) (by decide +kernel)⟩
abbrev mX6_dropAll : zM := (yX6_dropAll, cX6_dropAll, 2, some .int, [])
theorem yoX6_dropAll : zY mX6_dropAll 0 := ⟨by decide +kernel, zIn 581 (by decide +kernel) (by decide +kernel), zIn 16 (by decide +kernel) (by decide +kernel), by decide +kernel⟩
theorem yiX6_dropAll : Cond.instanceMethod yX6_dropAll ∈ zTs := zIn 579 (by decide +kernel) (by decide +kernel)
theorem yvX6_dropAll : zYv mX6_dropAll := ⟨yiX6_dropAll, zIn 580 (by decide +kernel) (by decide +kernel)⟩
abbrev mL_holds : zM := (yL_holds, cL_holds, 10, some .boolean, [])
theorem yoL_holds : zY mL_holds 1 := ⟨by decide +kernel, zIn 584 (by decide +kernel) (by decide +kernel), zIn 12 (by decide +kernel) (by decide +kernel), by decide +kernel⟩
theorem ysL_holds : Cond.static yL_holds ∈ zTs := zIn 583 (by decide +kernel) (by decide +kernel)
abbrev mX7_neighbourhood : zM := (yX7_neighbourhood, cX7_neighbourhood, 1, some .int, [])
theorem yoX7_neighbourhood : zY mX7_neighbourhood 0 := ⟨by decide +kernel, zIn 588 (by decide +kernel) (by decide +kernel), zIn 13 (by decide +kernel) (by decide +kernel), by decide +kernel⟩
theorem yiX7_neighbourhood : Cond.instanceMethod yX7_neighbourhood ∈ zTs := zIn 586 (by decide +kernel) (by decide +kernel)
theorem yvX7_neighbourhood : zYv mX7_neighbourhood := ⟨yiX7_neighbourhood, zIn 587 (by decide +kernel) (by decide +kernel)⟩
abbrev mX7_violations : zM := (yX7_violations, cX7_violations, 2, some .int, [])
theorem yoX7_violations : zY mX7_violations 0 := ⟨by decide +kernel, zIn 592 (by decide +kernel) (by decide +kernel), zIn 13 (by decide +kernel) (by decide +kernel), by decide +kernel⟩
theorem yiX7_violations : Cond.instanceMethod yX7_violations ∈ zTs := zIn 590 (by decide +kernel) (by decide +kernel)
theorem yvX7_violations : zYv mX7_violations := ⟨yiX7_violations, zIn 591 (by decide +kernel) (by decide +kernel)⟩
abbrev mX6_strayEntries : zM := (yX6_strayEntries, cX6_strayEntries, 3, some .int, [])
theorem yoX6_strayEntries : zY mX6_strayEntries 0 := ⟨by decide +kernel, zIn 599 (by decide +kernel) (by decide +kernel), zIn 16 (by decide +kernel) (by decide +kernel), by decide +kernel⟩
theorem yiX6_strayEntries : Cond.instanceMethod yX6_strayEntries ∈ zTs := zIn 597 (by decide +kernel) (by decide +kernel)
theorem yvX6_strayEntries : zYv mX6_strayEntries := ⟨yiX6_strayEntries, zIn 598 (by decide +kernel) (by decide +kernel)⟩
abbrev mX6_wrongHops : zM := (yX6_wrongHops, cX6_wrongHops, 7, some .int, [])
theorem yoX6_wrongHops : zY mX6_wrongHops 0 := ⟨by decide +kernel, zIn 603 (by decide +kernel) (by decide +kernel), zIn 16 (by decide +kernel) (by decide +kernel), by decide +kernel⟩
theorem yiX6_wrongHops : Cond.instanceMethod yX6_wrongHops ∈ zTs := zIn 601 (by decide +kernel) (by decide +kernel)
theorem yvX6_wrongHops : zYv mX6_wrongHops := ⟨yiX6_wrongHops, zIn 602 (by decide +kernel) (by decide +kernel)⟩
abbrev mJ6_bitCount_0f7a4 : zM := (yJ6_bitCount_0f7a4, cJ6_bitCount_0f7a4, 1, some .int, [])
theorem yoJ6_bitCount_0f7a4 : zY mJ6_bitCount_0f7a4 1 := ⟨by decide +kernel, zIn 606 (by decide +kernel) (by decide +kernel), zIn 20 (by decide +kernel) (by decide +kernel), by decide +kernel⟩
theorem ysJ6_bitCount_0f7a4 : Cond.static yJ6_bitCount_0f7a4 ∈ zTs := zIn 605 (by decide +kernel) (by decide +kernel)
abbrev mX6_twins : zM := (yX6_twins, cX6_twins, 4, some .int, [])
theorem yoX6_twins : zY mX6_twins 0 := ⟨by decide +kernel, zIn 613 (by decide +kernel) (by decide +kernel), zIn 16 (by decide +kernel) (by decide +kernel), by decide +kernel⟩
theorem yiX6_twins : Cond.instanceMethod yX6_twins ∈ zTs := zIn 611 (by decide +kernel) (by decide +kernel)
theorem yvX6_twins : zYv mX6_twins := ⟨yiX6_twins, zIn 612 (by decide +kernel) (by decide +kernel)⟩
abbrev mX7_homeOf : zM := (yX7_homeOf, cX7_homeOf, 2, some .int, [])
theorem yoX7_homeOf : zY mX7_homeOf 1 := ⟨by decide +kernel, zIn 617 (by decide +kernel) (by decide +kernel), zIn 13 (by decide +kernel) (by decide +kernel), by decide +kernel⟩
theorem yiX7_homeOf : Cond.instanceMethod yX7_homeOf ∈ zTs := zIn 615 (by decide +kernel) (by decide +kernel)
theorem yvX7_homeOf : zYv mX7_homeOf := ⟨yiX7_homeOf, zIn 616 (by decide +kernel) (by decide +kernel)⟩
abbrev mX7_hopBits : zM := (yX7_hopBits, cX7_hopBits, 2, some .int, [])
theorem yoX7_hopBits : zY mX7_hopBits 1 := ⟨by decide +kernel, zIn 622 (by decide +kernel) (by decide +kernel), zIn 13 (by decide +kernel) (by decide +kernel), by decide +kernel⟩
theorem yiX7_hopBits : Cond.instanceMethod yX7_hopBits ∈ zTs := zIn 620 (by decide +kernel) (by decide +kernel)
theorem yvX7_hopBits : zYv mX7_hopBits := ⟨yiX7_hopBits, zIn 621 (by decide +kernel) (by decide +kernel)⟩
abbrev mX7_entriesOf : zM := (yX7_entriesOf, cX7_entriesOf, 2, some .int, [])
theorem yoX7_entriesOf : zY mX7_entriesOf 1 := ⟨by decide +kernel, zIn 627 (by decide +kernel) (by decide +kernel), zIn 13 (by decide +kernel) (by decide +kernel), by decide +kernel⟩
theorem yiX7_entriesOf : Cond.instanceMethod yX7_entriesOf ∈ zTs := zIn 625 (by decide +kernel) (by decide +kernel)
theorem yvX7_entriesOf : zYv mX7_entriesOf := ⟨yiX7_entriesOf, zIn 626 (by decide +kernel) (by decide +kernel)⟩
abbrev mX7_valueAt : zM := (yX7_valueAt, cX7_valueAt, 2, some .int, [])
theorem yoX7_valueAt : zY mX7_valueAt 1 := ⟨by decide +kernel, zIn 632 (by decide +kernel) (by decide +kernel), zIn 13 (by decide +kernel) (by decide +kernel), by decide +kernel⟩
theorem yiX7_valueAt : Cond.instanceMethod yX7_valueAt ∈ zTs := zIn 630 (by decide +kernel) (by decide +kernel)
theorem yvX7_valueAt : zYv mX7_valueAt := ⟨yiX7_valueAt, zIn 631 (by decide +kernel) (by decide +kernel)⟩
abbrev mX7_distanceOf : zM := (yX7_distanceOf, cX7_distanceOf, 2, some .int, [])
theorem yoX7_distanceOf : zY mX7_distanceOf 1 := ⟨by decide +kernel, zIn 636 (by decide +kernel) (by decide +kernel), zIn 13 (by decide +kernel) (by decide +kernel), by decide +kernel⟩
theorem yiX7_distanceOf : Cond.instanceMethod yX7_distanceOf ∈ zTs := zIn 634 (by decide +kernel) (by decide +kernel)
theorem yvX7_distanceOf : zYv mX7_distanceOf := ⟨yiX7_distanceOf, zIn 635 (by decide +kernel) (by decide +kernel)⟩
abbrev mX7_bucketOf : zM := (yX7_bucketOf, cX7_bucketOf, 2, some .int, [])
theorem yoX7_bucketOf : zY mX7_bucketOf 1 := ⟨by decide +kernel, zIn 641 (by decide +kernel) (by decide +kernel), zIn 13 (by decide +kernel) (by decide +kernel), by decide +kernel⟩
theorem yiX7_bucketOf : Cond.instanceMethod yX7_bucketOf ∈ zTs := zIn 639 (by decide +kernel) (by decide +kernel)
theorem yvX7_bucketOf : zYv mX7_bucketOf := ⟨yiX7_bucketOf, zIn 640 (by decide +kernel) (by decide +kernel)⟩
abbrev mX7_valueOf : zM := (yX7_valueOf, cX7_valueOf, 2, some .int, [])
theorem yoX7_valueOf : zY mX7_valueOf 1 := ⟨by decide +kernel, zIn 645 (by decide +kernel) (by decide +kernel), zIn 13 (by decide +kernel) (by decide +kernel), by decide +kernel⟩
theorem yiX7_valueOf : Cond.instanceMethod yX7_valueOf ∈ zTs := zIn 643 (by decide +kernel) (by decide +kernel)
theorem yvX7_valueOf : zYv mX7_valueOf := ⟨yiX7_valueOf, zIn 644 (by decide +kernel) (by decide +kernel)⟩
abbrev mX7_sumOfDistances : zM := (yX7_sumOfDistances, cX7_sumOfDistances, 1, some .int, [])
theorem yoX7_sumOfDistances : zY mX7_sumOfDistances 0 := ⟨by decide +kernel, zIn 649 (by decide +kernel) (by decide +kernel), zIn 13 (by decide +kernel) (by decide +kernel), by decide +kernel⟩
theorem yiX7_sumOfDistances : Cond.instanceMethod yX7_sumOfDistances ∈ zTs := zIn 647 (by decide +kernel) (by decide +kernel)
theorem yvX7_sumOfDistances : zYv mX7_sumOfDistances := ⟨yiX7_sumOfDistances, zIn 648 (by decide +kernel) (by decide +kernel)⟩
abbrev mX7_addedCount : zM := (yX7_addedCount, cX7_addedCount, 1, some .int, [])
theorem yoX7_addedCount : zY mX7_addedCount 0 := ⟨by decide +kernel, zIn 653 (by decide +kernel) (by decide +kernel), zIn 13 (by decide +kernel) (by decide +kernel), by decide +kernel⟩
theorem yiX7_addedCount : Cond.instanceMethod yX7_addedCount ∈ zTs := zIn 651 (by decide +kernel) (by decide +kernel)
theorem yvX7_addedCount : zYv mX7_addedCount := ⟨yiX7_addedCount, zIn 652 (by decide +kernel) (by decide +kernel)⟩
abbrev mX7_removedCount : zM := (yX7_removedCount, cX7_removedCount, 1, some .int, [])
theorem yoX7_removedCount : zY mX7_removedCount 0 := ⟨by decide +kernel, zIn 657 (by decide +kernel) (by decide +kernel), zIn 13 (by decide +kernel) (by decide +kernel), by decide +kernel⟩
theorem yiX7_removedCount : Cond.instanceMethod yX7_removedCount ∈ zTs := zIn 655 (by decide +kernel) (by decide +kernel)
theorem yvX7_removedCount : zYv mX7_removedCount := ⟨yiX7_removedCount, zIn 656 (by decide +kernel) (by decide +kernel)⟩
abbrev mX7_longestDistance : zM := (yX7_longestDistance, cX7_longestDistance, 1, some .int, [])
theorem yoX7_longestDistance : zY mX7_longestDistance 0 := ⟨by decide +kernel, zIn 661 (by decide +kernel) (by decide +kernel), zIn 13 (by decide +kernel) (by decide +kernel), by decide +kernel⟩
theorem yiX7_longestDistance : Cond.instanceMethod yX7_longestDistance ∈ zTs := zIn 659 (by decide +kernel) (by decide +kernel)
theorem yvX7_longestDistance : zYv mX7_longestDistance := ⟨yiX7_longestDistance, zIn 660 (by decide +kernel) (by decide +kernel)⟩
abbrev mX6_mostSteps : zM := (yX6_mostSteps, cX6_mostSteps, 3, some .int, [])
theorem yoX6_mostSteps : zY mX6_mostSteps 0 := ⟨by decide +kernel, zIn 665 (by decide +kernel) (by decide +kernel), zIn 16 (by decide +kernel) (by decide +kernel), by decide +kernel⟩
theorem yiX6_mostSteps : Cond.instanceMethod yX6_mostSteps ∈ zTs := zIn 663 (by decide +kernel) (by decide +kernel)
theorem yvX6_mostSteps : zYv mX6_mostSteps := ⟨yiX6_mostSteps, zIn 664 (by decide +kernel) (by decide +kernel)⟩
abbrev mL_sum : zM := (yL_sum, cL_sum, 4, some .long, [])
theorem yoL_sum : zY mL_sum 1 := ⟨by decide +kernel, zIn 668 (by decide +kernel) (by decide +kernel), zIn 12 (by decide +kernel) (by decide +kernel), by decide +kernel⟩
theorem ysL_sum : Cond.static yL_sum ∈ zTs := zIn 667 (by decide +kernel) (by decide +kernel)
abbrev mX7_multiplier : zM := (yX7_multiplier, cX7_multiplier, 1, some .int, [])
theorem yoX7_multiplier : zY mX7_multiplier 0 := ⟨by decide +kernel, zIn 674 (by decide +kernel) (by decide +kernel), zIn 13 (by decide +kernel) (by decide +kernel), by decide +kernel⟩
theorem yiX7_multiplier : Cond.instanceMethod yX7_multiplier ∈ zTs := zIn 672 (by decide +kernel) (by decide +kernel)
theorem yvX7_multiplier : zYv mX7_multiplier := ⟨yiX7_multiplier, zIn 673 (by decide +kernel) (by decide +kernel)⟩
abbrev mX7_isPulling : zM := (yX7_isPulling, cX7_isPulling, 1, some .boolean, [])
theorem yoX7_isPulling : zY mX7_isPulling 0 := ⟨by decide +kernel, zIn 678 (by decide +kernel) (by decide +kernel), zIn 13 (by decide +kernel) (by decide +kernel), by decide +kernel⟩
theorem yiX7_isPulling : Cond.instanceMethod yX7_isPulling ∈ zTs := zIn 676 (by decide +kernel) (by decide +kernel)
theorem yvX7_isPulling : zYv mX7_isPulling := ⟨yiX7_isPulling, zIn 677 (by decide +kernel) (by decide +kernel)⟩
abbrev mX7_moves : zM := (yX7_moves, cX7_moves, 1, some .int, [])
theorem yoX7_moves : zY mX7_moves 0 := ⟨by decide +kernel, zIn 684 (by decide +kernel) (by decide +kernel), zIn 13 (by decide +kernel) (by decide +kernel), by decide +kernel⟩
theorem yiX7_moves : Cond.instanceMethod yX7_moves ∈ zTs := zIn 682 (by decide +kernel) (by decide +kernel)
theorem yvX7_moves : zYv mX7_moves := ⟨yiX7_moves, zIn 683 (by decide +kernel) (by decide +kernel)⟩
abbrev mX7_pulls : zM := (yX7_pulls, cX7_pulls, 1, some .int, [])
theorem yoX7_pulls : zY mX7_pulls 0 := ⟨by decide +kernel, zIn 689 (by decide +kernel) (by decide +kernel), zIn 13 (by decide +kernel) (by decide +kernel), by decide +kernel⟩
theorem yiX7_pulls : Cond.instanceMethod yX7_pulls ∈ zTs := zIn 687 (by decide +kernel) (by decide +kernel)
theorem yvX7_pulls : zYv mX7_pulls := ⟨yiX7_pulls, zIn 688 (by decide +kernel) (by decide +kernel)⟩
abbrev mX7_growths : zM := (yX7_growths, cX7_growths, 1, some .int, [])
theorem yoX7_growths : zY mX7_growths 0 := ⟨by decide +kernel, zIn 694 (by decide +kernel) (by decide +kernel), zIn 13 (by decide +kernel) (by decide +kernel), by decide +kernel⟩
theorem yiX7_growths : Cond.instanceMethod yX7_growths ∈ zTs := zIn 692 (by decide +kernel) (by decide +kernel)
theorem yvX7_growths : zYv mX7_growths := ⟨yiX7_growths, zIn 693 (by decide +kernel) (by decide +kernel)⟩
abbrev mL_isBuilt : zM := (yL_isBuilt, cL_isBuilt, 12, some .boolean, [])
theorem yoL_isBuilt : zY mL_isBuilt 3 := ⟨by decide +kernel, zIn 701 (by decide +kernel) (by decide +kernel), zIn 12 (by decide +kernel) (by decide +kernel), by decide +kernel⟩
theorem ysL_isBuilt : Cond.static yL_isBuilt ∈ zTs := zIn 700 (by decide +kernel) (by decide +kernel)
abbrev mL_content : zM := (yL_content, cL_content, 4, some .long, [])
theorem yoL_content : zY mL_content 1 := ⟨by decide +kernel, zIn 704 (by decide +kernel) (by decide +kernel), zIn 12 (by decide +kernel) (by decide +kernel), by decide +kernel⟩
theorem ysL_content : Cond.static yL_content ∈ zTs := zIn 703 (by decide +kernel) (by decide +kernel)
theorem lL_8 : Cond.classLink RL 8 "NeighbourHash" ∈ zTs := zIn 29 (by decide +kernel) (by decide +kernel)
theorem lL_152 : Cond.methodLink RL 152 yX7_init ∈ zTs := zIn 31 (by decide +kernel) (by decide +kernel)
theorem lX7_1 : Cond.methodLink RX7 1 ⟨"java/lang/Object", "<init>", "()V"⟩ ∈ zTs := zIn 34 (by decide +kernel) (by decide +kernel)
theorem lX7_7 : Cond.classLink RX7 7 "NeighbourHash$Input" ∈ zTs := zIn 37 (by decide +kernel) (by decide +kernel)
theorem lnX7_9 : Cond.methodLinkNest RX7 9 yX3_init "NeighbourHash" ∈ kN := by decide +kernel
theorem lX3_3 : Cond.methodLink RX3 3 ⟨"java/lang/Object", "<init>", "()V"⟩ ∈ zTs := zIn 42 (by decide +kernel) (by decide +kernel)
theorem fX3_11 : zF RX3 11 1 0 := ⟨RX3, TX3, 6, rfl, by decide, zIn 43 (by decide +kernel) (by decide +kernel), inX3⟩
theorem lX7_16 : Cond.classLink RX7 16 "NeighbourHash$Script" ∈ zTs := zIn 58 (by decide +kernel) (by decide +kernel)
theorem lX7_18 : Cond.methodLink RX7 18 yX5_init ∈ zTs := zIn 60 (by decide +kernel) (by decide +kernel)
theorem lX5_3 : Cond.methodLink RX5 3 ⟨"java/lang/Object", "<init>", "()V"⟩ ∈ zTs := zIn 63 (by decide +kernel) (by decide +kernel)
theorem lX5_9 : Cond.classLink RX5 9 "NeighbourHash$Table" ∈ zTs := zIn 64 (by decide +kernel) (by decide +kernel)
theorem lX5_11 : Cond.methodLink RX5 11 yX6_init ∈ zTs := zIn 66 (by decide +kernel) (by decide +kernel)
theorem lX6_3 : Cond.methodLink RX6 3 ⟨"java/lang/Object", "<init>", "()V"⟩ ∈ zTs := zIn 69 (by decide +kernel) (by decide +kernel)
theorem lX6_27 : Cond.methodLink RX6 27 yX6_begin ∈ zTs := zIn 70 (by decide +kernel) (by decide +kernel)
theorem lX6_54 : Cond.methodLink RX6 54 yX6_empty ∈ zTs := zIn 74 (by decide +kernel) (by decide +kernel)
theorem fX6_9 : zF RX6 9 4 0 := ⟨RX6, TX6, 16, rfl, by decide, zIn 78 (by decide +kernel) (by decide +kernel), inX6⟩
theorem fX6_15 : zF RX6 15 4 1 := ⟨RX6, TX6, 16, rfl, by decide, zIn 79 (by decide +kernel) (by decide +kernel), inX6⟩
theorem fX6_18 : zF RX6 18 4 2 := ⟨RX6, TX6, 16, rfl, by decide, zIn 80 (by decide +kernel) (by decide +kernel), inX6⟩
theorem fX6_21 : zF RX6 21 4 3 := ⟨RX6, TX6, 16, rfl, by decide, zIn 81 (by decide +kernel) (by decide +kernel), inX6⟩
theorem fX6_24 : zF RX6 24 4 4 := ⟨RX6, TX6, 16, rfl, by decide, zIn 82 (by decide +kernel) (by decide +kernel), inX6⟩
theorem fX6_106 : zF RX6 106 4 5 := ⟨RX6, TX6, 16, rfl, by decide, zIn 83 (by decide +kernel) (by decide +kernel), inX6⟩
theorem fX6_64 : zF RX6 64 4 6 := ⟨RX6, TX6, 16, rfl, by decide, zIn 84 (by decide +kernel) (by decide +kernel), inX6⟩
theorem fX7_178 : zF RX7 178 4 6 := ⟨RX6, TX6, 16, rfl, by decide, zIn 85 (by decide +kernel) (by decide +kernel), inX6⟩
theorem fX6_31 : zF RX6 31 4 7 := ⟨RX6, TX6, 16, rfl, by decide, zIn 86 (by decide +kernel) (by decide +kernel), inX6⟩
theorem fX7_207 : zF RX7 207 4 7 := ⟨RX6, TX6, 16, rfl, by decide, zIn 87 (by decide +kernel) (by decide +kernel), inX6⟩
theorem fX6_35 : zF RX6 35 4 8 := ⟨RX6, TX6, 16, rfl, by decide, zIn 88 (by decide +kernel) (by decide +kernel), inX6⟩
theorem fX7_210 : zF RX7 210 4 8 := ⟨RX6, TX6, 16, rfl, by decide, zIn 89 (by decide +kernel) (by decide +kernel), inX6⟩
theorem fX7_64 : zF RX7 64 4 9 := ⟨RX6, TX6, 16, rfl, by decide, zIn 90 (by decide +kernel) (by decide +kernel), inX6⟩
theorem fX6_38 : zF RX6 38 4 9 := ⟨RX6, TX6, 16, rfl, by decide, zIn 91 (by decide +kernel) (by decide +kernel), inX6⟩
theorem fX6_67 : zF RX6 67 4 10 := ⟨RX6, TX6, 16, rfl, by decide, zIn 92 (by decide +kernel) (by decide +kernel), inX6⟩
theorem fX7_115 : zF RX7 115 4 10 := ⟨RX6, TX6, 16, rfl, by decide, zIn 93 (by decide +kernel) (by decide +kernel), inX6⟩
theorem fX6_70 : zF RX6 70 4 11 := ⟨RX6, TX6, 16, rfl, by decide, zIn 94 (by decide +kernel) (by decide +kernel), inX6⟩
theorem fX7_257 : zF RX7 257 4 11 := ⟨RX6, TX6, 16, rfl, by decide, zIn 95 (by decide +kernel) (by decide +kernel), inX6⟩
theorem fX6_42 : zF RX6 42 4 12 := ⟨RX6, TX6, 16, rfl, by decide, zIn 96 (by decide +kernel) (by decide +kernel), inX6⟩
theorem fX7_260 : zF RX7 260 4 12 := ⟨RX6, TX6, 16, rfl, by decide, zIn 97 (by decide +kernel) (by decide +kernel), inX6⟩
theorem fX6_45 : zF RX6 45 4 13 := ⟨RX6, TX6, 16, rfl, by decide, zIn 98 (by decide +kernel) (by decide +kernel), inX6⟩
theorem fX7_265 : zF RX7 265 4 13 := ⟨RX6, TX6, 16, rfl, by decide, zIn 99 (by decide +kernel) (by decide +kernel), inX6⟩
theorem fX6_48 : zF RX6 48 4 14 := ⟨RX6, TX6, 16, rfl, by decide, zIn 100 (by decide +kernel) (by decide +kernel), inX6⟩
theorem fX7_268 : zF RX7 268 4 14 := ⟨RX6, TX6, 16, rfl, by decide, zIn 101 (by decide +kernel) (by decide +kernel), inX6⟩
theorem fX6_51 : zF RX6 51 4 15 := ⟨RX6, TX6, 16, rfl, by decide, zIn 102 (by decide +kernel) (by decide +kernel), inX6⟩
theorem fX7_271 : zF RX7 271 4 15 := ⟨RX6, TX6, 16, rfl, by decide, zIn 103 (by decide +kernel) (by decide +kernel), inX6⟩
theorem fX5_32 : zF RX5 32 3 0 := ⟨RX5, TX5, 12, rfl, by decide, zIn 137 (by decide +kernel) (by decide +kernel), inX5⟩
theorem fX5_12 : zF RX5 12 3 1 := ⟨RX5, TX5, 12, rfl, by decide, zIn 138 (by decide +kernel) (by decide +kernel), inX5⟩
theorem fX5_18 : zF RX5 18 3 2 := ⟨RX5, TX5, 12, rfl, by decide, zIn 139 (by decide +kernel) (by decide +kernel), inX5⟩
theorem fX5_22 : zF RX5 22 3 3 := ⟨RX5, TX5, 12, rfl, by decide, zIn 140 (by decide +kernel) (by decide +kernel), inX5⟩
theorem fX5_25 : zF RX5 25 3 4 := ⟨RX5, TX5, 12, rfl, by decide, zIn 141 (by decide +kernel) (by decide +kernel), inX5⟩
theorem fX5_28 : zF RX5 28 3 11 := ⟨RX5, TX5, 12, rfl, by decide, zIn 142 (by decide +kernel) (by decide +kernel), inX5⟩
theorem lX7_25 : Cond.classLink RX7 25 "NeighbourHash$Table" ∈ zTs := zIn 168 (by decide +kernel) (by decide +kernel)
theorem lX7_27 : Cond.methodLink RX7 27 yX6_init ∈ zTs := zIn 169 (by decide +kernel) (by decide +kernel)
theorem lX7_42 : Cond.classLink RX7 42 "NeighbourHash$History" ∈ zTs := zIn 170 (by decide +kernel) (by decide +kernel)
theorem lX7_44 : Cond.methodLink RX7 44 yX2_init ∈ zTs := zIn 172 (by decide +kernel) (by decide +kernel)
theorem lX2_3 : Cond.methodLink RX2 3 ⟨"java/lang/Object", "<init>", "()V"⟩ ∈ zTs := zIn 175 (by decide +kernel) (by decide +kernel)
theorem lX2_9 : Cond.classLink RX2 9 "NeighbourHash$Table" ∈ zTs := zIn 176 (by decide +kernel) (by decide +kernel)
theorem lX2_15 : Cond.methodLink RX2 15 yX6_init ∈ zTs := zIn 178 (by decide +kernel) (by decide +kernel)
theorem fX2_11 : zF RX2 11 0 0 := ⟨RX2, TX2, 3, rfl, by decide, zIn 179 (by decide +kernel) (by decide +kernel), inX2⟩
theorem fX2_24 : zF RX2 24 0 1 := ⟨RX2, TX2, 3, rfl, by decide, zIn 180 (by decide +kernel) (by decide +kernel), inX2⟩
theorem fX2_28 : zF RX2 28 0 2 := ⟨RX2, TX2, 3, rfl, by decide, zIn 181 (by decide +kernel) (by decide +kernel), inX2⟩
theorem fX7_196 : zF RX7 196 0 2 := ⟨RX2, TX2, 3, rfl, by decide, zIn 182 (by decide +kernel) (by decide +kernel), inX2⟩
theorem lX7_49 : Cond.classLink RX7 49 "NeighbourHash$Report" ∈ zTs := zIn 190 (by decide +kernel) (by decide +kernel)
theorem lnX7_51 : Cond.methodLinkNest RX7 51 yX4_init "NeighbourHash" ∈ kN := by decide +kernel
theorem lX4_3 : Cond.methodLink RX4 3 ⟨"java/lang/Object", "<init>", "()V"⟩ ∈ zTs := zIn 195 (by decide +kernel) (by decide +kernel)
theorem fX4_9 : zF RX4 9 2 0 := ⟨RX4, TX4, 2, rfl, by decide, zIn 196 (by decide +kernel) (by decide +kernel), inX4⟩
theorem lX7_56 : Cond.methodLink RX7 56 yX6_begin ∈ zTs := zIn 202 (by decide +kernel) (by decide +kernel)
theorem lX7_60 : Cond.methodLink RX7 60 yX6_insert ∈ zTs := zIn 203 (by decide +kernel) (by decide +kernel)
theorem lX6_73 : Cond.methodLink RX6 73 yX6_queueAll ∈ zTs := zIn 207 (by decide +kernel) (by decide +kernel)
theorem lX6_76 : Cond.methodLink RX6 76 yX6_place ∈ zTs := zIn 211 (by decide +kernel) (by decide +kernel)
theorem lX6_94 : Cond.methodLink RX6 94 yX6_homeFor ∈ zTs := zIn 215 (by decide +kernel) (by decide +kernel)
theorem lX6_109 : Cond.methodLink RX6 109 yX6_stepsToFree ∈ zTs := zIn 219 (by decide +kernel) (by decide +kernel)
theorem lX6_124 : Cond.methodLink RX6 124 yX6_keyIn ∈ zTs := zIn 223 (by decide +kernel) (by decide +kernel)
theorem lX6_112 : Cond.methodLink RX6 112 yX6_displaceInto ∈ zTs := zIn 227 (by decide +kernel) (by decide +kernel)
theorem lX6_115 : Cond.methodLink RX6 115 yX6_hopsIn ∈ zTs := zIn 231 (by decide +kernel) (by decide +kernel)
theorem lX6_118 : Cond.methodLink RX6 118 yX6_shift ∈ zTs := zIn 235 (by decide +kernel) (by decide +kernel)
theorem lX6_91 : Cond.methodLink RX6 91 yX6_hasBucket ∈ zTs := zIn 239 (by decide +kernel) (by decide +kernel)
theorem lX6_80 : Cond.methodLink RX6 80 yX6_build ∈ zTs := zIn 243 (by decide +kernel) (by decide +kernel)
theorem lX7_67 : Cond.methodLink RX7 67 yX6_take ∈ zTs := zIn 247 (by decide +kernel) (by decide +kernel)
theorem lX6_84 : Cond.methodLink RX6 84 yX6_bucketWith ∈ zTs := zIn 251 (by decide +kernel) (by decide +kernel)
theorem lX6_97 : Cond.methodLink RX6 97 yX6_stepsFromHome ∈ zTs := zIn 255 (by decide +kernel) (by decide +kernel)
theorem lX6_100 : Cond.methodLink RX6 100 yX6_pullFrom ∈ zTs := zIn 259 (by decide +kernel) (by decide +kernel)
theorem lX6_121 : Cond.methodLink RX6 121 yX6_pullInto ∈ zTs := zIn 263 (by decide +kernel) (by decide +kernel)
theorem fX7_10 : zF RX7 10 5 0 := ⟨RX7, TX7, 8, rfl, by decide, zIn 267 (by decide +kernel) (by decide +kernel), inX7⟩
theorem fX7_21 : zF RX7 21 5 1 := ⟨RX7, TX7, 8, rfl, by decide, zIn 268 (by decide +kernel) (by decide +kernel), inX7⟩
theorem fX7_28 : zF RX7 28 5 2 := ⟨RX7, TX7, 8, rfl, by decide, zIn 269 (by decide +kernel) (by decide +kernel), inX7⟩
theorem fX7_32 : zF RX7 32 5 3 := ⟨RX7, TX7, 8, rfl, by decide, zIn 270 (by decide +kernel) (by decide +kernel), inX7⟩
theorem fX7_35 : zF RX7 35 5 4 := ⟨RX7, TX7, 8, rfl, by decide, zIn 271 (by decide +kernel) (by decide +kernel), inX7⟩
theorem fX7_38 : zF RX7 38 5 5 := ⟨RX7, TX7, 8, rfl, by decide, zIn 272 (by decide +kernel) (by decide +kernel), inX7⟩
theorem fX7_45 : zF RX7 45 5 6 := ⟨RX7, TX7, 8, rfl, by decide, zIn 273 (by decide +kernel) (by decide +kernel), inX7⟩
theorem fX7_52 : zF RX7 52 5 7 := ⟨RX7, TX7, 8, rfl, by decide, zIn 274 (by decide +kernel) (by decide +kernel), inX7⟩
theorem lL_149 : Cond.methodLink RL 149 yX7_undo ∈ zTs := zIn 292 (by decide +kernel) (by decide +kernel)
theorem lX7_199 : Cond.methodLink RX7 199 yX2_goBack ∈ zTs := zIn 296 (by decide +kernel) (by decide +kernel)
theorem lX2_37 : Cond.methodLink RX2 37 yX2_takeBack ∈ zTs := zIn 300 (by decide +kernel) (by decide +kernel)
theorem lX2_16 : Cond.methodLink RX2 16 yX2_nextPlace ∈ zTs := zIn 304 (by decide +kernel) (by decide +kernel)
theorem lX2_20 : Cond.methodLink RX2 20 yX6_copyFrom ∈ zTs := zIn 308 (by decide +kernel) (by decide +kernel)
theorem lX6_58 : Cond.methodLink RX6 58 ⟨"java/lang/System", "arraycopy", "(Ljava/lang/Object;ILjava/lang/Object;II)V"⟩ ∈ zTs := zIn 312 (by decide +kernel) (by decide +kernel)
theorem lL_157 : Cond.methodLink RL 157 yX7_undoCount ∈ zTs := zIn 315 (by decide +kernel) (by decide +kernel)
theorem lL_153 : Cond.methodLink RL 153 yL_cell ∈ zTs := zIn 319 (by decide +kernel) (by decide +kernel)
theorem lL_160 : Cond.methodLink RL 160 yL_deed ∈ zTs := zIn 322 (by decide +kernel) (by decide +kernel)
theorem lL_20 : Cond.methodLink RL 20 yL_entry ∈ zTs := zIn 325 (by decide +kernel) (by decide +kernel)
theorem lL_7 : Cond.methodLink RL 7 yX7_entryCount ∈ zTs := zIn 328 (by decide +kernel) (by decide +kernel)
theorem lL_13 : Cond.methodLink RL 13 yX7_bucketCount ∈ zTs := zIn 332 (by decide +kernel) (by decide +kernel)
theorem lL_16 : Cond.methodLink RL 16 yX7_keyAt ∈ zTs := zIn 336 (by decide +kernel) (by decide +kernel)
theorem lX7_213 : Cond.methodLink RX7 213 yX7_needBucket ∈ zTs := zIn 340 (by decide +kernel) (by decide +kernel)
theorem lX7_306 : Cond.methodLink RX7 306 yX6_hasBucket ∈ zTs := zIn 344 (by decide +kernel) (by decide +kernel)
theorem lX7_309 : Cond.classLink RX7 309 "java/lang/IndexOutOfBoundsException" ∈ zTs := zIn 345 (by decide +kernel) (by decide +kernel)
theorem lX7_313 : Cond.methodLink RX7 313 ⟨"java/lang/IndexOutOfBoundsException", "<init>", "(Ljava/lang/String;)V"⟩ ∈ zTs := zIn 388 (by decide +kernel) (by decide +kernel)
theorem lX7_216 : Cond.methodLink RX7 216 yX6_keyIn ∈ zTs := zIn 414 (by decide +kernel) (by decide +kernel)
theorem lL_26 : Cond.methodLink RL 26 yX7_whyNoAdd ∈ zTs := zIn 415 (by decide +kernel) (by decide +kernel)
theorem lX7_118 : Cond.methodLink RX7 118 yX7_needKey ∈ zTs := zIn 419 (by decide +kernel) (by decide +kernel)
theorem lX7_144 : Cond.methodLink RX7 144 yX7_isKey ∈ zTs := zIn 422 (by decide +kernel) (by decide +kernel)
theorem lX7_79 : Cond.classLink RX7 79 "java/lang/IllegalArgumentException" ∈ zTs := zIn 425 (by decide +kernel) (by decide +kernel)
theorem lX7_83 : Cond.methodLink RX7 83 ⟨"java/lang/IllegalArgumentException", "<init>", "(Ljava/lang/String;)V"⟩ ∈ zTs := zIn 435 (by decide +kernel) (by decide +kernel)
theorem lX7_124 : Cond.methodLink RX7 124 yX6_bucketWith ∈ zTs := zIn 441 (by decide +kernel) (by decide +kernel)
theorem lX7_254 : Cond.methodLink RX7 254 yX7_tryToInsert ∈ zTs := zIn 442 (by decide +kernel) (by decide +kernel)
theorem lX7_109 : Cond.methodLink RX7 109 yX6_copyFrom ∈ zTs := zIn 446 (by decide +kernel) (by decide +kernel)
theorem lL_29 : Cond.methodLink RL 29 yX7_add ∈ zTs := zIn 447 (by decide +kernel) (by decide +kernel)
theorem lX7_121 : Cond.methodLink RX7 121 yX7_needValue ∈ zTs := zIn 451 (by decide +kernel) (by decide +kernel)
theorem lX7_301 : Cond.methodLink RX7 301 yX7_isValue ∈ zTs := zIn 454 (by decide +kernel) (by decide +kernel)
theorem lX7_127 : Cond.classLink RX7 127 "java/lang/IllegalStateException" ∈ zTs := zIn 458 (by decide +kernel) (by decide +kernel)
theorem lX7_131 : Cond.methodLink RX7 131 ⟨"java/lang/IllegalStateException", "<init>", "(Ljava/lang/String;)V"⟩ ∈ zTs := zIn 468 (by decide +kernel) (by decide +kernel)
theorem lX7_102 : Cond.methodLink RX7 102 yX2_mark ∈ zTs := zIn 474 (by decide +kernel) (by decide +kernel)
theorem lX7_132 : Cond.methodLink RX7 132 yX2_takeBack ∈ zTs := zIn 478 (by decide +kernel) (by decide +kernel)
theorem lX7_112 : Cond.methodLink RX7 112 yX2_keep ∈ zTs := zIn 480 (by decide +kernel) (by decide +kernel)
theorem lX2_31 : Cond.methodLink RX2 31 yJ9_min_7cf53 ∈ zTs := zIn 484 (by decide +kernel) (by decide +kernel)
theorem lL_33 : Cond.methodLink RL 33 yX7_put ∈ zTs := zIn 487 (by decide +kernel) (by decide +kernel)
theorem lX7_137 : Cond.methodLink RX7 137 yX6_valueIn ∈ zTs := zIn 491 (by decide +kernel) (by decide +kernel)
theorem lX7_140 : Cond.methodLink RX7 140 yX6_store ∈ zTs := zIn 495 (by decide +kernel) (by decide +kernel)
theorem lX6_88 : Cond.methodLink RX6 88 yX6_insert ∈ zTs := zIn 499 (by decide +kernel) (by decide +kernel)
theorem lL_36 : Cond.methodLink RL 36 yX7_remove ∈ zTs := zIn 500 (by decide +kernel) (by decide +kernel)
theorem lX7_163 : Cond.classLink RX7 163 "java/util/NoSuchElementException" ∈ zTs := zIn 504 (by decide +kernel) (by decide +kernel)
theorem lX7_167 : Cond.methodLink RX7 167 ⟨"java/util/NoSuchElementException", "<init>", "(Ljava/lang/String;)V"⟩ ∈ zTs := zIn 514 (by decide +kernel) (by decide +kernel)
theorem lL_39 : Cond.methodLink RL 39 yX7_bucketsWith ∈ zTs := zIn 520 (by decide +kernel) (by decide +kernel)
theorem lX7_168 : Cond.methodLink RX7 168 yX7_isNear ∈ zTs := zIn 524 (by decide +kernel) (by decide +kernel)
theorem lX7_173 : Cond.methodLink RX7 173 yX6_changeNear ∈ zTs := zIn 528 (by decide +kernel) (by decide +kernel)
theorem lX6_103 : Cond.methodLink RX6 103 yX6_buildAnew ∈ zTs := zIn 532 (by decide +kernel) (by decide +kernel)
theorem lL_42 : Cond.methodLink RL 42 yX7_setNeighbourhood ∈ zTs := zIn 536 (by decide +kernel) (by decide +kernel)
theorem lL_45 : Cond.methodLink RL 45 yX7_bestMultiplier ∈ zTs := zIn 541 (by decide +kernel) (by decide +kernel)
theorem lX7_186 : Cond.methodLink RX7 186 yX6_changeTimes ∈ zTs := zIn 546 (by decide +kernel) (by decide +kernel)
theorem lX7_248 : Cond.methodLink RX7 248 yX6_sumOfSteps ∈ zTs := zIn 550 (by decide +kernel) (by decide +kernel)
theorem lX6_127 : Cond.methodLink RX6 127 yJ9_max_7cf53 ∈ zTs := zIn 554 (by decide +kernel) (by decide +kernel)
theorem lL_48 : Cond.methodLink RL 48 yX7_setMultiplier ∈ zTs := zIn 557 (by decide +kernel) (by decide +kernel)
theorem lX7_181 : Cond.methodLink RX7 181 yX7_isTimes ∈ zTs := zIn 561 (by decide +kernel) (by decide +kernel)
theorem lL_51 : Cond.methodLink RL 51 yX7_setPulling ∈ zTs := zIn 565 (by decide +kernel) (by decide +kernel)
theorem lL_55 : Cond.methodLink RL 55 yX7_grow ∈ zTs := zIn 569 (by decide +kernel) (by decide +kernel)
theorem lX7_189 : Cond.methodLink RX7 189 yX6_buildAnew ∈ zTs := zIn 573 (by decide +kernel) (by decide +kernel)
theorem lL_58 : Cond.methodLink RL 58 yX7_clear ∈ zTs := zIn 574 (by decide +kernel) (by decide +kernel)
theorem lX7_192 : Cond.methodLink RX7 192 yX6_dropAll ∈ zTs := zIn 578 (by decide +kernel) (by decide +kernel)
theorem lL_145 : Cond.methodLink RL 145 yL_holds ∈ zTs := zIn 582 (by decide +kernel) (by decide +kernel)
theorem lL_61 : Cond.methodLink RL 61 yX7_neighbourhood ∈ zTs := zIn 585 (by decide +kernel) (by decide +kernel)
theorem lL_64 : Cond.methodLink RL 64 yX7_violations ∈ zTs := zIn 589 (by decide +kernel) (by decide +kernel)
theorem lX7_274 : Cond.methodLink RX7 274 yJ9_abs_0f7a4 ∈ zTs := zIn 593 (by decide +kernel) (by decide +kernel)
theorem lX7_279 : Cond.methodLink RX7 279 yX6_strayEntries ∈ zTs := zIn 596 (by decide +kernel) (by decide +kernel)
theorem lX7_282 : Cond.methodLink RX7 282 yX6_wrongHops ∈ zTs := zIn 600 (by decide +kernel) (by decide +kernel)
theorem lX6_135 : Cond.methodLink RX6 135 yJ6_bitCount_0f7a4 ∈ zTs := zIn 604 (by decide +kernel) (by decide +kernel)
theorem lJ6_265 : Cond.constant RJ6 265 (1431655765 : Int32) ∈ zTs := zIn 607 (by decide +kernel) (by decide +kernel)
theorem lJ6_266 : Cond.constant RJ6 266 (858993459 : Int32) ∈ zTs := zIn 608 (by decide +kernel) (by decide +kernel)
theorem lJ6_267 : Cond.constant RJ6 267 (252645135 : Int32) ∈ zTs := zIn 609 (by decide +kernel) (by decide +kernel)
theorem lX7_285 : Cond.methodLink RX7 285 yX6_twins ∈ zTs := zIn 610 (by decide +kernel) (by decide +kernel)
theorem lL_67 : Cond.methodLink RL 67 yX7_homeOf ∈ zTs := zIn 614 (by decide +kernel) (by decide +kernel)
theorem lX7_236 : Cond.methodLink RX7 236 yX6_homeFor ∈ zTs := zIn 618 (by decide +kernel) (by decide +kernel)
theorem lL_70 : Cond.methodLink RL 70 yX7_hopBits ∈ zTs := zIn 619 (by decide +kernel) (by decide +kernel)
theorem lX7_219 : Cond.methodLink RX7 219 yX6_hopsIn ∈ zTs := zIn 623 (by decide +kernel) (by decide +kernel)
theorem lL_73 : Cond.methodLink RL 73 yX7_entriesOf ∈ zTs := zIn 624 (by decide +kernel) (by decide +kernel)
theorem lX7_222 : Cond.methodLink RX7 222 yJ6_bitCount_0f7a4 ∈ zTs := zIn 628 (by decide +kernel) (by decide +kernel)
theorem lL_76 : Cond.methodLink RL 76 yX7_valueAt ∈ zTs := zIn 629 (by decide +kernel) (by decide +kernel)
theorem lL_79 : Cond.methodLink RL 79 yX7_distanceOf ∈ zTs := zIn 633 (by decide +kernel) (by decide +kernel)
theorem lX7_239 : Cond.methodLink RX7 239 yX6_stepsFromHome ∈ zTs := zIn 637 (by decide +kernel) (by decide +kernel)
theorem lL_82 : Cond.methodLink RL 82 yX7_bucketOf ∈ zTs := zIn 638 (by decide +kernel) (by decide +kernel)
theorem lL_85 : Cond.methodLink RL 85 yX7_valueOf ∈ zTs := zIn 642 (by decide +kernel) (by decide +kernel)
theorem lL_88 : Cond.methodLink RL 88 yX7_sumOfDistances ∈ zTs := zIn 646 (by decide +kernel) (by decide +kernel)
theorem lL_91 : Cond.methodLink RL 91 yX7_addedCount ∈ zTs := zIn 650 (by decide +kernel) (by decide +kernel)
theorem lL_94 : Cond.methodLink RL 94 yX7_removedCount ∈ zTs := zIn 654 (by decide +kernel) (by decide +kernel)
theorem lL_97 : Cond.methodLink RL 97 yX7_longestDistance ∈ zTs := zIn 658 (by decide +kernel) (by decide +kernel)
theorem lX7_245 : Cond.methodLink RX7 245 yX6_mostSteps ∈ zTs := zIn 662 (by decide +kernel) (by decide +kernel)
theorem lL_138 : Cond.methodLink RL 138 yL_sum ∈ zTs := zIn 666 (by decide +kernel) (by decide +kernel)
theorem lL_108 : Cond.methodLink RL 108 yX7_multiplier ∈ zTs := zIn 671 (by decide +kernel) (by decide +kernel)
theorem lL_111 : Cond.methodLink RL 111 yX7_isPulling ∈ zTs := zIn 675 (by decide +kernel) (by decide +kernel)
theorem lL_117 : Cond.methodLink RL 117 yX7_moves ∈ zTs := zIn 681 (by decide +kernel) (by decide +kernel)
theorem lL_122 : Cond.methodLink RL 122 yX7_pulls ∈ zTs := zIn 686 (by decide +kernel) (by decide +kernel)
theorem lL_127 : Cond.methodLink RL 127 yX7_growths ∈ zTs := zIn 691 (by decide +kernel) (by decide +kernel)
theorem lL_164 : Cond.methodLink RL 164 yL_isBuilt ∈ zTs := zIn 699 (by decide +kernel) (by decide +kernel)
theorem lL_142 : Cond.methodLink RL 142 yL_content ∈ zTs := zIn 702 (by decide +kernel) (by decide +kernel)
theorem arr_int : Cond.arrayClass .int ∈ zTs := zIn 57 (by decide +kernel) (by decide +kernel)
theorem ob1 : Cond.instanceMethod Lib.objectInit ∈ zTs := zIn 35 (by decide +kernel) (by decide +kernel)
theorem ob2 : Cond.code Lib.objectInit ⟨#[0xb1]⟩ 1 none ∈ zTs := zIn 36 (by decide +kernel) (by decide +kernel)
theorem mm_max1 : Cond.static Lib.Math.max.name ∈ zTs := zIn 555 (by decide +kernel) (by decide +kernel)
theorem mm_max2 : Cond.code Lib.Math.max.name Lib.Math.max.code 2 (some .int) ∈ zTs := zIn 556 (by decide +kernel) (by decide +kernel)
theorem mm_min1 : Cond.static Lib.Math.min.name ∈ zTs := zIn 485 (by decide +kernel) (by decide +kernel)
theorem mm_min2 : Cond.code Lib.Math.min.name Lib.Math.min.code 2 (some .int) ∈ zTs := zIn 486 (by decide +kernel) (by decide +kernel)
theorem mm_abs1 : Cond.static Lib.Math.abs.name ∈ zTs := zIn 594 (by decide +kernel) (by decide +kernel)
theorem mm_abs2 : Cond.code Lib.Math.abs.name Lib.Math.abs.code 1 (some .int) ∈ zTs := zIn 595 (by decide +kernel) (by decide +kernel)
theorem mm_ini : Cond.initialized "java/lang/Math" ∈ zTs := zIn 19 (by decide +kernel) (by decide +kernel)
theorem cp1 : Cond.native arraycopyName ∈ zTs := zIn 314 (by decide +kernel) (by decide +kernel)
theorem cp2 : Cond.static arraycopyName ∈ zTs := zIn 313 (by decide +kernel) (by decide +kernel)
theorem cp3 : Cond.initialized "java/lang/System" ∈ zTs := zIn 26 (by decide +kernel) (by decide +kernel)
theorem nwL_8 : zN RL 8 5 [.null, .null, .null, .null, .null, .int 0, .null, .null] := ⟨RX7, TX7, 8, tyX7, rfl, rfl, tyX7_ok, inX7, lL_8, zIn 30 (by decide +kernel) (by decide +kernel), zIn 13 (by decide +kernel) (by decide +kernel), by
  intro v hv
  simp only [List.mem_cons, List.not_mem_nil, or_false] at hv
  rcases hv with rfl | rfl | rfl | rfl | rfl | rfl | rfl | rfl <;> first | exact Or.inl rfl | exact Or.inr ⟨_, rfl⟩, by decide +kernel⟩
theorem nwX7_7 : zN RX7 7 1 [.null, .int 0, .int 0, .int 0, .int 0, .int 0] := ⟨RX3, TX3, 6, tyX3, rfl, rfl, tyX3_ok, inX3, lX7_7, zIn 38 (by decide +kernel) (by decide +kernel), zIn 14 (by decide +kernel) (by decide +kernel), by
  intro v hv
  simp only [List.mem_cons, List.not_mem_nil, or_false] at hv
  rcases hv with rfl | rfl | rfl | rfl | rfl | rfl <;> first | exact Or.inl rfl | exact Or.inr ⟨_, rfl⟩, by decide +kernel⟩
theorem nwX7_16 : zN RX7 16 3 [.null, .null, .null, .null, .null, .int 0, .int 0, .null, .int 0, .int 0, .int 0, .int 0] := ⟨RX5, TX5, 12, tyX5, rfl, rfl, tyX5_ok, inX5, lX7_16, zIn 59 (by decide +kernel) (by decide +kernel), zIn 15 (by decide +kernel) (by decide +kernel), by
  intro v hv
  simp only [List.mem_cons, List.not_mem_nil, or_false] at hv
  rcases hv with rfl | rfl | rfl | rfl | rfl | rfl | rfl | rfl | rfl | rfl | rfl | rfl <;> first | exact Or.inl rfl | exact Or.inr ⟨_, rfl⟩, by decide +kernel⟩
theorem nwX5_9 : zN RX5 9 4 [.null, .null, .null, .null, .null, .int 0, .int 0, .int 0, .int 0, .int 0, .int 0, .int 0, .int 0, .int 0, .int 0, .int 0] := ⟨RX6, TX6, 16, tyX6, rfl, rfl, tyX6_ok, inX6, lX5_9, zIn 65 (by decide +kernel) (by decide +kernel), zIn 16 (by decide +kernel) (by decide +kernel), by
  intro v hv
  simp only [List.mem_cons, List.not_mem_nil, or_false] at hv
  rcases hv with rfl | rfl | rfl | rfl | rfl | rfl | rfl | rfl | rfl | rfl | rfl | rfl | rfl | rfl | rfl | rfl <;> first | exact Or.inl rfl | exact Or.inr ⟨_, rfl⟩, by decide +kernel⟩
theorem nwX7_25 : zN RX7 25 4 [.null, .null, .null, .null, .null, .int 0, .int 0, .int 0, .int 0, .int 0, .int 0, .int 0, .int 0, .int 0, .int 0, .int 0] := ⟨RX6, TX6, 16, tyX6, rfl, rfl, tyX6_ok, inX6, lX7_25, zIn 65 (by decide +kernel) (by decide +kernel), zIn 16 (by decide +kernel) (by decide +kernel), by
  intro v hv
  simp only [List.mem_cons, List.not_mem_nil, or_false] at hv
  rcases hv with rfl | rfl | rfl | rfl | rfl | rfl | rfl | rfl | rfl | rfl | rfl | rfl | rfl | rfl | rfl | rfl <;> first | exact Or.inl rfl | exact Or.inr ⟨_, rfl⟩, by decide +kernel⟩
theorem nwX7_42 : zN RX7 42 0 [.null, .int 0, .int 0] := ⟨RX2, TX2, 3, tyX2, rfl, rfl, tyX2_ok, inX2, lX7_42, zIn 171 (by decide +kernel) (by decide +kernel), zIn 17 (by decide +kernel) (by decide +kernel), by
  intro v hv
  simp only [List.mem_cons, List.not_mem_nil, or_false] at hv
  rcases hv with rfl | rfl | rfl <;> first | exact Or.inl rfl | exact Or.inr ⟨_, rfl⟩, by decide +kernel⟩
theorem nwX2_9 : zN RX2 9 4 [.null, .null, .null, .null, .null, .int 0, .int 0, .int 0, .int 0, .int 0, .int 0, .int 0, .int 0, .int 0, .int 0, .int 0] := ⟨RX6, TX6, 16, tyX6, rfl, rfl, tyX6_ok, inX6, lX2_9, zIn 65 (by decide +kernel) (by decide +kernel), zIn 16 (by decide +kernel) (by decide +kernel), by
  intro v hv
  simp only [List.mem_cons, List.not_mem_nil, or_false] at hv
  rcases hv with rfl | rfl | rfl | rfl | rfl | rfl | rfl | rfl | rfl | rfl | rfl | rfl | rfl | rfl | rfl | rfl <;> first | exact Or.inl rfl | exact Or.inr ⟨_, rfl⟩, by decide +kernel⟩
theorem nwX7_49 : zN RX7 49 2 [.null, .int 0] := ⟨RX4, TX4, 2, tyX4, rfl, rfl, tyX4_ok, inX4, lX7_49, zIn 191 (by decide +kernel) (by decide +kernel), zIn 18 (by decide +kernel) (by decide +kernel), by
  intro v hv
  simp only [List.mem_cons, List.not_mem_nil, or_false] at hv
  rcases hv with rfl | rfl <;> first | exact Or.inl rfl | exact Or.inr ⟨_, rfl⟩, by decide +kernel⟩
end
section
/-! A TABLE in a world: at the places b .. b+5, its scalars s (by the field's number), its arrays a (keys, values, hops, queuedKeys, queuedValues) -/
def tF (b : Nat) (s : Nat → Int32) : List Value := [.ref (b + 1), .ref (b + 2), .ref (b + 3), .ref (b + 4), .ref (b + 5), .int (s 5), .int (s 6), .int (s 7), .int (s 8), .int (s 9), .int (s 10), .int (s 11), .int (s 12), .int (s 13), .int (s 14), .int (s 15)]
def tW (h : Nat → va_E) (b : Nat) (s : Nat → Int32) (a : Nat → Nat → Int32) : Nat → va_E := fun q => if q = b then .inr (4, tF b s) else if b < q ∧ q ≤ b + 5 then .inl (0, 64, .inl (a (q - b - 1))) else h q
theorem tW_obj {h : Nat → va_E} {b : Nat} {s : Nat → Int32} {a : Nat → Nat → Int32} : tW h b s a b = .inr (4, tF b s) := if_pos rfl
theorem tW_arr {h : Nat → va_E} {b : Nat} {s : Nat → Int32} {a : Nat → Nat → Int32} (j : Nat) (hj : j < 5) : tW h b s a (b + (j + 1)) = .inl (0, 64, .inl (a j)) := by
  have h1 : ¬ b + (j + 1) = b := by omega
  have h2 : b < b + (j + 1) ∧ b + (j + 1) ≤ b + 5 := by omega
  have h3 : b + (j + 1) - b - 1 = j := by omega
  simp only [tW, if_neg h1, if_pos h2, h3]
theorem tW_off {h : Nat → va_E} {b : Nat} {s : Nat → Int32} {a : Nat → Nat → Int32} {q : Nat} (hq : q < b ∨ b + 5 < q) : tW h b s a q = h q := by
  have h1 : ¬ q = b := by omega
  have h2 : ¬ (b < q ∧ q ≤ b + 5) := by omega
  simp only [tW, if_neg h1, if_neg h2]
theorem tF_set (b : Nat) (s : Nat → Int32) (x : Int32) (k : Nat) (h5 : 5 ≤ k) (h16 : k < 16) : (tF b s).set k (.int x) = tF b (va_up s k x) := by
  rcases (show k = 5 ∨ k = 6 ∨ k = 7 ∨ k = 8 ∨ k = 9 ∨ k = 10 ∨ k = 11 ∨ k = 12 ∨ k = 13 ∨ k = 14 ∨ k = 15 by omega) with rfl | rfl | rfl | rfl | rfl | rfl | rfl | rfl | rfl | rfl | rfl <;> rfl
theorem tW_put {h : Nat → va_E} {b : Nat} {s : Nat → Int32} {a : Nat → Nat → Int32} (k : Nat) (x : Int32) (h5 : 5 ≤ k) (h16 : k < 16) : va_up (tW h b s a) b (.inr (4, (tF b s).set k (.int x))) = tW h b (va_up s k x) a := by
  rw [tF_set b s x k h5 h16]
  funext q
  by_cases hq : q = b
  · simp [va_up, tW, hq]
  · simp [va_up, tW, hq]
theorem tW_ast {h : Nat → va_E} {b : Nat} {s : Nat → Int32} {a : Nat → Nat → Int32} (j : Nat) (f : Nat → Int32) (hj : j < 5) : va_up (tW h b s a) (b + (j + 1)) (.inl (0, 64, .inl f)) = tW h b s (va_up a j f) := by
  funext q
  by_cases hq : q = b + (j + 1)
  · subst hq
    rw [tW_arr j hj]
    simp [va_up]
  · simp only [va_up, if_neg hq, tW]
    by_cases h1 : q = b
    · simp [h1]
    · by_cases h2 : b < q ∧ q ≤ b + 5
      · have h3 : ¬ q - b - 1 = j := by omega
        simp [h1, h2, h3]
      · simp [h1, h2]
theorem t_put {l : zL} {Y : zM} {d kc ks pc n b k idx : Nat} {lv : List (Nat × Value)} {rest : List Value} {h : Nat → va_E} {s : Nat → Int32} {a : Nat → Nat → Int32} {x : Int32} {Q : zQ} (hb : b < n) (hf : zF Y.1.cls idx 4 k) (h5 : 5 ≤ k) (h16 : k < 16) (h9 : k ≠ 9 := by decide) (hd : decode Y.2.1 pc = .ok (.putfield idx, 3)) (kk : Zj l Y d kc ks (pc + 3) lv rest n (tW h b (va_up s k x) a) Q) : Zj l Y d kc ks pc lv (.int x :: .ref b :: rest) n (tW h b s a) Q := by
  refine z_puti hb tW_obj hf gg6 ?_ ?_ (by show k < 16; exact h16) hd (by rw [tW_put k x h5 h16]; exact kk)
  · rcases (show k = 5 ∨ k = 6 ∨ k = 7 ∨ k = 8 ∨ k = 10 ∨ k = 11 ∨ k = 12 ∨ k = 13 ∨ k = 14 ∨ k = 15 by omega) with rfl | rfl | rfl | rfl | rfl | rfl | rfl | rfl | rfl | rfl <;> rfl
  · rcases (show k = 5 ∨ k = 6 ∨ k = 7 ∨ k = 8 ∨ k = 10 ∨ k = 11 ∨ k = 12 ∨ k = 13 ∨ k = 14 ∨ k = 15 by omega) with rfl | rfl | rfl | rfl | rfl | rfl | rfl | rfl | rfl | rfl
    · exact fin6_5
    · exact fin6_6
    · exact fin6_7
    · exact fin6_8
    · exact fin6_10
    · exact fin6_11
    · exact fin6_12
    · exact fin6_13
    · exact fin6_14
    · exact fin6_15
theorem t_putz {l : zL} {Y : zM} {d kc ks pc n b idx : Nat} {lv : List (Nat × Value)} {rest : List Value} {h : Nat → va_E} {s : Nat → Int32} {a : Nat → Nat → Int32} {x : Int32} {Q : zQ} (hx : x = 0 ∨ x = 1) (hb : b < n) (hf : zF Y.1.cls idx 4 9) (hd : decode Y.2.1 pc = .ok (.putfield idx, 3)) (kk : Zj l Y d kc ks (pc + 3) lv rest n (tW h b (va_up s 9 x) a) Q) : Zj l Y d kc ks pc lv (.int x :: .ref b :: rest) n (tW h b s a) Q :=
  z_putz hx hb tW_obj hf gg6 rfl fin6_9 (by show 9 < 16; decide) hd (by rw [tW_put 9 x (by decide) (by decide)]; exact kk)
theorem t_ald {l : zL} {Y : zM} {d kc ks pc n b : Nat} {lv : List (Nat × Value)} {rest : List Value} {h : Nat → va_E} {s : Nat → Int32} {a : Nat → Nat → Int32} {i : Int32} {Q : zQ} (j : Nat) (hj : j < 5) (hb : b + 6 ≤ n) (hin : vp_in i 64) (hd : decode Y.2.1 pc = .ok (.iaload, 1)) (kk : Zj l Y d kc ks (pc + 1) lv (.int (a j i.toNatClampNeg) :: rest) n (tW h b s a) Q) : Zj l Y d kc ks pc lv (.int i :: .ref (b + (j + 1)) :: rest) n (tW h b s a) Q :=
  z_iald (by omega) (tW_arr j hj) hin hd kk
theorem t_ast {l : zL} {Y : zM} {d kc ks pc n b : Nat} {lv : List (Nat × Value)} {rest : List Value} {h : Nat → va_E} {s : Nat → Int32} {a : Nat → Nat → Int32} {i x : Int32} {Q : zQ} (j : Nat) (hj : j < 5) (hb : b + 6 ≤ n) (hin : vp_in i 64) (hd : decode Y.2.1 pc = .ok (.iastore, 1)) (kk : Zj l Y d kc ks (pc + 1) lv rest n (tW h b s (va_up a j (va_up (a j) i.toNatClampNeg x))) Q) : Zj l Y d kc ks pc lv (.int x :: .int i :: .ref (b + (j + 1)) :: rest) n (tW h b s a) Q :=
  z_iast (by omega) (tW_arr j hj) hin hd (by rw [tW_ast j _ hj]; exact kk)
theorem t_alen {l : zL} {Y : zM} {d kc ks pc n b : Nat} {lv : List (Nat × Value)} {rest : List Value} {h : Nat → va_E} {s : Nat → Int32} {a : Nat → Nat → Int32} {Q : zQ} (j : Nat) (hj : j < 5) (hb : b + 6 ≤ n) (hd : decode Y.2.1 pc = .ok (.arraylength, 1)) (kk : Zj l Y d kc ks (pc + 1) lv (.int 64 :: rest) n (tW h b s a) Q) : Zj l Y d kc ks pc lv (.ref (b + (j + 1)) :: rest) n (tW h b s a) Q :=
  z_alen (by omega) (tW_arr j hj) (by decide) rfl hd kk
-- calls of methods that return one answer
theorem z_cV {l : zL} {Y Y' : zM} {d kc ks pc n idx k : Nat} {lv : List (Nat × Value)} {rest : List Value} {h h' : Nat → va_E} {Q : zQ} {b ci : Nat} {fs : List Value} (As : List Value) (r : Option Value) (hY : zY Y' k) (hYv : zYv Y') (hh : Y'.2.2.2.2 = []) (hnL : Y'.2.2.1 ≤ 20) (hlink : Cond.methodLink Y.1.cls idx Y'.1 ∈ zTs) (hb : b < n) (hhb : h b = .inr (ci, fs)) (hci : (vwCl[ci]?).map (fun q => q.1) = some Y'.1.cls) (hlen : As.length = k) (hsl : (lg_sl (.ref b :: As)).length ≤ Y'.2.2.1) (hcat : (rest.map fun v => v.category).sum ≤ 8) (hd : decode Y.2.1 pc = .ok (.invokevirtual idx, 3))
    (body : Zj l Y' d 0 0 0 (lv_args 0 (.ref b :: As)) [] n h (fun q n' g => q = .inl r ∧ n' = n ∧ g = h'))
    (kk : Zj l Y (d + 1) kc ks (pc + 3) lv (r.toList ++ rest) n h' Q) : Zj l Y (d + 1) kc ks pc lv (As.reverse ++ .ref b :: rest) n h Q :=
  z_callV (k1 := 0) (s1 := 0) (k2 := kc) (s2 := ks) _ hY hYv hh hnL hlink hb hhb hci hlen hsl hcat hd body (by omega) (by omega) (fun r' n' g hq => by
    obtain ⟨e1, rfl, rfl⟩ := hq
    cases e1
    exact ⟨rfl, kk⟩) (fun E n' g hq => by cases hq.1)
theorem z_cS {l : zL} {Y Y' : zM} {d kc ks pc n idx k : Nat} {lv : List (Nat × Value)} {rest : List Value} {h h' : Nat → va_E} {Q : zQ} (As : List Value) (r : Option Value) (hY : zY Y' k) (hstat : Cond.static Y'.1 ∈ zTs) (hh : Y'.2.2.2.2 = []) (hnL : Y'.2.2.1 ≤ 20) (hlink : Cond.methodLink Y.1.cls idx Y'.1 ∈ zTs) (hlen : As.length = k) (hsl : (lg_sl As).length ≤ Y'.2.2.1) (hcat : (rest.map fun v => v.category).sum ≤ 8) (hd : decode Y.2.1 pc = .ok (.invokestatic idx, 3))
    (body : Zj l Y' d 0 0 0 (lv_args 0 As) [] n h (fun q n' g => q = .inl r ∧ n' = n ∧ g = h'))
    (kk : Zj l Y (d + 1) kc ks (pc + 3) lv (r.toList ++ rest) n h' Q) : Zj l Y (d + 1) kc ks pc lv (As.reverse ++ rest) n h Q :=
  z_callS (k1 := 0) (s1 := 0) (k2 := kc) (s2 := ks) _ hY hstat hh hnL hlink hlen hsl hcat hd body (by omega) (by omega) (fun r' n' g hq => by
    obtain ⟨e1, rfl, rfl⟩ := hq
    cases e1
    exact ⟨rfl, kk⟩) (fun E n' g hq => by cases hq.1)
theorem vpin64 {i : Int32} (h0 : ¬ i < 0) (h1 : i < 64) : vp_in i 64 := by
  intro q
  rcases q with q | q
  · exact h0 q
  · have h2 := Int32.lt_iff_toInt_lt.mp h1
    have h3 : (0 : Int) ≤ i.toInt := by
      have := Int32.not_lt.mp h0
      simpa using Int32.le_iff_toInt_le.mp this
    have h4 : (64 : Int32).toInt = 64 := by decide
    have h5 : i.toNatClampNeg = i.toInt.toNat := rfl
    omega
end
section
/-! THE TABLE AS NUMBERS: B buckets, neighbourhood H, multiplier T; K b: 0 where bucket b is free, else its key + 1; V b: its value (0 where free) -/
def okB (B : Nat) : Prop := B = 8 ∨ B = 16 ∨ B = 32 ∨ B = 64
theorem okB.le {B : Nat} (h : okB B) : 8 ≤ B ∧ B ≤ 64 := by rcases h with rfl | rfl | rfl | rfl <;> decide
theorem okB.lt31 {B : Nat} (h : okB B) : B < 2 ^ 31 := Nat.lt_of_le_of_lt h.le.2 (by decide)
def tkey (k : Nat) : Int32 := if k = 0 then -1 else nI (k - 1)
def tval (k v : Nat) : Int32 := if k = 0 then -1 else nI v
def hmo (B T key : Nat) : Nat := key * T % 997 % B
theorem hmo_lt {B : Nat} (h : okB B) (T key : Nat) : hmo B T key < B := Nat.mod_lt _ (by have := h.le; omega)
def isO (B T : Nat) (K : Nat → Nat) (b h : Nat) : Bool := decide (K b ≠ 0) && decide (hmo B T (K b - 1) = h)
def hb6 (f : Nat → Bool) : Nat → Nat
  | 0 => 0
  | k + 1 => hb6 f k + (if f k = true then 2 ^ k else 0)
def hop (B H T : Nat) (K : Nat → Nat) (i : Nat) : Nat := hb6 (fun k => isO B T K ((i + k) % B) i) H
theorem hb6_lt (f : Nat → Bool) : ∀ n, hb6 f n < 2 ^ n
  | 0 => Nat.zero_lt_one
  | n + 1 => by
    have := hb6_lt f n
    simp only [hb6]
    split <;> rw [Nat.pow_succ] <;> omega
theorem hb6_bit (f : Nat → Bool) : ∀ n k, (hb6 f n).testBit k = (decide (k < n) && f k)
  | 0, k => by simp [hb6]
  | n + 1, k => by
    have h1 := hb6_lt f n
    simp only [hb6]
    by_cases hf : f n = true
    · rw [if_pos hf, Nat.add_comm]
      by_cases hk : k = n
      · subst hk
        rw [Nat.testBit_two_pow_add_eq, Nat.testBit_lt_two_pow h1]
        simp [hf]
      · by_cases hkn : k < n
        · rw [Nat.testBit_two_pow_add_gt hkn, hb6_bit f n k]
          simp [hkn, Nat.lt_succ_of_lt hkn]
        · have h2 : 2 ^ n + hb6 f n < 2 ^ k := by
            have h3 : 2 ^ (n + 1) ≤ 2 ^ k := Nat.pow_le_pow_right (by decide) (by omega)
            rw [Nat.pow_succ] at h3
            omega
          rw [Nat.testBit_lt_two_pow h2]
          have h4 : ¬ k < n + 1 := by omega
          simp [h4]
    · rw [if_neg hf, Nat.add_zero, hb6_bit f n k]
      by_cases hk : k = n
      · subst hk
        have : f k = false := by simpa using hf
        simp [this]
      · by_cases hkn : k < n
        · simp [hkn, Nat.lt_succ_of_lt hkn]
        · have h4 : ¬ k < n + 1 := by omega
          simp [hkn, h4]
/-- a world's table holds it -/
def tR (B H T : Nat) (K V : Nat → Nat) (s : Nat → Int32) (a : Nat → Nat → Int32) : Prop :=
  okB B ∧ 2 ≤ H ∧ H ≤ 6 ∧ 1 ≤ T ∧ T ≤ 99 ∧ s 6 = nI B ∧ s 7 = nI H ∧ s 8 = nI T ∧ (∀ i, i < 64 → a 0 i = tkey (K i)) ∧ (∀ i, i < 64 → a 1 i = tval (K i) (V i)) ∧ (∀ i, i < 64 → a 2 i = nI (hop B H T K i)) ∧ (∀ i, K i ≤ 10000 ∧ V i ≤ 999) ∧ (∀ i, B ≤ i → K i = 0)
-- masks, remainders
theorem mB {B x : Nat} (hB : okB B) (hx : x < 2 ^ 32) : nI x &&& (nI B - 1) = nI (x % B) := by
  rcases hB with rfl | rfl | rfl | rfl
  · exact pk_andN hx 3 (by decide)
  · exact pk_andN hx 4 (by decide)
  · exact pk_andN hx 5 (by decide)
  · exact pk_andN hx 6 (by decide)
theorem un_sub {i h : Nat} (hi : i < 2 ^ 32) (hh : h < 2 ^ 32) : (nI i - nI h).toBitVec.toNat = (2 ^ 32 - h + i) % 2 ^ 32 := by
  rw [Int32.toBitVec_sub, BitVec.toNat_sub, pk_tn hi, pk_tn hh]
theorem mBsub {B i h : Nat} (hB : okB B) (hi : i < B) (hh : h < B) : (nI i - nI h) &&& (nI B - 1) = nI ((i + B - h) % B) := by
  have hle := hB.le
  have e := un_sub (i := i) (h := h) (by omega) (by omega)
  rcases hB with rfl | rfl | rfl | rfl
  · rw [pk_and _ 3 (by decide), e]; congr 1; omega
  · rw [pk_and _ 4 (by decide), e]; congr 1; omega
  · rw [pk_and _ 5 (by decide), e]; congr 1; omega
  · rw [pk_and _ 6 (by decide), e]; congr 1; omega
theorem tkey_eq {k : Nat} (hk : k ≤ 10000) : tkey k = -1 ↔ k = 0 := by
  unfold tkey
  by_cases h : k = 0
  · simp [h]
  · rw [if_neg h]
    refine ⟨fun e => ?_, fun e => absurd e h⟩
    exfalso
    have h1 : nI (k - 1) < 0 := by rw [e]; decide
    exact nI_pos (by omega) h1
theorem tkey_ne {k : Nat} (hk : k ≠ 0) : tkey k = nI (k - 1) := if_neg hk
theorem tkey_is {k key : Nat} (hk : k ≤ 10000) (hkey : key ≤ 9999) : tkey k = nI key ↔ k = key + 1 := by
  unfold tkey
  by_cases h : k = 0
  · rw [if_pos h]
    refine ⟨fun e => ?_, fun e => by omega⟩
    exfalso
    have h1 : nI key < 0 := by rw [← e]; decide
    exact nI_pos (by omega) h1
  · rw [if_neg h, nI_eq (by omega) (by omega)]
    omega
theorem nI_neg1 {k : Nat} (hk : k < 2 ^ 31) : ¬ nI k = -1 := fun e => by
  have h1 : nI k < 0 := by rw [e]; decide
  exact nI_pos hk h1
/-- the test of a hop bit -/
theorem bit6 : ∀ x, x < 64 → ∀ k, k < 6 → ((nI x >>> (nI k &&& 31)) &&& 1 = 0 ↔ x.testBit k = false) := by decide +kernel
theorem hop_lt {B H T : Nat} {K : Nat → Nat} {i : Nat} (hH : H ≤ 6) : hop B H T K i < 64 := Nat.lt_of_lt_of_le (hb6_lt _ _) (Nat.pow_le_pow_right (by decide) hH : 2 ^ H ≤ 2 ^ 6)
theorem hop_bit {B H T : Nat} {K : Nat → Nat} {i k : Nat} (hH : H ≤ 6) (hk : k < H) : (nI (hop B H T K i) >>> (nI k &&& 31)) &&& 1 = 0 ↔ isO B T K ((i + k) % B) i = false := by
  rw [bit6 _ (hop_lt hH) k (by omega)]
  unfold hop
  rw [hb6_bit]
  simp [hk]
theorem mod_lt' {B x : Nat} (hB : okB B) : x % B < B := Nat.mod_lt _ (by have := hB.le; omega)
end
section
set_option maxHeartbeats 4000000 in
set_option maxRecDepth 100000 in
theorem w_keyIn {l : zL} {d kc ks n b B H T : Nat} {h : Nat → va_E} {K V : Nat → Nat} {s : Nat → Int32} {a : Nat → Nat → Int32} {Q : zQ} {i : Nat} (hb : b + 6 ≤ n) (hR : tR B H T K V s a) (hi : i < B) (hq : Q (.inl (some (.int (tkey (K i))))) n (tW h b s a)) : Zj l mX6_keyIn d kc ks 0 [(0, .ref b), (1, .int ((nI i)))] [] n (tW h b s a) Q := by
  obtain ⟨okb, h2H, hH6, h1T, hT99, e6, e7, e8, ek, ev, eh, ekv, ez⟩ := id hR
  have hle := okb.le
  refine z_iload_n (j := 1) dX6_keyIn_0 rfl ?_
  refine z_if_lt (tgt := 27) dX6_keyIn_1 (by decide) (fun c_1 => absurd c_1 (nI_pos (by omega))) (fun c_1 => ?_)
  refine z_iload_n (j := 1) dX6_keyIn_4 rfl ?_
  refine z_aload_n (j := 0) dX6_keyIn_5 rfl ?_
  refine z_get (v := .int (s 6)) (by omega) tW_obj fX6_64 rfl dX6_keyIn_6 ?_
  refine z_icmp_ge (tgt := 27) dX6_keyIn_9 (by decide) (fun c_9 => absurd c_9 (by rw [e6]; exact nI_ge hi okb.lt31)) (fun c_9 => ?_)
  refine z_iload_n (j := 1) dX6_keyIn_12 rfl ?_
  refine z_bipush (v := 64) dX6_keyIn_13 (by decide) ?_
  refine z_icmp_ge (tgt := 27) dX6_keyIn_15 (by decide) (fun c_15 => absurd c_15 (nI_ge (b := 64) (by omega) (by decide))) (fun c_15 => ?_)
  refine z_aload_n (j := 0) dX6_keyIn_18 rfl ?_
  refine z_get (v := .ref (b + 1)) (by omega) tW_obj fX6_9 rfl dX6_keyIn_19 ?_
  refine z_iload_n (j := 1) dX6_keyIn_22 rfl ?_
  refine t_ald 0 (by decide) hb (vp_in_nI (by omega) (by decide)) dX6_keyIn_23 ?_
  refine z_goto (tgt := 28) dX6_keyIn_24 (by decide) ?_
  exact z_iret rfl dX6_keyIn_28 (by rw [nI_clamp (by omega), ek i (by omega)]; exact hq)

set_option maxHeartbeats 4000000 in
set_option maxRecDepth 100000 in
theorem w_keyInN {l : zL} {d kc ks n b : Nat} {h : Nat → va_E} {s : Nat → Int32} {a : Nat → Nat → Int32} {Q : zQ} (hb : b + 6 ≤ n) (hq : Q (.inl (some (.int (-1)))) n (tW h b s a)) : Zj l mX6_keyIn d kc ks 0 [(0, .ref b), (1, .int ((-1)))] [] n (tW h b s a) Q := by
  refine z_iload_n (j := 1) dX6_keyIn_0 rfl ?_
  refine z_if_lt (tgt := 27) dX6_keyIn_1 (by decide) (fun c_1 => ?_) (fun c_1 => absurd (by decide) c_1)
  refine z_iconst (v := (-1)) dX6_keyIn_27 (by decide) ?_
  exact z_iret rfl dX6_keyIn_28 (hq)

set_option maxHeartbeats 4000000 in
set_option maxRecDepth 100000 in
theorem w_valueIn {l : zL} {d kc ks n b B H T : Nat} {h : Nat → va_E} {K V : Nat → Nat} {s : Nat → Int32} {a : Nat → Nat → Int32} {Q : zQ} {i : Nat} (hb : b + 6 ≤ n) (hR : tR B H T K V s a) (hi : i < B) (hq : Q (.inl (some (.int (tval (K i) (V i))))) n (tW h b s a)) : Zj l mX6_valueIn d kc ks 0 [(0, .ref b), (1, .int ((nI i)))] [] n (tW h b s a) Q := by
  obtain ⟨okb, h2H, hH6, h1T, hT99, e6, e7, e8, ek, ev, eh, ekv, ez⟩ := id hR
  have hle := okb.le
  refine z_iload_n (j := 1) dX6_valueIn_0 rfl ?_
  refine z_if_lt (tgt := 27) dX6_valueIn_1 (by decide) (fun c_1 => absurd c_1 (nI_pos (by omega))) (fun c_1 => ?_)
  refine z_iload_n (j := 1) dX6_valueIn_4 rfl ?_
  refine z_aload_n (j := 0) dX6_valueIn_5 rfl ?_
  refine z_get (v := .int (s 6)) (by omega) tW_obj fX6_64 rfl dX6_valueIn_6 ?_
  refine z_icmp_ge (tgt := 27) dX6_valueIn_9 (by decide) (fun c_9 => absurd c_9 (by rw [e6]; exact nI_ge hi okb.lt31)) (fun c_9 => ?_)
  refine z_iload_n (j := 1) dX6_valueIn_12 rfl ?_
  refine z_bipush (v := 64) dX6_valueIn_13 (by decide) ?_
  refine z_icmp_ge (tgt := 27) dX6_valueIn_15 (by decide) (fun c_15 => absurd c_15 (nI_ge (b := 64) (by omega) (by decide))) (fun c_15 => ?_)
  refine z_aload_n (j := 0) dX6_valueIn_18 rfl ?_
  refine z_get (v := .ref (b + 2)) (by omega) tW_obj fX6_15 rfl dX6_valueIn_19 ?_
  refine z_iload_n (j := 1) dX6_valueIn_22 rfl ?_
  refine t_ald 1 (by decide) hb (vp_in_nI (by omega) (by decide)) dX6_valueIn_23 ?_
  refine z_goto (tgt := 28) dX6_valueIn_24 (by decide) ?_
  exact z_iret rfl dX6_valueIn_28 (by rw [nI_clamp (by omega), ev i (by omega)]; exact hq)

set_option maxHeartbeats 4000000 in
set_option maxRecDepth 100000 in
theorem w_valueInN {l : zL} {d kc ks n b : Nat} {h : Nat → va_E} {s : Nat → Int32} {a : Nat → Nat → Int32} {Q : zQ} (hb : b + 6 ≤ n) (hq : Q (.inl (some (.int (-1)))) n (tW h b s a)) : Zj l mX6_valueIn d kc ks 0 [(0, .ref b), (1, .int ((-1)))] [] n (tW h b s a) Q := by
  refine z_iload_n (j := 1) dX6_valueIn_0 rfl ?_
  refine z_if_lt (tgt := 27) dX6_valueIn_1 (by decide) (fun c_1 => ?_) (fun c_1 => absurd (by decide) c_1)
  refine z_iconst (v := (-1)) dX6_valueIn_27 (by decide) ?_
  exact z_iret rfl dX6_valueIn_28 (hq)

set_option maxHeartbeats 4000000 in
set_option maxRecDepth 100000 in
theorem w_hopsIn {l : zL} {d kc ks n b B H T : Nat} {h : Nat → va_E} {K V : Nat → Nat} {s : Nat → Int32} {a : Nat → Nat → Int32} {Q : zQ} {i : Nat} (hb : b + 6 ≤ n) (hR : tR B H T K V s a) (hi : i < B) (hq : Q (.inl (some (.int (nI (hop B H T K i))))) n (tW h b s a)) : Zj l mX6_hopsIn d kc ks 0 [(0, .ref b), (1, .int ((nI i)))] [] n (tW h b s a) Q := by
  obtain ⟨okb, h2H, hH6, h1T, hT99, e6, e7, e8, ek, ev, eh, ekv, ez⟩ := id hR
  have hle := okb.le
  refine z_iload_n (j := 1) dX6_hopsIn_0 rfl ?_
  refine z_if_lt (tgt := 27) dX6_hopsIn_1 (by decide) (fun c_1 => absurd c_1 (nI_pos (by omega))) (fun c_1 => ?_)
  refine z_iload_n (j := 1) dX6_hopsIn_4 rfl ?_
  refine z_aload_n (j := 0) dX6_hopsIn_5 rfl ?_
  refine z_get (v := .int (s 6)) (by omega) tW_obj fX6_64 rfl dX6_hopsIn_6 ?_
  refine z_icmp_ge (tgt := 27) dX6_hopsIn_9 (by decide) (fun c_9 => absurd c_9 (by rw [e6]; exact nI_ge hi okb.lt31)) (fun c_9 => ?_)
  refine z_iload_n (j := 1) dX6_hopsIn_12 rfl ?_
  refine z_bipush (v := 64) dX6_hopsIn_13 (by decide) ?_
  refine z_icmp_ge (tgt := 27) dX6_hopsIn_15 (by decide) (fun c_15 => absurd c_15 (nI_ge (b := 64) (by omega) (by decide))) (fun c_15 => ?_)
  refine z_aload_n (j := 0) dX6_hopsIn_18 rfl ?_
  refine z_get (v := .ref (b + 3)) (by omega) tW_obj fX6_18 rfl dX6_hopsIn_19 ?_
  refine z_iload_n (j := 1) dX6_hopsIn_22 rfl ?_
  refine t_ald 2 (by decide) hb (vp_in_nI (by omega) (by decide)) dX6_hopsIn_23 ?_
  refine z_goto (tgt := 28) dX6_hopsIn_24 (by decide) ?_
  exact z_iret rfl dX6_hopsIn_28 (by rw [nI_clamp (by omega), eh i (by omega)]; exact hq)

set_option maxHeartbeats 4000000 in
set_option maxRecDepth 100000 in
theorem w_hopsInN {l : zL} {d kc ks n b : Nat} {h : Nat → va_E} {s : Nat → Int32} {a : Nat → Nat → Int32} {Q : zQ} (hb : b + 6 ≤ n) (hq : Q (.inl (some (.int 0))) n (tW h b s a)) : Zj l mX6_hopsIn d kc ks 0 [(0, .ref b), (1, .int ((-1)))] [] n (tW h b s a) Q := by
  refine z_iload_n (j := 1) dX6_hopsIn_0 rfl ?_
  refine z_if_lt (tgt := 27) dX6_hopsIn_1 (by decide) (fun c_1 => ?_) (fun c_1 => absurd (by decide) c_1)
  refine z_iconst (v := 0) dX6_hopsIn_27 (by decide) ?_
  exact z_iret rfl dX6_hopsIn_28 (hq)

set_option maxHeartbeats 4000000 in
set_option maxRecDepth 100000 in
theorem w_hasBucket {l : zL} {d kc ks n b B H T : Nat} {h : Nat → va_E} {K V : Nat → Nat} {s : Nat → Int32} {a : Nat → Nat → Int32} {Q : zQ} {i : Nat} (hb : b + 6 ≤ n) (hR : tR B H T K V s a) (hi : i < B) (hq : Q (.inl (some (.int 1))) n (tW h b s a)) : Zj l mX6_hasBucket d kc ks 0 [(0, .ref b), (1, .int ((nI i)))] [] n (tW h b s a) Q := by
  obtain ⟨okb, h2H, hH6, h1T, hT99, e6, e7, e8, ek, ev, eh, ekv, ez⟩ := id hR
  have hle := okb.le
  refine z_iload_n (j := 1) dX6_hasBucket_0 rfl ?_
  refine z_if_lt (tgt := 22) dX6_hasBucket_1 (by decide) (fun c_1 => absurd c_1 (nI_pos (by omega))) (fun c_1 => ?_)
  refine z_iload_n (j := 1) dX6_hasBucket_4 rfl ?_
  refine z_aload_n (j := 0) dX6_hasBucket_5 rfl ?_
  refine z_get (v := .int (s 6)) (by omega) tW_obj fX6_64 rfl dX6_hasBucket_6 ?_
  refine z_icmp_ge (tgt := 22) dX6_hasBucket_9 (by decide) (fun c_9 => absurd c_9 (by rw [e6]; exact nI_ge hi okb.lt31)) (fun c_9 => ?_)
  refine z_iload_n (j := 1) dX6_hasBucket_12 rfl ?_
  refine z_bipush (v := 64) dX6_hasBucket_13 (by decide) ?_
  refine z_icmp_ge (tgt := 22) dX6_hasBucket_15 (by decide) (fun c_15 => absurd c_15 (nI_ge (b := 64) (by omega) (by decide))) (fun c_15 => ?_)
  refine z_iconst (v := 1) dX6_hasBucket_18 (by decide) ?_
  refine z_goto (tgt := 23) dX6_hasBucket_19 (by decide) ?_
  exact z_zret rfl rfl dX6_hasBucket_23 (hq)

set_option maxHeartbeats 4000000 in
set_option maxRecDepth 100000 in
theorem w_hasBucketN {l : zL} {d kc ks n b : Nat} {h : Nat → va_E} {s : Nat → Int32} {a : Nat → Nat → Int32} {Q : zQ} (hb : b + 6 ≤ n) (hq : Q (.inl (some (.int 0))) n (tW h b s a)) : Zj l mX6_hasBucket d kc ks 0 [(0, .ref b), (1, .int ((-1)))] [] n (tW h b s a) Q := by
  refine z_iload_n (j := 1) dX6_hasBucket_0 rfl ?_
  refine z_if_lt (tgt := 22) dX6_hasBucket_1 (by decide) (fun c_1 => ?_) (fun c_1 => absurd (by decide) c_1)
  refine z_iconst (v := 0) dX6_hasBucket_22 (by decide) ?_
  exact z_zret rfl rfl dX6_hasBucket_23 (hq)

set_option maxHeartbeats 4000000 in
set_option maxRecDepth 100000 in
theorem w_homeFor {l : zL} {d kc ks n b B H T : Nat} {h : Nat → va_E} {K V : Nat → Nat} {s : Nat → Int32} {a : Nat → Nat → Int32} {Q : zQ} {key : Nat} (hb : b + 6 ≤ n) (hR : tR B H T K V s a) (hkey : key ≤ 9999) (hq : Q (.inl (some (.int (nI (hmo B T key))))) n (tW h b s a)) : Zj l mX6_homeFor d kc ks 0 [(0, .ref b), (1, .int ((nI key)))] [] n (tW h b s a) Q := by
  obtain ⟨okb, h2H, hH6, h1T, hT99, e6, e7, e8, ek, ev, eh, ekv, ez⟩ := id hR
  have hle := okb.le
  refine z_iload_n (j := 1) dX6_homeFor_0 rfl ?_
  refine z_aload_n (j := 0) dX6_homeFor_1 rfl ?_
  refine z_get (v := .int (s 8)) (by omega) tW_obj fX6_35 rfl dX6_homeFor_2 ?_
  refine z_imul dX6_homeFor_5 ?_
  refine z_sipush (v := 997) dX6_homeFor_6 (by decide) ?_
  refine z_irem (by decide) dX6_homeFor_9 ?_
  refine z_aload_n (j := 0) dX6_homeFor_10 rfl ?_
  refine z_get (v := .int (s 6)) (by omega) tW_obj fX6_64 rfl dX6_homeFor_11 ?_
  refine z_iconst (v := 1) dX6_homeFor_14 (by decide) ?_
  refine z_isub dX6_homeFor_15 ?_
  refine z_iand dX6_homeFor_16 ?_
  exact z_iret rfl dX6_homeFor_17 (by
      have e : ((nI key * s 8 - nI key * s 8 / 997 * 997) &&& (s 6 - 1)) = nI (hmo B T key) := by
        rw [e6, e8, pk_mul]
        have hm : key * T ≤ 9999 * 99 := Nat.mul_le_mul hkey hT99
        rw [show (997 : Int32) = nI 997 from rfl, pk_rem (by omega) (by decide) (by decide), mB okb (by omega)]
        rfl
      rw [e]
      exact hq)
end
section
/-! SEARCHES, AND WHAT THE TABLE'S READING METHODS ANSWER -/
def fnd (p : Nat → Bool) : Nat → Nat → Option Nat
  | 0, _ => none
  | m + 1, k => if p k = true then some k else fnd p m (k + 1)
theorem fnd_yes {p : Nat → Bool} {m k : Nat} (h : p k = true) : fnd p (m + 1) k = some k := by simp [fnd, h]
theorem fnd_no {p : Nat → Bool} {m k : Nat} (h : p k = false) : fnd p (m + 1) k = fnd p m (k + 1) := by simp [fnd, h]
theorem fnd_some {p : Nat → Bool} : ∀ {m k j : Nat}, fnd p m k = some j → k ≤ j ∧ j < k + m ∧ p j = true
  | 0, _, _, h => by simp [fnd] at h
  | m + 1, k, j, h => by
    by_cases hp : p k = true
    · rw [fnd_yes hp] at h
      cases h
      exact ⟨Nat.le_refl _, by omega, hp⟩
    · have hp' : p k = false := by simpa using hp
      rw [fnd_no hp'] at h
      obtain ⟨h1, h2, h3⟩ := fnd_some h
      exact ⟨by omega, by omega, h3⟩
theorem fnd_first {p : Nat → Bool} : ∀ {m k j : Nat}, fnd p m k = some j → ∀ i, k ≤ i → i < j → p i = false
  | 0, _, _, h => by simp [fnd] at h
  | m + 1, k, j, h => by
    intro i hi hj
    by_cases hp : p k = true
    · rw [fnd_yes hp] at h
      cases h
      omega
    · have hp' : p k = false := by simpa using hp
      rw [fnd_no hp'] at h
      by_cases hik : i = k
      · subst hik; exact hp'
      · exact fnd_first h i (by omega) hj
theorem fnd_none {p : Nat → Bool} : ∀ {m k : Nat}, fnd p m k = none → ∀ i, k ≤ i → i < k + m → p i = false
  | 0, _, _ => fun i h1 h2 => by omega
  | m + 1, k, h => by
    intro i hi hj
    by_cases hp : p k = true
    · rw [fnd_yes hp] at h; cases h
    · have hp' : p k = false := by simpa using hp
      rw [fnd_no hp'] at h
      by_cases hik : i = k
      · subst hik; exact hp'
      · exact fnd_none h i (by omega) (by omega)
theorem fnd_congr {p q : Nat → Bool} : ∀ {m k : Nat}, (∀ i, k ≤ i → i < k + m → p i = q i) → fnd p m k = fnd q m k
  | 0, _, _ => rfl
  | m + 1, k, h => by
    simp only [fnd]
    rw [h k (Nat.le_refl _) (by omega), fnd_congr (fun i h1 h2 => h i (by omega) (by omega))]
def optI (o : Option Nat) : Int32 := match o with
  | none => -1
  | some k => nI k
/-- how far the next free bucket is -/
def frD (B : Nat) (K : Nat → Nat) (f : Nat) : Option Nat := fnd (fun k => decide (K ((f + k) % B) = 0)) B 0
def dst (B T : Nat) (K : Nat → Nat) (i : Nat) : Nat := (i + B - hmo B T (K i - 1)) % B
def sfh (B T : Nat) (K : Nat → Nat) (i : Nat) : Int32 := if K i = 0 then -1 else nI (dst B T K i)
/-- where the entry with a key is, in the neighbourhood of its home -/
def bwp (B T : Nat) (K : Nat → Nat) (key : Nat) : Nat → Bool := fun k => decide (K ((hmo B T key + k) % B) = key + 1)
def bw (B H T : Nat) (K : Nat → Nat) (key : Nat) : Option Nat := (fnd (bwp B T K key) H 0).map fun k => (hmo B T key + k) % B
theorem mBadd {B x y : Nat} (hB : okB B) (hx : x < 2 ^ 20) (hy : y < 2 ^ 20) : (nI x + nI y) &&& (nI B - 1) = nI ((x + y) % B) := by
  rw [nI_add, mB hB (by omega)]
theorem isO_of {B T : Nat} {K : Nat → Nat} {b key : Nat} (h : K b = key + 1) : isO B T K b (hmo B T key) = true := by
  simp [isO, h]
end
section
set_option maxHeartbeats 4000000 in
set_option maxRecDepth 100000 in
theorem w_stepsToFree_l {l : zL} {d kc ks n b B H T : Nat} {h : Nat → va_E} {K V : Nat → Nat} {s : Nat → Int32} {a : Nat → Nat → Int32} {Q : zQ} {f : Nat} (hb : b + 6 ≤ n) (hR : tR B H T K V s a) (hf : f < B) : ∀ m k, k + m = B → Q (.inl (some (.int (optI (fnd (fun k => decide (K ((f + k) % B) = 0)) m k))))) n (tW h b s a) → Zj l mX6_stepsToFree (d + 1) kc ks 2 [(0, .ref b), (1, .int ((nI f))), (2, .int ((nI k)))] [] n (tW h b s a) Q := by
  obtain ⟨okb, h2H, hH6, h1T, hT99, e6, e7, e8, ek, ev, eh, ekv, ez⟩ := id hR
  have hle := okb.le
  intro m
  induction m with
  | zero =>
    intro k hk hq
    refine z_iload_n (j := 2) dX6_stepsToFree_2 rfl ?_
    refine z_aload_n (j := 0) dX6_stepsToFree_3 rfl ?_
    refine z_get (v := .int (s 6)) (by omega) tW_obj fX6_64 rfl dX6_stepsToFree_4 ?_
    refine z_icmp_ge (tgt := 36) dX6_stepsToFree_7 (by decide) (fun c_7 => ?_) (fun c_7 => absurd (by rw [e6]; exact nI_le (by omega) (by omega)) c_7)
    refine z_iconst (v := (-1)) dX6_stepsToFree_36 (by decide) ?_
    exact z_iret rfl dX6_stepsToFree_37 (by rw [show fnd _ 0 k = none from rfl] at hq; exact hq)
  | succ m ih =>
    intro k hk hq
    refine z_iload_n (j := 2) dX6_stepsToFree_2 rfl ?_
    refine z_aload_n (j := 0) dX6_stepsToFree_3 rfl ?_
    refine z_get (v := .int (s 6)) (by omega) tW_obj fX6_64 rfl dX6_stepsToFree_4 ?_
    refine z_icmp_ge (tgt := 36) dX6_stepsToFree_7 (by decide) (fun c_7 => absurd c_7 (by rw [e6]; exact nI_ge (by omega) okb.lt31)) (fun c_7 => ?_)
    refine z_aload_n (j := 0) dX6_stepsToFree_10 rfl ?_
    refine z_iload_n (j := 1) dX6_stepsToFree_11 rfl ?_
    refine z_iload_n (j := 2) dX6_stepsToFree_12 rfl ?_
    refine z_iadd dX6_stepsToFree_13 ?_
    refine z_aload_n (j := 0) dX6_stepsToFree_14 rfl ?_
    refine z_get (v := .int (s 6)) (by omega) tW_obj fX6_64 rfl dX6_stepsToFree_15 ?_
    refine z_iconst (v := 1) dX6_stepsToFree_18 (by decide) ?_
    refine z_isub dX6_stepsToFree_19 ?_
    refine z_iand dX6_stepsToFree_20 ?_
    have ei : ((nI f + nI k) &&& (s 6 - 1)) = nI ((f + k) % B) := by rw [e6]; exact mBadd okb (by omega) (by omega)
    rw [ei]
    refine z_cV [.int ((nI ((f + k) % B)))] (some (.int ((tkey (K ((f + k) % B)))))) yoX6_keyIn yvX6_keyIn rfl (by decide) lX6_124 (by omega) tW_obj rfl rfl (Nat.le_of_ble_eq_true rfl) (Nat.le_of_ble_eq_true rfl) dX6_stepsToFree_21 (z_room (by omega) (Nat.le_refl _) (Nat.le_refl _) (w_keyIn (d := 0) hb hR (mod_lt' okb) ⟨rfl, rfl, rfl⟩)) ?_
    refine z_iconst (v := (-1)) dX6_stepsToFree_24 (by decide) ?_
    refine z_icmp_ne (tgt := 30) dX6_stepsToFree_25 (by decide) (fun c_25 => ?_) (fun c_25 => ?_)
    · skip
      refine z_iinc ((nI (k + 1))) [1, 2, 0] [(0, .ref b), (1, .int ((nI f))), (2, .int ((nI (k + 1))))] dX6_stepsToFree_30 (j := 2) rfl (nI_1 k) (by decide) rfl ?_
      refine z_goto (tgt := 2) dX6_stepsToFree_33 (by decide) ?_
      refine ih (k + 1) (by omega) ?_
      rw [fnd_no (by simpa using fun e => c_25 ((tkey_eq (ekv _).1).mpr e))] at hq
      exact hq
    · refine z_iload_n (j := 2) dX6_stepsToFree_28 rfl ?_
      exact z_iret rfl dX6_stepsToFree_29 (by rw [fnd_yes (by simpa using (tkey_eq (ekv _).1).mp c_25)] at hq; exact hq)

set_option maxHeartbeats 4000000 in
set_option maxRecDepth 100000 in
theorem w_stepsToFree {l : zL} {d kc ks n b B H T : Nat} {h : Nat → va_E} {K V : Nat → Nat} {s : Nat → Int32} {a : Nat → Nat → Int32} {Q : zQ} {f : Nat} (hb : b + 6 ≤ n) (hR : tR B H T K V s a) (hf : f < B) (hq : Q (.inl (some (.int (optI (frD B K f))))) n (tW h b s a)) : Zj l mX6_stepsToFree (d + 1) kc ks 0 [(0, .ref b), (1, .int ((nI f)))] [] n (tW h b s a) Q := by
  refine z_iconst (v := 0) dX6_stepsToFree_0 (by decide) ?_
  refine z_istore_n [1, 2, 0] [(0, .ref b), (1, .int ((nI f))), (2, .int 0)] dX6_stepsToFree_1 (by decide) rfl ?_
  exact w_stepsToFree_l hb hR hf B 0 (by omega) hq

set_option maxHeartbeats 4000000 in
set_option maxRecDepth 100000 in
theorem w_stepsFromHome {l : zL} {d kc ks n b B H T : Nat} {h : Nat → va_E} {K V : Nat → Nat} {s : Nat → Int32} {a : Nat → Nat → Int32} {Q : zQ} {i : Nat} (hb : b + 6 ≤ n) (hR : tR B H T K V s a) (hi : i < B) (hq : Q (.inl (some (.int (sfh B T K i)))) n (tW h b s a)) : Zj l mX6_stepsFromHome (d + 1) kc ks 0 [(0, .ref b), (1, .int ((nI i)))] [] n (tW h b s a) Q := by
  obtain ⟨okb, h2H, hH6, h1T, hT99, e6, e7, e8, ek, ev, eh, ekv, ez⟩ := id hR
  have hle := okb.le
  by_cases hK : K i = 0
  · skip
    refine z_aload_n (j := 0) dX6_stepsFromHome_0 rfl ?_
    refine z_iload_n (j := 1) dX6_stepsFromHome_1 rfl ?_
    refine z_cV [.int ((nI i))] (some (.int ((tkey (K i))))) yoX6_keyIn yvX6_keyIn rfl (by decide) lX6_124 (by omega) tW_obj rfl rfl (Nat.le_of_ble_eq_true rfl) (Nat.le_of_ble_eq_true rfl) dX6_stepsFromHome_2 (z_room (by omega) (Nat.le_refl _) (Nat.le_refl _) (w_keyIn (d := 0) hb hR hi ⟨rfl, rfl, rfl⟩)) ?_
    refine z_istore_n [1, 2, 0] [(0, .ref b), (1, .int ((nI i))), (2, .int ((tkey (K i))))] dX6_stepsFromHome_5 (by decide) rfl ?_
    refine z_iload_n (j := 2) dX6_stepsFromHome_6 rfl ?_
    refine z_iconst (v := (-1)) dX6_stepsFromHome_7 (by decide) ?_
    refine z_icmp_ne (tgt := 15) dX6_stepsFromHome_8 (by decide) (fun c_8 => (absurd ((tkey_eq (ekv i).1).mpr hK) c_8)) (fun c_8 => ?_)
    refine z_iconst (v := (-1)) dX6_stepsFromHome_11 (by decide) ?_
    refine z_goto (tgt := 29) dX6_stepsFromHome_12 (by decide) ?_
    exact z_iret rfl dX6_stepsFromHome_29 (by rw [sfh, if_pos hK] at hq; exact hq)
  · skip
    refine z_aload_n (j := 0) dX6_stepsFromHome_0 rfl ?_
    refine z_iload_n (j := 1) dX6_stepsFromHome_1 rfl ?_
    refine z_cV [.int ((nI i))] (some (.int ((tkey (K i))))) yoX6_keyIn yvX6_keyIn rfl (by decide) lX6_124 (by omega) tW_obj rfl rfl (Nat.le_of_ble_eq_true rfl) (Nat.le_of_ble_eq_true rfl) dX6_stepsFromHome_2 (z_room (by omega) (Nat.le_refl _) (Nat.le_refl _) (w_keyIn (d := 0) hb hR hi ⟨rfl, rfl, rfl⟩)) ?_
    refine z_istore_n [1, 2, 0] [(0, .ref b), (1, .int ((nI i))), (2, .int ((tkey (K i))))] dX6_stepsFromHome_5 (by decide) rfl ?_
    refine z_iload_n (j := 2) dX6_stepsFromHome_6 rfl ?_
    refine z_iconst (v := (-1)) dX6_stepsFromHome_7 (by decide) ?_
    refine z_icmp_ne (tgt := 15) dX6_stepsFromHome_8 (by decide) (fun c_8 => ?_) (fun c_8 => absurd ((tkey_eq (ekv i).1).mp c_8) hK)
    refine z_iload_n (j := 1) dX6_stepsFromHome_15 rfl ?_
    refine z_aload_n (j := 0) dX6_stepsFromHome_16 rfl ?_
    refine z_iload_n (j := 2) dX6_stepsFromHome_17 rfl ?_
    rw [tkey_ne hK]
    refine z_cV [.int ((nI (K i - 1)))] (some (.int ((nI (hmo B T (K i - 1)))))) yoX6_homeFor yvX6_homeFor rfl (by decide) lX6_94 (by omega) tW_obj rfl rfl (Nat.le_of_ble_eq_true rfl) (Nat.le_of_ble_eq_true rfl) dX6_stepsFromHome_18 (z_room (by omega) (Nat.le_refl _) (Nat.le_refl _) (w_homeFor (d := 0) hb hR (by have := (ekv i).1; omega) ⟨rfl, rfl, rfl⟩)) ?_
    refine z_isub dX6_stepsFromHome_21 ?_
    refine z_aload_n (j := 0) dX6_stepsFromHome_22 rfl ?_
    refine z_get (v := .int (s 6)) (by omega) tW_obj fX6_64 rfl dX6_stepsFromHome_23 ?_
    refine z_iconst (v := 1) dX6_stepsFromHome_26 (by decide) ?_
    refine z_isub dX6_stepsFromHome_27 ?_
    refine z_iand dX6_stepsFromHome_28 ?_
    exact z_iret rfl dX6_stepsFromHome_29 (by
        rw [sfh, if_neg hK] at hq
        rw [e6, mBsub okb hi (hmo_lt okb _ _)]
        exact hq)

set_option maxHeartbeats 4000000 in
set_option maxRecDepth 100000 in
theorem w_stepsFromHomeN {l : zL} {d kc ks n b : Nat} {h : Nat → va_E} {s : Nat → Int32} {a : Nat → Nat → Int32} {Q : zQ} (hb : b + 6 ≤ n) (hq : Q (.inl (some (.int (-1)))) n (tW h b s a)) : Zj l mX6_stepsFromHome (d + 1) kc ks 0 [(0, .ref b), (1, .int ((-1)))] [] n (tW h b s a) Q := by
  refine z_aload_n (j := 0) dX6_stepsFromHome_0 rfl ?_
  refine z_iload_n (j := 1) dX6_stepsFromHome_1 rfl ?_
  refine z_cV [.int ((-1))] (some (.int ((-1)))) yoX6_keyIn yvX6_keyIn rfl (by decide) lX6_124 (by omega) tW_obj rfl rfl (Nat.le_of_ble_eq_true rfl) (Nat.le_of_ble_eq_true rfl) dX6_stepsFromHome_2 (z_room (by omega) (Nat.le_refl _) (Nat.le_refl _) (w_keyInN (d := 0) hb ⟨rfl, rfl, rfl⟩)) ?_
  refine z_istore_n [1, 2, 0] [(0, .ref b), (1, .int ((-1))), (2, .int ((-1)))] dX6_stepsFromHome_5 (by decide) rfl ?_
  refine z_iload_n (j := 2) dX6_stepsFromHome_6 rfl ?_
  refine z_iconst (v := (-1)) dX6_stepsFromHome_7 (by decide) ?_
  refine z_icmp_ne (tgt := 15) dX6_stepsFromHome_8 (by decide) (fun c_8 => absurd rfl c_8) (fun c_8 => ?_)
  refine z_iconst (v := (-1)) dX6_stepsFromHome_11 (by decide) ?_
  refine z_goto (tgt := 29) dX6_stepsFromHome_12 (by decide) ?_
  exact z_iret rfl dX6_stepsFromHome_29 (hq)
end
section
/-! WRITES OF THE TABLE, AS NUMBERS: an entry laid, taken out, moved -/
def upB (f : Nat → Bool) (k : Nat) (v : Bool) : Nat → Bool := fun j => if j = k then v else f j
theorem hb6_congr {f g : Nat → Bool} : ∀ {n : Nat}, (∀ k, k < n → f k = g k) → hb6 f n = hb6 g n
  | 0, _ => rfl
  | n + 1, h => by
    simp only [hb6]
    rw [hb6_congr (fun k hk => h k (by omega)), h n (by omega)]
theorem bset : ∀ x, x < 64 → ∀ t, t < 6 → nI x ||| ((1 : Int32) <<< (nI t &&& 31)) = nI (x ||| 2 ^ t) := by decide +kernel
theorem bclr : ∀ x, x < 64 → ∀ t, t < 6 → nI x &&& (((1 : Int32) <<< (nI t &&& 31)) ^^^ (-1)) = nI (x &&& (63 ^^^ 2 ^ t)) := by decide +kernel
theorem bset_bit : ∀ x, x < 64 → ∀ t, t < 6 → (x ||| 2 ^ t) < 64 ∧ ∀ k, k < 6 → (x ||| 2 ^ t).testBit k = (if k = t then true else x.testBit k) := by decide +kernel
theorem bclr_bit : ∀ x, x < 64 → ∀ t, t < 6 → (x &&& (63 ^^^ 2 ^ t)) < 64 ∧ ∀ k, k < 6 → (x &&& (63 ^^^ 2 ^ t)).testBit k = (if k = t then false else x.testBit k) := by decide +kernel
theorem eq64 {x y : Nat} (hx : x < 64) (hy : y < 64) (h : ∀ k, k < 6 → x.testBit k = y.testBit k) : x = y := by
  apply Nat.eq_of_testBit_eq
  intro i
  by_cases hi : i < 6
  · exact h i hi
  · have h2 : 2 ^ 6 ≤ 2 ^ i := Nat.pow_le_pow_right (by decide) (by omega)
    rw [Nat.testBit_lt_two_pow (by omega), Nat.testBit_lt_two_pow (by omega)]
theorem hb6_lt64 {f : Nat → Bool} {H : Nat} (hH : H ≤ 6) : hb6 f H < 64 := Nat.lt_of_lt_of_le (hb6_lt _ _) (Nat.pow_le_pow_right (by decide) hH : 2 ^ H ≤ 2 ^ 6)
theorem hb6_set {f : Nat → Bool} {H t : Nat} (hH : H ≤ 6) (ht : t < H) : hb6 f H ||| 2 ^ t = hb6 (upB f t true) H := by
  obtain ⟨h1, h2⟩ := bset_bit _ (hb6_lt64 (f := f) hH) t (by omega)
  refine eq64 h1 (hb6_lt64 hH) fun k hk => ?_
  rw [h2 k hk, hb6_bit, hb6_bit]
  by_cases hkt : k = t
  · simp [upB, hkt, ht]
  · simp [upB, hkt]
theorem hb6_clr {f : Nat → Bool} {H t : Nat} (hH : H ≤ 6) (ht : t < H) : hb6 f H &&& (63 ^^^ 2 ^ t) = hb6 (upB f t false) H := by
  obtain ⟨h1, h2⟩ := bclr_bit _ (hb6_lt64 (f := f) hH) t (by omega)
  refine eq64 h1 (hb6_lt64 hH) fun k hk => ?_
  rw [h2 k hk, hb6_bit, hb6_bit]
  by_cases hkt : k = t
  · simp [upB, hkt]
  · simp [upB, hkt]
theorem modB_inj {B h i j : Nat} (hB : okB B) (hi : i < B) (hj : j < B) (e : (h + i) % B = (h + j) % B) : i = j := by
  rcases hB with rfl | rfl | rfl | rfl <;> omega
theorem isO_uniq {B T : Nat} {K : Nat → Nat} {b h g : Nat} (h1 : isO B T K b h = true) : isO B T K b g = decide (g = h) := by
  simp only [isO, Bool.and_eq_true, decide_eq_true_eq] at h1
  simp only [isO, h1.1, h1.2, ne_eq, not_false_eq_true, decide_true, Bool.true_and]
  by_cases e : g = h
  · simp [e]
  · have : ¬ h = g := fun z => e z.symm
    simp [e, this]
theorem isO_free {B T : Nat} {K : Nat → Nat} {b h : Nat} (h1 : K b = 0) : isO B T K b h = false := by simp [isO, h1]
/-- an entry is laid -/
theorem hop_put {B H T : Nat} {K : Nat → Nat} {hm t key : Nat} (hB : okB B) (hH : H ≤ 6) (ht : t < H) (hf : K ((hm + t) % B) = 0) (hk : hmo B T key = hm) (i : Nat) :
    hop B H T (va_up K ((hm + t) % B) (key + 1)) i = if i = hm then hop B H T K hm ||| 2 ^ t else hop B H T K i := by
  have hle := hB.le
  by_cases hi : i = hm
  · subst hi
    rw [if_pos rfl]
    unfold hop
    rw [hb6_set hH ht]
    refine hb6_congr fun k hkH => ?_
    by_cases hkt : k = t
    · subst hkt
      simp [upB, isO, va_up, hk]
    · have hne : ¬ (i + k) % B = (i + t) % B := fun e => hkt (modB_inj hB (by omega) (by omega) e)
      simp [upB, hkt, isO, va_up, hne]
  · rw [if_neg hi]
    unfold hop
    refine hb6_congr fun k hkH => ?_
    by_cases hx : (i + k) % B = (hm + t) % B
    · rw [hx, isO_free hf]
      have : ¬ hm = i := fun e => hi e.symm
      simp [isO, va_up, hk, this]
    · simp [isO, va_up, hx]
theorem tR_put {B H T : Nat} {K V : Nat → Nat} {s : Nat → Int32} {a a' : Nat → Nat → Int32} {hm t key v : Nat} (hR : tR B H T K V s a) (ht : t < H) (hf : K ((hm + t) % B) = 0) (hm1 : hm < B) (hk : hmo B T key = hm) (hkey : key ≤ 9999) (hv : v ≤ 999)
    (h0 : ∀ i, i < 64 → a' 0 i = if i = (hm + t) % B then nI key else a 0 i) (h1 : ∀ i, i < 64 → a' 1 i = if i = (hm + t) % B then nI v else a 1 i) (h2 : ∀ i, i < 64 → a' 2 i = if i = hm then a 2 hm ||| ((1 : Int32) <<< (nI t &&& 31)) else a 2 i) :
    tR B H T (va_up K ((hm + t) % B) (key + 1)) (va_up V ((hm + t) % B) v) s a' := by
  obtain ⟨okb, h2H, hH6, h1T, hT99, e6, e7, e8, ek, ev, eh, ekv, ez⟩ := hR
  have hle := okb.le
  refine ⟨okb, h2H, hH6, h1T, hT99, e6, e7, e8, fun i hi => ?_, fun i hi => ?_, fun i hi => ?_, fun i => ?_, fun i hi => ?_⟩
  · rw [h0 i hi]
    by_cases hx : i = (hm + t) % B
    · simp [hx, va_up, tkey]
    · simp [hx, va_up, ek i hi]
  · rw [h1 i hi]
    by_cases hx : i = (hm + t) % B
    · simp [hx, va_up, tval]
    · simp [hx, va_up, ev i hi]
  · rw [h2 i hi, hop_put okb hH6 ht hf hk i]
    by_cases hx : i = hm
    · rw [if_pos hx, if_pos hx, eh hm (by omega), bset _ (hop_lt hH6) t (by omega)]
    · rw [if_neg hx, if_neg hx, eh i hi]
  · by_cases hx : i = (hm + t) % B
    · simp only [va_up, hx, if_true]; omega
    · simp only [va_up, if_neg hx]; exact ekv i
  · have hx : ¬ i = (hm + t) % B := by have := mod_lt' okb (x := hm + t); omega
    simp only [va_up, if_neg hx]; exact ez i hi
/-- an entry is taken out -/
theorem hop_del {B H T : Nat} {K : Nat → Nat} {hm t : Nat} (hB : okB B) (hH : H ≤ 6) (ht : t < H) (ho : isO B T K ((hm + t) % B) hm = true) (i : Nat) :
    hop B H T (va_up K ((hm + t) % B) 0) i = if i = hm then hop B H T K hm &&& (63 ^^^ 2 ^ t) else hop B H T K i := by
  have hle := hB.le
  by_cases hi : i = hm
  · subst hi
    rw [if_pos rfl]
    unfold hop
    rw [hb6_clr hH ht]
    refine hb6_congr fun k hkH => ?_
    by_cases hkt : k = t
    · subst hkt
      simp [upB, isO, va_up]
    · have hne : ¬ (i + k) % B = (i + t) % B := fun e => hkt (modB_inj hB (by omega) (by omega) e)
      simp [upB, hkt, isO, va_up, hne]
  · rw [if_neg hi]
    unfold hop
    refine hb6_congr fun k hkH => ?_
    by_cases hx : (i + k) % B = (hm + t) % B
    · rw [hx, isO_uniq ho]
      simp [isO, va_up, hi]
    · simp [isO, va_up, hx]
theorem tR_del {B H T : Nat} {K V : Nat → Nat} {s : Nat → Int32} {a a' : Nat → Nat → Int32} {hm t : Nat} (hR : tR B H T K V s a) (ht : t < H) (ho : isO B T K ((hm + t) % B) hm = true) (hm1 : hm < B)
    (h0 : ∀ i, i < 64 → a' 0 i = if i = (hm + t) % B then -1 else a 0 i) (h1 : ∀ i, i < 64 → a' 1 i = if i = (hm + t) % B then -1 else a 1 i) (h2 : ∀ i, i < 64 → a' 2 i = if i = hm then a 2 hm &&& (((1 : Int32) <<< (nI t &&& 31)) ^^^ (-1)) else a 2 i) :
    tR B H T (va_up K ((hm + t) % B) 0) (va_up V ((hm + t) % B) 0) s a' := by
  obtain ⟨okb, h2H, hH6, h1T, hT99, e6, e7, e8, ek, ev, eh, ekv, ez⟩ := hR
  have hle := okb.le
  refine ⟨okb, h2H, hH6, h1T, hT99, e6, e7, e8, fun i hi => ?_, fun i hi => ?_, fun i hi => ?_, fun i => ?_, fun i hi => ?_⟩
  · rw [h0 i hi]
    by_cases hx : i = (hm + t) % B
    · simp [hx, va_up, tkey]
    · simp [hx, va_up, ek i hi]
  · rw [h1 i hi]
    by_cases hx : i = (hm + t) % B
    · simp [hx, va_up, tval]
    · simp [hx, va_up, ev i hi]
  · rw [h2 i hi, hop_del okb hH6 ht ho i]
    by_cases hx : i = hm
    · rw [if_pos hx, if_pos hx, eh hm (by omega), bclr _ (hop_lt hH6) t (by omega)]
    · rw [if_neg hx, if_neg hx, eh i hi]
  · by_cases hx : i = (hm + t) % B
    · simp [va_up, hx]
    · simp only [va_up, if_neg hx]; exact ekv i
  · by_cases hx : i = (hm + t) % B
    · simp [va_up, hx]
    · simp only [va_up, if_neg hx]; exact ez i hi
/-- an entry moves within its neighbourhood -/
def mvK (K : Nat → Nat) (src tgt : Nat) : Nat → Nat := va_up (va_up K src 0) tgt (K src)
theorem hop_mv {B H T : Nat} {K : Nat → Nat} {hm f t : Nat} (hB : okB B) (hH : H ≤ 6) (hf : f < H) (ht : t < H) (hft : f ≠ t) (ho : isO B T K ((hm + f) % B) hm = true) (hfree : K ((hm + t) % B) = 0) (i : Nat) :
    hop B H T (mvK K ((hm + f) % B) ((hm + t) % B)) i = if i = hm then (hop B H T K hm &&& (63 ^^^ 2 ^ f)) ||| 2 ^ t else hop B H T K i := by
  have hle := hB.le
  have hne : ¬ (hm + t) % B = (hm + f) % B := fun e => hft (modB_inj hB (by omega) (by omega) e).symm
  have h1 : va_up K ((hm + f) % B) 0 ((hm + t) % B) = 0 := by simp only [va_up, if_neg hne]; exact hfree
  have h2 : K ((hm + f) % B) ≠ 0 ∧ hmo B T (K ((hm + f) % B) - 1) = hm := by simpa [isO] using ho
  have h3 : K ((hm + f) % B) = (K ((hm + f) % B) - 1) + 1 := by omega
  unfold mvK
  rw [h3, hop_put hB hH ht h1 h2.2 i]
  by_cases hi : i = hm
  · rw [if_pos hi, if_pos hi, hop_del hB hH hf ho hm, if_pos rfl]
  · rw [if_neg hi, if_neg hi, hop_del hB hH hf ho i, if_neg hi]
theorem tR_mv {B H T : Nat} {K V : Nat → Nat} {s : Nat → Int32} {a a' : Nat → Nat → Int32} {hm f t : Nat} (hR : tR B H T K V s a) (hf : f < H) (ht : t < H) (hft : f ≠ t) (ho : isO B T K ((hm + f) % B) hm = true) (hfree : K ((hm + t) % B) = 0) (hm1 : hm < B)
    (h0 : ∀ i, i < 64 → a' 0 i = if i = (hm + f) % B then -1 else if i = (hm + t) % B then a 0 ((hm + f) % B) else a 0 i) (h1 : ∀ i, i < 64 → a' 1 i = if i = (hm + f) % B then -1 else if i = (hm + t) % B then a 1 ((hm + f) % B) else a 1 i)
    (h2 : ∀ i, i < 64 → a' 2 i = if i = hm then (a 2 hm &&& (((1 : Int32) <<< (nI f &&& 31)) ^^^ (-1))) ||| ((1 : Int32) <<< (nI t &&& 31)) else a 2 i) :
    tR B H T (mvK K ((hm + f) % B) ((hm + t) % B)) (mvK V ((hm + f) % B) ((hm + t) % B)) s a' := by
  obtain ⟨okb, h2H, hH6, h1T, hT99, e6, e7, e8, ek, ev, eh, ekv, ez⟩ := hR
  have hle := okb.le
  have hlf := mod_lt' okb (x := hm + f)
  have hlt := mod_lt' okb (x := hm + t)
  have hne : ¬ (hm + f) % B = (hm + t) % B := fun e => hft (modB_inj okb (by omega) (by omega) e)
  have hs : K ((hm + f) % B) ≠ 0 := by
    have h2 : K ((hm + f) % B) ≠ 0 ∧ hmo B T (K ((hm + f) % B) - 1) = hm := by simpa [isO] using ho
    exact h2.1
  refine ⟨okb, h2H, hH6, h1T, hT99, e6, e7, e8, fun i hi => ?_, fun i hi => ?_, fun i hi => ?_, fun i => ?_, fun i hi => ?_⟩
  · rw [h0 i hi]
    by_cases hx : i = (hm + f) % B
    · subst hx
      simp [mvK, va_up, tkey, hne]
    · rw [if_neg hx]
      by_cases hy : i = (hm + t) % B
      · subst hy
        simp [mvK, va_up, ek _ (Nat.lt_of_lt_of_le hlf hle.2)]
      · simp [mvK, va_up, hx, hy, ek i hi]
  · rw [h1 i hi]
    by_cases hx : i = (hm + f) % B
    · subst hx
      simp [mvK, va_up, tval, hne]
    · rw [if_neg hx]
      by_cases hy : i = (hm + t) % B
      · subst hy
        simp [mvK, va_up, ev _ (Nat.lt_of_lt_of_le hlf hle.2)]
      · simp [mvK, va_up, hx, hy, ev i hi]
  · rw [h2 i hi, hop_mv okb hH6 hf ht hft ho hfree i]
    by_cases hx : i = hm
    · rw [if_pos hx, if_pos hx, eh hm (by omega), bclr _ (hop_lt hH6) f (by omega), bset _ (bclr_bit _ (hop_lt hH6) f (by omega)).1 t (by omega)]
    · rw [if_neg hx, if_neg hx, eh i hi]
  · by_cases hy : i = (hm + t) % B
    · simp only [mvK, va_up, hy, if_true]; exact ekv _
    · by_cases hx : i = (hm + f) % B
      · simp [mvK, va_up, hx, hne]
      · simp only [mvK, va_up, if_neg hx, if_neg hy]; exact ekv i
  · have hy : ¬ i = (hm + t) % B := by omega
    have hx : ¬ i = (hm + f) % B := by omega
    simp only [mvK, va_up, if_neg hx, if_neg hy]
    exact ez i hi
theorem tR_s {B H T : Nat} {K V : Nat → Nat} {s s' : Nat → Int32} {a : Nat → Nat → Int32} (hR : tR B H T K V s a) (h6 : s' 6 = s 6) (h7 : s' 7 = s 7) (h8 : s' 8 = s 8) : tR B H T K V s' a := by
  obtain ⟨okb, h2H, hH6, h1T, hT99, e6, e7, e8, r⟩ := hR
  exact ⟨okb, h2H, hH6, h1T, hT99, h6.trans e6, h7.trans e7, h8.trans e8, r⟩
end
section
/-! calls whose world behind is told by a property -/
theorem z_cVx {l : zL} {Y Y' : zM} {d kc ks pc n idx k : Nat} {lv : List (Nat × Value)} {rest : List Value} {h : Nat → va_E} {Q : zQ} {b ci : Nat} {fs : List Value} (As : List Value) (r : Option Value) (G : (Nat → va_E) → Prop) (hY : zY Y' k) (hYv : zYv Y') (hh : Y'.2.2.2.2 = []) (hnL : Y'.2.2.1 ≤ 20) (hlink : Cond.methodLink Y.1.cls idx Y'.1 ∈ zTs) (hb : b < n) (hhb : h b = .inr (ci, fs)) (hci : (vwCl[ci]?).map (fun q => q.1) = some Y'.1.cls) (hlen : As.length = k) (hsl : (lg_sl (.ref b :: As)).length ≤ Y'.2.2.1) (hcat : (rest.map fun v => v.category).sum ≤ 8) (hd : decode Y.2.1 pc = .ok (.invokevirtual idx, 3))
    (body : Zj l Y' d 0 0 0 (lv_args 0 (.ref b :: As)) [] n h (fun q n' g => q = .inl r ∧ n' = n ∧ G g))
    (kk : ∀ g, G g → Zj l Y (d + 1) kc ks (pc + 3) lv (r.toList ++ rest) n g Q) : Zj l Y (d + 1) kc ks pc lv (As.reverse ++ .ref b :: rest) n h Q :=
  z_callV (k1 := 0) (s1 := 0) (k2 := kc) (s2 := ks) _ hY hYv hh hnL hlink hb hhb hci hlen hsl hcat hd body (by omega) (by omega) (fun r' n' g hq => by
    obtain ⟨e1, rfl, hg⟩ := hq
    cases e1
    exact ⟨rfl, kk g hg⟩) (fun E n' g hq => by cases hq.1)
/-- .. and whose answer is told with it -/
theorem z_cVr {l : zL} {Y Y' : zM} {d kc ks pc n idx k : Nat} {lv : List (Nat × Value)} {rest : List Value} {h : Nat → va_E} {Q : zQ} {b ci : Nat} {fs : List Value} (As : List Value) (G : Option Value → (Nat → va_E) → Prop) (hY : zY Y' k) (hYv : zYv Y') (hh : Y'.2.2.2.2 = []) (hnL : Y'.2.2.1 ≤ 20) (hlink : Cond.methodLink Y.1.cls idx Y'.1 ∈ zTs) (hb : b < n) (hhb : h b = .inr (ci, fs)) (hci : (vwCl[ci]?).map (fun q => q.1) = some Y'.1.cls) (hlen : As.length = k) (hsl : (lg_sl (.ref b :: As)).length ≤ Y'.2.2.1) (hcat : (rest.map fun v => v.category).sum ≤ 8) (hd : decode Y.2.1 pc = .ok (.invokevirtual idx, 3))
    (body : Zj l Y' d 0 0 0 (lv_args 0 (.ref b :: As)) [] n h (fun q n' g => ∃ r, q = .inl r ∧ n' = n ∧ G r g))
    (kk : ∀ r g, G r g → Zj l Y (d + 1) kc ks (pc + 3) lv (r.toList ++ rest) n g Q) : Zj l Y (d + 1) kc ks pc lv (As.reverse ++ .ref b :: rest) n h Q :=
  z_callV (k1 := 0) (s1 := 0) (k2 := kc) (s2 := ks) _ hY hYv hh hnL hlink hb hhb hci hlen hsl hcat hd body (by omega) (by omega) (fun r' n' g hq => by
    obtain ⟨r0, e1, rfl, hg⟩ := hq
    cases e1
    exact ⟨rfl, kk _ g hg⟩) (fun E n' g hq => by obtain ⟨r0, e1, -⟩ := hq; cases e1)
end
section
set_option maxHeartbeats 4000000 in
set_option maxRecDepth 100000 in
theorem w_bucketWith_l {l : zL} {d kc ks n b B H T : Nat} {h : Nat → va_E} {K V : Nat → Nat} {s : Nat → Int32} {a : Nat → Nat → Int32} {Q : zQ} {key : Nat} (hb : b + 6 ≤ n) (hR : tR B H T K V s a) (hkey : key ≤ 9999) : ∀ m k, k + m = H → Q (.inl (some (.int (optI ((fnd (bwp B T K key) m k).map fun k => (hmo B T key + k) % B))))) n (tW h b s a) → Zj l mX6_bucketWith (d + 1) kc ks 8 [(0, .ref b), (1, .int ((nI key))), (2, .int ((nI (hmo B T key)))), (3, .int ((nI k)))] [] n (tW h b s a) Q := by
  obtain ⟨okb, h2H, hH6, h1T, hT99, e6, e7, e8, ek, ev, eh, ekv, ez⟩ := id hR
  have hle := okb.le
  intro m
  induction m with
  | zero =>
    intro k hk hq
    refine z_iload_n (j := 3) dX6_bucketWith_8 rfl ?_
    refine z_aload_n (j := 0) dX6_bucketWith_9 rfl ?_
    refine z_get (v := .int (s 7)) (by omega) tW_obj fX6_31 rfl dX6_bucketWith_10 ?_
    refine z_icmp_ge (tgt := 59) dX6_bucketWith_13 (by decide) (fun c_13 => ?_) (fun c_13 => absurd (by rw [e7]; exact nI_le (by omega) (by omega)) c_13)
    refine z_iconst (v := (-1)) dX6_bucketWith_59 (by decide) ?_
    exact z_iret rfl dX6_bucketWith_60 (by rw [show fnd _ 0 k = none from rfl] at hq; exact hq)
  | succ m ih =>
    intro k hk hq
    have hbit := hop_bit (B := B) (T := T) (K := K) (i := hmo B T key) hH6 (show k < H by omega)
    refine z_iload_n (j := 3) dX6_bucketWith_8 rfl ?_
    refine z_aload_n (j := 0) dX6_bucketWith_9 rfl ?_
    refine z_get (v := .int (s 7)) (by omega) tW_obj fX6_31 rfl dX6_bucketWith_10 ?_
    refine z_icmp_ge (tgt := 59) dX6_bucketWith_13 (by decide) (fun c_13 => absurd c_13 (by rw [e7]; exact nI_ge (by omega) (by omega))) (fun c_13 => ?_)
    refine z_iload_n (j := 2) dX6_bucketWith_16 rfl ?_
    refine z_iload_n (j := 3) dX6_bucketWith_17 rfl ?_
    refine z_iadd dX6_bucketWith_18 ?_
    refine z_aload_n (j := 0) dX6_bucketWith_19 rfl ?_
    refine z_get (v := .int (s 6)) (by omega) tW_obj fX6_64 rfl dX6_bucketWith_20 ?_
    refine z_iconst (v := 1) dX6_bucketWith_23 (by decide) ?_
    refine z_isub dX6_bucketWith_24 ?_
    refine z_iand dX6_bucketWith_25 ?_
    rw [show (((nI (hmo B T key)) + (nI k)) &&& ((s 6) - 1)) = (nI ((hmo B T key + k) % B)) from by rw [e6]; exact mBadd okb (by have := hmo_lt okb T key; omega) (by omega)]
    refine z_istore [1, 2, 3, 4, 0] [(0, .ref b), (1, .int ((nI key))), (2, .int ((nI (hmo B T key)))), (3, .int ((nI k))), (4, .int ((nI ((hmo B T key + k) % B))))] dX6_bucketWith_26 (by decide) rfl ?_
    refine z_aload_n (j := 0) dX6_bucketWith_28 rfl ?_
    refine z_iload_n (j := 2) dX6_bucketWith_29 rfl ?_
    refine z_cV [.int ((nI (hmo B T key)))] (some (.int ((nI (hop B H T K (hmo B T key)))))) yoX6_hopsIn yvX6_hopsIn rfl (by decide) lX6_115 (by omega) tW_obj rfl rfl (Nat.le_of_ble_eq_true rfl) (Nat.le_of_ble_eq_true rfl) dX6_bucketWith_30 (z_room (by omega) (Nat.le_refl _) (Nat.le_refl _) (w_hopsIn (d := 0) hb hR (hmo_lt okb T key) ⟨rfl, rfl, rfl⟩)) ?_
    refine z_iload_n (j := 3) dX6_bucketWith_33 rfl ?_
    refine z_ishr dX6_bucketWith_34 ?_
    refine z_iconst (v := 1) dX6_bucketWith_35 (by decide) ?_
    refine z_iand dX6_bucketWith_36 ?_
    refine z_if_eq (tgt := 53) dX6_bucketWith_37 (by decide) (fun c_37 => ?_) (fun c_37 => ?_)
    · have hno : bwp B T K key k = false := by
        have h0 := hbit.mp c_37
        simp only [bwp, decide_eq_false_iff_not]
        intro e
        rw [isO_of e] at h0
        cases h0
      skip
      refine z_iinc ((nI (k + 1))) [1, 2, 3, 0, 4] [(0, .ref b), (1, .int ((nI key))), (2, .int ((nI (hmo B T key)))), (3, .int ((nI (k + 1)))), (4, .int ((nI ((hmo B T key + k) % B))))] dX6_bucketWith_53 (j := 3) rfl (nI_1 k) (by decide) rfl ?_
      refine z_goto (tgt := 8) dX6_bucketWith_56 (by decide) ?_
      refine z_lv [(0, .ref b), (1, .int ((nI key))), (2, .int ((nI (hmo B T key)))), (3, .int ((nI (k + 1))))] [0, 1, 2, 3] rfl ?_
      refine ih (k + 1) (by omega) ?_
      rw [fnd_no hno] at hq
      exact hq
    · refine z_aload_n (j := 0) dX6_bucketWith_40 rfl ?_
      refine z_iload (j := 4) dX6_bucketWith_41 rfl ?_
      refine z_cV [.int ((nI ((hmo B T key + k) % B)))] (some (.int ((tkey (K ((hmo B T key + k) % B)))))) yoX6_keyIn yvX6_keyIn rfl (by decide) lX6_124 (by omega) tW_obj rfl rfl (Nat.le_of_ble_eq_true rfl) (Nat.le_of_ble_eq_true rfl) dX6_bucketWith_43 (z_room (by omega) (Nat.le_refl _) (Nat.le_refl _) (w_keyIn (d := 0) hb hR (mod_lt' okb) ⟨rfl, rfl, rfl⟩)) ?_
      refine z_iload_n (j := 1) dX6_bucketWith_46 rfl ?_
      refine z_icmp_ne (tgt := 53) dX6_bucketWith_47 (by decide) (fun c_47 => ?_) (fun c_47 => ?_)
      · have hno : bwp B T K key k = false := by
          simp only [bwp, decide_eq_false_iff_not]
          intro e
          exact c_47 ((tkey_is (ekv _).1 hkey).mpr e)
        skip
        refine z_iinc ((nI (k + 1))) [1, 2, 3, 0, 4] [(0, .ref b), (1, .int ((nI key))), (2, .int ((nI (hmo B T key)))), (3, .int ((nI (k + 1)))), (4, .int ((nI ((hmo B T key + k) % B))))] dX6_bucketWith_53 (j := 3) rfl (nI_1 k) (by decide) rfl ?_
        refine z_goto (tgt := 8) dX6_bucketWith_56 (by decide) ?_
        refine z_lv [(0, .ref b), (1, .int ((nI key))), (2, .int ((nI (hmo B T key)))), (3, .int ((nI (k + 1))))] [0, 1, 2, 3] rfl ?_
        refine ih (k + 1) (by omega) ?_
        rw [fnd_no hno] at hq
        exact hq
      · refine z_iload (j := 4) dX6_bucketWith_50 rfl ?_
        exact z_iret rfl dX6_bucketWith_52 (by
            have hyes : bwp B T K key k = true := by
              simp only [bwp, decide_eq_true_eq]
              exact (tkey_is (ekv _).1 hkey).mp c_47
            rw [fnd_yes hyes] at hq
            exact hq)

set_option maxHeartbeats 4000000 in
set_option maxRecDepth 100000 in
theorem w_bucketWith {l : zL} {d kc ks n b B H T : Nat} {h : Nat → va_E} {K V : Nat → Nat} {s : Nat → Int32} {a : Nat → Nat → Int32} {Q : zQ} {key : Nat} (hb : b + 6 ≤ n) (hR : tR B H T K V s a) (hkey : key ≤ 9999) (hq : Q (.inl (some (.int (optI (bw B H T K key))))) n (tW h b s a)) : Zj l mX6_bucketWith (d + 1) kc ks 0 [(0, .ref b), (1, .int ((nI key)))] [] n (tW h b s a) Q := by
  refine z_aload_n (j := 0) dX6_bucketWith_0 rfl ?_
  refine z_iload_n (j := 1) dX6_bucketWith_1 rfl ?_
  refine z_cV [.int ((nI key))] (some (.int ((nI (hmo B T key))))) yoX6_homeFor yvX6_homeFor rfl (by decide) lX6_94 (by omega) tW_obj rfl rfl (Nat.le_of_ble_eq_true rfl) (Nat.le_of_ble_eq_true rfl) dX6_bucketWith_2 (z_room (by omega) (Nat.le_refl _) (Nat.le_refl _) (w_homeFor (d := 0) hb hR hkey ⟨rfl, rfl, rfl⟩)) ?_
  refine z_istore_n [1, 2, 0] [(0, .ref b), (1, .int ((nI key))), (2, .int ((nI (hmo B T key))))] dX6_bucketWith_5 (by decide) rfl ?_
  refine z_iconst (v := 0) dX6_bucketWith_6 (by decide) ?_
  refine z_istore_n [1, 2, 3, 0] [(0, .ref b), (1, .int ((nI key))), (2, .int ((nI (hmo B T key)))), (3, .int 0)] dX6_bucketWith_7 (by decide) rfl ?_
  exact w_bucketWith_l hb hR hkey H 0 (by omega) hq

set_option maxHeartbeats 4000000 in
set_option maxRecDepth 100000 in
theorem w_shift {l : zL} {d kc ks n b B H T : Nat} {h : Nat → va_E} {K V : Nat → Nat} {s : Nat → Int32} {a : Nat → Nat → Int32} {Q : zQ} {hm f t : Nat} (hb : b + 6 ≤ n) (hR : tR B H T K V s a) (hm1 : hm < B) (hf : f < H) (ht : t < H) (hft : f ≠ t) (ho : isO B T K ((hm + f) % B) hm = true) (hfree : K ((hm + t) % B) = 0) (hq : ∀ a', tR B H T (mvK K ((hm + f) % B) ((hm + t) % B)) (mvK V ((hm + f) % B) ((hm + t) % B)) s a' → a' 3 = a 3 → a' 4 = a 4 → Q (.inl none) n (tW h b s a')) : Zj l mX6_shift d kc ks 0 [(0, .ref b), (1, .int ((nI hm))), (2, .int ((nI f))), (3, .int ((nI t)))] [] n (tW h b s a) Q := by
  obtain ⟨okb, h2H, hH6, h1T, hT99, e6, e7, e8, ek, ev, eh, ekv, ez⟩ := id hR
  have hle := okb.le
  have hlf := mod_lt' okb (x := hm + f)
  have hlt := mod_lt' okb (x := hm + t)
  have hcs : (nI ((hm + f) % B)).toNatClampNeg = ((hm + f) % B) := nI_clamp (by omega)
  have hct : (nI ((hm + t) % B)).toNatClampNeg = ((hm + t) % B) := nI_clamp (by omega)
  have hch : (nI hm).toNatClampNeg = hm := nI_clamp (by omega)
  refine z_iload_n (j := 1) dX6_shift_0 rfl ?_
  refine z_iload_n (j := 2) dX6_shift_1 rfl ?_
  refine z_iadd dX6_shift_2 ?_
  refine z_aload_n (j := 0) dX6_shift_3 rfl ?_
  refine z_get (v := .int (s 6)) (by omega) tW_obj fX6_64 rfl dX6_shift_4 ?_
  refine z_iconst (v := 1) dX6_shift_7 (by decide) ?_
  refine z_isub dX6_shift_8 ?_
  refine z_iand dX6_shift_9 ?_
  rw [show (((nI hm) + (nI f)) &&& ((s 6) - 1)) = (nI ((hm + f) % B)) from by rw [e6]; exact mBadd okb (by omega) (by omega)]
  refine z_istore [1, 2, 3, 4, 0] [(0, .ref b), (1, .int ((nI hm))), (2, .int ((nI f))), (3, .int ((nI t))), (4, .int ((nI ((hm + f) % B))))] dX6_shift_10 (by decide) rfl ?_
  refine z_iload_n (j := 1) dX6_shift_12 rfl ?_
  refine z_iload_n (j := 3) dX6_shift_13 rfl ?_
  refine z_iadd dX6_shift_14 ?_
  refine z_aload_n (j := 0) dX6_shift_15 rfl ?_
  refine z_get (v := .int (s 6)) (by omega) tW_obj fX6_64 rfl dX6_shift_16 ?_
  refine z_iconst (v := 1) dX6_shift_19 (by decide) ?_
  refine z_isub dX6_shift_20 ?_
  refine z_iand dX6_shift_21 ?_
  rw [show (((nI hm) + (nI t)) &&& ((s 6) - 1)) = (nI ((hm + t) % B)) from by rw [e6]; exact mBadd okb (by omega) (by omega)]
  refine z_istore [1, 2, 3, 4, 5, 0] [(0, .ref b), (1, .int ((nI hm))), (2, .int ((nI f))), (3, .int ((nI t))), (4, .int ((nI ((hm + f) % B)))), (5, .int ((nI ((hm + t) % B))))] dX6_shift_22 (by decide) rfl ?_
  refine z_iload (j := 4) dX6_shift_24 rfl ?_
  refine z_if_lt (tgt := 54) dX6_shift_26 (by decide) (fun c_26 => absurd c_26 (nI_pos (by omega))) (fun c_26 => ?_)
  refine z_iload (j := 4) dX6_shift_29 rfl ?_
  refine z_aload_n (j := 0) dX6_shift_31 rfl ?_
  refine z_get (v := .ref (b + 1)) (by omega) tW_obj fX6_9 rfl dX6_shift_32 ?_
  refine t_alen 0 (by decide) hb dX6_shift_35 ?_
  refine z_icmp_ge (tgt := 54) dX6_shift_36 (by decide) (fun c_36 => absurd c_36 (nI_ge (b := 64) (by omega) (by decide))) (fun c_36 => ?_)
  refine z_iload (j := 5) dX6_shift_39 rfl ?_
  refine z_if_lt (tgt := 54) dX6_shift_41 (by decide) (fun c_41 => absurd c_41 (nI_pos (by omega))) (fun c_41 => ?_)
  refine z_iload (j := 5) dX6_shift_44 rfl ?_
  refine z_aload_n (j := 0) dX6_shift_46 rfl ?_
  refine z_get (v := .ref (b + 1)) (by omega) tW_obj fX6_9 rfl dX6_shift_47 ?_
  refine t_alen 0 (by decide) hb dX6_shift_50 ?_
  refine z_icmp_lt (tgt := 55) dX6_shift_51 (by decide) (fun c_51 => ?_) (fun c_51 => absurd (nI_lt (b := 64) (by omega) (by decide)) c_51)
  refine z_iload_n (j := 1) dX6_shift_55 rfl ?_
  refine z_if_lt (tgt := 68) dX6_shift_56 (by decide) (fun c_56 => absurd c_56 (nI_pos (by omega))) (fun c_56 => ?_)
  refine z_iload_n (j := 1) dX6_shift_59 rfl ?_
  refine z_aload_n (j := 0) dX6_shift_60 rfl ?_
  refine z_get (v := .ref (b + 3)) (by omega) tW_obj fX6_18 rfl dX6_shift_61 ?_
  refine t_alen 2 (by decide) hb dX6_shift_64 ?_
  refine z_icmp_lt (tgt := 69) dX6_shift_65 (by decide) (fun c_65 => ?_) (fun c_65 => absurd (nI_lt (b := 64) (by omega) (by decide)) c_65)
  refine z_aload_n (j := 0) dX6_shift_69 rfl ?_
  refine z_get (v := .ref (b + 1)) (by omega) tW_obj fX6_9 rfl dX6_shift_70 ?_
  refine z_iload (j := 5) dX6_shift_73 rfl ?_
  refine z_aload_n (j := 0) dX6_shift_75 rfl ?_
  refine z_get (v := .ref (b + 1)) (by omega) tW_obj fX6_9 rfl dX6_shift_76 ?_
  refine z_iload (j := 4) dX6_shift_79 rfl ?_
  refine t_ald 0 (by decide) hb (vp_in_nI (by omega) (by decide)) dX6_shift_81 ?_
  refine t_ast 0 (by decide) hb (vp_in_nI (by omega) (by decide)) dX6_shift_82 ?_
  refine z_aload_n (j := 0) dX6_shift_83 rfl ?_
  refine z_get (v := .ref (b + 2)) (by omega) tW_obj fX6_15 rfl dX6_shift_84 ?_
  refine z_iload (j := 5) dX6_shift_87 rfl ?_
  refine z_aload_n (j := 0) dX6_shift_89 rfl ?_
  refine z_get (v := .ref (b + 2)) (by omega) tW_obj fX6_15 rfl dX6_shift_90 ?_
  refine z_iload (j := 4) dX6_shift_93 rfl ?_
  refine t_ald 1 (by decide) hb (vp_in_nI (by omega) (by decide)) dX6_shift_95 ?_
  refine t_ast 1 (by decide) hb (vp_in_nI (by omega) (by decide)) dX6_shift_96 ?_
  refine z_aload_n (j := 0) dX6_shift_97 rfl ?_
  refine z_get (v := .ref (b + 1)) (by omega) tW_obj fX6_9 rfl dX6_shift_98 ?_
  refine z_iload (j := 4) dX6_shift_101 rfl ?_
  refine z_iconst (v := (-1)) dX6_shift_103 (by decide) ?_
  refine t_ast 0 (by decide) hb (vp_in_nI (by omega) (by decide)) dX6_shift_104 ?_
  refine z_aload_n (j := 0) dX6_shift_105 rfl ?_
  refine z_get (v := .ref (b + 2)) (by omega) tW_obj fX6_15 rfl dX6_shift_106 ?_
  refine z_iload (j := 4) dX6_shift_109 rfl ?_
  refine z_iconst (v := (-1)) dX6_shift_111 (by decide) ?_
  refine t_ast 1 (by decide) hb (vp_in_nI (by omega) (by decide)) dX6_shift_112 ?_
  refine z_aload_n (j := 0) dX6_shift_113 rfl ?_
  refine z_get (v := .ref (b + 3)) (by omega) tW_obj fX6_18 rfl dX6_shift_114 ?_
  refine z_iload_n (j := 1) dX6_shift_117 rfl ?_
  refine z_aload_n (j := 0) dX6_shift_118 rfl ?_
  refine z_get (v := .ref (b + 3)) (by omega) tW_obj fX6_18 rfl dX6_shift_119 ?_
  refine z_iload_n (j := 1) dX6_shift_122 rfl ?_
  refine t_ald 2 (by decide) hb (vp_in_nI (by omega) (by decide)) dX6_shift_123 ?_
  refine z_iconst (v := 1) dX6_shift_124 (by decide) ?_
  refine z_iload_n (j := 2) dX6_shift_125 rfl ?_
  refine z_ishl dX6_shift_126 ?_
  refine z_iconst (v := (-1)) dX6_shift_127 (by decide) ?_
  refine z_ixor dX6_shift_128 ?_
  refine z_iand dX6_shift_129 ?_
  refine z_iconst (v := 1) dX6_shift_130 (by decide) ?_
  refine z_iload_n (j := 3) dX6_shift_131 rfl ?_
  refine z_ishl dX6_shift_132 ?_
  refine z_ior dX6_shift_133 ?_
  refine t_ast 2 (by decide) hb (vp_in_nI (by omega) (by decide)) dX6_shift_134 ?_
  exact z_vret rfl dX6_shift_135 (by
      simp only [hcs, hct, hch]
      exact hq _ (tR_mv hR hf ht hft ho hfree hm1 (fun i hi => by simp [va_up]) (fun i hi => by simp [va_up]) (fun i hi => by simp [va_up])) (by simp [va_up]) (by simp [va_up]))
end
section
/-! FINDING A PLACE, AS NUMBERS -/
def movB (B T : Nat) (K : Nat → Nat) (free back : Nat) : Option Nat := fnd (fun k => isO B T K (((free + B - back) % B + k) % B) ((free + B - back) % B)) back 0
/-- which entry moves to the free bucket: (how far its home lies before it, how far it lies from its home) -/
def movS (B T : Nat) (K : Nat → Nat) (free : Nat) : Nat → Option (Nat × Nat)
  | 0 => none
  | j + 1 => match movB B T K free (j + 1) with
    | some k => some (j + 1, k)
    | none => movS B T K free j
theorem movS_yes {B T : Nat} {K : Nat → Nat} {free j k : Nat} (h : movB B T K free (j + 1) = some k) : movS B T K free (j + 1) = some (j + 1, k) := by simp [movS, h]
theorem movS_no {B T : Nat} {K : Nat → Nat} {free j : Nat} (h : movB B T K free (j + 1) = none) : movS B T K free (j + 1) = movS B T K free j := by simp [movS, h]
theorem movS_some {B T : Nat} {K : Nat → Nat} {free : Nat} : ∀ {m j k : Nat}, movS B T K free m = some (j, k) → 1 ≤ j ∧ j ≤ m ∧ k < j ∧ isO B T K (((free + B - j) % B + k) % B) ((free + B - j) % B) = true
  | 0, _, _, h => by simp [movS] at h
  | m + 1, j, k, h => by
    cases hb : movB B T K free (m + 1) with
    | some i =>
      rw [movS_yes hb] at h
      cases h
      obtain ⟨-, h2, h3⟩ := fnd_some hb
      exact ⟨by omega, Nat.le_refl _, by omega, h3⟩
    | none =>
      rw [movS_no hb] at h
      obtain ⟨h1, h2, h3⟩ := movS_some h
      exact ⟨h1, by omega, h3⟩
theorem back_free {B free j : Nat} (hB : okB B) (hf : free < B) (hj : j < B) : ((free + B - j) % B + j) % B = free := by
  rcases hB with rfl | rfl | rfl | rfl <;> omega
/-- the bucket that is free behind the move -/
def mvSrc (B free j k : Nat) : Nat := ((free + B - j) % B + k) % B
theorem mvSrc_step {B hm st j k : Nat} (hB : okB B) (hhm : hm < B) (hst : st < B) (hj : j ≤ st) (hk : k ≤ j) : mvSrc B ((hm + st) % B) j k = (hm + (st - (j - k))) % B := by
  unfold mvSrc
  rcases hB with rfl | rfl | rfl | rfl <;> omega
/-- as long as the free bucket is too far, an entry is displaced: the distance at the end, the buckets, the count -/
def plc (B H T hm : Nat) : Nat → (Nat → Nat) → (Nat → Nat) → Nat → Int32 → Option Nat × (Nat → Nat) × (Nat → Nat) × Int32
  | 0, K, V, _, c => (none, K, V, c)
  | n + 1, K, V, st, c => if st < H then (some st, K, V, c) else match movS B T K ((hm + st) % B) (H - 1) with
    | none => (none, K, V, c)
    | some (j, k) => plc B H T hm n (mvK K (mvSrc B ((hm + st) % B) j k) ((hm + st) % B)) (mvK V (mvSrc B ((hm + st) % B) j k) ((hm + st) % B)) (st - (j - k)) (c + 1)
theorem plc_near {B H T hm n : Nat} {K V : Nat → Nat} {st : Nat} {c : Int32} (h : st < H) : plc B H T hm (n + 1) K V st c = (some st, K, V, c) := by simp [plc, h]
theorem plc_stuck {B H T hm n : Nat} {K V : Nat → Nat} {st : Nat} {c : Int32} (h : ¬ st < H) (h2 : movS B T K ((hm + st) % B) (H - 1) = none) : plc B H T hm (n + 1) K V st c = (none, K, V, c) := by simp [plc, h, h2]
theorem plc_step {B H T hm n : Nat} {K V : Nat → Nat} {st : Nat} {c : Int32} {j k : Nat} (h : ¬ st < H) (h2 : movS B T K ((hm + st) % B) (H - 1) = some (j, k)) : plc B H T hm (n + 1) K V st c = plc B H T hm n (mvK K (mvSrc B ((hm + st) % B) j k) ((hm + st) % B)) (mvK V (mvSrc B ((hm + st) % B) j k) ((hm + st) % B)) (st - (j - k)) (c + 1) := by
  rw [plc, if_neg h, h2]
/-- a place for an entry: its bucket (none: there is none), the buckets behind it, the count of what was displaced -/
def placeF (B H T : Nat) (K V : Nat → Nat) (c : Int32) (key v : Nat) : Option Nat × (Nat → Nat) × (Nat → Nat) × Int32 := match frD B K (hmo B T key) with
  | none => (none, K, V, c)
  | some d => match plc B H T (hmo B T key) 65 K V d c with
    | (none, K', V', c') => (none, K', V', c')
    | (some st, K', V', c') => (some ((hmo B T key + st) % B), va_up K' ((hmo B T key + st) % B) (key + 1), va_up V' ((hmo B T key + st) % B) v, c')
/-- the table's world behind a change of its buckets: entries and displaced told, the queue as before -/
def tQ (B H T : Nat) (K V : Nat → Nat) (s : Nat → Int32) (a : Nat → Nat → Int32) (c10 c11 : Int32) (s' : Nat → Int32) (a' : Nat → Nat → Int32) : Prop :=
  tR B H T K V s' a' ∧ s' 10 = c10 ∧ s' 11 = c11 ∧ (∀ k, k ≠ 10 → k ≠ 11 → s' k = s k) ∧ a' 3 = a 3 ∧ a' 4 = a 4
theorem tQ.tr {B H T : Nat} {K V K1 V1 : Nat → Nat} {s s1 s2 : Nat → Int32} {a a1 a2 : Nat → Nat → Int32} {x y z w : Int32} (h1 : tQ B H T K V s a x y s1 a1) (h2 : tQ B H T K1 V1 s1 a1 z w s2 a2) : tQ B H T K1 V1 s a z w s2 a2 :=
  ⟨h2.1, h2.2.1, h2.2.2.1, fun k h3 h4 => (h2.2.2.2.1 k h3 h4).trans (h1.2.2.2.1 k h3 h4), h2.2.2.2.2.1.trans h1.2.2.2.2.1, h2.2.2.2.2.2.trans h1.2.2.2.2.2⟩
theorem frD_lt {B : Nat} {K : Nat → Nat} {f d : Nat} (h : frD B K f = some d) : d < B ∧ K ((f + d) % B) = 0 := by
  obtain ⟨-, h2, h3⟩ := fnd_some h
  exact ⟨by omega, by simpa using h3⟩
end
section
set_option maxHeartbeats 4000000 in
set_option maxRecDepth 100000 in
theorem w_displaceInto_i {l : zL} {d kc ks n b B H T : Nat} {h : Nat → va_E} {K V : Nat → Nat} {s : Nat → Int32} {a : Nat → Nat → Int32} {Q : zQ} {free : Nat} {j : Nat} (hb : b + 6 ≤ n) (hR : tR B H T K V s a) (hfr : free < B) (hfree : K free = 0) (hjH : j + 1 < H) : ∀ m k, k + m = j + 1 → fnd (fun k => isO B T K ((((free + B - (j + 1)) % B) + k) % B) ((free + B - (j + 1)) % B)) m k = movB B T K free (j + 1) → (movB B T K free (j + 1) = none → Zj l mX6_displaceInto (d + 1) kc ks 7 [(0, .ref b), (1, .int (nI free)), (2, .int (nI j))] [] n (tW h b s a) Q) → (∀ k s' a', movB B T K free (j + 1) = some k → tQ B H T (mvK K (mvSrc B free (j + 1) k) free) (mvK V (mvSrc B free (j + 1) k) free) s a (s 10) (s 11 + 1) s' a' → Q (.inl (some (.int (nI (j + 1 - k))))) n (tW h b s' a')) → Zj l mX6_displaceInto (d + 1) kc ks 26 [(0, .ref b), (1, .int ((nI free))), (2, .int ((nI (j + 1)))), (3, .int ((nI ((free + B - (j + 1)) % B)))), (4, .int ((nI k)))] [] n (tW h b s a) Q := by
  obtain ⟨okb, h2H, hH6, h1T, hT99, e6, e7, e8, ek, ev, eh, ekv, ez⟩ := id hR
  have hle := okb.le
  intro m
  induction m with
  | zero =>
    intro k hk hq0 hqN hqS
    rw [show fnd _ 0 k = none from rfl] at hq0
    refine z_iload (j := 4) dX6_displaceInto_26 rfl ?_
    refine z_iload_n (j := 2) dX6_displaceInto_28 rfl ?_
    refine z_icmp_ge (tgt := 74) dX6_displaceInto_29 (by decide) (fun c_29 => ?_) (fun c_29 => absurd (nI_le (by omega) (by omega)) c_29)
    skip
    refine z_iinc ((nI j)) [1, 2, 0, 3, 4] [(0, .ref b), (1, .int ((nI free))), (2, .int ((nI j))), (3, .int ((nI ((free + B - (j + 1)) % B)))), (4, .int ((nI k)))] dX6_displaceInto_74 (j := 2) rfl (pk_m1 j) (by decide) rfl ?_
    refine z_goto (tgt := 7) dX6_displaceInto_77 (by decide) ?_
    refine z_lv [(0, .ref b), (1, .int ((nI free))), (2, .int ((nI j)))] [0, 1, 2] rfl ?_
    exact hqN hq0.symm
  | succ m ih =>
    intro k hk hq0 hqN hqS
    have hhm : ((free + B - (j + 1)) % B) < B := mod_lt' okb
    have hbit := hop_bit (B := B) (T := T) (K := K) (i := ((free + B - (j + 1)) % B)) hH6 (show k < H by omega)
    refine z_iload (j := 4) dX6_displaceInto_26 rfl ?_
    refine z_iload_n (j := 2) dX6_displaceInto_28 rfl ?_
    refine z_icmp_ge (tgt := 74) dX6_displaceInto_29 (by decide) (fun c_29 => absurd c_29 (nI_ge (by omega) (by omega))) (fun c_29 => ?_)
    refine z_aload_n (j := 0) dX6_displaceInto_32 rfl ?_
    refine z_iload_n (j := 3) dX6_displaceInto_33 rfl ?_
    refine z_cV [.int ((nI ((free + B - (j + 1)) % B)))] (some (.int ((nI (hop B H T K ((free + B - (j + 1)) % B)))))) yoX6_hopsIn yvX6_hopsIn rfl (by decide) lX6_115 (by omega) tW_obj rfl rfl (Nat.le_of_ble_eq_true rfl) (Nat.le_of_ble_eq_true rfl) dX6_displaceInto_34 (z_room (by omega) (Nat.le_refl _) (Nat.le_refl _) (w_hopsIn (d := 0) hb hR (mod_lt' okb) ⟨rfl, rfl, rfl⟩)) ?_
    refine z_iload (j := 4) dX6_displaceInto_37 rfl ?_
    refine z_ishr dX6_displaceInto_39 ?_
    refine z_iconst (v := 1) dX6_displaceInto_40 (by decide) ?_
    refine z_iand dX6_displaceInto_41 ?_
    refine z_if_eq (tgt := 68) dX6_displaceInto_42 (by decide) (fun c_42 => ?_) (fun c_42 => ?_)
    · skip
      refine z_iinc ((nI (k + 1))) [1, 2, 3, 4, 0] [(0, .ref b), (1, .int ((nI free))), (2, .int ((nI (j + 1)))), (3, .int ((nI ((free + B - (j + 1)) % B)))), (4, .int ((nI (k + 1))))] dX6_displaceInto_68 (j := 4) rfl (nI_1 k) (by decide) rfl ?_
      refine z_goto (tgt := 26) dX6_displaceInto_71 (by decide) ?_
      exact ih (k + 1) (by omega) (by rw [← hq0]; exact (fnd_no (p := (fun k => isO B T K ((((free + B - (j + 1)) % B) + k) % B) ((free + B - (j + 1)) % B))) (hbit.mp c_42)).symm) hqN hqS
    · have hyes : isO B T K ((((free + B - (j + 1)) % B) + k) % B) ((free + B - (j + 1)) % B) = true := by
        cases ho : isO B T K ((((free + B - (j + 1)) % B) + k) % B) ((free + B - (j + 1)) % B) with
        | true => rfl
        | false => exact absurd (hbit.mpr ho) c_42
      have hbk : (((free + B - (j + 1)) % B) + (j + 1)) % B = free := back_free okb hfr (by omega)
      refine z_aload_n (j := 0) dX6_displaceInto_45 rfl ?_
      refine z_iload_n (j := 3) dX6_displaceInto_46 rfl ?_
      refine z_iload (j := 4) dX6_displaceInto_47 rfl ?_
      refine z_iload_n (j := 2) dX6_displaceInto_49 rfl ?_
      refine z_cVx [.int ((nI ((free + B - (j + 1)) % B))), .int ((nI k)), .int ((nI (j + 1)))] none (fun g => ∃ a1, g = tW h b s a1 ∧ tR B H T (mvK K ((((free + B - (j + 1)) % B) + k) % B) ((((free + B - (j + 1)) % B) + (j + 1)) % B)) (mvK V ((((free + B - (j + 1)) % B) + k) % B) ((((free + B - (j + 1)) % B) + (j + 1)) % B)) s a1 ∧ a1 3 = a 3 ∧ a1 4 = a 4) yoX6_shift yvX6_shift rfl (by decide) lX6_118 (by omega) tW_obj rfl rfl (Nat.le_of_ble_eq_true rfl) (Nat.le_of_ble_eq_true rfl) dX6_displaceInto_50 (z_room (by omega) (Nat.le_refl _) (Nat.le_refl _) (w_shift (d := 0) hb hR hhm (by omega) (by omega) (by omega) (by simpa using hyes) (by rw [hbk]; exact hfree) (fun a' h1 h2 h3 => ⟨rfl, rfl, a', rfl, h1, h2, h3⟩))) (fun g hg => ?_)
      obtain ⟨a1, rfl, hR1, h31, h41⟩ := hg
      refine z_aload_n (j := 0) dX6_displaceInto_53 rfl ?_
      refine z_dup rfl dX6_displaceInto_54 ?_
      refine z_get (v := .int (s 11)) (by omega) tW_obj fX6_70 rfl dX6_displaceInto_55 ?_
      refine z_iconst (v := 1) dX6_displaceInto_58 (by decide) ?_
      refine z_iadd dX6_displaceInto_59 ?_
      refine t_put (k := 11) (by omega) fX6_70 (by decide) (by decide) (by decide) dX6_displaceInto_60 ?_
      refine z_iload_n (j := 2) dX6_displaceInto_63 rfl ?_
      refine z_iload (j := 4) dX6_displaceInto_64 rfl ?_
      refine z_isub dX6_displaceInto_66 ?_
      exact z_iret rfl dX6_displaceInto_67 (by
          rw [pk_sub (by omega)]
          have hr : some k = movB B T K free (j + 1) := (fnd_yes (p := (fun k => isO B T K ((((free + B - (j + 1)) % B) + k) % B) ((free + B - (j + 1)) % B))) hyes).symm.trans hq0
          refine hqS k _ a1 hr.symm ⟨?_, by simp [va_up], by simp [va_up], fun q h1 h2 => by simp [va_up, h2], h31, h41⟩
          rw [hbk] at hR1
          exact tR_s hR1 (by simp [va_up]) (by simp [va_up]) (by simp [va_up]))

set_option maxHeartbeats 4000000 in
set_option maxRecDepth 100000 in
theorem w_displaceInto_l {l : zL} {d kc ks n b B H T : Nat} {h : Nat → va_E} {K V : Nat → Nat} {s : Nat → Int32} {a : Nat → Nat → Int32} {Q : zQ} {free : Nat} (hb : b + 6 ≤ n) (hR : tR B H T K V s a) (hfr : free < B) (hfree : K free = 0) : ∀ m, m < H → (movS B T K free m = none → Q (.inl (some (.int 0))) n (tW h b s a)) → (∀ j k s' a', movS B T K free m = some (j, k) → tQ B H T (mvK K (mvSrc B free j k) free) (mvK V (mvSrc B free j k) free) s a (s 10) (s 11 + 1) s' a' → Q (.inl (some (.int (nI (j - k))))) n (tW h b s' a')) → Zj l mX6_displaceInto (d + 1) kc ks 7 [(0, .ref b), (1, .int (nI free)), (2, .int (nI m))] [] n (tW h b s a) Q := by
  obtain ⟨okb, h2H, hH6, h1T, hT99, e6, e7, e8, ek, ev, eh, ekv, ez⟩ := id hR
  have hle := okb.le
  intro m
  induction m with
  | zero =>
    intro hm hq0 hqS
    refine z_iload_n (j := 2) dX6_displaceInto_7 rfl ?_
    refine z_iconst (v := 1) dX6_displaceInto_8 (by decide) ?_
    refine z_icmp_lt (tgt := 80) dX6_displaceInto_9 (by decide) (fun c_9 => ?_) (fun c_9 => absurd (by decide) c_9)
    refine z_iconst (v := 0) dX6_displaceInto_80 (by decide) ?_
    exact z_iret rfl dX6_displaceInto_81 (hq0 rfl)
  | succ m ih =>
    intro hm hq0 hqS
    refine z_iload_n (j := 2) dX6_displaceInto_7 rfl ?_
    refine z_iconst (v := 1) dX6_displaceInto_8 (by decide) ?_
    refine z_icmp_lt (tgt := 80) dX6_displaceInto_9 (by decide) (fun c_9 => absurd c_9 (nI_nlt (a := m + 1) (b := 1) (by omega) (by omega))) (fun c_9 => ?_)
    refine z_iload_n (j := 1) dX6_displaceInto_12 rfl ?_
    refine z_iload_n (j := 2) dX6_displaceInto_13 rfl ?_
    refine z_isub dX6_displaceInto_14 ?_
    refine z_aload_n (j := 0) dX6_displaceInto_15 rfl ?_
    refine z_get (v := .int (s 6)) (by omega) tW_obj fX6_64 rfl dX6_displaceInto_16 ?_
    refine z_iconst (v := 1) dX6_displaceInto_19 (by decide) ?_
    refine z_isub dX6_displaceInto_20 ?_
    refine z_iand dX6_displaceInto_21 ?_
    rw [show (((nI free) - (nI (m + 1))) &&& ((s 6) - 1)) = (nI ((free + B - (m + 1)) % B)) from by rw [e6]; exact mBsub okb hfr (by omega)]
    refine z_istore_n [1, 2, 3, 0] [(0, .ref b), (1, .int ((nI free))), (2, .int ((nI (m + 1)))), (3, .int ((nI ((free + B - (m + 1)) % B))))] dX6_displaceInto_22 (by decide) rfl ?_
    refine z_iconst (v := 0) dX6_displaceInto_23 (by decide) ?_
    refine z_istore [1, 2, 3, 4, 0] [(0, .ref b), (1, .int ((nI free))), (2, .int ((nI (m + 1)))), (3, .int ((nI ((free + B - (m + 1)) % B)))), (4, .int 0)] dX6_displaceInto_24 (by decide) rfl ?_
    refine w_displaceInto_i (j := m) hb hR hfr hfree (by omega) (m + 1) 0 (by omega) rfl (fun hn => ?_) (fun k s' a' hs => ?_)
    · rw [movS_no hn] at hq0 hqS
      exact ih (by omega) hq0 hqS
    · rw [movS_yes hs] at hqS
      exact hqS (m + 1) k s' a' rfl

set_option maxHeartbeats 4000000 in
set_option maxRecDepth 100000 in
theorem w_displaceInto {l : zL} {d kc ks n b B H T : Nat} {h : Nat → va_E} {K V : Nat → Nat} {s : Nat → Int32} {a : Nat → Nat → Int32} {Q : zQ} {free : Nat} (hb : b + 6 ≤ n) (hR : tR B H T K V s a) (hfr : free < B) (hfree : K free = 0) (hq0 : movS B T K free (H - 1) = none → Q (.inl (some (.int 0))) n (tW h b s a)) (hqS : ∀ j k s' a', movS B T K free (H - 1) = some (j, k) → tQ B H T (mvK K (mvSrc B free j k) free) (mvK V (mvSrc B free j k) free) s a (s 10) (s 11 + 1) s' a' → Q (.inl (some (.int (nI (j - k))))) n (tW h b s' a')) : Zj l mX6_displaceInto (d + 1) kc ks 0 [(0, .ref b), (1, .int ((nI free)))] [] n (tW h b s a) Q := by
  obtain ⟨okb, h2H, hH6, h1T, hT99, e6, e7, e8, ek, ev, eh, ekv, ez⟩ := id hR
  have hle := okb.le
  refine z_aload_n (j := 0) dX6_displaceInto_0 rfl ?_
  refine z_get (v := .int (s 7)) (by omega) tW_obj fX6_31 rfl dX6_displaceInto_1 ?_
  refine z_iconst (v := 1) dX6_displaceInto_4 (by decide) ?_
  refine z_isub dX6_displaceInto_5 ?_
  rw [show ((s 7) - 1) = (nI (H - 1)) from by rw [e7, show (1 : Int32) = nI 1 from rfl]; exact pk_sub (by omega)]
  refine z_istore_n [1, 2, 0] [(0, .ref b), (1, .int ((nI free))), (2, .int ((nI (H - 1))))] dX6_displaceInto_6 (by decide) rfl ?_
  exact w_displaceInto_l hb hR hfr hfree (H - 1) (by omega) hq0 hqS
end
section
set_option maxHeartbeats 4000000 in
set_option maxRecDepth 100000 in
theorem w_place_neg {l : zL} {d kc ks n b B H T hm key v : Nat} {h : Nat → va_E} {Q : zQ} {K V : Nat → Nat} {s : Nat → Int32} {a : Nat → Nat → Int32} {i : Nat} (hb : b + 6 ≤ n) (hR : tR B H T K V s a) (hq : Q (.inl (some (.int (-1)))) n (tW h b s a)) : Zj l mX6_place (d + 3) kc ks 16 [(0, .ref b), (1, .int ((nI key))), (2, .int ((nI v))), (3, .int ((nI hm))), (4, .int ((-1))), (5, .int ((nI i)))] [] n (tW h b s a) Q := by
  obtain ⟨okb, h2H, hH6, h1T, hT99, e6, e7, e8, ek, ev, eh, ekv, ez⟩ := id hR
  have hle := okb.le
  refine z_iload (j := 5) dX6_place_16 rfl ?_
  refine z_bipush (v := 64) dX6_place_18 (by decide) ?_
  refine z_icmp_ge (tgt := 71) dX6_place_20 (by decide) (fun c_20 => ?_) (fun c_20 => ?_)
  · refine z_iload_n (j := 3) dX6_place_71 rfl ?_
    refine z_iload (j := 4) dX6_place_72 rfl ?_
    refine z_iadd dX6_place_74 ?_
    refine z_aload_n (j := 0) dX6_place_75 rfl ?_
    refine z_get (v := .int (s 6)) (by omega) tW_obj fX6_64 rfl dX6_place_76 ?_
    refine z_iconst (v := 1) dX6_place_79 (by decide) ?_
    refine z_isub dX6_place_80 ?_
    refine z_iand dX6_place_81 ?_
    refine z_istore [1, 2, 3, 4, 5, 0] [(0, .ref b), (1, .int ((nI key))), (2, .int ((nI v))), (3, .int ((nI hm))), (4, .int ((-1))), (5, .int ((((nI hm) + (-1)) &&& ((s 6) - 1))))] dX6_place_82 (by decide) rfl ?_
    refine z_iload (j := 4) dX6_place_84 rfl ?_
    refine z_if_lt (tgt := 115) dX6_place_86 (by decide) (fun c_86 => ?_) (fun c_86 => absurd (by decide) c_86)
    refine z_iconst (v := (-1)) dX6_place_115 (by decide) ?_
    exact z_iret rfl dX6_place_116 (hq)
  · refine z_iload (j := 4) dX6_place_23 rfl ?_
    refine z_aload_n (j := 0) dX6_place_25 rfl ?_
    refine z_get (v := .int (s 7)) (by omega) tW_obj fX6_31 rfl dX6_place_26 ?_
    refine z_icmp_lt (tgt := 71) dX6_place_29 (by decide) (fun c_29 => ?_) (fun c_29 => absurd (by rw [e7]; exact (by decide : (-1 : Int32) < 0) |> fun h => Int32.lt_of_lt_of_le h (nI_pos' (by omega))) c_29)
    refine z_iload_n (j := 3) dX6_place_71 rfl ?_
    refine z_iload (j := 4) dX6_place_72 rfl ?_
    refine z_iadd dX6_place_74 ?_
    refine z_aload_n (j := 0) dX6_place_75 rfl ?_
    refine z_get (v := .int (s 6)) (by omega) tW_obj fX6_64 rfl dX6_place_76 ?_
    refine z_iconst (v := 1) dX6_place_79 (by decide) ?_
    refine z_isub dX6_place_80 ?_
    refine z_iand dX6_place_81 ?_
    refine z_istore [1, 2, 3, 4, 5, 0] [(0, .ref b), (1, .int ((nI key))), (2, .int ((nI v))), (3, .int ((nI hm))), (4, .int ((-1))), (5, .int ((((nI hm) + (-1)) &&& ((s 6) - 1))))] dX6_place_82 (by decide) rfl ?_
    refine z_iload (j := 4) dX6_place_84 rfl ?_
    refine z_if_lt (tgt := 115) dX6_place_86 (by decide) (fun c_86 => ?_) (fun c_86 => absurd (by decide) c_86)
    refine z_iconst (v := (-1)) dX6_place_115 (by decide) ?_
    exact z_iret rfl dX6_place_116 (hq)

set_option maxHeartbeats 4000000 in
set_option maxRecDepth 100000 in
theorem w_place_fin {l : zL} {d kc ks n b B H T hm key v : Nat} {h : Nat → va_E} {Q : zQ} {K V : Nat → Nat} {s : Nat → Int32} {a : Nat → Nat → Int32} {t : Nat} (hb : b + 6 ≤ n) (hR : tR B H T K V s a) (hm1 : hm < B) (hkm : hmo B T key = hm) (hkey : key ≤ 9999) (hv : v ≤ 999) (ht : t < H) (hfree : K ((hm + t) % B) = 0) (hq : ∀ s' a', tQ B H T (va_up K ((hm + t) % B) (key + 1)) (va_up V ((hm + t) % B) v) s a (s 10 + 1) (s 11) s' a' → Q (.inl (some (.int (nI ((hm + t) % B))))) n (tW h b s' a')) : Zj l mX6_place (d + 3) kc ks 71 [(0, .ref b), (1, .int ((nI key))), (2, .int ((nI v))), (3, .int ((nI hm))), (4, .int ((nI t)))] [] n (tW h b s a) Q := by
  obtain ⟨okb, h2H, hH6, h1T, hT99, e6, e7, e8, ek, ev, eh, ekv, ez⟩ := id hR
  have hle := okb.le
  have hlt := mod_lt' okb (x := hm + t)
  have hct : (nI ((hm + t) % B)).toNatClampNeg = ((hm + t) % B) := nI_clamp (by omega)
  have hch : (nI hm).toNatClampNeg = hm := nI_clamp (by omega)
  refine z_iload_n (j := 3) dX6_place_71 rfl ?_
  refine z_iload (j := 4) dX6_place_72 rfl ?_
  refine z_iadd dX6_place_74 ?_
  refine z_aload_n (j := 0) dX6_place_75 rfl ?_
  refine z_get (v := .int (s 6)) (by omega) tW_obj fX6_64 rfl dX6_place_76 ?_
  refine z_iconst (v := 1) dX6_place_79 (by decide) ?_
  refine z_isub dX6_place_80 ?_
  refine z_iand dX6_place_81 ?_
  rw [show (((nI hm) + (nI t)) &&& ((s 6) - 1)) = (nI ((hm + t) % B)) from by rw [e6]; exact mBadd okb (by omega) (by omega)]
  refine z_istore [1, 2, 3, 4, 5, 0] [(0, .ref b), (1, .int ((nI key))), (2, .int ((nI v))), (3, .int ((nI hm))), (4, .int ((nI t))), (5, .int ((nI ((hm + t) % B))))] dX6_place_82 (by decide) rfl ?_
  refine z_iload (j := 4) dX6_place_84 rfl ?_
  refine z_if_lt (tgt := 115) dX6_place_86 (by decide) (fun c_86 => absurd c_86 (nI_pos (by omega))) (fun c_86 => ?_)
  refine z_iload (j := 4) dX6_place_89 rfl ?_
  refine z_aload_n (j := 0) dX6_place_91 rfl ?_
  refine z_get (v := .int (s 7)) (by omega) tW_obj fX6_31 rfl dX6_place_92 ?_
  refine z_icmp_ge (tgt := 115) dX6_place_95 (by decide) (fun c_95 => absurd c_95 (by rw [e7]; exact nI_ge (by omega) (by omega))) (fun c_95 => ?_)
  refine z_aload_n (j := 0) dX6_place_98 rfl ?_
  refine z_iload_n (j := 3) dX6_place_99 rfl ?_
  refine z_cV [.int ((nI hm))] (some (.int 1)) yoX6_hasBucket yvX6_hasBucket rfl (by decide) lX6_91 (by omega) tW_obj rfl rfl (Nat.le_of_ble_eq_true rfl) (Nat.le_of_ble_eq_true rfl) dX6_place_100 (z_room (by omega) (Nat.le_refl _) (Nat.le_refl _) (w_hasBucket (d := 0) hb hR hm1 ⟨rfl, rfl, rfl⟩)) ?_
  refine z_if_eq (tgt := 115) dX6_place_103 (by decide) (fun c_103 => absurd c_103 (by decide)) (fun c_103 => ?_)
  refine z_aload_n (j := 0) dX6_place_106 rfl ?_
  refine z_iload (j := 5) dX6_place_107 rfl ?_
  refine z_cV [.int ((nI ((hm + t) % B)))] (some (.int 1)) yoX6_hasBucket yvX6_hasBucket rfl (by decide) lX6_91 (by omega) tW_obj rfl rfl (Nat.le_of_ble_eq_true rfl) (Nat.le_of_ble_eq_true rfl) dX6_place_109 (z_room (by omega) (Nat.le_refl _) (Nat.le_refl _) (w_hasBucket (d := 0) hb hR (mod_lt' okb) ⟨rfl, rfl, rfl⟩)) ?_
  refine z_if_ne (tgt := 117) dX6_place_112 (by decide) (fun c_112 => ?_) (fun c_112 => absurd c_112 (by decide))
  refine z_aload_n (j := 0) dX6_place_117 rfl ?_
  refine z_get (v := .ref (b + 1)) (by omega) tW_obj fX6_9 rfl dX6_place_118 ?_
  refine z_iload (j := 5) dX6_place_121 rfl ?_
  refine z_iload_n (j := 1) dX6_place_123 rfl ?_
  refine t_ast 0 (by decide) hb (vp_in_nI (by omega) (by decide)) dX6_place_124 ?_
  refine z_aload_n (j := 0) dX6_place_125 rfl ?_
  refine z_get (v := .ref (b + 2)) (by omega) tW_obj fX6_15 rfl dX6_place_126 ?_
  refine z_iload (j := 5) dX6_place_129 rfl ?_
  refine z_iload_n (j := 2) dX6_place_131 rfl ?_
  refine t_ast 1 (by decide) hb (vp_in_nI (by omega) (by decide)) dX6_place_132 ?_
  refine z_aload_n (j := 0) dX6_place_133 rfl ?_
  refine z_get (v := .ref (b + 3)) (by omega) tW_obj fX6_18 rfl dX6_place_134 ?_
  refine z_iload_n (j := 3) dX6_place_137 rfl ?_
  refine z_dup2 rfl rfl dX6_place_138 ?_
  refine t_ald 2 (by decide) hb (vp_in_nI (by omega) (by decide)) dX6_place_139 ?_
  refine z_iconst (v := 1) dX6_place_140 (by decide) ?_
  refine z_iload (j := 4) dX6_place_141 rfl ?_
  refine z_ishl dX6_place_143 ?_
  refine z_ior dX6_place_144 ?_
  refine t_ast 2 (by decide) hb (vp_in_nI (by omega) (by decide)) dX6_place_145 ?_
  refine z_aload_n (j := 0) dX6_place_146 rfl ?_
  refine z_dup rfl dX6_place_147 ?_
  refine z_get (v := .int (s 10)) (by omega) tW_obj fX6_67 rfl dX6_place_148 ?_
  refine z_iconst (v := 1) dX6_place_151 (by decide) ?_
  refine z_iadd dX6_place_152 ?_
  refine t_put (k := 10) (by omega) fX6_67 (by decide) (by decide) (by decide) dX6_place_153 ?_
  refine z_iload (j := 5) dX6_place_156 rfl ?_
  exact z_iret rfl dX6_place_158 (by
      simp only [hct, hch]
      refine hq _ _ ⟨tR_s (tR_put hR ht hfree hm1 hkm hkey hv (a' := _) (fun i hi => by simp [va_up]) (fun i hi => by simp [va_up]) (fun i hi => by simp [va_up])) (by simp [va_up]) (by simp [va_up]) (by simp [va_up]), by simp [va_up], by simp [va_up], fun q h1 h2 => by simp [va_up, h1], by simp [va_up], by simp [va_up]⟩)

set_option maxHeartbeats 4000000 in
set_option maxRecDepth 100000 in
theorem w_place_l {l : zL} {d kc ks n b B H T hm key v : Nat} {h : Nat → va_E} {Q : zQ} (hb : b + 6 ≤ n) (hBH : okB B) (hm1 : hm < B) (hkm : hmo B T key = hm) (hkey : key ≤ 9999) (hv : v ≤ 999) : ∀ N i st (K V : Nat → Nat) (s : Nat → Int32) (a : Nat → Nat → Int32), st < N → (st + i ≤ 63 ∧ st < B) → tR B H T K V s a → K ((hm + st) % B) = 0 → (∀ K' V' c' s' a', plc B H T hm N K V st (s 11) = (none, K', V', c') → tQ B H T K' V' s a (s 10) c' s' a' → Q (.inl (some (.int (-1)))) n (tW h b s' a')) → (∀ t K' V' c' s' a', plc B H T hm N K V st (s 11) = (some t, K', V', c') → tQ B H T (va_up K' ((hm + t) % B) (key + 1)) (va_up V' ((hm + t) % B) v) s a (s 10 + 1) c' s' a' → Q (.inl (some (.int (nI ((hm + t) % B))))) n (tW h b s' a')) → Zj l mX6_place (d + 3) kc ks 16 [(0, .ref b), (1, .int ((nI key))), (2, .int ((nI v))), (3, .int ((nI hm))), (4, .int ((nI st))), (5, .int ((nI i)))] [] n (tW h b s a) Q := by
  intro N
  induction N with
  | zero => intro i st K V s a h1; exact absurd h1 (Nat.not_lt_zero _)
  | succ N ih =>
    intro i st K V s a hN hsi hR hfree hqN hqS
    obtain ⟨hsi, hstB⟩ := hsi
    obtain ⟨okb, h2H, hH6, h1T, hT99, e6, e7, e8, ek, ev, eh, ekv, ez⟩ := id hR
    have hle := okb.le
    refine z_iload (j := 5) dX6_place_16 rfl ?_
    refine z_bipush (v := 64) dX6_place_18 (by decide) ?_
    refine z_icmp_ge (tgt := 71) dX6_place_20 (by decide) (fun c_20 => absurd c_20 (nI_ge (b := 64) (by omega) (by decide))) (fun c_20 => ?_)
    refine z_iload (j := 4) dX6_place_23 rfl ?_
    refine z_aload_n (j := 0) dX6_place_25 rfl ?_
    refine z_get (v := .int (s 7)) (by omega) tW_obj fX6_31 rfl dX6_place_26 ?_
    refine z_icmp_lt (tgt := 71) dX6_place_29 (by decide) (fun c_29 => ?_) (fun c_29 => ?_)
    · refine z_lv [(0, .ref b), (1, .int ((nI key))), (2, .int ((nI v))), (3, .int ((nI hm))), (4, .int ((nI st)))] [0, 1, 2, 3, 4] rfl ?_
      have hst : st < H := by
        rw [e7] at c_29
        exact (nI_ltI (by omega) (by omega)).mp c_29
      exact w_place_fin hb hR hm1 hkm hkey hv hst hfree (fun s' a' hT => hqS st K V (s 11) s' a' (plc_near hst) hT)
    · have hst : ¬ st < H := fun e => c_29 (by rw [e7]; exact nI_lt e (by omega))
      refine z_aload_n (j := 0) dX6_place_32 rfl ?_
      refine z_iload_n (j := 3) dX6_place_33 rfl ?_
      refine z_iload (j := 4) dX6_place_34 rfl ?_
      refine z_iadd dX6_place_36 ?_
      refine z_aload_n (j := 0) dX6_place_37 rfl ?_
      refine z_get (v := .int (s 6)) (by omega) tW_obj fX6_64 rfl dX6_place_38 ?_
      refine z_iconst (v := 1) dX6_place_41 (by decide) ?_
      refine z_isub dX6_place_42 ?_
      refine z_iand dX6_place_43 ?_
      rw [show (((nI hm) + (nI st)) &&& ((s 6) - 1)) = (nI ((hm + st) % B)) from by rw [e6]; exact mBadd okb (by omega) (by omega)]
      cases hmv : movS B T K ((hm + st) % B) (H - 1) with
      | none =>
        refine z_cV [.int (nI ((hm + st) % B))] (some (.int 0)) yoX6_displaceInto yvX6_displaceInto rfl (by decide) lX6_112 (by omega) tW_obj rfl rfl (Nat.le_of_ble_eq_true rfl) (Nat.le_of_ble_eq_true rfl) dX6_place_44 (z_room (by omega) (Nat.le_refl _) (Nat.le_refl _) (w_displaceInto (d := 0) hb hR (mod_lt' okb) hfree (fun _ => ⟨rfl, rfl, rfl⟩) (fun j k s' a' e _ => by rw [hmv] at e; cases e))) ?_
        refine z_istore [1, 2, 3, 4, 5, 6, 0] [(0, .ref b), (1, .int ((nI key))), (2, .int ((nI v))), (3, .int ((nI hm))), (4, .int ((nI st))), (5, .int ((nI i))), (6, .int 0)] dX6_place_47 (by decide) rfl ?_
        refine z_iload (j := 6) dX6_place_49 rfl ?_
        refine z_if_ne (tgt := 58) dX6_place_51 (by decide) (fun c_51 => absurd rfl c_51) (fun c_51 => ?_)
        refine z_iconst (v := (-1)) dX6_place_54 (by decide) ?_
        refine z_goto (tgt := 63) dX6_place_55 (by decide) ?_
        refine z_istore [1, 2, 3, 4, 0, 5, 6] [(0, .ref b), (1, .int ((nI key))), (2, .int ((nI v))), (3, .int ((nI hm))), (4, .int ((-1))), (5, .int ((nI i))), (6, .int 0)] dX6_place_63 (by decide) rfl ?_
        skip
        refine z_iinc ((nI (i + 1))) [1, 2, 3, 4, 5, 0, 6] [(0, .ref b), (1, .int ((nI key))), (2, .int ((nI v))), (3, .int ((nI hm))), (4, .int ((-1))), (5, .int ((nI (i + 1)))), (6, .int 0)] dX6_place_65 (j := 5) rfl (nI_1 i) (by decide) rfl ?_
        refine z_goto (tgt := 16) dX6_place_68 (by decide) ?_
        refine z_lv [(0, .ref b), (1, .int ((nI key))), (2, .int ((nI v))), (3, .int ((nI hm))), (4, .int ((-1))), (5, .int ((nI (i + 1))))] [0, 1, 2, 3, 4, 5] rfl ?_
        refine w_place_neg hb hR (hqN K V (s 11) s a (plc_stuck hst hmv) ⟨hR, rfl, rfl, fun _ _ _ => rfl, rfl, rfl⟩)
      | some jk =>
        obtain ⟨j, k⟩ := jk
        obtain ⟨m1, m2, m3, m4⟩ := movS_some hmv
        have hsrc : mvSrc B ((hm + st) % B) j k = (hm + (st - (j - k))) % B := mvSrc_step okb hm1 (by omega) (by omega) (by omega)
        refine z_cVx [.int (nI ((hm + st) % B))] (some (.int (nI (j - k)))) (fun g => ∃ s1 a1, g = tW h b s1 a1 ∧ tQ B H T (mvK K (mvSrc B ((hm + st) % B) j k) ((hm + st) % B)) (mvK V (mvSrc B ((hm + st) % B) j k) ((hm + st) % B)) s a (s 10) (s 11 + 1) s1 a1) yoX6_displaceInto yvX6_displaceInto rfl (by decide) lX6_112 (by omega) tW_obj rfl rfl (Nat.le_of_ble_eq_true rfl) (Nat.le_of_ble_eq_true rfl) dX6_place_44 (z_room (by omega) (Nat.le_refl _) (Nat.le_refl _) (w_displaceInto (d := 0) hb hR (mod_lt' okb) hfree (fun e => by rw [hmv] at e; cases e) (fun j' k' s' a' e hq => by
          rw [hmv] at e
          cases e
          exact ⟨rfl, rfl, s', a', rfl, hq⟩))) (fun g hg => ?_)
        obtain ⟨s1, a1, rfl, hT1⟩ := hg
        refine z_istore [1, 2, 3, 4, 5, 6, 0] [(0, .ref b), (1, .int ((nI key))), (2, .int ((nI v))), (3, .int ((nI hm))), (4, .int ((nI st))), (5, .int ((nI i))), (6, .int ((nI (j - k))))] dX6_place_47 (by decide) rfl ?_
        refine z_iload (j := 6) dX6_place_49 rfl ?_
        refine z_if_ne (tgt := 58) dX6_place_51 (by decide) (fun c_51 => ?_) (fun c_51 => absurd c_51 (nI_ne0 (by omega) (by omega)))
        refine z_iload (j := 4) dX6_place_58 rfl ?_
        refine z_iload (j := 6) dX6_place_60 rfl ?_
        refine z_isub dX6_place_62 ?_
        rw [show ((nI st) - (nI (j - k))) = (nI (st - (j - k))) from pk_sub (by omega)]
        refine z_istore [1, 2, 3, 4, 0, 5, 6] [(0, .ref b), (1, .int ((nI key))), (2, .int ((nI v))), (3, .int ((nI hm))), (4, .int ((nI (st - (j - k))))), (5, .int ((nI i))), (6, .int ((nI (j - k))))] dX6_place_63 (by decide) rfl ?_
        skip
        refine z_iinc ((nI (i + 1))) [1, 2, 3, 4, 5, 0, 6] [(0, .ref b), (1, .int ((nI key))), (2, .int ((nI v))), (3, .int ((nI hm))), (4, .int ((nI (st - (j - k))))), (5, .int ((nI (i + 1)))), (6, .int ((nI (j - k))))] dX6_place_65 (j := 5) rfl (nI_1 i) (by decide) rfl ?_
        refine z_goto (tgt := 16) dX6_place_68 (by decide) ?_
        refine z_lv [(0, .ref b), (1, .int ((nI key))), (2, .int ((nI v))), (3, .int ((nI hm))), (4, .int ((nI (st - (j - k))))), (5, .int ((nI (i + 1))))] [0, 1, 2, 3, 4, 5] rfl ?_
        have hR1 := hT1.1
        have hpl := plc_step (c := s 11) (n := N) (V := V) hst hmv
        have hfree1 : mvK K (mvSrc B ((hm + st) % B) j k) ((hm + st) % B) ((hm + (st - (j - k))) % B) = 0 := by
          rw [hsrc]
          have hne : ¬ (hm + (st - (j - k))) % B = ((hm + st) % B) := fun e => by
            have := modB_inj okb (by omega) (by omega) e
            omega
          simp [mvK, va_up, hne]
        refine ih (i + 1) (st - (j - k)) _ _ s1 a1 (by omega) (by omega) hR1 hfree1 (fun K' V' c' s' a' e hT => ?_) (fun t K' V' c' s' a' e hT => ?_)
        · refine hqN K' V' c' s' a' (hpl.trans ?_) ?_
          · rw [← hT1.2.2.1]; exact e
          · have := hT1.tr hT
            rw [hT1.2.1] at this
            exact this
        · refine hqS t K' V' c' s' a' (hpl.trans ?_) ?_
          · rw [← hT1.2.2.1]; exact e
          · have := hT1.tr hT
            rw [hT1.2.1] at this
            exact this

set_option maxHeartbeats 4000000 in
set_option maxRecDepth 100000 in
theorem w_place {l : zL} {d kc ks n b B H T key v : Nat} {h : Nat → va_E} {Q : zQ} {K V : Nat → Nat} {s : Nat → Int32} {a : Nat → Nat → Int32} (hb : b + 6 ≤ n) (hR : tR B H T K V s a) (hkey : key ≤ 9999) (hv : v ≤ 999) (hqN : ∀ K' V' c' s' a', placeF B H T K V (s 11) key v = (none, K', V', c') → tQ B H T K' V' s a (s 10) c' s' a' → Q (.inl (some (.int (-1)))) n (tW h b s' a')) (hqS : ∀ bk K' V' c' s' a', placeF B H T K V (s 11) key v = (some bk, K', V', c') → tQ B H T K' V' s a (s 10 + 1) c' s' a' → Q (.inl (some (.int (nI bk)))) n (tW h b s' a')) : Zj l mX6_place (d + 3) kc ks 0 [(0, .ref b), (1, .int ((nI key))), (2, .int ((nI v)))] [] n (tW h b s a) Q := by
  obtain ⟨okb, h2H, hH6, h1T, hT99, e6, e7, e8, ek, ev, eh, ekv, ez⟩ := id hR
  have hle := okb.le
  obtain ⟨hm, hkm⟩ : ∃ hm, hmo B T key = hm := ⟨_, rfl⟩
  have hm1 : hm < B := by rw [← hkm]; exact hmo_lt okb T key
  refine z_aload_n (j := 0) dX6_place_0 rfl ?_
  refine z_iload_n (j := 1) dX6_place_1 rfl ?_
  refine z_cV [.int (nI key)] (some (.int (nI hm))) yoX6_homeFor yvX6_homeFor rfl (by decide) lX6_94 (by omega) tW_obj rfl rfl (Nat.le_of_ble_eq_true rfl) (Nat.le_of_ble_eq_true rfl) dX6_place_2 (z_room (by omega) (Nat.le_refl _) (Nat.le_refl _) (w_homeFor (d := 0) hb hR hkey (by rw [hkm]; exact ⟨rfl, rfl, rfl⟩))) ?_
  refine z_istore_n [1, 2, 3, 0] [(0, .ref b), (1, .int ((nI key))), (2, .int ((nI v))), (3, .int ((nI hm)))] dX6_place_5 (by decide) rfl ?_
  refine z_aload_n (j := 0) dX6_place_6 rfl ?_
  refine z_iload_n (j := 3) dX6_place_7 rfl ?_
  refine z_cV [.int ((nI hm))] (some (.int ((optI (frD B K hm))))) yoX6_stepsToFree yvX6_stepsToFree rfl (by decide) lX6_109 (by omega) tW_obj rfl rfl (Nat.le_of_ble_eq_true rfl) (Nat.le_of_ble_eq_true rfl) dX6_place_8 (z_room (by omega) (Nat.le_refl _) (Nat.le_refl _) (w_stepsToFree (d := 0) hb hR hm1 ⟨rfl, rfl, rfl⟩)) ?_
  cases hfd : frD B K hm with
  | none =>
    refine (show Zj l mX6_place (d + 3) kc ks 11 [(0, .ref b), (1, .int ((nI key))), (2, .int ((nI v))), (3, .int ((nI hm)))] [.int (-1)] n (tW h b s a) Q from ?_)
    refine z_istore [1, 2, 3, 4, 0] [(0, .ref b), (1, .int ((nI key))), (2, .int ((nI v))), (3, .int ((nI hm))), (4, .int ((-1)))] dX6_place_11 (by decide) rfl ?_
    refine z_iconst (v := 0) dX6_place_13 (by decide) ?_
    refine z_istore [1, 2, 3, 4, 5, 0] [(0, .ref b), (1, .int ((nI key))), (2, .int ((nI v))), (3, .int ((nI hm))), (4, .int ((-1))), (5, .int 0)] dX6_place_14 (by decide) rfl ?_
    exact w_place_neg (i := 0) hb hR (hqN K V (s 11) s a (by simp [placeF, hkm, hfd]) ⟨hR, rfl, rfl, fun _ _ _ => rfl, rfl, rfl⟩)
  | some st =>
    refine (show Zj l mX6_place (d + 3) kc ks 11 [(0, .ref b), (1, .int ((nI key))), (2, .int ((nI v))), (3, .int ((nI hm)))] [.int (nI st)] n (tW h b s a) Q from ?_)
    refine z_istore [1, 2, 3, 4, 0] [(0, .ref b), (1, .int ((nI key))), (2, .int ((nI v))), (3, .int ((nI hm))), (4, .int ((nI st)))] dX6_place_11 (by decide) rfl ?_
    refine z_iconst (v := 0) dX6_place_13 (by decide) ?_
    refine z_istore [1, 2, 3, 4, 5, 0] [(0, .ref b), (1, .int ((nI key))), (2, .int ((nI v))), (3, .int ((nI hm))), (4, .int ((nI st))), (5, .int 0)] dX6_place_14 (by decide) rfl ?_
    obtain ⟨f1, f2⟩ := frD_lt hfd
    refine w_place_l hb okb hm1 hkm hkey hv 65 0 st K V s a (by omega) ⟨by omega, f1⟩ hR f2 (fun K' V' c' s' a' e hT => ?_) (fun t K' V' c' s' a' e hT => ?_)
    · exact hqN K' V' c' s' a' (by simp [placeF, hkm, hfd, e]) hT
    · exact hqS ((hm + t) % B) _ _ c' s' a' (by simp [placeF, hkm, hfd, e]) hT
end
section
/-! BUILDING ANEW, AS NUMBERS -/
def kz : Nat → Nat := fun _ => 0
/-- the entries of the buckets below i, in their order -/
def entL (K V : Nat → Nat) : Nat → List (Nat × Nat)
  | 0 => []
  | i + 1 => entL K V i ++ (if K i = 0 then [] else [(K i - 1, V i)])
theorem entL_len (K V : Nat → Nat) : ∀ i, (entL K V i).length ≤ i
  | 0 => Nat.le_refl _
  | i + 1 => by
    have := entL_len K V i
    simp only [entL, List.length_append]
    split <;> simp <;> omega
theorem entL_free {K V : Nat → Nat} {i : Nat} (h : K i = 0) : entL K V (i + 1) = entL K V i := by simp [entL, h]
theorem entL_full {K V : Nat → Nat} {i : Nat} (h : K i ≠ 0) : entL K V (i + 1) = entL K V i ++ [(K i - 1, V i)] := by simp [entL, h]
theorem entL_ok {K V : Nat → Nat} (h : ∀ i, K i ≤ 10000 ∧ V i ≤ 999) : ∀ i, ∀ q ∈ entL K V i, q.1 ≤ 9999 ∧ q.2 ≤ 999
  | 0, q, hq => by simp [entL] at hq
  | i + 1, q, hq => by
    have hi := h i
    by_cases hk : K i = 0
    · rw [entL_free hk] at hq
      exact entL_ok h i q hq
    · rw [entL_full hk] at hq
      rcases List.mem_append.mp hq with h1 | h1
      · exact entL_ok h i q h1
      · rw [List.mem_singleton.mp h1]
        exact ⟨by show K i - 1 ≤ 9999; omega, hi.2⟩
/-- the table's queue holds a list -/
def qR (s : Nat → Int32) (a : Nat → Nat → Int32) (L : List (Nat × Nat)) : Prop := s 5 = nI L.length ∧ L.length ≤ 64 ∧ (∀ j k v, L[j]? = some (k, v) → a 3 j = nI k ∧ a 4 j = nI v) ∧ ∀ q ∈ L, q.1 ≤ 9999 ∧ q.2 ≤ 999
theorem qR.same {s s' : Nat → Int32} {a a' : Nat → Nat → Int32} {L : List (Nat × Nat)} (h : qR s a L) (h5 : s' 5 = s 5) (h3 : a' 3 = a 3) (h4 : a' 4 = a 4) : qR s' a' L :=
  ⟨h5.trans h.1, h.2.1, fun j k v hj => by rw [h3, h4]; exact h.2.2.1 j k v hj, h.2.2.2⟩
/-- the entries of a list get their places one after the other -/
def bldF (B H T : Nat) : List (Nat × Nat) → (Nat → Nat) → (Nat → Nat) → Int32 → Bool × (Nat → Nat) × (Nat → Nat) × Int32
  | [], K, V, c => (true, K, V, c)
  | (k, v) :: r, K, V, c => match placeF B H T K V c k v with
    | (none, K', V', c') => (false, K', V', c')
    | (some _, K', V', c') => bldF B H T r K' V' c'
/-- an empty table -/
theorem tR_nil {B H T : Nat} {s : Nat → Int32} {a : Nat → Nat → Int32} (okb : okB B) (h2H : 2 ≤ H) (hH6 : H ≤ 6) (h1T : 1 ≤ T) (hT99 : T ≤ 99) (e6 : s 6 = nI B) (e7 : s 7 = nI H) (e8 : s 8 = nI T) (h : ∀ i, i < 64 → a 0 i = -1 ∧ a 1 i = -1 ∧ a 2 i = 0) : tR B H T kz kz s a := by
  refine ⟨okb, h2H, hH6, h1T, hT99, e6, e7, e8, fun i hi => (h i hi).1, fun i hi => (h i hi).2.1, fun i hi => ?_, fun i => ⟨by simp [kz], by simp [kz]⟩, fun i _ => rfl⟩
  rw [(h i hi).2.2]
  have : hop B H T kz i = 0 := by
    unfold hop
    have h0 : ∀ n, hb6 (fun _ => false) n = 0 := by
      intro n
      induction n with
      | zero => rfl
      | succ n ih => simp [hb6, ih]
    have h1 : (fun k => isO B T kz ((i + k) % B) i) = fun _ => false := by
      funext k
      simp [isO, kz]
    rw [h1]
    exact h0 H
  rw [this]
  rfl
/-- buckets, keys and values only: the hop bits may be those of another neighbourhood or multiplier -/
def tK (B H T : Nat) (K V : Nat → Nat) (s : Nat → Int32) (a : Nat → Nat → Int32) : Prop :=
  okB B ∧ 2 ≤ H ∧ H ≤ 6 ∧ 1 ≤ T ∧ T ≤ 99 ∧ s 6 = nI B ∧ s 7 = nI H ∧ s 8 = nI T ∧ (∀ i, i < 64 → a 0 i = tkey (K i)) ∧ (∀ i, i < 64 → a 1 i = tval (K i) (V i)) ∧ True ∧ (∀ i, K i ≤ 10000 ∧ V i ≤ 999) ∧ ∀ i, B ≤ i → K i = 0
theorem tR.k {B H T : Nat} {K V : Nat → Nat} {s : Nat → Int32} {a : Nat → Nat → Int32} (hR : tR B H T K V s a) : tK B H T K V s a := by
  obtain ⟨okb, h2H, hH6, h1T, hT99, e6, e7, e8, ek, ev, eh, ekv, ez⟩ := hR
  exact ⟨okb, h2H, hH6, h1T, hT99, e6, e7, e8, ek, ev, trivial, ekv, ez⟩
theorem tK_s {B H T : Nat} {K V : Nat → Nat} {s s' : Nat → Int32} {a : Nat → Nat → Int32} (hR : tK B H T K V s a) (h6 : s' 6 = s 6) (h7 : s' 7 = s 7) (h8 : s' 8 = s 8) : tK B H T K V s' a := by
  obtain ⟨okb, h2H, hH6, h1T, hT99, e6, e7, e8, ek, ev, eh, ekv, ez⟩ := hR
  exact ⟨okb, h2H, hH6, h1T, hT99, h6.trans e6, h7.trans e7, h8.trans e8, ek, ev, eh, ekv, ez⟩
theorem tR.same {B H T : Nat} {K V : Nat → Nat} {s s' : Nat → Int32} {a a' : Nat → Nat → Int32} (hR : tR B H T K V s a) (h6 : s' 6 = s 6) (h7 : s' 7 = s 7) (h8 : s' 8 = s 8) (h0 : a' 0 = a 0) (h1 : a' 1 = a 1) (h2 : a' 2 = a 2) : tR B H T K V s' a' := by
  obtain ⟨okb, h2H, hH6, h1T, hT99, e6, e7, e8, ek, ev, eh, ekv, ez⟩ := hR
  exact ⟨okb, h2H, hH6, h1T, hT99, h6.trans e6, h7.trans e7, h8.trans e8, by rw [h0]; exact ek, by rw [h1]; exact ev, by rw [h2]; exact eh, ekv, ez⟩
end
section
set_option maxHeartbeats 4000000 in
set_option maxRecDepth 100000 in
theorem w_empty_l {l : zL} {d kc ks n b B : Nat} {h : Nat → va_E} {s : Nat → Int32} {Q : zQ} (hb : b + 6 ≤ n) : ∀ m i (a : Nat → Nat → Int32), i + m = 64 → (∀ j, j < i → a 0 j = -1 ∧ a 1 j = -1 ∧ a 2 j = 0) → (∀ a', (∀ j, j < 64 → a' 0 j = -1 ∧ a' 1 j = -1 ∧ a' 2 j = 0) → a' 3 = a 3 → a' 4 = a 4 → Q (.inl none) n (tW h b s a')) → Zj l mX6_empty d kc ks 17 [(0, .ref b), (1, .int ((nI B))), (2, .int ((nI i)))] [] n (tW h b s a) Q := by
  intro m
  induction m with
  | zero =>
    intro i a hi hinv hq
    refine z_iload_n (j := 2) dX6_empty_17 rfl ?_
    refine z_bipush (v := 64) dX6_empty_18 (by decide) ?_
    refine z_icmp_ge (tgt := 50) dX6_empty_20 (by decide) (fun c_20 => ?_) (fun c_20 => absurd (nI_le (a := 64) (b := i) (by omega) (by omega)) c_20)
    exact z_vret rfl dX6_empty_50 (hq a (fun j hj => hinv j (by omega)) rfl rfl)
  | succ m ih =>
    intro i a hi hinv hq
    refine z_iload_n (j := 2) dX6_empty_17 rfl ?_
    refine z_bipush (v := 64) dX6_empty_18 (by decide) ?_
    refine z_icmp_ge (tgt := 50) dX6_empty_20 (by decide) (fun c_20 => absurd c_20 (nI_ge (b := 64) (by omega) (by decide))) (fun c_20 => ?_)
    refine z_aload_n (j := 0) dX6_empty_23 rfl ?_
    refine z_get (v := .ref (b + 1)) (by omega) tW_obj fX6_9 rfl dX6_empty_24 ?_
    refine z_iload_n (j := 2) dX6_empty_27 rfl ?_
    refine z_iconst (v := (-1)) dX6_empty_28 (by decide) ?_
    refine t_ast 0 (by decide) hb (vp_in_nI (by omega) (by decide)) dX6_empty_29 ?_
    refine z_aload_n (j := 0) dX6_empty_30 rfl ?_
    refine z_get (v := .ref (b + 2)) (by omega) tW_obj fX6_15 rfl dX6_empty_31 ?_
    refine z_iload_n (j := 2) dX6_empty_34 rfl ?_
    refine z_iconst (v := (-1)) dX6_empty_35 (by decide) ?_
    refine t_ast 1 (by decide) hb (vp_in_nI (by omega) (by decide)) dX6_empty_36 ?_
    refine z_aload_n (j := 0) dX6_empty_37 rfl ?_
    refine z_get (v := .ref (b + 3)) (by omega) tW_obj fX6_18 rfl dX6_empty_38 ?_
    refine z_iload_n (j := 2) dX6_empty_41 rfl ?_
    refine z_iconst (v := 0) dX6_empty_42 (by decide) ?_
    refine t_ast 2 (by decide) hb (vp_in_nI (by omega) (by decide)) dX6_empty_43 ?_
    skip
    refine z_iinc ((nI (i + 1))) [1, 2, 0] [(0, .ref b), (1, .int ((nI B))), (2, .int ((nI (i + 1))))] dX6_empty_44 (j := 2) rfl (nI_1 i) (by decide) rfl ?_
    refine z_goto (tgt := 17) dX6_empty_47 (by decide) ?_
    have hci : (nI i).toNatClampNeg = i := nI_clamp (by omega)
    simp only [hci]
    refine ih (i + 1) _ (by omega) (fun j hj => ?_) (fun a' h1 h2 h3 => hq a' h1 (by rw [h2]; simp [va_up]) (by rw [h3]; simp [va_up]))
    by_cases hji : j = i
    · subst hji; simp [va_up]
    · have := hinv j (by omega)
      simp [va_up, hji, this]

set_option maxHeartbeats 4000000 in
set_option maxRecDepth 100000 in
theorem w_empty {l : zL} {d kc ks n b B H T : Nat} {h : Nat → va_E} {s : Nat → Int32} {a : Nat → Nat → Int32} {Q : zQ} (hb : b + 6 ≤ n) (okb : okB B) (h2H : 2 ≤ H) (hH6 : H ≤ 6) (h1T : 1 ≤ T) (hT99 : T ≤ 99) (e7 : s 7 = nI H) (e8 : s 8 = nI T) (hq : ∀ s' a', tR B H T kz kz s' a' → s' 10 = 0 → s' 11 = 0 → (∀ k, k ≠ 6 → k ≠ 10 → k ≠ 11 → s' k = s k) → a' 3 = a 3 → a' 4 = a 4 → Q (.inl none) n (tW h b s' a')) : Zj l mX6_empty d kc ks 0 [(0, .ref b), (1, .int ((nI B)))] [] n (tW h b s a) Q := by
  refine z_aload_n (j := 0) dX6_empty_0 rfl ?_
  refine z_iload_n (j := 1) dX6_empty_1 rfl ?_
  refine t_put (k := 6) (by omega) fX6_64 (by decide) (by decide) (by decide) dX6_empty_2 ?_
  refine z_aload_n (j := 0) dX6_empty_5 rfl ?_
  refine z_iconst (v := 0) dX6_empty_6 (by decide) ?_
  refine t_put (k := 10) (by omega) fX6_67 (by decide) (by decide) (by decide) dX6_empty_7 ?_
  refine z_aload_n (j := 0) dX6_empty_10 rfl ?_
  refine z_iconst (v := 0) dX6_empty_11 (by decide) ?_
  refine t_put (k := 11) (by omega) fX6_70 (by decide) (by decide) (by decide) dX6_empty_12 ?_
  refine z_iconst (v := 0) dX6_empty_15 (by decide) ?_
  refine z_istore_n [1, 2, 0] [(0, .ref b), (1, .int ((nI B))), (2, .int 0)] dX6_empty_16 (by decide) rfl ?_
  refine w_empty_l hb 64 0 a (by omega) (fun j hj => absurd hj (Nat.not_lt_zero j)) (fun a' h1 h2 h3 => hq _ a' (tR_nil okb h2H hH6 h1T hT99 (by simp [va_up]) (by simp [va_up, e7]) (by simp [va_up, e8]) h1) (by simp [va_up]) (by simp [va_up]) (fun k h6 h10 h11 => by simp [va_up, h6, h10, h11]) h2 h3)

set_option maxHeartbeats 4000000 in
set_option maxRecDepth 100000 in
theorem w_queueAll_l {l : zL} {d kc ks n b B H T : Nat} {h : Nat → va_E} {K V : Nat → Nat} {Q : zQ} (hb : b + 6 ≤ n) : ∀ m i (s : Nat → Int32) (a : Nat → Nat → Int32), i + m = B → tK B H T K V s a → qR s a (entL K V i) → (∀ s' a', tK B H T K V s' a' → qR s' a' (entL K V B) → a' 0 = a 0 → a' 1 = a 1 → a' 2 = a 2 → (∀ k, k ≠ 5 → s' k = s k) → Q (.inl none) n (tW h b s' a')) → Zj l mX6_queueAll d kc ks 7 [(0, .ref b), (1, .int ((nI i)))] [] n (tW h b s a) Q := by
  intro m
  induction m with
  | zero =>
    intro i s a hi hR hqu hq
    obtain ⟨okb, h2H, hH6, h1T, hT99, e6, e7, e8, ek, ev, eh, ekv, ez⟩ := id hR
    have hle := okb.le
    refine z_iload_n (j := 1) dX6_queueAll_7 rfl ?_
    refine z_aload_n (j := 0) dX6_queueAll_8 rfl ?_
    refine z_get (v := .int (s 6)) (by omega) tW_obj fX6_64 rfl dX6_queueAll_9 ?_
    refine z_icmp_ge (tgt := 99) dX6_queueAll_12 (by decide) (fun c_12 => ?_) (fun c_12 => absurd (by rw [e6]; exact nI_le (by omega) (by omega)) c_12)
    exact z_vret rfl dX6_queueAll_99 (by
        obtain rfl : i = B := by omega
        exact hq s a hR hqu rfl rfl rfl (fun _ _ => rfl))
  | succ m ih =>
    intro i s a hi hR hqu hq
    obtain ⟨okb, h2H, hH6, h1T, hT99, e6, e7, e8, ek, ev, eh, ekv, ez⟩ := id hR
    have hle := okb.le
    have hll := entL_len K V i
    have hci : (nI i).toNatClampNeg = i := nI_clamp (by omega)
    have hcq : (s 5).toNatClampNeg = (entL K V i).length := by rw [hqu.1]; exact nI_clamp (by omega)
    refine z_iload_n (j := 1) dX6_queueAll_7 rfl ?_
    refine z_aload_n (j := 0) dX6_queueAll_8 rfl ?_
    refine z_get (v := .int (s 6)) (by omega) tW_obj fX6_64 rfl dX6_queueAll_9 ?_
    refine z_icmp_ge (tgt := 99) dX6_queueAll_12 (by decide) (fun c_12 => absurd c_12 (by rw [e6]; exact nI_ge (by omega) (by omega))) (fun c_12 => ?_)
    refine z_iload_n (j := 1) dX6_queueAll_15 rfl ?_
    refine z_aload_n (j := 0) dX6_queueAll_16 rfl ?_
    refine z_get (v := .ref (b + 1)) (by omega) tW_obj fX6_9 rfl dX6_queueAll_17 ?_
    refine t_alen 0 (by decide) hb dX6_queueAll_20 ?_
    refine z_icmp_ge (tgt := 99) dX6_queueAll_21 (by decide) (fun c_21 => absurd c_21 (nI_ge (b := 64) (by omega) (by decide))) (fun c_21 => ?_)
    refine z_aload_n (j := 0) dX6_queueAll_24 rfl ?_
    refine z_get (v := .ref (b + 1)) (by omega) tW_obj fX6_9 rfl dX6_queueAll_25 ?_
    refine z_iload_n (j := 1) dX6_queueAll_28 rfl ?_
    refine t_ald 0 (by decide) hb (vp_in_nI (by omega) (by decide)) dX6_queueAll_29 ?_
    refine z_iconst (v := (-1)) dX6_queueAll_30 (by decide) ?_
    refine z_icmp_eq (tgt := 93) dX6_queueAll_31 (by decide) (fun c_31 => ?_) (fun c_31 => ?_)
    · skip
      refine z_iinc ((nI (i + 1))) [1, 0] [(0, .ref b), (1, .int ((nI (i + 1))))] dX6_queueAll_93 (j := 1) rfl (nI_1 i) (by decide) rfl ?_
      refine z_goto (tgt := 7) dX6_queueAll_96 (by decide) ?_
      have hK : K i = 0 := by
        rw [hci, ek i (by omega)] at c_31
        exact (tkey_eq (ekv i).1).mp c_31
      exact ih (i + 1) s a (by omega) hR (by rw [entL_free hK]; exact hqu) hq
    · refine z_aload_n (j := 0) dX6_queueAll_34 rfl ?_
      refine z_get (v := .int (s 5)) (by omega) tW_obj fX6_106 rfl dX6_queueAll_35 ?_
      refine z_if_lt (tgt := 93) dX6_queueAll_38 (by decide) (fun c_38 => absurd c_38 (by rw [hqu.1]; exact nI_pos (by omega))) (fun c_38 => ?_)
      refine z_aload_n (j := 0) dX6_queueAll_41 rfl ?_
      refine z_get (v := .int (s 5)) (by omega) tW_obj fX6_106 rfl dX6_queueAll_42 ?_
      refine z_aload_n (j := 0) dX6_queueAll_45 rfl ?_
      refine z_get (v := .ref (b + 4)) (by omega) tW_obj fX6_21 rfl dX6_queueAll_46 ?_
      refine t_alen 3 (by decide) hb dX6_queueAll_49 ?_
      refine z_icmp_ge (tgt := 93) dX6_queueAll_50 (by decide) (fun c_50 => absurd c_50 (by rw [hqu.1]; exact nI_ge (b := 64) (by omega) (by decide))) (fun c_50 => ?_)
      refine z_aload_n (j := 0) dX6_queueAll_53 rfl ?_
      refine z_get (v := .ref (b + 4)) (by omega) tW_obj fX6_21 rfl dX6_queueAll_54 ?_
      refine z_aload_n (j := 0) dX6_queueAll_57 rfl ?_
      refine z_get (v := .int (s 5)) (by omega) tW_obj fX6_106 rfl dX6_queueAll_58 ?_
      refine z_aload_n (j := 0) dX6_queueAll_61 rfl ?_
      refine z_get (v := .ref (b + 1)) (by omega) tW_obj fX6_9 rfl dX6_queueAll_62 ?_
      refine z_iload_n (j := 1) dX6_queueAll_65 rfl ?_
      refine t_ald 0 (by decide) hb (vp_in_nI (by omega) (by decide)) dX6_queueAll_66 ?_
      refine t_ast 3 (by decide) hb (by rw [hqu.1]; exact vp_in_nI (by omega) (by decide)) dX6_queueAll_67 ?_
      refine z_aload_n (j := 0) dX6_queueAll_68 rfl ?_
      refine z_get (v := .ref (b + 5)) (by omega) tW_obj fX6_24 rfl dX6_queueAll_69 ?_
      refine z_aload_n (j := 0) dX6_queueAll_72 rfl ?_
      refine z_get (v := .int (s 5)) (by omega) tW_obj fX6_106 rfl dX6_queueAll_73 ?_
      refine z_aload_n (j := 0) dX6_queueAll_76 rfl ?_
      refine z_get (v := .ref (b + 2)) (by omega) tW_obj fX6_15 rfl dX6_queueAll_77 ?_
      refine z_iload_n (j := 1) dX6_queueAll_80 rfl ?_
      refine t_ald 1 (by decide) hb (vp_in_nI (by omega) (by decide)) dX6_queueAll_81 ?_
      refine t_ast 4 (by decide) hb (by rw [hqu.1]; exact vp_in_nI (by omega) (by decide)) dX6_queueAll_82 ?_
      refine z_aload_n (j := 0) dX6_queueAll_83 rfl ?_
      refine z_dup rfl dX6_queueAll_84 ?_
      refine z_get (v := .int (s 5)) (by omega) tW_obj fX6_106 rfl dX6_queueAll_85 ?_
      refine z_iconst (v := 1) dX6_queueAll_88 (by decide) ?_
      refine z_iadd dX6_queueAll_89 ?_
      refine t_put (k := 5) (by omega) fX6_106 (by decide) (by decide) (by decide) dX6_queueAll_90 ?_
      skip
      refine z_iinc ((nI (i + 1))) [1, 0] [(0, .ref b), (1, .int ((nI (i + 1))))] dX6_queueAll_93 (j := 1) rfl (nI_1 i) (by decide) rfl ?_
      refine z_goto (tgt := 7) dX6_queueAll_96 (by decide) ?_
      have hK : K i ≠ 0 := fun e => c_31 (by rw [hci, ek i (by omega)]; exact (tkey_eq (ekv i).1).mpr e)
      simp only [hci, hcq]
      refine ih (i + 1) _ _ (by omega) (tK_s (s := s) ⟨okb, h2H, hH6, h1T, hT99, e6, e7, e8, by simpa [va_up] using ek, by simpa [va_up] using ev, eh, ekv, ez⟩ (by simp [va_up]) (by simp [va_up]) (by simp [va_up])) ?_ (fun s' a' h1 h2 h3 h4 h5 h6 => hq s' a' h1 h2 (by rw [h3]; simp [va_up]) (by rw [h4]; simp [va_up]) (by rw [h5]; simp [va_up]) (fun k hk => by rw [h6 k hk]; simp [va_up, hk]))
      rw [entL_full hK]
      refine ⟨?_, by rw [List.length_append]; simp only [List.length_cons, List.length_nil]; omega, fun j k v hj => ?_, fun q hqm => ?_⟩
      · rw [List.length_append]
        simp only [va_up, if_true, hqu.1, List.length_cons, List.length_nil]
        exact nI_1 _
      · by_cases hjl : j < (entL K V i).length
        · rw [List.getElem?_append_left hjl] at hj
          have hne : ¬ j = (entL K V i).length := by omega
          have := hqu.2.2.1 j k v hj
          simp [va_up, hne, this]
        · rw [List.getElem?_append_right (by omega)] at hj
          have hj0 : j - (entL K V i).length = 0 := by
            rcases Nat.eq_zero_or_pos (j - (entL K V i).length) with h0 | h0
            · exact h0
            · rw [List.getElem?_eq_none (by simp; omega)] at hj; cases hj
          have hje : j = (entL K V i).length := by omega
          rw [hj0] at hj
          cases hj
          subst hje
          have hv := ev i (by omega)
          have hk2 := ek i (by omega)
          rw [tkey_ne hK] at hk2
          rw [tval, if_neg hK] at hv
          exact ⟨by simp [va_up, hk2], by simp [va_up, hv]⟩
      · rcases List.mem_append.mp hqm with h1 | h1
        · exact hqu.2.2.2 q h1
        · have := ekv i
          rw [List.mem_singleton.mp h1]
          exact ⟨by show K i - 1 ≤ 9999; omega, this.2⟩

set_option maxHeartbeats 4000000 in
set_option maxRecDepth 100000 in
theorem w_queueAll {l : zL} {d kc ks n b B H T : Nat} {h : Nat → va_E} {K V : Nat → Nat} {s : Nat → Int32} {a : Nat → Nat → Int32} {Q : zQ} (hb : b + 6 ≤ n) (hR : tK B H T K V s a) (hq : ∀ s' a', tK B H T K V s' a' → qR s' a' (entL K V B) → a' 0 = a 0 → a' 1 = a 1 → a' 2 = a 2 → (∀ k, k ≠ 5 → s' k = s k) → Q (.inl none) n (tW h b s' a')) : Zj l mX6_queueAll d kc ks 0 [(0, .ref b)] [] n (tW h b s a) Q := by
  refine z_aload_n (j := 0) dX6_queueAll_0 rfl ?_
  refine z_iconst (v := 0) dX6_queueAll_1 (by decide) ?_
  refine t_put (k := 5) (by omega) fX6_106 (by decide) (by decide) (by decide) dX6_queueAll_2 ?_
  refine z_iconst (v := 0) dX6_queueAll_5 (by decide) ?_
  refine z_istore_n [1, 0] [(0, .ref b), (1, .int 0)] dX6_queueAll_6 (by decide) rfl ?_
  refine w_queueAll_l hb B 0 _ _ (by omega) (tK_s hR (by simp [va_up]) (by simp [va_up]) (by simp [va_up])) ⟨by simp [va_up, entL]; rfl, by simp [entL], fun j k v hj => by simp [entL] at hj, fun q hqm => by simp [entL] at hqm⟩ (fun s' a' h1 h2 h3 h4 h5 h6 => hq s' a' h1 h2 h3 h4 h5 (fun k hk => by rw [h6 k hk]; simp [va_up, hk]))
end
section
/-! GROWING, AS NUMBERS -/
/-- the widths still to be tried: m of 8, 16, 32, 64 (the next is 2^(7-m)) -/
def grF (H T : Nat) (L : List (Nat × Nat)) (key v : Nat) : Nat → Nat → (Nat → Nat) → (Nat → Nat) → Int32 → Int32 → Option Nat × Nat × (Nat → Nat) × (Nat → Nat) × Int32 × Int32
  | 0, B, K, V, c, x => (none, B, K, V, c, x)
  | m + 1, B, K, V, c, x => if 2 ^ (6 - m) ≤ B then grF H T L key v m B K V c x else match bldF (2 ^ (6 - m)) H T L kz kz 0 with
    | (false, K1, V1, c1) => grF H T L key v m (2 ^ (6 - m)) K1 V1 c1 (x + 1)
    | (true, K1, V1, c1) => match placeF (2 ^ (6 - m)) H T K1 V1 c1 key v with
      | (some bk, K2, V2, c2) => (some bk, 2 ^ (6 - m), K2, V2, c2, x + 1)
      | (none, K2, V2, c2) => grF H T L key v m (2 ^ (6 - m)) K2 V2 c2 (x + 1)
def insF (B H T : Nat) (K V : Nat → Nat) (c x : Int32) (key v : Nat) : Option Nat × Nat × (Nat → Nat) × (Nat → Nat) × Int32 × Int32 := match placeF B H T K V c key v with
  | (some bk, K1, V1, c1) => (some bk, B, K1, V1, c1, x)
  | (none, K1, V1, c1) => grF H T (entL K V B) key v 4 B K1 V1 c1 x
/-- built anew with some buckets or twice as many: success, the buckets, the counts -/
def rbF (H T : Nat) (L : List (Nat × Nat)) (newB : Nat) : Nat → Nat → (Nat → Nat) → (Nat → Nat) → Int32 → Int32 → Bool × Nat × (Nat → Nat) × (Nat → Nat) × Int32 × Int32
  | 0, B, K, V, c, x => (false, B, K, V, c, x)
  | m + 1, B, K, V, c, x => if 2 ^ (6 - m) < newB then rbF H T L newB m B K V c x else match bldF (2 ^ (6 - m)) H T L kz kz 0 with
    | (true, K1, V1, c1) => (true, 2 ^ (6 - m), K1, V1, c1, if 2 ^ (6 - m) = B then x else x + 1)
    | (false, K1, V1, c1) => rbF H T L newB m (2 ^ (6 - m)) K1 V1 c1 (if 2 ^ (6 - m) = B then x else x + 1)
theorem drop_at {α : Type} {L : List α} {i : Nat} {q : α} (h : L[i]? = some q) : L.drop i = q :: L.drop (i + 1) := by
  obtain ⟨h1, h2⟩ := List.getElem?_eq_some_iff.mp h
  rw [List.drop_eq_getElem_cons h1, h2]
theorem okB_w {m : Nat} (h : m < 4) : okB (2 ^ (6 - m)) := by
  rcases (show m = 0 ∨ m = 1 ∨ m = 2 ∨ m = 3 by omega) with rfl | rfl | rfl | rfl
  · exact Or.inr (Or.inr (Or.inr rfl))
  · exact Or.inr (Or.inr (Or.inl rfl))
  · exact Or.inr (Or.inl rfl)
  · exact Or.inl rfl
theorem w_next {m : Nat} (h : m < 4) : nI (2 ^ (6 - m)) * 2 = nI (2 ^ (7 - m)) := by
  rcases (show m = 0 ∨ m = 1 ∨ m = 2 ∨ m = 3 by omega) with rfl | rfl | rfl | rfl <;> decide
theorem placeF_lt {B H T : Nat} {K V K1 V1 : Nat → Nat} {c c1 : Int32} {key v bk : Nat} (hB : okB B) (h : placeF B H T K V c key v = (some bk, K1, V1, c1)) : bk < B := by
  unfold placeF at h
  have hp : 0 < B := by rcases hB with rfl | rfl | rfl | rfl <;> decide
  split at h
  · cases h
  · split at h
    · cases h
    · cases h
      exact Nat.mod_lt _ hp
end
section
set_option maxHeartbeats 4000000 in
set_option maxRecDepth 100000 in
theorem w_build_l {l : zL} {d kc ks n b B H T : Nat} {h : Nat → va_E} {L : List (Nat × Nat)} {Q : zQ} (hb : b + 6 ≤ n) : ∀ m i (K V : Nat → Nat) (s : Nat → Int32) (a : Nat → Nat → Int32), i + m = L.length → tR B H T K V s a → qR s a L → s 10 = nI i → (∀ K' V' c' s' a', bldF B H T (L.drop i) K V (s 11) = (false, K', V', c') → tR B H T K' V' s' a' → qR s' a' L → s' 11 = c' → s' 13 = s 13 → (∀ k, k ≠ 6 → k ≠ 10 → k ≠ 11 → k ≠ 13 → s' k = s k) → Q (.inl (some (.int 0))) n (tW h b s' a')) → (∀ K' V' c' s' a', bldF B H T (L.drop i) K V (s 11) = (true, K', V', c') → tR B H T K' V' s' a' → qR s' a' L → s' 10 = nI L.length → s' 11 = c' → s' 13 = s 13 → (∀ k, k ≠ 6 → k ≠ 10 → k ≠ 11 → k ≠ 13 → s' k = s k) → Q (.inl (some (.int 1))) n (tW h b s' a')) → Zj l mX6_build (d + 4) kc ks 25 [(0, .ref b), (1, .int ((nI B))), (2, .int ((nI i)))] [] n (tW h b s a) Q := by
  intro m
  induction m with
  | zero =>
    intro i K V s a hi hR hqu h10 hqF hqT
    have hll := hqu.2.1
    obtain ⟨okb, h2H, hH6, h1T, hT99, e6, e7, e8, ek, ev, eh, ekv, ez⟩ := id hR
    have hle := okb.le
    refine z_iload_n (j := 2) dX6_build_25 rfl ?_
    refine z_aload_n (j := 0) dX6_build_26 rfl ?_
    refine z_get (v := .int (s 5)) (by omega) tW_obj fX6_106 rfl dX6_build_27 ?_
    refine z_icmp_ge (tgt := 70) dX6_build_30 (by decide) (fun c_30 => ?_) (fun c_30 => absurd (by rw [hqu.1]; exact nI_le (by omega) (by omega)) c_30)
    refine z_iconst (v := 1) dX6_build_70 (by decide) ?_
    exact z_zret rfl rfl dX6_build_71 (hqT K V (s 11) s a (by rw [List.drop_eq_nil_of_le (by omega)]; first | done | rfl) hR hqu (by rw [h10, show i = L.length by omega]) rfl rfl (fun _ _ _ _ _ => rfl))
  | succ m ih =>
    intro i K V s a hi hR hqu h10 hqF hqT
    obtain ⟨okb, h2H, hH6, h1T, hT99, e6, e7, e8, ek, ev, eh, ekv, ez⟩ := id hR
    have hle := okb.le
    have hll := hqu.2.1
    have hci : (nI i).toNatClampNeg = i := nI_clamp (by omega)
    obtain ⟨⟨k, v⟩, hLi⟩ : ∃ q, L[i]? = some q := ⟨L[i]'(by omega), List.getElem?_eq_getElem (by omega)⟩
    obtain ⟨hq3, hq4⟩ := hqu.2.2.1 i k v hLi
    have hkv := hqu.2.2.2 _ (List.mem_of_getElem? hLi)
    refine z_iload_n (j := 2) dX6_build_25 rfl ?_
    refine z_aload_n (j := 0) dX6_build_26 rfl ?_
    refine z_get (v := .int (s 5)) (by omega) tW_obj fX6_106 rfl dX6_build_27 ?_
    refine z_icmp_ge (tgt := 70) dX6_build_30 (by decide) (fun c_30 => absurd c_30 (by rw [hqu.1]; exact nI_ge (by omega) (by omega))) (fun c_30 => ?_)
    refine z_iload_n (j := 2) dX6_build_33 rfl ?_
    refine z_aload_n (j := 0) dX6_build_34 rfl ?_
    refine z_get (v := .ref (b + 4)) (by omega) tW_obj fX6_21 rfl dX6_build_35 ?_
    refine t_alen 3 (by decide) hb dX6_build_38 ?_
    refine z_icmp_ge (tgt := 70) dX6_build_39 (by decide) (fun c_39 => absurd c_39 (nI_ge (b := 64) (by omega) (by decide))) (fun c_39 => ?_)
    refine z_aload_n (j := 0) dX6_build_42 rfl ?_
    refine z_aload_n (j := 0) dX6_build_43 rfl ?_
    refine z_get (v := .ref (b + 4)) (by omega) tW_obj fX6_21 rfl dX6_build_44 ?_
    refine z_iload_n (j := 2) dX6_build_47 rfl ?_
    refine t_ald 3 (by decide) hb (vp_in_nI (by omega) (by decide)) dX6_build_48 ?_
    refine z_aload_n (j := 0) dX6_build_49 rfl ?_
    refine z_get (v := .ref (b + 5)) (by omega) tW_obj fX6_24 rfl dX6_build_50 ?_
    refine z_iload_n (j := 2) dX6_build_53 rfl ?_
    refine t_ald 4 (by decide) hb (vp_in_nI (by omega) (by decide)) dX6_build_54 ?_
    rw [hci, hq3, hq4]
    rcases hpf : placeF B H T K V (s 11) k v with ⟨_ | bk, K1, V1, c1⟩
    · refine z_cVx [.int (nI k), .int (nI v)] (some (.int (-1))) (fun g => ∃ s1 a1, g = tW h b s1 a1 ∧ tQ B H T K1 V1 s a (s 10) c1 s1 a1) yoX6_place yvX6_place rfl (by decide) lX6_76 (by omega) tW_obj rfl rfl (Nat.le_of_ble_eq_true rfl) (Nat.le_of_ble_eq_true rfl) dX6_build_55 (z_room (by omega) (Nat.le_refl _) (Nat.le_refl _) (w_place (d := 0) hb hR hkv.1 hkv.2 (fun K' V' c' s' a' e hT => by
        rw [hpf] at e
        cases e
        exact ⟨rfl, rfl, s', a', rfl, hT⟩) (fun bk' K' V' c' s' a' e hT => by rw [hpf] at e; cases e))) (fun g hg => ?_)
      obtain ⟨s1, a1, rfl, hT1⟩ := hg
      refine z_iconst (v := (-1)) dX6_build_58 (by decide) ?_
      refine z_icmp_ne (tgt := 64) dX6_build_59 (by decide) (fun c_59 => absurd rfl c_59) (fun c_59 => ?_)
      refine z_iconst (v := 0) dX6_build_62 (by decide) ?_
      exact z_zret rfl rfl dX6_build_63 (by
          refine hqF K1 V1 c1 s1 a1 (by rw [drop_at hLi]; simp [bldF, hpf]) hT1.1 (hqu.same (hT1.2.2.2.1 5 (by decide) (by decide)) hT1.2.2.2.2.1 hT1.2.2.2.2.2) hT1.2.2.1 (hT1.2.2.2.1 13 (by decide) (by decide)) (fun k _ h1 h2 _ => hT1.2.2.2.1 k h1 h2))
    · refine z_cVx [.int (nI k), .int (nI v)] (some (.int (nI bk))) (fun g => ∃ s1 a1, g = tW h b s1 a1 ∧ tQ B H T K1 V1 s a (s 10 + 1) c1 s1 a1) yoX6_place yvX6_place rfl (by decide) lX6_76 (by omega) tW_obj rfl rfl (Nat.le_of_ble_eq_true rfl) (Nat.le_of_ble_eq_true rfl) dX6_build_55 (z_room (by omega) (Nat.le_refl _) (Nat.le_refl _) (w_place (d := 0) hb hR hkv.1 hkv.2 (fun K' V' c' s' a' e hT => by rw [hpf] at e; cases e) (fun bk' K' V' c' s' a' e hT => by
        rw [hpf] at e
        cases e
        exact ⟨rfl, rfl, s', a', rfl, hT⟩))) (fun g hg => ?_)
      obtain ⟨s1, a1, rfl, hT1⟩ := hg
      refine z_iconst (v := (-1)) dX6_build_58 (by decide) ?_
      refine z_icmp_ne (tgt := 64) dX6_build_59 (by decide) (fun c_59 => ?_) (fun c_59 => absurd c_59 (nI_neg1 (by have := placeF_lt okb hpf; omega)))
      skip
      refine z_iinc ((nI (i + 1))) [1, 2, 0] [(0, .ref b), (1, .int ((nI B))), (2, .int ((nI (i + 1))))] dX6_build_64 (j := 2) rfl (nI_1 i) (by decide) rfl ?_
      refine z_goto (tgt := 25) dX6_build_67 (by decide) ?_
      have hbd : bldF B H T (L.drop i) K V (s 11) = bldF B H T (L.drop (i + 1)) K1 V1 (s1 11) := by rw [drop_at hLi, hT1.2.2.1]; simp [bldF, hpf]
      refine ih (i + 1) K1 V1 s1 a1 (by omega) hT1.1 (hqu.same (hT1.2.2.2.1 5 (by decide) (by decide)) hT1.2.2.2.2.1 hT1.2.2.2.2.2) (by rw [hT1.2.1, h10]; exact nI_1 i) (fun K' V' c' s' a' e h1 h2 h3 h4 h5 => hqF K' V' c' s' a' (hbd.trans e) h1 h2 h3 (h4.trans (hT1.2.2.2.1 13 (by decide) (by decide))) (fun k x6 x10 x11 x13 => (h5 k x6 x10 x11 x13).trans (hT1.2.2.2.1 k x10 x11))) (fun K' V' c' s' a' e h1 h2 h9 h3 h4 h5 => hqT K' V' c' s' a' (hbd.trans e) h1 h2 h9 h3 (h4.trans (hT1.2.2.2.1 13 (by decide) (by decide))) (fun k x6 x10 x11 x13 => (h5 k x6 x10 x11 x13).trans (hT1.2.2.2.1 k x10 x11)))

set_option maxHeartbeats 4000000 in
set_option maxRecDepth 100000 in
theorem w_build_same {l : zL} {d kc ks n b B H T : Nat} {h : Nat → va_E} {L : List (Nat × Nat)} {Q : zQ} {K V : Nat → Nat} {s : Nat → Int32} {a : Nat → Nat → Int32} {B0 : Nat} (hb : b + 6 ≤ n) (okB1 : okB B) (hR : tK B0 H T K V s a) (hqu : qR s a L) (hne : B = B0) (hqF : ∀ K' V' c' s' a', bldF B H T L kz kz 0 = (false, K', V', c') → tR B H T K' V' s' a' → qR s' a' L → s' 11 = c' → s' 13 = s 13 → (∀ k, k ≠ 6 → k ≠ 10 → k ≠ 11 → k ≠ 13 → s' k = s k) → Q (.inl (some (.int 0))) n (tW h b s' a')) (hqT : ∀ K' V' c' s' a', bldF B H T L kz kz 0 = (true, K', V', c') → tR B H T K' V' s' a' → qR s' a' L → s' 10 = nI L.length → s' 11 = c' → s' 13 = s 13 → (∀ k, k ≠ 6 → k ≠ 10 → k ≠ 11 → k ≠ 13 → s' k = s k) → Q (.inl (some (.int 1))) n (tW h b s' a')) : Zj l mX6_build (d + 4) kc ks 0 [(0, .ref b), (1, .int ((nI B)))] [] n (tW h b s a) Q := by
  obtain ⟨okb, h2H, hH6, h1T, hT99, e6, e7, e8, ek, ev, eh, ekv, ez⟩ := id hR
  have hle := okb.le
  subst hne
  refine z_iload_n (j := 1) dX6_build_0 rfl ?_
  refine z_aload_n (j := 0) dX6_build_1 rfl ?_
  refine z_get (v := .int (s 6)) (by omega) tW_obj fX6_64 rfl dX6_build_2 ?_
  refine z_icmp_eq (tgt := 18) dX6_build_5 (by decide) (fun c_5 => ?_) (fun c_5 => absurd (by rw [e6]) c_5)
  refine z_aload_n (j := 0) dX6_build_18 rfl ?_
  refine z_iload_n (j := 1) dX6_build_19 rfl ?_
  refine z_cVx [.int (nI B)] none (fun g => ∃ s1 a1, g = tW h b s1 a1 ∧ tR B H T kz kz s1 a1 ∧ s1 10 = 0 ∧ s1 11 = 0 ∧ (∀ k, k ≠ 6 → k ≠ 10 → k ≠ 11 → s1 k = s k) ∧ a1 3 = a 3 ∧ a1 4 = a 4) yoX6_empty yvX6_empty rfl (by decide) lX6_54 (by omega) tW_obj rfl rfl (Nat.le_of_ble_eq_true rfl) (Nat.le_of_ble_eq_true rfl) dX6_build_20 (z_room (by omega) (Nat.le_refl _) (Nat.le_refl _) (w_empty (d := 0) hb okB1 h2H hH6 h1T hT99 (by simp [va_up, e7]) (by simp [va_up, e8]) (fun s' a' h1 h2 h3 h4 h5 h6 => ⟨rfl, rfl, s', a', rfl, h1, h2, h3, h4, h5, h6⟩))) (fun g hg => ?_)
  obtain ⟨s1, a1, rfl, hR1, h10, h11, hsk, ha3, ha4⟩ := hg
  refine z_iconst (v := 0) dX6_build_23 (by decide) ?_
  refine z_istore_n [1, 2, 0] [(0, .ref b), (1, .int ((nI B))), (2, .int 0)] dX6_build_24 (by decide) rfl ?_
  refine w_build_l hb L.length 0 kz kz s1 a1 (by omega) hR1 (hqu.same (by rw [hsk 5 (by decide) (by decide) (by decide)]) ha3 ha4) h10 (fun K' V' c' s' a' e h1 h2 h3 h4 h5 => ?_) (fun K' V' c' s' a' e h1 h2 h9 h3 h4 h5 => ?_)
  · rw [h11] at e
    exact hqF K' V' c' s' a' e h1 h2 h3 (by rw [h4, hsk 13 (by decide) (by decide) (by decide)]) (fun k x6 x10 x11 x13 => by rw [h5 k x6 x10 x11 x13, hsk k x6 x10 x11])
  · rw [h11] at e
    exact hqT K' V' c' s' a' e h1 h2 h9 h3 (by rw [h4, hsk 13 (by decide) (by decide) (by decide)]) (fun k x6 x10 x11 x13 => by rw [h5 k x6 x10 x11 x13, hsk k x6 x10 x11])

set_option maxHeartbeats 4000000 in
set_option maxRecDepth 100000 in
theorem w_build_new {l : zL} {d kc ks n b B H T : Nat} {h : Nat → va_E} {L : List (Nat × Nat)} {Q : zQ} {K V : Nat → Nat} {s : Nat → Int32} {a : Nat → Nat → Int32} {B0 : Nat} (hb : b + 6 ≤ n) (okB1 : okB B) (hR : tK B0 H T K V s a) (hqu : qR s a L) (hne : ¬ B = B0) (hqF : ∀ K' V' c' s' a', bldF B H T L kz kz 0 = (false, K', V', c') → tR B H T K' V' s' a' → qR s' a' L → s' 11 = c' → s' 13 = s 13 + 1 → (∀ k, k ≠ 6 → k ≠ 10 → k ≠ 11 → k ≠ 13 → s' k = s k) → Q (.inl (some (.int 0))) n (tW h b s' a')) (hqT : ∀ K' V' c' s' a', bldF B H T L kz kz 0 = (true, K', V', c') → tR B H T K' V' s' a' → qR s' a' L → s' 10 = nI L.length → s' 11 = c' → s' 13 = s 13 + 1 → (∀ k, k ≠ 6 → k ≠ 10 → k ≠ 11 → k ≠ 13 → s' k = s k) → Q (.inl (some (.int 1))) n (tW h b s' a')) : Zj l mX6_build (d + 4) kc ks 0 [(0, .ref b), (1, .int ((nI B)))] [] n (tW h b s a) Q := by
  obtain ⟨okb, h2H, hH6, h1T, hT99, e6, e7, e8, ek, ev, eh, ekv, ez⟩ := id hR
  have hle := okb.le
  refine z_iload_n (j := 1) dX6_build_0 rfl ?_
  refine z_aload_n (j := 0) dX6_build_1 rfl ?_
  refine z_get (v := .int (s 6)) (by omega) tW_obj fX6_64 rfl dX6_build_2 ?_
  refine z_icmp_eq (tgt := 18) dX6_build_5 (by decide) (fun c_5 => absurd c_5 (fun e => hne ((nI_eq (by have := okB1.le; omega) (by omega)).mp (by rw [← e6]; exact e)))) (fun c_5 => ?_)
  refine z_aload_n (j := 0) dX6_build_8 rfl ?_
  refine z_dup rfl dX6_build_9 ?_
  refine z_get (v := .int (s 13)) (by omega) tW_obj fX6_45 rfl dX6_build_10 ?_
  refine z_iconst (v := 1) dX6_build_13 (by decide) ?_
  refine z_iadd dX6_build_14 ?_
  refine t_put (k := 13) (by omega) fX6_45 (by decide) (by decide) (by decide) dX6_build_15 ?_
  refine z_aload_n (j := 0) dX6_build_18 rfl ?_
  refine z_iload_n (j := 1) dX6_build_19 rfl ?_
  refine z_cVx [.int (nI B)] none (fun g => ∃ s1 a1, g = tW h b s1 a1 ∧ tR B H T kz kz s1 a1 ∧ s1 10 = 0 ∧ s1 11 = 0 ∧ (∀ k, k ≠ 6 → k ≠ 10 → k ≠ 11 → s1 k = (va_up s 13 (s 13 + 1)) k) ∧ a1 3 = a 3 ∧ a1 4 = a 4) yoX6_empty yvX6_empty rfl (by decide) lX6_54 (by omega) tW_obj rfl rfl (Nat.le_of_ble_eq_true rfl) (Nat.le_of_ble_eq_true rfl) dX6_build_20 (z_room (by omega) (Nat.le_refl _) (Nat.le_refl _) (w_empty (d := 0) hb okB1 h2H hH6 h1T hT99 (by simp [va_up, e7]) (by simp [va_up, e8]) (fun s' a' h1 h2 h3 h4 h5 h6 => ⟨rfl, rfl, s', a', rfl, h1, h2, h3, h4, h5, h6⟩))) (fun g hg => ?_)
  obtain ⟨s1, a1, rfl, hR1, h10, h11, hsk, ha3, ha4⟩ := hg
  refine z_iconst (v := 0) dX6_build_23 (by decide) ?_
  refine z_istore_n [1, 2, 0] [(0, .ref b), (1, .int ((nI B))), (2, .int 0)] dX6_build_24 (by decide) rfl ?_
  refine w_build_l hb L.length 0 kz kz s1 a1 (by omega) hR1 (hqu.same (by rw [hsk 5 (by decide) (by decide) (by decide)]; simp [va_up]) ha3 ha4) h10 (fun K' V' c' s' a' e h1 h2 h3 h4 h5 => ?_) (fun K' V' c' s' a' e h1 h2 h9 h3 h4 h5 => ?_)
  · rw [h11] at e
    exact hqF K' V' c' s' a' e h1 h2 h3 (by rw [h4, hsk 13 (by decide) (by decide) (by decide)]; simp [va_up]) (fun k x6 x10 x11 x13 => by rw [h5 k x6 x10 x11 x13, hsk k x6 x10 x11]; simp [va_up, x13])
  · rw [h11] at e
    exact hqT K' V' c' s' a' e h1 h2 h9 h3 (by rw [h4, hsk 13 (by decide) (by decide) (by decide)]; simp [va_up]) (fun k x6 x10 x11 x13 => by rw [h5 k x6 x10 x11 x13, hsk k x6 x10 x11]; simp [va_up, x13])
end
section
set_option maxHeartbeats 4000000 in
set_option maxRecDepth 100000 in
theorem w_insert_d {l : zL} {d kc ks n b : Nat} {h : Nat → va_E} {Q : zQ} {key v bk : Nat} {s : Nat → Int32} {a : Nat → Nat → Int32} (hb : b + 6 ≤ n) (hk : bk < 64) (hq : Q (.inl (some (.int (nI bk)))) n (tW h b (va_up s 14 (s 14 + 1)) a)) : ∀ m, m ≤ 4 → Zj l mX6_insert d kc ks 15 [(0, .ref b), (1, .int ((nI key))), (2, .int ((nI v))), (3, .int ((nI bk))), (4, .int ((nI (2 ^ (7 - m)))))] [] n (tW h b s a) Q := by
  intro m
  induction m with
  | zero =>
    intro hm
    refine z_iload (j := 4) dX6_insert_15 rfl ?_
    refine z_bipush (v := 64) dX6_insert_17 (by decide) ?_
    refine z_icmp_gt (tgt := 61) dX6_insert_19 (by decide) (fun c_19 => ?_) (fun c_19 => absurd (by decide) c_19)
    refine z_iload_n (j := 3) dX6_insert_61 rfl ?_
    refine z_iconst (v := (-1)) dX6_insert_62 (by decide) ?_
    refine z_icmp_eq (tgt := 76) dX6_insert_63 (by decide) (fun c_63 => absurd c_63 (fun e => nI_neg1 (by omega) e)) (fun c_63 => ?_)
    refine z_aload_n (j := 0) dX6_insert_66 rfl ?_
    refine z_dup rfl dX6_insert_67 ?_
    refine z_get (v := .int (s 14)) (by omega) tW_obj fX6_48 rfl dX6_insert_68 ?_
    refine z_iconst (v := 1) dX6_insert_71 (by decide) ?_
    refine z_iadd dX6_insert_72 ?_
    refine t_put (k := 14) (by omega) fX6_48 (by decide) (by decide) (by decide) dX6_insert_73 ?_
    refine z_iload_n (j := 3) dX6_insert_76 rfl ?_
    exact z_iret rfl dX6_insert_77 (hq)
  | succ m ih =>
    intro hm
    have hw64 : 2 ^ (6 - m) ≤ 64 := (okB_w (m := m) (by omega)).le.2
    rw [show 7 - (m + 1) = 6 - m by omega]
    refine z_iload (j := 4) dX6_insert_15 rfl ?_
    refine z_bipush (v := 64) dX6_insert_17 (by decide) ?_
    refine z_icmp_gt (tgt := 61) dX6_insert_19 (by decide) (fun c_19 => absurd c_19 (nI_nlt (a := 64) hw64 (by omega))) (fun c_19 => ?_)
    refine z_iload_n (j := 3) dX6_insert_22 rfl ?_
    refine z_iconst (v := (-1)) dX6_insert_23 (by decide) ?_
    refine z_icmp_ne (tgt := 52) dX6_insert_24 (by decide) (fun c_24 => ?_) (fun c_24 => absurd c_24 (nI_neg1 (by omega)))
    refine z_iload (j := 4) dX6_insert_52 rfl ?_
    refine z_iconst (v := 2) dX6_insert_54 (by decide) ?_
    refine z_imul dX6_insert_55 ?_
    rw [w_next (m := m) (by omega)]
    refine z_istore [1, 2, 3, 4, 0] [(0, .ref b), (1, .int ((nI key))), (2, .int ((nI v))), (3, .int ((nI bk))), (4, .int ((nI (2 ^ (7 - m)))))] dX6_insert_56 (by decide) rfl ?_
    refine z_goto (tgt := 15) dX6_insert_58 (by decide) ?_
    exact ih (by omega)

set_option maxHeartbeats 4000000 in
set_option maxRecDepth 100000 in
theorem w_insert_l {l : zL} {d kc ks n b H T : Nat} {h : Nat → va_E} {L : List (Nat × Nat)} {Q : zQ} {key v : Nat} (hb : b + 6 ≤ n) (hk : key ≤ 9999) (hv : v ≤ 999) : ∀ m (B : Nat) (K V : Nat → Nat) (s : Nat → Int32) (a : Nat → Nat → Int32), m ≤ 4 → tR B H T K V s a → qR s a L → (∀ B' K' V' c' x' s' a', grF H T L key v m B K V (s 11) (s 13) = (none, B', K', V', c', x') → tR B' H T K' V' s' a' → s' 11 = c' → s' 13 = x' → (∀ k, k ≠ 6 → k ≠ 10 → k ≠ 11 → k ≠ 13 → k ≠ 14 → s' k = s k) → Q (.inl (some (.int (-1)))) n (tW h b s' a')) → (∀ bk B' K' V' c' x' s' a', grF H T L key v m B K V (s 11) (s 13) = (some bk, B', K', V', c', x') → tR B' H T K' V' s' a' → bk < B' → s' 10 = nI (L.length + 1) → s' 11 = c' → s' 13 = x' → s' 14 = s 14 + 1 → (∀ k, k ≠ 6 → k ≠ 10 → k ≠ 11 → k ≠ 13 → k ≠ 14 → s' k = s k) → Q (.inl (some (.int (nI bk)))) n (tW h b s' a')) → Zj l mX6_insert (d + 5) kc ks 15 [(0, .ref b), (1, .int ((nI key))), (2, .int ((nI v))), (3, .int ((-1))), (4, .int ((nI (2 ^ (7 - m)))))] [] n (tW h b s a) Q := by
  intro m
  induction m with
  | zero =>
    intro B K V s a hm hR hqu hqN hqS
    obtain ⟨okb, h2H, hH6, h1T, hT99, e6, e7, e8, ek, ev, eh, ekv, ez⟩ := id hR
    have hle := okb.le
    refine z_iload (j := 4) dX6_insert_15 rfl ?_
    refine z_bipush (v := 64) dX6_insert_17 (by decide) ?_
    refine z_icmp_gt (tgt := 61) dX6_insert_19 (by decide) (fun c_19 => ?_) (fun c_19 => absurd (by decide) c_19)
    refine z_iload_n (j := 3) dX6_insert_61 rfl ?_
    refine z_iconst (v := (-1)) dX6_insert_62 (by decide) ?_
    refine z_icmp_eq (tgt := 76) dX6_insert_63 (by decide) (fun c_63 => ?_) (fun c_63 => absurd rfl c_63)
    refine z_iload_n (j := 3) dX6_insert_76 rfl ?_
    exact z_iret rfl dX6_insert_77 (hqN B K V (s 11) (s 13) s a rfl hR rfl rfl (fun _ _ _ _ _ _ => rfl))
  | succ m ih =>
    intro B K V s a hm hR hqu hqN hqS
    obtain ⟨okb, h2H, hH6, h1T, hT99, e6, e7, e8, ek, ev, eh, ekv, ez⟩ := id hR
    have hle := okb.le
    have okB1 : okB (2 ^ (6 - m)) := okB_w (m := m) (by omega)
    have hw64 : 2 ^ (6 - m) ≤ 64 := okB1.le.2
    rw [show 7 - (m + 1) = 6 - m by omega]
    refine z_iload (j := 4) dX6_insert_15 rfl ?_
    refine z_bipush (v := 64) dX6_insert_17 (by decide) ?_
    refine z_icmp_gt (tgt := 61) dX6_insert_19 (by decide) (fun c_19 => absurd c_19 (nI_nlt (a := 64) hw64 (by omega))) (fun c_19 => ?_)
    refine z_iload_n (j := 3) dX6_insert_22 rfl ?_
    refine z_iconst (v := (-1)) dX6_insert_23 (by decide) ?_
    refine z_icmp_ne (tgt := 52) dX6_insert_24 (by decide) (fun c_24 => absurd rfl c_24) (fun c_24 => ?_)
    refine z_iload (j := 4) dX6_insert_27 rfl ?_
    refine z_aload_n (j := 0) dX6_insert_29 rfl ?_
    refine z_get (v := .int (s 6)) (by omega) tW_obj fX6_64 rfl dX6_insert_30 ?_
    refine z_icmp_le (tgt := 52) dX6_insert_33 (by decide) (fun c_33 => ?_) (fun c_33 => ?_)
    · have hwB : 2 ^ (6 - m) ≤ B := by
        rw [e6] at c_33
        exact (nI_leI (by omega) (by omega)).mp c_33
      refine z_iload (j := 4) dX6_insert_52 rfl ?_
      refine z_iconst (v := 2) dX6_insert_54 (by decide) ?_
      refine z_imul dX6_insert_55 ?_
      rw [w_next (m := m) (by omega)]
      refine z_istore [1, 2, 3, 4, 0] [(0, .ref b), (1, .int ((nI key))), (2, .int ((nI v))), (3, .int ((-1))), (4, .int ((nI (2 ^ (7 - m)))))] dX6_insert_56 (by decide) rfl ?_
      refine z_goto (tgt := 15) dX6_insert_58 (by decide) ?_
      have hgr : grF H T L key v (m + 1) B K V (s 11) (s 13) = grF H T L key v m B K V (s 11) (s 13) := by rw [grF, if_pos hwB]
      refine ih B K V s a (by omega) hR hqu (fun B' K' V' c' x' s' a' e h1 h2 h3 h4 => hqN B' K' V' c' x' s' a' (hgr.trans e) h1 h2 h3 (fun k x6 x10 x11 x13 x14 => (h4 k x6 x10 x11 x13 x14).trans ((fun _ _ _ _ _ _ => rfl) k x6 x10 x11 x13 x14))) (fun bk B' K' V' c' x' s' a' e h1 h2 h3 h4 h5 h6 h7 => hqS bk B' K' V' c' x' s' a' (hgr.trans e) h1 h2 h3 h4 h5 (h6.trans rfl) (fun k x6 x10 x11 x13 x14 => (h7 k x6 x10 x11 x13 x14).trans ((fun _ _ _ _ _ _ => rfl) k x6 x10 x11 x13 x14)))
    · have hwB : ¬ 2 ^ (6 - m) ≤ B := fun e => c_33 (by rw [e6]; exact nI_le e (by omega))
      have hwn : ¬ 2 ^ (6 - m) = B := fun e => hwB (by omega)
      refine z_aload_n (j := 0) dX6_insert_36 rfl ?_
      refine z_iload (j := 4) dX6_insert_37 rfl ?_
      rcases hbf : bldF (2 ^ (6 - m)) H T L kz kz 0 with ⟨_ | _, K1, V1, c1⟩
      · refine z_cVx [.int (nI (2 ^ (6 - m)))] (some (.int 0)) (fun g => ∃ s1 a1, g = tW h b s1 a1 ∧ tR (2 ^ (6 - m)) H T K1 V1 s1 a1 ∧ qR s1 a1 L ∧ s1 11 = c1 ∧ s1 13 = s 13 + 1 ∧ (∀ k, k ≠ 6 → k ≠ 10 → k ≠ 11 → k ≠ 13 → s1 k = s k)) yoX6_build yvX6_build rfl (by decide) lX6_80 (by omega) tW_obj rfl rfl (Nat.le_of_ble_eq_true rfl) (Nat.le_of_ble_eq_true rfl) dX6_insert_39 (z_room (by omega) (Nat.le_refl _) (Nat.le_refl _) (w_build_new (d := 0) hb okB1 hR.k hqu hwn (fun K' V' c' s' a' e h1 h2 h3 h4 h5 => by
            rw [hbf] at e
            cases e
            exact ⟨rfl, rfl, s', a', rfl, h1, h2, h3, h4, h5⟩) (fun K' V' c' s' a' e h1 h2 h9 h3 h4 h5 => by rw [hbf] at e; cases e))) (fun g hg => ?_)
        obtain ⟨s1, a1, rfl, hR1, hq1, h11, h13, hrs⟩ := hg
        refine z_if_eq (tgt := 52) dX6_insert_42 (by decide) (fun c_42 => ?_) (fun c_42 => absurd rfl c_42)
        skip
        refine z_iload (j := 4) dX6_insert_52 rfl ?_
        refine z_iconst (v := 2) dX6_insert_54 (by decide) ?_
        refine z_imul dX6_insert_55 ?_
        rw [w_next (m := m) (by omega)]
        refine z_istore [1, 2, 3, 4, 0] [(0, .ref b), (1, .int ((nI key))), (2, .int ((nI v))), (3, .int ((-1))), (4, .int ((nI (2 ^ (7 - m)))))] dX6_insert_56 (by decide) rfl ?_
        refine z_goto (tgt := 15) dX6_insert_58 (by decide) ?_
        have hgr : grF H T L key v (m + 1) B K V (s 11) (s 13) = grF H T L key v m (2 ^ (6 - m)) K1 V1 (s1 11) (s1 13) := by rw [grF, if_neg hwB, hbf]; simp only [h11, h13]
        refine ih (2 ^ (6 - m)) K1 V1 s1 a1 (by omega) hR1 hq1 (fun B' K' V' c' x' s' a' e h1 h2 h3 h4 => hqN B' K' V' c' x' s' a' (hgr.trans e) h1 h2 h3 (fun k x6 x10 x11 x13 x14 => (h4 k x6 x10 x11 x13 x14).trans ((fun k x6 x10 x11 x13 _ => hrs k x6 x10 x11 x13) k x6 x10 x11 x13 x14))) (fun bk B' K' V' c' x' s' a' e h1 h2 h3 h4 h5 h6 h7 => hqS bk B' K' V' c' x' s' a' (hgr.trans e) h1 h2 h3 h4 h5 (h6.trans (by rw [hrs 14 (by decide) (by decide) (by decide) (by decide)])) (fun k x6 x10 x11 x13 x14 => (h7 k x6 x10 x11 x13 x14).trans ((fun k x6 x10 x11 x13 _ => hrs k x6 x10 x11 x13) k x6 x10 x11 x13 x14)))
      · refine z_cVx [.int (nI (2 ^ (6 - m)))] (some (.int 1)) (fun g => ∃ s1 a1, g = tW h b s1 a1 ∧ tR (2 ^ (6 - m)) H T K1 V1 s1 a1 ∧ qR s1 a1 L ∧ s1 11 = c1 ∧ s1 13 = s 13 + 1 ∧ (∀ k, k ≠ 6 → k ≠ 10 → k ≠ 11 → k ≠ 13 → s1 k = s k) ∧ s1 10 = nI L.length) yoX6_build yvX6_build rfl (by decide) lX6_80 (by omega) tW_obj rfl rfl (Nat.le_of_ble_eq_true rfl) (Nat.le_of_ble_eq_true rfl) dX6_insert_39 (z_room (by omega) (Nat.le_refl _) (Nat.le_refl _) (w_build_new (d := 0) hb okB1 hR.k hqu hwn (fun K' V' c' s' a' e h1 h2 h3 h4 h5 => by rw [hbf] at e; cases e) (fun K' V' c' s' a' e h1 h2 h9 h3 h4 h5 => by
            rw [hbf] at e
            cases e
            exact ⟨rfl, rfl, s', a', rfl, h1, h2, h3, h4, h5, h9⟩))) (fun g hg => ?_)
        obtain ⟨s1, a1, rfl, hR1, hq1, h11, h13, hrs, h10⟩ := hg
        refine z_if_eq (tgt := 52) dX6_insert_42 (by decide) (fun c_42 => absurd c_42 (by decide)) (fun c_42 => ?_)
        refine z_aload_n (j := 0) dX6_insert_45 rfl ?_
        refine z_iload_n (j := 1) dX6_insert_46 rfl ?_
        refine z_iload_n (j := 2) dX6_insert_47 rfl ?_
        rcases hpf : placeF (2 ^ (6 - m)) H T K1 V1 c1 key v with ⟨_ | bk, K2, V2, c2⟩
        · refine z_cVx [.int (nI key), .int (nI v)] (some (.int (-1))) (fun g => ∃ s2 a2, g = tW h b s2 a2 ∧ tQ (2 ^ (6 - m)) H T K2 V2 s1 a1 (s1 10) c2 s2 a2) yoX6_place yvX6_place rfl (by decide) lX6_76 (by omega) tW_obj rfl rfl (Nat.le_of_ble_eq_true rfl) (Nat.le_of_ble_eq_true rfl) dX6_insert_48 (z_room (by omega) (Nat.le_refl _) (Nat.le_refl _) (w_place (d := 0) hb hR1 hk hv (fun K' V' c' s' a' e hT => by
            rw [h11, hpf] at e
            cases e
            exact ⟨rfl, rfl, s', a', rfl, hT⟩) (fun bk' K' V' c' s' a' e hT => by rw [h11, hpf] at e; cases e))) (fun g hg => ?_)
          obtain ⟨s2, a2, rfl, hT⟩ := hg
          refine z_istore_n [1, 2, 3, 0, 4] [(0, .ref b), (1, .int ((nI key))), (2, .int ((nI v))), (3, .int ((-1))), (4, .int ((nI (2 ^ (6 - m)))))] dX6_insert_51 (by decide) rfl ?_
          skip
          refine z_iload (j := 4) dX6_insert_52 rfl ?_
          refine z_iconst (v := 2) dX6_insert_54 (by decide) ?_
          refine z_imul dX6_insert_55 ?_
          rw [w_next (m := m) (by omega)]
          refine z_istore [1, 2, 3, 4, 0] [(0, .ref b), (1, .int ((nI key))), (2, .int ((nI v))), (3, .int ((-1))), (4, .int ((nI (2 ^ (7 - m)))))] dX6_insert_56 (by decide) rfl ?_
          refine z_goto (tgt := 15) dX6_insert_58 (by decide) ?_
          have hgr : grF H T L key v (m + 1) B K V (s 11) (s 13) = grF H T L key v m (2 ^ (6 - m)) K2 V2 (s2 11) (s2 13) := by rw [grF, if_neg hwB, hbf]; simp only [hpf]; rw [hT.2.2.1, hT.2.2.2.1 13 (by decide) (by decide), h13]
          refine ih (2 ^ (6 - m)) K2 V2 s2 a2 (by omega) hT.1 (hq1.same (hT.2.2.2.1 5 (by decide) (by decide)) hT.2.2.2.2.1 hT.2.2.2.2.2) (fun B' K' V' c' x' s' a' e h1 h2 h3 h4 => hqN B' K' V' c' x' s' a' (hgr.trans e) h1 h2 h3 (fun k x6 x10 x11 x13 x14 => (h4 k x6 x10 x11 x13 x14).trans ((fun k x6 x10 x11 x13 _ => (hT.2.2.2.1 k x10 x11).trans (hrs k x6 x10 x11 x13)) k x6 x10 x11 x13 x14))) (fun bk B' K' V' c' x' s' a' e h1 h2 h3 h4 h5 h6 h7 => hqS bk B' K' V' c' x' s' a' (hgr.trans e) h1 h2 h3 h4 h5 (h6.trans (by rw [hT.2.2.2.1 14 (by decide) (by decide), hrs 14 (by decide) (by decide) (by decide) (by decide)])) (fun k x6 x10 x11 x13 x14 => (h7 k x6 x10 x11 x13 x14).trans ((fun k x6 x10 x11 x13 _ => (hT.2.2.2.1 k x10 x11).trans (hrs k x6 x10 x11 x13)) k x6 x10 x11 x13 x14)))
        · refine z_cVx [.int (nI key), .int (nI v)] (some (.int (nI bk))) (fun g => ∃ s2 a2, g = tW h b s2 a2 ∧ tQ (2 ^ (6 - m)) H T K2 V2 s1 a1 (s1 10 + 1) c2 s2 a2) yoX6_place yvX6_place rfl (by decide) lX6_76 (by omega) tW_obj rfl rfl (Nat.le_of_ble_eq_true rfl) (Nat.le_of_ble_eq_true rfl) dX6_insert_48 (z_room (by omega) (Nat.le_refl _) (Nat.le_refl _) (w_place (d := 0) hb hR1 hk hv (fun K' V' c' s' a' e hT => by rw [h11, hpf] at e; cases e) (fun bk' K' V' c' s' a' e hT => by
            rw [h11, hpf] at e
            cases e
            exact ⟨rfl, rfl, s', a', rfl, hT⟩))) (fun g hg => ?_)
          obtain ⟨s2, a2, rfl, hT⟩ := hg
          have hlt := placeF_lt okB1 hpf
          have hle1 := okB1.le
          refine z_istore_n [1, 2, 3, 0, 4] [(0, .ref b), (1, .int ((nI key))), (2, .int ((nI v))), (3, .int ((nI bk))), (4, .int ((nI (2 ^ (6 - m)))))] dX6_insert_51 (by decide) rfl ?_
          skip
          refine z_iload (j := 4) dX6_insert_52 rfl ?_
          refine z_iconst (v := 2) dX6_insert_54 (by decide) ?_
          refine z_imul dX6_insert_55 ?_
          rw [w_next (m := m) (by omega)]
          refine z_istore [1, 2, 3, 4, 0] [(0, .ref b), (1, .int ((nI key))), (2, .int ((nI v))), (3, .int ((nI bk))), (4, .int ((nI (2 ^ (7 - m)))))] dX6_insert_56 (by decide) rfl ?_
          refine z_goto (tgt := 15) dX6_insert_58 (by decide) ?_
          refine w_insert_d hb (by omega) (hqS bk (2 ^ (6 - m)) K2 V2 c2 (s 13 + 1) (va_up s2 14 (s2 14 + 1)) a2 (by rw [grF, if_neg hwB, hbf]; simp only [hpf]) (tR_s hT.1 (by simp [va_up]) (by simp [va_up]) (by simp [va_up])) hlt ?_ ?_ ?_ ?_ (fun k x6 x10 x11 x13 x14 => ?_)) m (by omega)
          · rw [va_up, if_neg (by decide), hT.2.1, h10]; exact nI_1 _
          · rw [va_up, if_neg (by decide), hT.2.2.1]
          · rw [va_up, if_neg (by decide), hT.2.2.2.1 13 (by decide) (by decide), h13]
          · rw [va_up, if_pos rfl, hT.2.2.2.1 14 (by decide) (by decide), hrs 14 (by decide) (by decide) (by decide) (by decide)]
          · rw [va_up, if_neg x14, hT.2.2.2.1 k x10 x11, hrs k x6 x10 x11 x13]
end
section
set_option maxHeartbeats 4000000 in
set_option maxRecDepth 100000 in
theorem w_insert {l : zL} {d kc ks n b B H T : Nat} {h : Nat → va_E} {K V : Nat → Nat} {s : Nat → Int32} {a : Nat → Nat → Int32} {Q : zQ} {key v : Nat} (hb : b + 6 ≤ n) (hR : tR B H T K V s a) (hk : key ≤ 9999) (hv : v ≤ 999) (he : s 10 = nI (entL K V B).length) (hqN : ∀ B' K' V' c' x' s' a', insF B H T K V (s 11) (s 13) key v = (none, B', K', V', c', x') → Q (.inl (some (.int (-1)))) n (tW h b s' a')) (hqS : ∀ bk B' K' V' c' x' s' a', insF B H T K V (s 11) (s 13) key v = (some bk, B', K', V', c', x') → tR B' H T K' V' s' a' → bk < B' → s' 10 = s 10 + 1 → s' 11 = c' → s' 13 = x' → s' 14 = s 14 + 1 → (∀ k, k ≠ 5 → k ≠ 6 → k ≠ 10 → k ≠ 11 → k ≠ 13 → k ≠ 14 → s' k = s k) → Q (.inl (some (.int (nI bk)))) n (tW h b s' a')) : Zj l mX6_insert (d + 6) kc ks 0 [(0, .ref b), (1, .int ((nI key))), (2, .int ((nI v)))] [] n (tW h b s a) Q := by
  obtain ⟨okb, h2H, hH6, h1T, hT99, e6, e7, e8, ek, ev, eh, ekv, ez⟩ := id hR
  have hle := okb.le
  refine z_aload_n (j := 0) dX6_insert_0 rfl ?_
  refine z_cVx [] none (fun g => ∃ s0 a0, g = tW h b s0 a0 ∧ tR B H T K V s0 a0 ∧ qR s0 a0 (entL K V B) ∧ (∀ k, k ≠ 5 → s0 k = s k)) yoX6_queueAll yvX6_queueAll rfl (by decide) lX6_73 (by omega) tW_obj rfl rfl (Nat.le_of_ble_eq_true rfl) (Nat.le_of_ble_eq_true rfl) dX6_insert_1 (z_room (by omega) (Nat.le_refl _) (Nat.le_refl _) (w_queueAll (d := 0) hb hR.k (fun s' a' h1 h2 h4 h5 h6 h3 => ⟨rfl, rfl, s', a', rfl, hR.same (h3 6 (by decide)) (h3 7 (by decide)) (h3 8 (by decide)) h4 h5 h6, h2, h3⟩))) (fun g hg => ?_)
  obtain ⟨s0, a0, rfl, hR0, hq0, hs0⟩ := hg
  have h11 : s0 11 = s 11 := hs0 11 (by decide)
  refine z_aload_n (j := 0) dX6_insert_4 rfl ?_
  refine z_iload_n (j := 1) dX6_insert_5 rfl ?_
  refine z_iload_n (j := 2) dX6_insert_6 rfl ?_
  rcases hpf : placeF B H T K V (s 11) key v with ⟨_ | bk, K1, V1, c1⟩
  · refine z_cVx [.int (nI key), .int (nI v)] (some (.int (-1))) (fun g => ∃ s2 a2, g = tW h b s2 a2 ∧ tQ B H T K1 V1 s0 a0 (s0 10) c1 s2 a2) yoX6_place yvX6_place rfl (by decide) lX6_76 (by omega) tW_obj rfl rfl (Nat.le_of_ble_eq_true rfl) (Nat.le_of_ble_eq_true rfl) dX6_insert_7 (z_room (by omega) (Nat.le_refl _) (Nat.le_refl _) (w_place (d := 0) hb hR0 hk hv (fun K' V' c' s' a' e hT => by
      rw [h11, hpf] at e
      cases e
      exact ⟨rfl, rfl, s', a', rfl, hT⟩) (fun bk' K' V' c' s' a' e hT => by rw [h11, hpf] at e; cases e))) (fun g hg => ?_)
    obtain ⟨s2, a2, rfl, hT⟩ := hg
    refine z_istore_n [1, 2, 3, 0] [(0, .ref b), (1, .int ((nI key))), (2, .int ((nI v))), (3, .int ((-1)))] dX6_insert_10 (by decide) rfl ?_
    refine z_bipush (v := 8) dX6_insert_11 (by decide) ?_
    refine z_istore [1, 2, 3, 4, 0] [(0, .ref b), (1, .int ((nI key))), (2, .int ((nI v))), (3, .int ((-1))), (4, .int 8)] dX6_insert_13 (by decide) rfl ?_
    have hin : insF B H T K V (s 11) (s 13) key v = grF H T (entL K V B) key v 4 B K1 V1 (s2 11) (s2 13) := by
      unfold insF
      rw [hpf]
      simp only [hT.2.2.1, hT.2.2.2.1 13 (by decide) (by decide), hs0 13 (by decide)]
    refine w_insert_l hb hk hv 4 B K1 V1 s2 a2 (by omega) hT.1 (hq0.same (hT.2.2.2.1 5 (by decide) (by decide)) hT.2.2.2.2.1 hT.2.2.2.2.2) (fun B' K' V' c' x' s' a' e _ _ _ _ => hqN B' K' V' c' x' s' a' (hin.trans e)) (fun bk B' K' V' c' x' s' a' e h1 h2 h3 h4 h5 h6 h7 => hqS bk B' K' V' c' x' s' a' (hin.trans e) h1 h2 (by rw [h3, he]; exact (nI_1 _).symm) h4 h5 (by rw [h6, hT.2.2.2.1 14 (by decide) (by decide), hs0 14 (by decide)]) (fun k x5 x6 x10 x11 x13 x14 => by rw [h7 k x6 x10 x11 x13 x14, hT.2.2.2.1 k x10 x11, hs0 k x5]))
  · refine z_cVx [.int (nI key), .int (nI v)] (some (.int (nI bk))) (fun g => ∃ s2 a2, g = tW h b s2 a2 ∧ tQ B H T K1 V1 s0 a0 (s0 10 + 1) c1 s2 a2) yoX6_place yvX6_place rfl (by decide) lX6_76 (by omega) tW_obj rfl rfl (Nat.le_of_ble_eq_true rfl) (Nat.le_of_ble_eq_true rfl) dX6_insert_7 (z_room (by omega) (Nat.le_refl _) (Nat.le_refl _) (w_place (d := 0) hb hR0 hk hv (fun K' V' c' s' a' e hT => by rw [h11, hpf] at e; cases e) (fun bk' K' V' c' s' a' e hT => by
      rw [h11, hpf] at e
      cases e
      exact ⟨rfl, rfl, s', a', rfl, hT⟩))) (fun g hg => ?_)
    obtain ⟨s2, a2, rfl, hT⟩ := hg
    have hlt := placeF_lt okb hpf
    have hin : insF B H T K V (s 11) (s 13) key v = (some bk, B, K1, V1, c1, s 13) := by
      unfold insF
      rw [hpf]
    refine z_istore_n [1, 2, 3, 0] [(0, .ref b), (1, .int ((nI key))), (2, .int ((nI v))), (3, .int ((nI bk)))] dX6_insert_10 (by decide) rfl ?_
    refine z_bipush (v := 8) dX6_insert_11 (by decide) ?_
    refine z_istore [1, 2, 3, 4, 0] [(0, .ref b), (1, .int ((nI key))), (2, .int ((nI v))), (3, .int ((nI bk))), (4, .int 8)] dX6_insert_13 (by decide) rfl ?_
    refine w_insert_d hb (by omega) (hqS bk B K1 V1 c1 (s 13) (va_up s2 14 (s2 14 + 1)) a2 hin (tR_s hT.1 (by simp [va_up]) (by simp [va_up]) (by simp [va_up])) hlt ?_ ?_ ?_ ?_ (fun k x5 x6 x10 x11 x13 x14 => ?_)) 4 (by omega)
    · rw [va_up, if_neg (by decide), hT.2.1, hs0 10 (by decide)]
    · rw [va_up, if_neg (by decide), hT.2.2.1]
    · rw [va_up, if_neg (by decide), hT.2.2.2.1 13 (by decide) (by decide), hs0 13 (by decide)]
    · rw [va_up, if_pos rfl, hT.2.2.2.1 14 (by decide) (by decide), hs0 14 (by decide)]
    · rw [va_up, if_neg x14, hT.2.2.2.1 k x10 x11, hs0 k x5]

set_option maxHeartbeats 4000000 in
set_option maxRecDepth 100000 in
theorem w_build {l : zL} {d kc ks n b B H T : Nat} {h : Nat → va_E} {L : List (Nat × Nat)} {Q : zQ} {K V : Nat → Nat} {s : Nat → Int32} {a : Nat → Nat → Int32} {B0 : Nat} (hb : b + 6 ≤ n) (okB1 : okB B) (hR : tK B0 H T K V s a) (hqu : qR s a L) (hqF : ∀ K' V' c' s' a', bldF B H T L kz kz 0 = (false, K', V', c') → tR B H T K' V' s' a' → qR s' a' L → s' 11 = c' → s' 13 = (if B = B0 then s 13 else s 13 + 1) → (∀ k, k ≠ 6 → k ≠ 10 → k ≠ 11 → k ≠ 13 → s' k = s k) → Q (.inl (some (.int 0))) n (tW h b s' a')) (hqT : ∀ K' V' c' s' a', bldF B H T L kz kz 0 = (true, K', V', c') → tR B H T K' V' s' a' → qR s' a' L → s' 10 = nI L.length → s' 11 = c' → s' 13 = (if B = B0 then s 13 else s 13 + 1) → (∀ k, k ≠ 6 → k ≠ 10 → k ≠ 11 → k ≠ 13 → s' k = s k) → Q (.inl (some (.int 1))) n (tW h b s' a')) : Zj l mX6_build (d + 4) kc ks 0 [(0, .ref b), (1, .int ((nI B)))] [] n (tW h b s a) Q := by
  by_cases hne : B = B0
  · rw [if_pos hne] at hqF hqT
    exact w_build_same hb okB1 hR hqu hne hqF hqT
  · rw [if_neg hne] at hqF hqT
    exact w_build_new hb okB1 hR hqu hne hqF hqT

set_option maxHeartbeats 4000000 in
set_option maxRecDepth 100000 in
theorem w_rb_l {l : zL} {d kc ks n b H T : Nat} {h : Nat → va_E} {L : List (Nat × Nat)} {Q : zQ} {newB : Nat} (hb : b + 6 ≤ n) (hnb : newB ≤ 128) : ∀ m (B : Nat) (K V : Nat → Nat) (s : Nat → Int32) (a : Nat → Nat → Int32), m ≤ 4 → tK B H T K V s a → qR s a L → (∀ B' K' V' c' x' s' a', rbF H T L newB m B K V (s 11) (s 13) = (false, B', K', V', c', x') → Q (.inl (some (.int 0))) n (tW h b s' a')) → (∀ B' K' V' c' x' s' a', rbF H T L newB m B K V (s 11) (s 13) = (true, B', K', V', c', x') → tR B' H T K' V' s' a' → s' 10 = nI L.length → s' 11 = c' → s' 13 = x' → (∀ k, k ≠ 6 → k ≠ 10 → k ≠ 11 → k ≠ 13 → s' k = s k) → Q (.inl (some (.int 1))) n (tW h b s' a')) → Zj l mX6_buildAnew (d + 5) kc ks 7 [(0, .ref b), (1, .int ((nI newB))), (2, .int ((nI (2 ^ (7 - m)))))] [] n (tW h b s a) Q := by
  intro m
  induction m with
  | zero =>
    intro B K V s a hm hR hqu hqF hqT
    refine z_iload_n (j := 2) dX6_buildAnew_7 rfl ?_
    refine z_bipush (v := 64) dX6_buildAnew_8 (by decide) ?_
    refine z_icmp_gt (tgt := 35) dX6_buildAnew_10 (by decide) (fun c_10 => ?_) (fun c_10 => absurd (by decide) c_10)
    refine z_iconst (v := 0) dX6_buildAnew_35 (by decide) ?_
    exact z_zret rfl rfl dX6_buildAnew_36 (hqF B K V (s 11) (s 13) s a rfl)
  | succ m ih =>
    intro B K V s a hm hR hqu hqF hqT
    have okB1 : okB (2 ^ (6 - m)) := okB_w (m := m) (by omega)
    have hw64 : 2 ^ (6 - m) ≤ 64 := okB1.le.2
    rw [show 7 - (m + 1) = 6 - m by omega]
    refine z_iload_n (j := 2) dX6_buildAnew_7 rfl ?_
    refine z_bipush (v := 64) dX6_buildAnew_8 (by decide) ?_
    refine z_icmp_gt (tgt := 35) dX6_buildAnew_10 (by decide) (fun c_10 => absurd c_10 (nI_nlt (a := 64) hw64 (by omega))) (fun c_10 => ?_)
    refine z_iload_n (j := 2) dX6_buildAnew_13 rfl ?_
    refine z_iload_n (j := 1) dX6_buildAnew_14 rfl ?_
    refine z_icmp_lt (tgt := 28) dX6_buildAnew_15 (by decide) (fun c_15 => ?_) (fun c_15 => ?_)
    · have hwB : 2 ^ (6 - m) < newB := (nI_ltI (by omega) (by omega)).mp c_15
      refine z_iload_n (j := 2) dX6_buildAnew_28 rfl ?_
      refine z_iconst (v := 2) dX6_buildAnew_29 (by decide) ?_
      refine z_imul dX6_buildAnew_30 ?_
      rw [w_next (m := m) (by omega)]
      refine z_istore_n [1, 2, 0] [(0, .ref b), (1, .int ((nI newB))), (2, .int ((nI (2 ^ (7 - m)))))] dX6_buildAnew_31 (by decide) rfl ?_
      refine z_goto (tgt := 7) dX6_buildAnew_32 (by decide) ?_
      have hgr : rbF H T L newB (m + 1) B K V (s 11) (s 13) = rbF H T L newB m B K V (s 11) (s 13) := by rw [rbF, if_pos hwB]
      refine ih B K V s a (by omega) hR hqu (fun B' K' V' c' x' s' a' e => hqF B' K' V' c' x' s' a' (hgr.trans e)) (fun B' K' V' c' x' s' a' e h1 h2 h3 h4 h5 => hqT B' K' V' c' x' s' a' (hgr.trans e) h1 h2 h3 h4 (fun k x6 x10 x11 x13 => (h5 k x6 x10 x11 x13).trans ((fun _ _ _ _ _ => rfl) k x6 x10 x11 x13)))
    · have hwB : ¬ 2 ^ (6 - m) < newB := fun e => c_15 (nI_lt e (by omega))
      refine z_aload_n (j := 0) dX6_buildAnew_18 rfl ?_
      refine z_iload_n (j := 2) dX6_buildAnew_19 rfl ?_
      rcases hbf : bldF (2 ^ (6 - m)) H T L kz kz 0 with ⟨_ | _, K1, V1, c1⟩
      · refine z_cVx [.int (nI (2 ^ (6 - m)))] (some (.int 0)) (fun g => ∃ s1 a1, g = tW h b s1 a1 ∧ tR (2 ^ (6 - m)) H T K1 V1 s1 a1 ∧ qR s1 a1 L ∧ s1 11 = c1 ∧ s1 13 = (if 2 ^ (6 - m) = B then s 13 else s 13 + 1) ∧ (∀ k, k ≠ 6 → k ≠ 10 → k ≠ 11 → k ≠ 13 → s1 k = s k)) yoX6_build yvX6_build rfl (by decide) lX6_80 (by omega) tW_obj rfl rfl (Nat.le_of_ble_eq_true rfl) (Nat.le_of_ble_eq_true rfl) dX6_buildAnew_20 (z_room (by omega) (Nat.le_refl _) (Nat.le_refl _) (w_build (d := 0) hb okB1 hR hqu (fun K' V' c' s' a' e h1 h2 h3 h4 h5 => by
            rw [hbf] at e
            cases e
            exact ⟨rfl, rfl, s', a', rfl, h1, h2, h3, h4, h5⟩) (fun K' V' c' s' a' e h1 h2 h9 h3 h4 h5 => by rw [hbf] at e; cases e))) (fun g hg => ?_)
        obtain ⟨s1, a1, rfl, hR1, hq1, h11, h13, hrs⟩ := hg
        refine z_if_eq (tgt := 28) dX6_buildAnew_23 (by decide) (fun c_23 => ?_) (fun c_23 => absurd rfl c_23)
        skip
        refine z_iload_n (j := 2) dX6_buildAnew_28 rfl ?_
        refine z_iconst (v := 2) dX6_buildAnew_29 (by decide) ?_
        refine z_imul dX6_buildAnew_30 ?_
        rw [w_next (m := m) (by omega)]
        refine z_istore_n [1, 2, 0] [(0, .ref b), (1, .int ((nI newB))), (2, .int ((nI (2 ^ (7 - m)))))] dX6_buildAnew_31 (by decide) rfl ?_
        refine z_goto (tgt := 7) dX6_buildAnew_32 (by decide) ?_
        have hgr : rbF H T L newB (m + 1) B K V (s 11) (s 13) = rbF H T L newB m (2 ^ (6 - m)) K1 V1 (s1 11) (s1 13) := by rw [rbF, if_neg hwB, hbf, h11, h13]
        refine ih (2 ^ (6 - m)) K1 V1 s1 a1 (by omega) hR1.k hq1 (fun B' K' V' c' x' s' a' e => hqF B' K' V' c' x' s' a' (hgr.trans e)) (fun B' K' V' c' x' s' a' e h1 h2 h3 h4 h5 => hqT B' K' V' c' x' s' a' (hgr.trans e) h1 h2 h3 h4 (fun k x6 x10 x11 x13 => (h5 k x6 x10 x11 x13).trans (hrs k x6 x10 x11 x13)))
      · refine z_cVx [.int (nI (2 ^ (6 - m)))] (some (.int 1)) (fun g => ∃ s1 a1, g = tW h b s1 a1 ∧ tR (2 ^ (6 - m)) H T K1 V1 s1 a1 ∧ qR s1 a1 L ∧ s1 11 = c1 ∧ s1 13 = (if 2 ^ (6 - m) = B then s 13 else s 13 + 1) ∧ (∀ k, k ≠ 6 → k ≠ 10 → k ≠ 11 → k ≠ 13 → s1 k = s k) ∧ s1 10 = nI L.length) yoX6_build yvX6_build rfl (by decide) lX6_80 (by omega) tW_obj rfl rfl (Nat.le_of_ble_eq_true rfl) (Nat.le_of_ble_eq_true rfl) dX6_buildAnew_20 (z_room (by omega) (Nat.le_refl _) (Nat.le_refl _) (w_build (d := 0) hb okB1 hR hqu (fun K' V' c' s' a' e h1 h2 h3 h4 h5 => by rw [hbf] at e; cases e) (fun K' V' c' s' a' e h1 h2 h9 h3 h4 h5 => by
            rw [hbf] at e
            cases e
            exact ⟨rfl, rfl, s', a', rfl, h1, h2, h3, h4, h5, h9⟩))) (fun g hg => ?_)
        obtain ⟨s1, a1, rfl, hR1, hq1, h11, h13, hrs, h10⟩ := hg
        refine z_if_eq (tgt := 28) dX6_buildAnew_23 (by decide) (fun c_23 => absurd c_23 (by decide)) (fun c_23 => ?_)
        refine z_iconst (v := 1) dX6_buildAnew_26 (by decide) ?_
        exact z_zret rfl rfl dX6_buildAnew_27 (hqT (2 ^ (6 - m)) K1 V1 c1 (if 2 ^ (6 - m) = B then s 13 else s 13 + 1) s1 a1 (by rw [rbF, if_neg hwB, hbf]) hR1 h10 h11 h13 hrs)

set_option maxHeartbeats 4000000 in
set_option maxRecDepth 100000 in
theorem w_buildAnew {l : zL} {d kc ks n b B H T : Nat} {h : Nat → va_E} {K V : Nat → Nat} {s : Nat → Int32} {a : Nat → Nat → Int32} {Q : zQ} {newB : Nat} (hb : b + 6 ≤ n) (hR : tK B H T K V s a) (hnb : newB ≤ 128) (hqF : ∀ B' K' V' c' x' s' a', rbF H T (entL K V B) newB 4 B K V (s 11) (s 13) = (false, B', K', V', c', x') → Q (.inl (some (.int 0))) n (tW h b s' a')) (hqT : ∀ B' K' V' c' x' s' a', rbF H T (entL K V B) newB 4 B K V (s 11) (s 13) = (true, B', K', V', c', x') → tR B' H T K' V' s' a' → s' 10 = nI (entL K V B).length → s' 11 = c' → s' 13 = x' → (∀ k, k ≠ 5 → k ≠ 6 → k ≠ 10 → k ≠ 11 → k ≠ 13 → s' k = s k) → Q (.inl (some (.int 1))) n (tW h b s' a')) : Zj l mX6_buildAnew (d + 6) kc ks 0 [(0, .ref b), (1, .int ((nI newB)))] [] n (tW h b s a) Q := by
  obtain ⟨okb, h2H, hH6, h1T, hT99, e6, e7, e8, ek, ev, eh, ekv, ez⟩ := id hR
  have hle := okb.le
  refine z_aload_n (j := 0) dX6_buildAnew_0 rfl ?_
  refine z_cVx [] none (fun g => ∃ s0 a0, g = tW h b s0 a0 ∧ tK B H T K V s0 a0 ∧ qR s0 a0 (entL K V B) ∧ (∀ k, k ≠ 5 → s0 k = s k)) yoX6_queueAll yvX6_queueAll rfl (by decide) lX6_73 (by omega) tW_obj rfl rfl (Nat.le_of_ble_eq_true rfl) (Nat.le_of_ble_eq_true rfl) dX6_buildAnew_1 (z_room (by omega) (Nat.le_refl _) (Nat.le_refl _) (w_queueAll (d := 0) hb hR (fun s' a' h1 h2 _ _ _ h3 => ⟨rfl, rfl, s', a', rfl, h1, h2, h3⟩))) (fun g hg => ?_)
  obtain ⟨s0, a0, rfl, hR0, hq0, hs0⟩ := hg
  refine z_bipush (v := 8) dX6_buildAnew_4 (by decide) ?_
  refine z_istore_n [1, 2, 0] [(0, .ref b), (1, .int ((nI newB))), (2, .int 8)] dX6_buildAnew_6 (by decide) rfl ?_
  have hin : rbF H T (entL K V B) newB 4 B K V (s 11) (s 13) = rbF H T (entL K V B) newB 4 B K V (s0 11) (s0 13) := by rw [hs0 11 (by decide), hs0 13 (by decide)]
  exact w_rb_l hb hnb 4 B K V s0 a0 (by omega) hR0 hq0 (fun B' K' V' c' x' s' a' e => hqF B' K' V' c' x' s' a' (hin.trans e)) (fun B' K' V' c' x' s' a' e h1 h2 h3 h4 h5 => hqT B' K' V' c' x' s' a' (hin.trans e) h1 h2 h3 h4 (fun k x5 x6 x10 x11 x13 => by rw [h5 k x6 x10 x11 x13, hs0 k x5]))
end
section
/-! two tables in a world -/
def tIn (h : Nat → va_E) (b : Nat) (s : Nat → Int32) (a : Nat → Nat → Int32) : Prop := h b = .inr (4, tF b s) ∧ ∀ j, j < 5 → h (b + (j + 1)) = .inl (0, 64, .inl (a j))
theorem tIn_tW {h : Nat → va_E} {b : Nat} {s : Nat → Int32} {a : Nat → Nat → Int32} : tIn (tW h b s a) b s a := ⟨tW_obj, fun j hj => tW_arr j hj⟩
theorem tIn.off {h : Nat → va_E} {b b2 : Nat} {s s2 : Nat → Int32} {a a2 : Nat → Nat → Int32} (hi : tIn h b2 s2 a2) (hd : b2 + 6 ≤ b ∨ b + 6 ≤ b2) : tIn (tW h b s a) b2 s2 a2 :=
  ⟨(tW_off (by omega)).trans hi.1, fun j hj => (tW_off (by omega)).trans (hi.2 j hj)⟩
theorem tIn.eq {h : Nat → va_E} {b : Nat} {s : Nat → Int32} {a : Nat → Nat → Int32} (hi : tIn h b s a) : tW h b s a = h := by
  funext q
  by_cases h1 : q = b
  · subst h1; rw [tW_obj]; exact hi.1.symm
  · by_cases h2 : b < q ∧ q ≤ b + 5
    · obtain ⟨j, hj, rfl⟩ : ∃ j, j < 5 ∧ q = b + (j + 1) := ⟨q - b - 1, by omega, by omega⟩
      rw [tW_arr j hj]; exact (hi.2 j hj).symm
    · exact tW_off (by omega)
theorem t_copy {l : zL} {Y : zM} {d kc ks pc n b b2 idx : Nat} {lv : List (Nat × Value)} {rest : List Value} {h : Nat → va_E} {s s2 : Nat → Int32} {a a2 : Nat → Nat → Int32} {Q : zQ} (j : Nat) (hj : j < 5) (hb : b + 6 ≤ n) (hb2 : b2 + 6 ≤ n) (hd2 : b2 + 6 ≤ b ∨ b + 6 ≤ b2) (hi : tIn h b2 s2 a2) (w1 : Cond.methodLink Y.1.cls idx arraycopyName ∈ zTs) (hcat : (rest.map fun v => v.category).sum ≤ 8) (hd : decode Y.2.1 pc = .ok (.invokestatic idx, 3)) (kk : Zj l Y d kc ks (pc + 3) lv rest n (tW h b s (va_up a j (va_cpy (a2 j) (a j) 0 0 64))) Q) : Zj l Y d kc ks pc lv (.int 64 :: .int 0 :: .ref (b + (j + 1)) :: .int 0 :: .ref (b2 + (j + 1)) :: rest) n (tW h b s a) Q :=
  z_copyi w1 cp1 cp2 cp3 (by omega) ((hi.off hd2).2 j hj) (by omega) (tW_arr j hj) (by decide) (by decide) (by decide) (by decide) (by decide) hcat hd (by rw [tW_ast j _ hj]; exact kk)

set_option maxHeartbeats 4000000 in
set_option maxRecDepth 100000 in
theorem w_copyFrom {l : zL} {d kc ks n b b2 : Nat} {h : Nat → va_E} {s s2 : Nat → Int32} {a a2 : Nat → Nat → Int32} {Q : zQ} (hb : b + 6 ≤ n) (hb2 : b2 + 6 ≤ n) (hd2 : b2 + 6 ≤ b ∨ b + 6 ≤ b2) (hi : tIn h b2 s2 a2) (h9 : s2 9 = 0 ∨ s2 9 = 1) (hq : ∀ s' a', (∀ k, 6 ≤ k → k < 16 → s' k = s2 k) → (∀ j i, j < 3 → i < 64 → a' j i = a2 j i) → Q (.inl none) n (tW h b s' a')) : Zj l mX6_copyFrom d kc ks 0 [(0, .ref b), (1, .ref b2)] [] n (tW h b s a) Q := by
  refine z_aload_n (j := 1) dX6_copyFrom_0 rfl ?_
  refine z_get (v := .ref (b2 + 1)) (by omega) (hi.off hd2).1 fX6_9 rfl dX6_copyFrom_1 ?_
  refine z_iconst (v := 0) dX6_copyFrom_4 (by decide) ?_
  refine z_aload_n (j := 0) dX6_copyFrom_5 rfl ?_
  refine z_get (v := .ref (b + 1)) (by omega) tW_obj fX6_9 rfl dX6_copyFrom_6 ?_
  refine z_iconst (v := 0) dX6_copyFrom_9 (by decide) ?_
  refine z_bipush (v := 64) dX6_copyFrom_10 (by decide) ?_
  refine t_copy 0 (by decide) hb hb2 hd2 hi lX6_58 (by decide) dX6_copyFrom_12 ?_
  refine z_aload_n (j := 1) dX6_copyFrom_15 rfl ?_
  refine z_get (v := .ref (b2 + 2)) (by omega) (hi.off hd2).1 fX6_15 rfl dX6_copyFrom_16 ?_
  refine z_iconst (v := 0) dX6_copyFrom_19 (by decide) ?_
  refine z_aload_n (j := 0) dX6_copyFrom_20 rfl ?_
  refine z_get (v := .ref (b + 2)) (by omega) tW_obj fX6_15 rfl dX6_copyFrom_21 ?_
  refine z_iconst (v := 0) dX6_copyFrom_24 (by decide) ?_
  refine z_bipush (v := 64) dX6_copyFrom_25 (by decide) ?_
  refine t_copy 1 (by decide) hb hb2 hd2 hi lX6_58 (by decide) dX6_copyFrom_27 ?_
  refine z_aload_n (j := 1) dX6_copyFrom_30 rfl ?_
  refine z_get (v := .ref (b2 + 3)) (by omega) (hi.off hd2).1 fX6_18 rfl dX6_copyFrom_31 ?_
  refine z_iconst (v := 0) dX6_copyFrom_34 (by decide) ?_
  refine z_aload_n (j := 0) dX6_copyFrom_35 rfl ?_
  refine z_get (v := .ref (b + 3)) (by omega) tW_obj fX6_18 rfl dX6_copyFrom_36 ?_
  refine z_iconst (v := 0) dX6_copyFrom_39 (by decide) ?_
  refine z_bipush (v := 64) dX6_copyFrom_40 (by decide) ?_
  refine t_copy 2 (by decide) hb hb2 hd2 hi lX6_58 (by decide) dX6_copyFrom_42 ?_
  refine z_aload_n (j := 0) dX6_copyFrom_45 rfl ?_
  refine z_aload_n (j := 1) dX6_copyFrom_46 rfl ?_
  refine z_get (v := .int (s2 6)) (by omega) (hi.off hd2).1 fX6_64 rfl dX6_copyFrom_47 ?_
  refine t_put (k := 6) (by omega) fX6_64 (by decide) (by decide) (by decide) dX6_copyFrom_50 ?_
  refine z_aload_n (j := 0) dX6_copyFrom_53 rfl ?_
  refine z_aload_n (j := 1) dX6_copyFrom_54 rfl ?_
  refine z_get (v := .int (s2 7)) (by omega) (hi.off hd2).1 fX6_31 rfl dX6_copyFrom_55 ?_
  refine t_put (k := 7) (by omega) fX6_31 (by decide) (by decide) (by decide) dX6_copyFrom_58 ?_
  refine z_aload_n (j := 0) dX6_copyFrom_61 rfl ?_
  refine z_aload_n (j := 1) dX6_copyFrom_62 rfl ?_
  refine z_get (v := .int (s2 8)) (by omega) (hi.off hd2).1 fX6_35 rfl dX6_copyFrom_63 ?_
  refine t_put (k := 8) (by omega) fX6_35 (by decide) (by decide) (by decide) dX6_copyFrom_66 ?_
  refine z_aload_n (j := 0) dX6_copyFrom_69 rfl ?_
  refine z_aload_n (j := 1) dX6_copyFrom_70 rfl ?_
  refine z_get (v := .int (s2 9)) (by omega) (hi.off hd2).1 fX6_38 rfl dX6_copyFrom_71 ?_
  refine t_putz h9 (by omega) fX6_38 dX6_copyFrom_74 ?_
  refine z_aload_n (j := 0) dX6_copyFrom_77 rfl ?_
  refine z_aload_n (j := 1) dX6_copyFrom_78 rfl ?_
  refine z_get (v := .int (s2 10)) (by omega) (hi.off hd2).1 fX6_67 rfl dX6_copyFrom_79 ?_
  refine t_put (k := 10) (by omega) fX6_67 (by decide) (by decide) (by decide) dX6_copyFrom_82 ?_
  refine z_aload_n (j := 0) dX6_copyFrom_85 rfl ?_
  refine z_aload_n (j := 1) dX6_copyFrom_86 rfl ?_
  refine z_get (v := .int (s2 11)) (by omega) (hi.off hd2).1 fX6_70 rfl dX6_copyFrom_87 ?_
  refine t_put (k := 11) (by omega) fX6_70 (by decide) (by decide) (by decide) dX6_copyFrom_90 ?_
  refine z_aload_n (j := 0) dX6_copyFrom_93 rfl ?_
  refine z_aload_n (j := 1) dX6_copyFrom_94 rfl ?_
  refine z_get (v := .int (s2 12)) (by omega) (hi.off hd2).1 fX6_42 rfl dX6_copyFrom_95 ?_
  refine t_put (k := 12) (by omega) fX6_42 (by decide) (by decide) (by decide) dX6_copyFrom_98 ?_
  refine z_aload_n (j := 0) dX6_copyFrom_101 rfl ?_
  refine z_aload_n (j := 1) dX6_copyFrom_102 rfl ?_
  refine z_get (v := .int (s2 13)) (by omega) (hi.off hd2).1 fX6_45 rfl dX6_copyFrom_103 ?_
  refine t_put (k := 13) (by omega) fX6_45 (by decide) (by decide) (by decide) dX6_copyFrom_106 ?_
  refine z_aload_n (j := 0) dX6_copyFrom_109 rfl ?_
  refine z_aload_n (j := 1) dX6_copyFrom_110 rfl ?_
  refine z_get (v := .int (s2 14)) (by omega) (hi.off hd2).1 fX6_48 rfl dX6_copyFrom_111 ?_
  refine t_put (k := 14) (by omega) fX6_48 (by decide) (by decide) (by decide) dX6_copyFrom_114 ?_
  refine z_aload_n (j := 0) dX6_copyFrom_117 rfl ?_
  refine z_aload_n (j := 1) dX6_copyFrom_118 rfl ?_
  refine z_get (v := .int (s2 15)) (by omega) (hi.off hd2).1 fX6_51 rfl dX6_copyFrom_119 ?_
  refine t_put (k := 15) (by omega) fX6_51 (by decide) (by decide) (by decide) dX6_copyFrom_122 ?_
  exact z_vret rfl dX6_copyFrom_125 (by
      refine hq _ _ (fun k h6 h16 => ?_) (fun j i hj hi64 => ?_)
      · rcases (show k = 6 ∨ k = 7 ∨ k = 8 ∨ k = 9 ∨ k = 10 ∨ k = 11 ∨ k = 12 ∨ k = 13 ∨ k = 14 ∨ k = 15 by omega) with rfl | rfl | rfl | rfl | rfl | rfl | rfl | rfl | rfl | rfl <;> rfl
      · rcases (show j = 0 ∨ j = 1 ∨ j = 2 by omega) with rfl | rfl | rfl <;> simp [va_up, va_cpy, hi64])

set_option maxHeartbeats 4000000 in
set_option maxRecDepth 100000 in
theorem w_begin {l : zL} {d kc ks n b B H T : Nat} {h : Nat → va_E} {s : Nat → Int32} {a : Nat → Nat → Int32} {Q : zQ} (hb : b + 6 ≤ n) (okb : okB B) (h2H : 2 ≤ H) (hH6 : H ≤ 6) (h1T : 1 ≤ T) (hT99 : T ≤ 99) (hq : ∀ s' a', tR B H T kz kz s' a' → s' 10 = 0 → s' 11 = 0 → s' 9 = 0 → s' 12 = 0 → s' 13 = 0 → s' 14 = 0 → s' 15 = 0 → Q (.inl none) n (tW h b s' a')) : Zj l mX6_begin (d + 1) kc ks 0 [(0, .ref b), (1, .int ((nI B))), (2, .int ((nI H))), (3, .int ((nI T)))] [] n (tW h b s a) Q := by
  refine z_aload_n (j := 0) dX6_begin_0 rfl ?_
  refine z_iload_n (j := 2) dX6_begin_1 rfl ?_
  refine t_put (k := 7) (by omega) fX6_31 (by decide) (by decide) (by decide) dX6_begin_2 ?_
  refine z_aload_n (j := 0) dX6_begin_5 rfl ?_
  refine z_iload_n (j := 3) dX6_begin_6 rfl ?_
  refine t_put (k := 8) (by omega) fX6_35 (by decide) (by decide) (by decide) dX6_begin_7 ?_
  refine z_aload_n (j := 0) dX6_begin_10 rfl ?_
  refine z_iconst (v := 0) dX6_begin_11 (by decide) ?_
  refine t_putz (Or.inl rfl) (by omega) fX6_38 dX6_begin_12 ?_
  refine z_aload_n (j := 0) dX6_begin_15 rfl ?_
  refine z_iconst (v := 0) dX6_begin_16 (by decide) ?_
  refine t_put (k := 12) (by omega) fX6_42 (by decide) (by decide) (by decide) dX6_begin_17 ?_
  refine z_aload_n (j := 0) dX6_begin_20 rfl ?_
  refine z_iconst (v := 0) dX6_begin_21 (by decide) ?_
  refine t_put (k := 13) (by omega) fX6_45 (by decide) (by decide) (by decide) dX6_begin_22 ?_
  refine z_aload_n (j := 0) dX6_begin_25 rfl ?_
  refine z_iconst (v := 0) dX6_begin_26 (by decide) ?_
  refine t_put (k := 14) (by omega) fX6_48 (by decide) (by decide) (by decide) dX6_begin_27 ?_
  refine z_aload_n (j := 0) dX6_begin_30 rfl ?_
  refine z_iconst (v := 0) dX6_begin_31 (by decide) ?_
  refine t_put (k := 15) (by omega) fX6_51 (by decide) (by decide) (by decide) dX6_begin_32 ?_
  refine z_aload_n (j := 0) dX6_begin_35 rfl ?_
  refine z_iload_n (j := 1) dX6_begin_36 rfl ?_
  refine z_cVx [.int (nI B)] none (fun g => ∃ s1 a1, g = tW h b s1 a1 ∧ tR B H T kz kz s1 a1 ∧ s1 10 = 0 ∧ s1 11 = 0 ∧ (∀ k, k ≠ 6 → k ≠ 10 → k ≠ 11 → s1 k = (va_up (va_up (va_up (va_up (va_up (va_up (va_up s 7 (nI H)) 8 (nI T)) 9 0) 12 0) 13 0) 14 0) 15 0) k)) yoX6_empty yvX6_empty rfl (by decide) lX6_54 (by omega) tW_obj rfl rfl (Nat.le_of_ble_eq_true rfl) (Nat.le_of_ble_eq_true rfl) dX6_begin_37 (z_room (by omega) (Nat.le_refl _) (Nat.le_refl _) (w_empty (d := 0) hb okb h2H hH6 h1T hT99 (by simp [va_up]) (by simp [va_up]) (fun s' a' h1 h2 h3 h4 h5 h6 => ⟨rfl, rfl, s', a', rfl, h1, h2, h3, h4⟩))) (fun g hg => ?_)
  obtain ⟨s1, a1, rfl, hR1, h10, h11, hsk⟩ := hg
  exact z_vret rfl dX6_begin_40 (hq s1 a1 hR1 h10 h11 (by rw [hsk 9 (by decide) (by decide) (by decide)]; rfl) (by rw [hsk 12 (by decide) (by decide) (by decide)]; rfl) (by rw [hsk 13 (by decide) (by decide) (by decide)]; rfl) (by rw [hsk 14 (by decide) (by decide) (by decide)]; rfl) (by rw [hsk 15 (by decide) (by decide) (by decide)]; rfl))

set_option maxHeartbeats 4000000 in
set_option maxRecDepth 100000 in
theorem w_dropAll {l : zL} {d kc ks n b B H T : Nat} {h : Nat → va_E} {K V : Nat → Nat} {s : Nat → Int32} {a : Nat → Nat → Int32} {Q : zQ} (hb : b + 6 ≤ n) (hR : tR B H T K V s a) (hq : ∀ s' a', tR B H T kz kz s' a' → s' 10 = 0 → s' 11 = 0 → s' 15 = s 15 + s 10 → (∀ k, k ≠ 6 → k ≠ 10 → k ≠ 11 → k ≠ 15 → s' k = s k) → Q (.inl (some (.int (s 10)))) n (tW h b s' a')) : Zj l mX6_dropAll (d + 1) kc ks 0 [(0, .ref b)] [] n (tW h b s a) Q := by
  obtain ⟨okb, h2H, hH6, h1T, hT99, e6, e7, e8, ek, ev, eh, ekv, ez⟩ := id hR
  have hle := okb.le
  refine z_aload_n (j := 0) dX6_dropAll_0 rfl ?_
  refine z_get (v := .int (s 10)) (by omega) tW_obj fX6_67 rfl dX6_dropAll_1 ?_
  refine z_istore_n [1, 0] [(0, .ref b), (1, .int ((s 10)))] dX6_dropAll_4 (by decide) rfl ?_
  refine z_aload_n (j := 0) dX6_dropAll_5 rfl ?_
  refine z_dup rfl dX6_dropAll_6 ?_
  refine z_get (v := .int (s 15)) (by omega) tW_obj fX6_51 rfl dX6_dropAll_7 ?_
  refine z_iload_n (j := 1) dX6_dropAll_10 rfl ?_
  refine z_iadd dX6_dropAll_11 ?_
  refine t_put (k := 15) (by omega) fX6_51 (by decide) (by decide) (by decide) dX6_dropAll_12 ?_
  refine z_aload_n (j := 0) dX6_dropAll_15 rfl ?_
  refine z_aload_n (j := 0) dX6_dropAll_16 rfl ?_
  refine z_get (v := .int (s 6)) (by omega) tW_obj fX6_64 rfl dX6_dropAll_17 ?_
  rw [e6]
  refine z_cVx [.int (nI B)] none (fun g => ∃ s1 a1, g = tW h b s1 a1 ∧ tR B H T kz kz s1 a1 ∧ s1 10 = 0 ∧ s1 11 = 0 ∧ (∀ k, k ≠ 6 → k ≠ 10 → k ≠ 11 → s1 k = (va_up s 15 ((s 15) + (s 10))) k)) yoX6_empty yvX6_empty rfl (by decide) lX6_54 (by omega) tW_obj rfl rfl (Nat.le_of_ble_eq_true rfl) (Nat.le_of_ble_eq_true rfl) dX6_dropAll_20 (z_room (by omega) (Nat.le_refl _) (Nat.le_refl _) (w_empty (d := 0) hb okb h2H hH6 h1T hT99 (by simp [va_up, e7]) (by simp [va_up, e8]) (fun s' a' h1 h2 h3 h4 h5 h6 => ⟨rfl, rfl, s', a', rfl, h1, h2, h3, h4⟩))) (fun g hg => ?_)
  obtain ⟨s1, a1, rfl, hR1, h10, h11, hsk⟩ := hg
  refine z_iload_n (j := 1) dX6_dropAll_23 rfl ?_
  exact z_iret rfl dX6_dropAll_24 (hq s1 a1 hR1 h10 h11 (by rw [hsk 15 (by decide) (by decide) (by decide)]; rfl) (fun k h6 h10 h11 h15 => by rw [hsk k h6 h10 h11]; simp [va_up, h15]))

set_option maxHeartbeats 4000000 in
set_option maxRecDepth 100000 in
theorem w_changeNear {l : zL} {d kc ks n b B H T : Nat} {h : Nat → va_E} {K V : Nat → Nat} {s : Nat → Int32} {a : Nat → Nat → Int32} {Q : zQ} (hb : b + 6 ≤ n) (hR : tR B H T K V s a) {H2 : Nat} (h2N : 2 ≤ H2) (hN6 : H2 ≤ 6) (hqF : ∀ {B' K' V' c' x'} s' a', rbF H2 T (entL K V B) B 4 B K V (s 11) (s 13) = (false, B', K', V', c', x') → Q (.inl (some (.int 0))) n (tW h b s' a')) (hqT : ∀ B' K' V' c' x' s' a', rbF H2 T (entL K V B) B 4 B K V (s 11) (s 13) = (true, B', K', V', c', x') → tR B' H2 T K' V' s' a' → s' 10 = nI (entL K V B).length → s' 11 = c' → s' 13 = x' → (∀ k, k ≠ 5 → k ≠ 6 → k ≠ 10 → k ≠ 11 → k ≠ 13 → k ≠ 7 → s' k = s k) → Q (.inl (some (.int 1))) n (tW h b s' a')) : Zj l mX6_changeNear (d + 7) kc ks 0 [(0, .ref b), (1, .int ((nI H2)))] [] n (tW h b s a) Q := by
  obtain ⟨okb, h2H, hH6, h1T, hT99, e6, e7, e8, ek, ev, eh, ekv, ez⟩ := id hR
  have hle := okb.le
  refine z_aload_n (j := 0) dX6_changeNear_0 rfl ?_
  refine z_iload_n (j := 1) dX6_changeNear_1 rfl ?_
  refine t_put (k := 7) (by omega) fX6_31 (by decide) (by decide) (by decide) dX6_changeNear_2 ?_
  refine z_aload_n (j := 0) dX6_changeNear_5 rfl ?_
  refine z_aload_n (j := 0) dX6_changeNear_6 rfl ?_
  refine z_get (v := .int (s 6)) (by omega) tW_obj fX6_64 rfl dX6_changeNear_7 ?_
  rw [e6]
  rcases hrb : rbF H2 T (entL K V B) B 4 B K V (s 11) (s 13) with ⟨_ | _, B1, K1, V1, c1, x1⟩
  · have hrb' : rbF H2 T (entL K V B) B 4 B K V ((va_up s 7 (nI H2)) 11) ((va_up s 7 (nI H2)) 13) = (false, B1, K1, V1, c1, x1) := hrb
    refine z_cVx [.int (nI B)] (some (.int 0)) (fun g => ∃ s1 a1, g = tW h b s1 a1) yoX6_buildAnew yvX6_buildAnew rfl (by decide) lX6_103 (by omega) tW_obj rfl rfl (Nat.le_of_ble_eq_true rfl) (Nat.le_of_ble_eq_true rfl) dX6_changeNear_10 (z_room (by omega) (Nat.le_refl _) (Nat.le_refl _) (w_buildAnew (d := 0) hb ⟨okb, h2N, hN6, h1T, hT99, by simp [va_up, e6], by simp [va_up], by simp [va_up, e8], ek, ev, trivial, ekv, ez⟩ (by omega) (fun B' K' V' c' x' s' a' e => ⟨rfl, rfl, s', a', rfl⟩) (fun B' K' V' c' x' s' a' e h1 h2 h3 h4 h5 => by rw [hrb'] at e; cases e))) (fun g hg => ?_)
    obtain ⟨s1, a1, rfl⟩ := hg
    exact z_zret rfl rfl dX6_changeNear_13 (hqF s1 a1 hrb)
  · have hrb' : rbF H2 T (entL K V B) B 4 B K V ((va_up s 7 (nI H2)) 11) ((va_up s 7 (nI H2)) 13) = (true, B1, K1, V1, c1, x1) := hrb
    refine z_cVx [.int (nI B)] (some (.int 1)) (fun g => ∃ s1 a1, g = tW h b s1 a1 ∧ tR B1 H2 T K1 V1 s1 a1 ∧ s1 10 = nI (entL K V B).length ∧ s1 11 = c1 ∧ s1 13 = x1 ∧ (∀ k, k ≠ 5 → k ≠ 6 → k ≠ 10 → k ≠ 11 → k ≠ 13 → s1 k = (va_up s 7 (nI H2)) k)) yoX6_buildAnew yvX6_buildAnew rfl (by decide) lX6_103 (by omega) tW_obj rfl rfl (Nat.le_of_ble_eq_true rfl) (Nat.le_of_ble_eq_true rfl) dX6_changeNear_10 (z_room (by omega) (Nat.le_refl _) (Nat.le_refl _) (w_buildAnew (d := 0) hb ⟨okb, h2N, hN6, h1T, hT99, by simp [va_up, e6], by simp [va_up], by simp [va_up, e8], ek, ev, trivial, ekv, ez⟩ (by omega) (fun B' K' V' c' x' s' a' e => by rw [hrb'] at e; cases e) (fun B' K' V' c' x' s' a' e h1 h2 h3 h4 h5 => by
        rw [hrb'] at e
        cases e
        exact ⟨rfl, rfl, s', a', rfl, h1, h2, h3, h4, h5⟩))) (fun g hg => ?_)
    obtain ⟨s1, a1, rfl, hR1, h10, h11, h13, hrs⟩ := hg
    exact z_zret rfl rfl dX6_changeNear_13 (hqT B1 K1 V1 c1 x1 s1 a1 hrb hR1 h10 h11 h13 (fun k x5 x6 x10 x11 x13 x7 => by rw [hrs k x5 x6 x10 x11 x13]; simp [va_up, x7]))

set_option maxHeartbeats 4000000 in
set_option maxRecDepth 100000 in
theorem w_changeTimes {l : zL} {d kc ks n b B H T : Nat} {h : Nat → va_E} {K V : Nat → Nat} {s : Nat → Int32} {a : Nat → Nat → Int32} {Q : zQ} (hb : b + 6 ≤ n) (hR : tR B H T K V s a) {T2 : Nat} (h2N : 1 ≤ T2) (hN6 : T2 ≤ 99) (hqF : ∀ {B' K' V' c' x'} s' a', rbF H T2 (entL K V B) B 4 B K V (s 11) (s 13) = (false, B', K', V', c', x') → Q (.inl (some (.int 0))) n (tW h b s' a')) (hqT : ∀ B' K' V' c' x' s' a', rbF H T2 (entL K V B) B 4 B K V (s 11) (s 13) = (true, B', K', V', c', x') → tR B' H T2 K' V' s' a' → s' 10 = nI (entL K V B).length → s' 11 = c' → s' 13 = x' → (∀ k, k ≠ 5 → k ≠ 6 → k ≠ 10 → k ≠ 11 → k ≠ 13 → k ≠ 8 → s' k = s k) → Q (.inl (some (.int 1))) n (tW h b s' a')) : Zj l mX6_changeTimes (d + 7) kc ks 0 [(0, .ref b), (1, .int ((nI T2)))] [] n (tW h b s a) Q := by
  obtain ⟨okb, h2H, hH6, h1T, hT99, e6, e7, e8, ek, ev, eh, ekv, ez⟩ := id hR
  have hle := okb.le
  refine z_aload_n (j := 0) dX6_changeTimes_0 rfl ?_
  refine z_iload_n (j := 1) dX6_changeTimes_1 rfl ?_
  refine t_put (k := 8) (by omega) fX6_35 (by decide) (by decide) (by decide) dX6_changeTimes_2 ?_
  refine z_aload_n (j := 0) dX6_changeTimes_5 rfl ?_
  refine z_aload_n (j := 0) dX6_changeTimes_6 rfl ?_
  refine z_get (v := .int (s 6)) (by omega) tW_obj fX6_64 rfl dX6_changeTimes_7 ?_
  rw [e6]
  rcases hrb : rbF H T2 (entL K V B) B 4 B K V (s 11) (s 13) with ⟨_ | _, B1, K1, V1, c1, x1⟩
  · have hrb' : rbF H T2 (entL K V B) B 4 B K V ((va_up s 8 (nI T2)) 11) ((va_up s 8 (nI T2)) 13) = (false, B1, K1, V1, c1, x1) := hrb
    refine z_cVx [.int (nI B)] (some (.int 0)) (fun g => ∃ s1 a1, g = tW h b s1 a1) yoX6_buildAnew yvX6_buildAnew rfl (by decide) lX6_103 (by omega) tW_obj rfl rfl (Nat.le_of_ble_eq_true rfl) (Nat.le_of_ble_eq_true rfl) dX6_changeTimes_10 (z_room (by omega) (Nat.le_refl _) (Nat.le_refl _) (w_buildAnew (d := 0) hb ⟨okb, h2H, hH6, h2N, hN6, by simp [va_up, e6], by simp [va_up, e7], by simp [va_up], ek, ev, trivial, ekv, ez⟩ (by omega) (fun B' K' V' c' x' s' a' e => ⟨rfl, rfl, s', a', rfl⟩) (fun B' K' V' c' x' s' a' e h1 h2 h3 h4 h5 => by rw [hrb'] at e; cases e))) (fun g hg => ?_)
    obtain ⟨s1, a1, rfl⟩ := hg
    exact z_zret rfl rfl dX6_changeTimes_13 (hqF s1 a1 hrb)
  · have hrb' : rbF H T2 (entL K V B) B 4 B K V ((va_up s 8 (nI T2)) 11) ((va_up s 8 (nI T2)) 13) = (true, B1, K1, V1, c1, x1) := hrb
    refine z_cVx [.int (nI B)] (some (.int 1)) (fun g => ∃ s1 a1, g = tW h b s1 a1 ∧ tR B1 H T2 K1 V1 s1 a1 ∧ s1 10 = nI (entL K V B).length ∧ s1 11 = c1 ∧ s1 13 = x1 ∧ (∀ k, k ≠ 5 → k ≠ 6 → k ≠ 10 → k ≠ 11 → k ≠ 13 → s1 k = (va_up s 8 (nI T2)) k)) yoX6_buildAnew yvX6_buildAnew rfl (by decide) lX6_103 (by omega) tW_obj rfl rfl (Nat.le_of_ble_eq_true rfl) (Nat.le_of_ble_eq_true rfl) dX6_changeTimes_10 (z_room (by omega) (Nat.le_refl _) (Nat.le_refl _) (w_buildAnew (d := 0) hb ⟨okb, h2H, hH6, h2N, hN6, by simp [va_up, e6], by simp [va_up, e7], by simp [va_up], ek, ev, trivial, ekv, ez⟩ (by omega) (fun B' K' V' c' x' s' a' e => by rw [hrb'] at e; cases e) (fun B' K' V' c' x' s' a' e h1 h2 h3 h4 h5 => by
        rw [hrb'] at e
        cases e
        exact ⟨rfl, rfl, s', a', rfl, h1, h2, h3, h4, h5⟩))) (fun g hg => ?_)
    obtain ⟨s1, a1, rfl, hR1, h10, h11, h13, hrs⟩ := hg
    exact z_zret rfl rfl dX6_changeTimes_13 (hqT B1 K1 V1 c1 x1 s1 a1 hrb hR1 h10 h11 h13 (fun k x5 x6 x10 x11 x13 x7 => by rw [hrs k x5 x6 x10 x11 x13]; simp [va_up, x7]))
end
section
/-! PULLING, AS NUMBERS -/
/-- the largest of lo+1 .. lo+m that has it -/
def fndD (p : Nat → Bool) (lo : Nat) : Nat → Option Nat
  | 0 => none
  | m + 1 => if p (lo + (m + 1)) = true then some (lo + (m + 1)) else fndD p lo m
theorem fndD_yes {p : Nat → Bool} {lo m : Nat} (h : p (lo + (m + 1)) = true) : fndD p lo (m + 1) = some (lo + (m + 1)) := by simp only [fndD]; rw [if_pos h]
theorem fndD_no {p : Nat → Bool} {lo m : Nat} (h : p (lo + (m + 1)) = false) : fndD p lo (m + 1) = fndD p lo m := by simp only [fndD]; rw [if_neg (by rw [h]; decide)]
theorem fndD_some {p : Nat → Bool} {lo : Nat} : ∀ {m j : Nat}, fndD p lo m = some j → lo < j ∧ j ≤ lo + m ∧ p j = true
  | 0, _, h => by simp [fndD] at h
  | m + 1, j, h => by
    by_cases hp : p (lo + (m + 1)) = true
    · rw [fndD_yes hp] at h
      cases h
      exact ⟨by omega, Nat.le_refl _, hp⟩
    · have hp' : p (lo + (m + 1)) = false := by simpa using hp
      rw [fndD_no hp'] at h
      obtain ⟨h1, h2, h3⟩ := fndD_some h
      exact ⟨h1, by omega, h3⟩
/-- which entry of one home is pulled: how far it lies -/
def pulI (B H T : Nat) (K : Nat → Nat) (free back : Nat) : Option Nat := fndD (fun k => isO B T K (((free + B - back) % B + k) % B) ((free + B - back) % B)) back (H - 1 - back)
/-- which entry is pulled into the free bucket: (how far its home lies before it, how far it lies from its home) -/
def pulS (B H T : Nat) (K : Nat → Nat) (free : Nat) : Nat → Option (Nat × Nat)
  | 0 => none
  | j + 1 => match pulI B H T K free j with
    | some k => some (j, k)
    | none => pulS B H T K free j
theorem pulS_yes {B H T : Nat} {K : Nat → Nat} {free j k : Nat} (h : pulI B H T K free j = some k) : pulS B H T K free (j + 1) = some (j, k) := by simp [pulS, h]
theorem pulS_no {B H T : Nat} {K : Nat → Nat} {free j : Nat} (h : pulI B H T K free j = none) : pulS B H T K free (j + 1) = pulS B H T K free j := by simp [pulS, h]
theorem pulS_some {B H T : Nat} {K : Nat → Nat} {free : Nat} : ∀ {m j k : Nat}, pulS B H T K free m = some (j, k) → j < m ∧ j < k ∧ k ≤ H - 1 ∧ isO B T K (((free + B - j) % B + k) % B) ((free + B - j) % B) = true
  | 0, _, _, h => by simp [pulS] at h
  | m + 1, j, k, h => by
    cases hb : pulI B H T K free m with
    | some i =>
      rw [pulS_yes hb] at h
      cases h
      obtain ⟨h1, h2, h3⟩ := fndD_some hb
      exact ⟨by omega, h1, by omega, h3⟩
    | none =>
      rw [pulS_no hb] at h
      obtain ⟨h1, h2⟩ := pulS_some h
      exact ⟨by omega, h2⟩
/-- pulls, one after the other: the buckets behind them, the count -/
def pulF (B H T : Nat) : Nat → (Nat → Nat) → (Nat → Nat) → Nat → Int32 → (Nat → Nat) × (Nat → Nat) × Int32
  | 0, K, V, _, c => (K, V, c)
  | n + 1, K, V, free, c => match pulS B H T K free H with
    | none => (K, V, c)
    | some (j, k) => pulF B H T n (mvK K (mvSrc B free j k) free) (mvK V (mvSrc B free j k) free) ((free + (k - j)) % B) (c + 1)
theorem pulF_stop {B H T n : Nat} {K V : Nat → Nat} {free : Nat} {c : Int32} (h : pulS B H T K free H = none) : pulF B H T (n + 1) K V free c = (K, V, c) := by simp [pulF, h]
theorem pulF_step {B H T n : Nat} {K V : Nat → Nat} {free j k : Nat} {c : Int32} (h : pulS B H T K free H = some (j, k)) : pulF B H T (n + 1) K V free c = pulF B H T n (mvK K (mvSrc B free j k) free) (mvK V (mvSrc B free j k) free) ((free + (k - j)) % B) (c + 1) := by simp [pulF, h]
theorem mvSrc_pull {B free j k : Nat} (hB : okB B) (hf : free < B) (hj : j ≤ 5) (hk : k ≤ 5) (hjk : j < k) : mvSrc B free j k = (free + (k - j)) % B := by
  unfold mvSrc
  rcases hB with rfl | rfl | rfl | rfl <;> omega
/-- how far back, counting down: none left is -1 -/
def bkI : Nat → Int32
  | 0 => -1
  | j + 1 => nI j
theorem bkI_dec (j : Nat) : nI j + -1 = bkI j := by
  cases j with
  | zero => decide
  | succ j => exact pk_m1 j
theorem bkI_pred {j : Nat} (h : 0 < j) : nI j - 1 = bkI j := by
  cases j with
  | zero => omega
  | succ j => exact nI_pred j
end
section
theorem nI_nle2 {a b : Nat} (h : b < a) (ha : a < 2 ^ 31) : ¬ nI a ≤ nI b := nI_ge h ha

set_option maxHeartbeats 4000000 in
set_option maxRecDepth 100000 in
theorem w_pullInto_i {l : zL} {d kc ks n b B H T : Nat} {h : Nat → va_E} {K V : Nat → Nat} {s : Nat → Int32} {a : Nat → Nat → Int32} {Q : zQ} {free : Nat} {j : Nat} (hb : b + 6 ≤ n) (hR : tR B H T K V s a) (hfr : free < B) (hfree : K free = 0) (hjH : j < H) : ∀ m, j + m < H → fndD (fun k => isO B T K ((((free + B - j) % B) + k) % B) ((free + B - j) % B)) j m = pulI B H T K free j → (pulI B H T K free j = none → Zj l mX6_pullInto (d + 1) kc ks 7 [(0, .ref b), (1, .int (nI free)), (2, .int (bkI j))] [] n (tW h b s a) Q) → (∀ k a', pulI B H T K free j = some k → tR B H T (mvK K (mvSrc B free j k) free) (mvK V (mvSrc B free j k) free) s a' → Q (.inl (some (.int (nI (k - j))))) n (tW h b s a')) → Zj l mX6_pullInto (d + 1) kc ks 30 [(0, .ref b), (1, .int ((nI free))), (2, .int ((nI j))), (3, .int ((nI ((free + B - j) % B)))), (4, .int ((nI (j + m))))] [] n (tW h b s a) Q := by
  obtain ⟨okb, h2H, hH6, h1T, hT99, e6, e7, e8, ek, ev, eh, ekv, ez⟩ := id hR
  have hle := okb.le
  intro m
  induction m with
  | zero =>
    intro hk hq0 hqN hqS
    rw [show fndD _ j 0 = none from rfl] at hq0
    refine z_iload (j := 4) dX6_pullInto_30 rfl ?_
    refine z_iload_n (j := 2) dX6_pullInto_32 rfl ?_
    refine z_icmp_le (tgt := 68) dX6_pullInto_33 (by decide) (fun c_33 => ?_) (fun c_33 => absurd (nI_le (by omega) (by omega)) c_33)
    skip
    refine z_iinc ((bkI j)) [1, 2, 0, 3, 4] [(0, .ref b), (1, .int ((nI free))), (2, .int ((bkI j))), (3, .int ((nI ((free + B - j) % B)))), (4, .int ((nI (j + 0))))] dX6_pullInto_68 (j := 2) rfl (bkI_dec j) (by decide) rfl ?_
    refine z_goto (tgt := 7) dX6_pullInto_71 (by decide) ?_
    refine z_lv [(0, .ref b), (1, .int ((nI free))), (2, .int ((bkI j)))] [0, 1, 2] rfl ?_
    exact hqN hq0.symm
  | succ m ih =>
    intro hk hq0 hqN hqS
    have hhm : ((free + B - j) % B) < B := mod_lt' okb
    have hbit := hop_bit (B := B) (T := T) (K := K) (i := ((free + B - j) % B)) hH6 (show j + (m + 1) < H by omega)
    refine z_iload (j := 4) dX6_pullInto_30 rfl ?_
    refine z_iload_n (j := 2) dX6_pullInto_32 rfl ?_
    refine z_icmp_le (tgt := 68) dX6_pullInto_33 (by decide) (fun c_33 => absurd c_33 (nI_nle2 (by omega) (by omega))) (fun c_33 => ?_)
    refine z_aload_n (j := 0) dX6_pullInto_36 rfl ?_
    refine z_iload_n (j := 3) dX6_pullInto_37 rfl ?_
    refine z_cV [.int ((nI ((free + B - j) % B)))] (some (.int ((nI (hop B H T K ((free + B - j) % B)))))) yoX6_hopsIn yvX6_hopsIn rfl (by decide) lX6_115 (by omega) tW_obj rfl rfl (Nat.le_of_ble_eq_true rfl) (Nat.le_of_ble_eq_true rfl) dX6_pullInto_38 (z_room (by omega) (Nat.le_refl _) (Nat.le_refl _) (w_hopsIn (d := 0) hb hR (mod_lt' okb) ⟨rfl, rfl, rfl⟩)) ?_
    refine z_iload (j := 4) dX6_pullInto_41 rfl ?_
    refine z_ishr dX6_pullInto_43 ?_
    refine z_iconst (v := 1) dX6_pullInto_44 (by decide) ?_
    refine z_iand dX6_pullInto_45 ?_
    refine z_if_eq (tgt := 62) dX6_pullInto_46 (by decide) (fun c_46 => ?_) (fun c_46 => ?_)
    · skip
      refine z_iinc ((nI (j + m))) [1, 2, 3, 4, 0] [(0, .ref b), (1, .int ((nI free))), (2, .int ((nI j))), (3, .int ((nI ((free + B - j) % B)))), (4, .int ((nI (j + m))))] dX6_pullInto_62 (j := 4) rfl (pk_m1 (j + m)) (by decide) rfl ?_
      refine z_goto (tgt := 30) dX6_pullInto_65 (by decide) ?_
      exact ih (by omega) (by rw [← hq0]; exact (fndD_no (p := (fun k => isO B T K ((((free + B - j) % B) + k) % B) ((free + B - j) % B))) (hbit.mp c_46)).symm) hqN hqS
    · have hyes : isO B T K ((((free + B - j) % B) + (j + (m + 1))) % B) ((free + B - j) % B) = true := by
        cases ho : isO B T K ((((free + B - j) % B) + (j + (m + 1))) % B) ((free + B - j) % B) with
        | true => rfl
        | false => exact absurd (hbit.mpr ho) c_46
      have hbk : ((((free + B - j) % B) + j) % B) = free := back_free okb hfr (by omega)
      refine z_aload_n (j := 0) dX6_pullInto_49 rfl ?_
      refine z_iload_n (j := 3) dX6_pullInto_50 rfl ?_
      refine z_iload (j := 4) dX6_pullInto_51 rfl ?_
      refine z_iload_n (j := 2) dX6_pullInto_53 rfl ?_
      refine z_cVx [.int ((nI ((free + B - j) % B))), .int ((nI (j + (m + 1)))), .int ((nI j))] none (fun g => ∃ a1, g = tW h b s a1 ∧ tR B H T (mvK K ((((free + B - j) % B) + (j + (m + 1))) % B) ((((free + B - j) % B) + j) % B)) (mvK V ((((free + B - j) % B) + (j + (m + 1))) % B) ((((free + B - j) % B) + j) % B)) s a1) yoX6_shift yvX6_shift rfl (by decide) lX6_118 (by omega) tW_obj rfl rfl (Nat.le_of_ble_eq_true rfl) (Nat.le_of_ble_eq_true rfl) dX6_pullInto_54 (z_room (by omega) (Nat.le_refl _) (Nat.le_refl _) (w_shift (d := 0) hb hR hhm (by omega) (by omega) (by omega) (by simpa using hyes) (by rw [hbk]; exact hfree) (fun a' h1 h2 h3 => ⟨rfl, rfl, a', rfl, h1⟩))) (fun g hg => ?_)
      obtain ⟨a1, rfl, hR1⟩ := hg
      refine z_iload (j := 4) dX6_pullInto_57 rfl ?_
      refine z_iload_n (j := 2) dX6_pullInto_59 rfl ?_
      refine z_isub dX6_pullInto_60 ?_
      exact z_iret rfl dX6_pullInto_61 (by
          rw [pk_sub (by omega)]
          have hr : some (j + (m + 1)) = pulI B H T K free j := (fndD_yes (p := (fun k => isO B T K ((((free + B - j) % B) + k) % B) ((free + B - j) % B))) hyes).symm.trans hq0
          rw [hbk] at hR1
          exact hqS _ a1 hr.symm hR1)

set_option maxHeartbeats 4000000 in
set_option maxRecDepth 100000 in
theorem w_pullInto_l {l : zL} {d kc ks n b B H T : Nat} {h : Nat → va_E} {K V : Nat → Nat} {s : Nat → Int32} {a : Nat → Nat → Int32} {Q : zQ} {free : Nat} (hb : b + 6 ≤ n) (hR : tR B H T K V s a) (hfr : free < B) (hfree : K free = 0) : ∀ m, m ≤ H → (pulS B H T K free m = none → Q (.inl (some (.int 0))) n (tW h b s a)) → (∀ j k a', pulS B H T K free m = some (j, k) → tR B H T (mvK K (mvSrc B free j k) free) (mvK V (mvSrc B free j k) free) s a' → Q (.inl (some (.int (nI (k - j))))) n (tW h b s a')) → Zj l mX6_pullInto (d + 1) kc ks 7 [(0, .ref b), (1, .int (nI free)), (2, .int (bkI m))] [] n (tW h b s a) Q := by
  obtain ⟨okb, h2H, hH6, h1T, hT99, e6, e7, e8, ek, ev, eh, ekv, ez⟩ := id hR
  have hle := okb.le
  intro m
  induction m with
  | zero =>
    intro hm hq0 hqS
    refine z_iload_n (j := 2) dX6_pullInto_7 rfl ?_
    refine z_if_lt (tgt := 74) dX6_pullInto_8 (by decide) (fun c_8 => ?_) (fun c_8 => absurd (by decide) c_8)
    refine z_iconst (v := 0) dX6_pullInto_74 (by decide) ?_
    exact z_iret rfl dX6_pullInto_75 (hq0 rfl)
  | succ m ih =>
    intro hm hq0 hqS
    rw [show bkI (m + 1) = nI m from rfl]
    refine z_iload_n (j := 2) dX6_pullInto_7 rfl ?_
    refine z_if_lt (tgt := 74) dX6_pullInto_8 (by decide) (fun c_8 => absurd c_8 (nI_pos (by omega))) (fun c_8 => ?_)
    refine z_iload_n (j := 1) dX6_pullInto_11 rfl ?_
    refine z_iload_n (j := 2) dX6_pullInto_12 rfl ?_
    refine z_isub dX6_pullInto_13 ?_
    refine z_aload_n (j := 0) dX6_pullInto_14 rfl ?_
    refine z_get (v := .int (s 6)) (by omega) tW_obj fX6_64 rfl dX6_pullInto_15 ?_
    refine z_iconst (v := 1) dX6_pullInto_18 (by decide) ?_
    refine z_isub dX6_pullInto_19 ?_
    refine z_iand dX6_pullInto_20 ?_
    rw [show (((nI free) - (nI m)) &&& ((s 6) - 1)) = (nI ((free + B - m) % B)) from by rw [e6]; exact mBsub okb hfr (by omega)]
    refine z_istore_n [1, 2, 3, 0] [(0, .ref b), (1, .int ((nI free))), (2, .int ((nI m))), (3, .int ((nI ((free + B - m) % B))))] dX6_pullInto_21 (by decide) rfl ?_
    refine z_aload_n (j := 0) dX6_pullInto_22 rfl ?_
    refine z_get (v := .int (s 7)) (by omega) tW_obj fX6_31 rfl dX6_pullInto_23 ?_
    refine z_iconst (v := 1) dX6_pullInto_26 (by decide) ?_
    refine z_isub dX6_pullInto_27 ?_
    rw [show ((s 7) - 1) = (nI (m + (H - 1 - m))) from by rw [e7, show m + (H - 1 - m) = H - 1 by omega, show (1 : Int32) = nI 1 from rfl]; exact pk_sub (by omega)]
    refine z_istore [1, 2, 3, 4, 0] [(0, .ref b), (1, .int ((nI free))), (2, .int ((nI m))), (3, .int ((nI ((free + B - m) % B)))), (4, .int ((nI (m + (H - 1 - m)))))] dX6_pullInto_28 (by decide) rfl ?_
    refine w_pullInto_i (j := m) hb hR hfr hfree (by omega) (H - 1 - m) (by omega) rfl (fun hn => ?_) (fun k a' hs hR' => ?_)
    · rw [pulS_no hn] at hq0 hqS
      exact ih (by omega) hq0 hqS
    · exact hqS m k a' (pulS_yes hs) hR'

set_option maxHeartbeats 4000000 in
set_option maxRecDepth 100000 in
theorem w_pullInto {l : zL} {d kc ks n b B H T : Nat} {h : Nat → va_E} {K V : Nat → Nat} {s : Nat → Int32} {a : Nat → Nat → Int32} {Q : zQ} {free : Nat} (hb : b + 6 ≤ n) (hR : tR B H T K V s a) (hfr : free < B) (hfree : K free = 0) (hq0 : pulS B H T K free H = none → Q (.inl (some (.int 0))) n (tW h b s a)) (hqS : ∀ j k a', pulS B H T K free H = some (j, k) → tR B H T (mvK K (mvSrc B free j k) free) (mvK V (mvSrc B free j k) free) s a' → Q (.inl (some (.int (nI (k - j))))) n (tW h b s a')) : Zj l mX6_pullInto (d + 1) kc ks 0 [(0, .ref b), (1, .int ((nI free)))] [] n (tW h b s a) Q := by
  obtain ⟨okb, h2H, hH6, h1T, hT99, e6, e7, e8, ek, ev, eh, ekv, ez⟩ := id hR
  have hle := okb.le
  refine z_aload_n (j := 0) dX6_pullInto_0 rfl ?_
  refine z_get (v := .int (s 7)) (by omega) tW_obj fX6_31 rfl dX6_pullInto_1 ?_
  refine z_iconst (v := 1) dX6_pullInto_4 (by decide) ?_
  refine z_isub dX6_pullInto_5 ?_
  rw [show ((s 7) - 1) = (bkI H) from by rw [e7]; exact bkI_pred (by omega)]
  refine z_istore_n [1, 2, 0] [(0, .ref b), (1, .int ((nI free))), (2, .int ((bkI H)))] dX6_pullInto_6 (by decide) rfl ?_
  exact w_pullInto_l hb hR hfr hfree H (by omega) hq0 hqS
end
section
/-- an entry is taken out of its bucket: the buckets and the pulls behind it -/
def takF (B H T : Nat) (K V : Nat → Nat) (c p : Int32) (bk : Nat) : (Nat → Nat) × (Nat → Nat) × Int32 := if p = 0 then (va_up K bk 0, va_up V bk 0, c) else pulF B H T 384 (va_up K bk 0) (va_up V bk 0) bk c
theorem bw_some {B H T : Nat} {K : Nat → Nat} {key bk : Nat} (h : bw B H T K key = some bk) : ∃ t, t < H ∧ bk = (hmo B T key + t) % B ∧ K bk = key + 1 := by
  unfold bw at h
  cases hf : fnd (bwp B T K key) H 0 with
  | none => rw [hf] at h; cases h
  | some t =>
    rw [hf] at h
    cases h
    obtain ⟨-, h2, h3⟩ := fnd_some hf
    exact ⟨t, by omega, rfl, by simpa [bwp] using h3⟩
theorem mod_back {B hm t : Nat} (hB : okB B) (hh : hm < B) (ht : t < 6) : ((hm + t) % B + B - hm) % B = t := by
  rcases hB with rfl | rfl | rfl | rfl <;> omega
theorem sfh_of {B T : Nat} {K : Nat → Nat} {key t : Nat} (hB : okB B) (hh : hmo B T key < B) (ht : t < 6) (hK : K ((hmo B T key + t) % B) = key + 1) : sfh B T K ((hmo B T key + t) % B) = nI t := by
  unfold sfh dst
  rw [if_neg (by omega), hK, show key + 1 - 1 = key from rfl, mod_back hB hh ht]
theorem mvK_src {K : Nat → Nat} {x y : Nat} (h : x ≠ y) : mvK K x y x = 0 := by simp [mvK, va_up, h]
theorem pull_ne {B free j k : Nat} (hB : okB B) (hf : free < B) (hj : j ≤ 5) (hk : k ≤ 5) (hjk : j < k) : (free + (k - j)) % B ≠ free := by
  rcases hB with rfl | rfl | rfl | rfl <;> omega
end
section
set_option maxHeartbeats 4000000 in
set_option maxRecDepth 100000 in
theorem w_pullFrom_l {l : zL} {d kc ks n b B H T : Nat} {h : Nat → va_E} {Q : zQ} {x : Int32} (hb : b + 6 ≤ n) : ∀ m i (K V : Nat → Nat) (s : Nat → Int32) (a : Nat → Nat → Int32) (free : Nat), i + m = 384 → tR B H T K V s a → free < B → K free = 0 → (∀ K' V' c' s' a', pulF B H T m K V free (s 12) = (K', V', c') → tR B H T K' V' s' a' → s' 12 = c' → (∀ k, k ≠ 12 → s' k = s k) → Q (.inl none) n (tW h b s' a')) → Zj l mX6_pullFrom (d + 2) kc ks 4 [(0, .ref b), (1, .int x), (2, .int ((nI free))), (3, .int ((nI i)))] [] n (tW h b s a) Q := by
  intro m
  induction m with
  | zero =>
    intro i K V s a free hi hR hfr hfree hq
    obtain ⟨okb, h2H, hH6, h1T, hT99, e6, e7, e8, ek, ev, eh, ekv, ez⟩ := id hR
    have hle := okb.le
    refine z_iload_n (j := 3) dX6_pullFrom_4 rfl ?_
    refine z_sipush (v := 384) dX6_pullFrom_5 (by decide) ?_
    refine z_icmp_ge (tgt := 52) dX6_pullFrom_8 (by decide) (fun c_8 => ?_) (fun c_8 => absurd (nI_le (a := 384) (b := i) (by omega) (by omega)) c_8)
    exact z_vret rfl dX6_pullFrom_52 (hq K V (s 12) s a rfl hR rfl (fun _ _ => rfl))
  | succ m ih =>
    intro i K V s a free hi hR hfr hfree hq
    obtain ⟨okb, h2H, hH6, h1T, hT99, e6, e7, e8, ek, ev, eh, ekv, ez⟩ := id hR
    have hle := okb.le
    refine z_iload_n (j := 3) dX6_pullFrom_4 rfl ?_
    refine z_sipush (v := 384) dX6_pullFrom_5 (by decide) ?_
    refine z_icmp_ge (tgt := 52) dX6_pullFrom_8 (by decide) (fun c_8 => absurd c_8 (nI_ge (b := 384) (by omega) (by decide))) (fun c_8 => ?_)
    refine z_aload_n (j := 0) dX6_pullFrom_11 rfl ?_
    refine z_iload_n (j := 2) dX6_pullFrom_12 rfl ?_
    rcases hps : pulS B H T K free H with _ | ⟨j, k⟩
    · refine z_cV [.int (nI free)] (some (.int 0)) yoX6_pullInto yvX6_pullInto rfl (by decide) lX6_121 (by omega) tW_obj rfl rfl (Nat.le_of_ble_eq_true rfl) (Nat.le_of_ble_eq_true rfl) dX6_pullFrom_13 (z_room (by omega) (Nat.le_refl _) (Nat.le_refl _) (w_pullInto (d := 0) hb hR hfr hfree (fun _ => ⟨rfl, rfl, rfl⟩) (fun j k a' e _ => by rw [hps] at e; cases e))) ?_
      refine z_istore [1, 2, 3, 4, 0] [(0, .ref b), (1, .int x), (2, .int ((nI free))), (3, .int ((nI i))), (4, .int 0)] dX6_pullFrom_16 (by decide) rfl ?_
      refine z_iload (j := 4) dX6_pullFrom_18 rfl ?_
      refine z_if_ne (tgt := 24) dX6_pullFrom_20 (by decide) (fun c_20 => absurd rfl c_20) (fun c_20 => ?_)
      exact z_vret rfl dX6_pullFrom_23 (hq K V (s 12) s a (pulF_stop hps) hR rfl (fun _ _ => rfl))
    · refine z_cVx [.int (nI free)] (some (.int (nI (k - j)))) (fun g => ∃ a1, g = tW h b s a1 ∧ tR B H T (mvK K (mvSrc B free j k) free) (mvK V (mvSrc B free j k) free) s a1) yoX6_pullInto yvX6_pullInto rfl (by decide) lX6_121 (by omega) tW_obj rfl rfl (Nat.le_of_ble_eq_true rfl) (Nat.le_of_ble_eq_true rfl) dX6_pullFrom_13 (z_room (by omega) (Nat.le_refl _) (Nat.le_refl _) (w_pullInto (d := 0) hb hR hfr hfree (fun e => by rw [hps] at e; cases e) (fun j' k' a' e hR' => by
          rw [hps] at e
          cases e
          exact ⟨rfl, rfl, a', rfl, hR'⟩))) (fun g hg => ?_)
      obtain ⟨a1, rfl, hR1⟩ := hg
      obtain ⟨hj1, hj2, hj3, -⟩ := pulS_some hps
      refine z_istore [1, 2, 3, 4, 0] [(0, .ref b), (1, .int x), (2, .int ((nI free))), (3, .int ((nI i))), (4, .int ((nI (k - j))))] dX6_pullFrom_16 (by decide) rfl ?_
      refine z_iload (j := 4) dX6_pullFrom_18 rfl ?_
      refine z_if_ne (tgt := 24) dX6_pullFrom_20 (by decide) (fun c_20 => ?_) (fun c_20 => absurd c_20 (nI_ne0 (by omega) (by omega)))
      refine z_aload_n (j := 0) dX6_pullFrom_24 rfl ?_
      refine z_dup rfl dX6_pullFrom_25 ?_
      refine z_get (v := .int (s 12)) (by omega) tW_obj fX6_42 rfl dX6_pullFrom_26 ?_
      refine z_iconst (v := 1) dX6_pullFrom_29 (by decide) ?_
      refine z_iadd dX6_pullFrom_30 ?_
      refine t_put (k := 12) (by omega) fX6_42 (by decide) (by decide) (by decide) dX6_pullFrom_31 ?_
      refine z_iload_n (j := 2) dX6_pullFrom_34 rfl ?_
      refine z_iload (j := 4) dX6_pullFrom_35 rfl ?_
      refine z_iadd dX6_pullFrom_37 ?_
      refine z_aload_n (j := 0) dX6_pullFrom_38 rfl ?_
      refine z_get (v := .int (s 6)) (by omega) tW_obj fX6_64 rfl dX6_pullFrom_39 ?_
      refine z_iconst (v := 1) dX6_pullFrom_42 (by decide) ?_
      refine z_isub dX6_pullFrom_43 ?_
      refine z_iand dX6_pullFrom_44 ?_
      rw [e6, mBadd okb (by omega) (by omega)]
      refine z_istore_n [1, 2, 0, 3, 4] [(0, .ref b), (1, .int x), (2, .int ((nI ((free + (k - j)) % B)))), (3, .int ((nI i))), (4, .int ((nI (k - j))))] dX6_pullFrom_45 (by decide) rfl ?_
      skip
      refine z_iinc ((nI (i + 1))) [1, 2, 3, 0, 4] [(0, .ref b), (1, .int x), (2, .int ((nI ((free + (k - j)) % B)))), (3, .int ((nI (i + 1)))), (4, .int ((nI (k - j))))] dX6_pullFrom_46 (j := 3) rfl (nI_1 i) (by decide) rfl ?_
      refine z_goto (tgt := 4) dX6_pullFrom_49 (by decide) ?_
      refine z_lv [(0, .ref b), (1, .int x), (2, .int ((nI ((free + (k - j)) % B)))), (3, .int ((nI (i + 1))))] [0, 1, 2, 3] rfl ?_
      have hsrc := mvSrc_pull okb hfr (show j ≤ 5 by omega) (show k ≤ 5 by omega) hj2
      have hnf := pull_ne okb hfr (show j ≤ 5 by omega) (show k ≤ 5 by omega) hj2
      refine ih (i + 1) _ _ (va_up s 12 (s 12 + 1)) a1 ((free + (k - j)) % B) (by omega) (tR_s hR1 (by simp [va_up]) (by simp [va_up]) (by simp [va_up])) (mod_lt' okb) (by rw [hsrc]; exact mvK_src hnf) (fun K' V' c' s' a' e h1 h2 h3 => hq K' V' c' s' a' (by rw [pulF_step hps]; exact e) h1 h2 (fun q hq' => by rw [h3 q hq']; simp [va_up, hq']))

set_option maxHeartbeats 4000000 in
set_option maxRecDepth 100000 in
theorem w_pullFrom {l : zL} {d kc ks n b B H T : Nat} {h : Nat → va_E} {K V : Nat → Nat} {s : Nat → Int32} {a : Nat → Nat → Int32} {Q : zQ} {free : Nat} (hb : b + 6 ≤ n) (hR : tR B H T K V s a) (hfr : free < B) (hfree : K free = 0) (hq : ∀ K' V' c' s' a', pulF B H T 384 K V free (s 12) = (K', V', c') → tR B H T K' V' s' a' → s' 12 = c' → (∀ k, k ≠ 12 → s' k = s k) → Q (.inl none) n (tW h b s' a')) : Zj l mX6_pullFrom (d + 2) kc ks 0 [(0, .ref b), (1, .int ((nI free)))] [] n (tW h b s a) Q := by
  refine z_iload_n (j := 1) dX6_pullFrom_0 rfl ?_
  refine z_istore_n [1, 2, 0] [(0, .ref b), (1, .int ((nI free))), (2, .int ((nI free)))] dX6_pullFrom_1 (by decide) rfl ?_
  refine z_iconst (v := 0) dX6_pullFrom_2 (by decide) ?_
  refine z_istore_n [1, 2, 3, 0] [(0, .ref b), (1, .int ((nI free))), (2, .int ((nI free))), (3, .int 0)] dX6_pullFrom_3 (by decide) rfl ?_
  exact w_pullFrom_l hb 384 0 K V s a free (by omega) hR hfr hfree hq

set_option maxHeartbeats 4000000 in
set_option maxRecDepth 100000 in
theorem w_take {l : zL} {d kc ks n b B H T : Nat} {h : Nat → va_E} {K V : Nat → Nat} {s : Nat → Int32} {a : Nat → Nat → Int32} {Q : zQ} (hb : b + 6 ≤ n) (hR : tR B H T K V s a) {key bk : Nat} (hkey : key ≤ 9999) (hbw : bw B H T K key = some bk) (hq : ∀ K' V' c' s' a', takF B H T K V (s 12) (s 9) bk = (K', V', c') → tR B H T K' V' s' a' → s' 10 = s 10 - 1 → s' 12 = c' → s' 15 = s 15 + 1 → (∀ k, k ≠ 10 → k ≠ 12 → k ≠ 15 → s' k = s k) → Q (.inl (some (.int (nI (V bk))))) n (tW h b s' a')) : Zj l mX6_take (d + 3) kc ks 0 [(0, .ref b), (1, .int ((nI key)))] [] n (tW h b s a) Q := by
  obtain ⟨okb, h2H, hH6, h1T, hT99, e6, e7, e8, ek, ev, eh, ekv, ez⟩ := id hR
  have hle := okb.le
  obtain ⟨t, ht, hbk, hKb⟩ := bw_some hbw
  have hhm := hmo_lt okb T key
  have hbB : bk < B := by rw [hbk]; exact mod_lt' okb
  have hcb : (nI bk).toNatClampNeg = bk := nI_clamp (by omega)
  have hch : (nI (hmo B T key)).toNatClampNeg = hmo B T key := nI_clamp (by omega)
  have hsf : sfh B T K bk = nI t := by
    rw [hbk] at hKb ⊢
    exact sfh_of okb hhm (by omega) hKb
  have hva : a 1 bk = nI (V bk) := by rw [ev bk (by omega), tval, if_neg (by omega)]
  refine z_aload_n (j := 0) dX6_take_0 rfl ?_
  refine z_iload_n (j := 1) dX6_take_1 rfl ?_
  refine z_cV [.int ((nI key))] (some (.int ((optI (bw B H T K key))))) yoX6_bucketWith yvX6_bucketWith rfl (by decide) lX6_84 (by omega) tW_obj rfl rfl (Nat.le_of_ble_eq_true rfl) (Nat.le_of_ble_eq_true rfl) dX6_take_2 (z_room (by omega) (Nat.le_refl _) (Nat.le_refl _) (w_bucketWith (d := 0) hb hR hkey ⟨rfl, rfl, rfl⟩)) ?_
  rw [show (optI (bw B H T K key)) = (nI bk) from by rw [hbw]; rfl]
  refine z_istore_n [1, 2, 0] [(0, .ref b), (1, .int ((nI key))), (2, .int ((nI bk)))] dX6_take_5 (by decide) rfl ?_
  refine z_aload_n (j := 0) dX6_take_6 rfl ?_
  refine z_iload_n (j := 1) dX6_take_7 rfl ?_
  refine z_cV [.int ((nI key))] (some (.int ((nI (hmo B T key))))) yoX6_homeFor yvX6_homeFor rfl (by decide) lX6_94 (by omega) tW_obj rfl rfl (Nat.le_of_ble_eq_true rfl) (Nat.le_of_ble_eq_true rfl) dX6_take_8 (z_room (by omega) (Nat.le_refl _) (Nat.le_refl _) (w_homeFor (d := 0) hb hR hkey ⟨rfl, rfl, rfl⟩)) ?_
  refine z_istore_n [1, 2, 3, 0] [(0, .ref b), (1, .int ((nI key))), (2, .int ((nI bk))), (3, .int ((nI (hmo B T key))))] dX6_take_11 (by decide) rfl ?_
  refine z_aload_n (j := 0) dX6_take_12 rfl ?_
  refine z_iload_n (j := 2) dX6_take_13 rfl ?_
  refine z_cV [.int ((nI bk))] (some (.int 1)) yoX6_hasBucket yvX6_hasBucket rfl (by decide) lX6_91 (by omega) tW_obj rfl rfl (Nat.le_of_ble_eq_true rfl) (Nat.le_of_ble_eq_true rfl) dX6_take_14 (z_room (by omega) (Nat.le_refl _) (Nat.le_refl _) (w_hasBucket (d := 0) hb hR hbB ⟨rfl, rfl, rfl⟩)) ?_
  refine z_if_eq (tgt := 28) dX6_take_17 (by decide) (fun c_17 => absurd c_17 (by decide)) (fun c_17 => ?_)
  refine z_aload_n (j := 0) dX6_take_20 rfl ?_
  refine z_iload_n (j := 3) dX6_take_21 rfl ?_
  refine z_cV [.int ((nI (hmo B T key)))] (some (.int 1)) yoX6_hasBucket yvX6_hasBucket rfl (by decide) lX6_91 (by omega) tW_obj rfl rfl (Nat.le_of_ble_eq_true rfl) (Nat.le_of_ble_eq_true rfl) dX6_take_22 (z_room (by omega) (Nat.le_refl _) (Nat.le_refl _) (w_hasBucket (d := 0) hb hR hhm ⟨rfl, rfl, rfl⟩)) ?_
  refine z_if_ne (tgt := 30) dX6_take_25 (by decide) (fun c_25 => ?_) (fun c_25 => absurd c_25 (by decide))
  refine z_aload_n (j := 0) dX6_take_30 rfl ?_
  refine z_get (v := .ref (b + 2)) (by omega) tW_obj fX6_15 rfl dX6_take_31 ?_
  refine z_iload_n (j := 2) dX6_take_34 rfl ?_
  refine t_ald 1 (by decide) hb (vp_in_nI (by omega) (by decide)) dX6_take_35 ?_
  refine z_istore [1, 2, 3, 4, 0] [(0, .ref b), (1, .int ((nI key))), (2, .int ((nI bk))), (3, .int ((nI (hmo B T key)))), (4, .int ((a 1 ((nI bk)).toNatClampNeg)))] dX6_take_36 (by decide) rfl ?_
  refine z_aload_n (j := 0) dX6_take_38 rfl ?_
  refine z_get (v := .ref (b + 3)) (by omega) tW_obj fX6_18 rfl dX6_take_39 ?_
  refine z_iload_n (j := 3) dX6_take_42 rfl ?_
  refine z_dup2 rfl rfl dX6_take_43 ?_
  refine t_ald 2 (by decide) hb (vp_in_nI (by omega) (by decide)) dX6_take_44 ?_
  refine z_iconst (v := 1) dX6_take_45 (by decide) ?_
  refine z_aload_n (j := 0) dX6_take_46 rfl ?_
  refine z_iload_n (j := 2) dX6_take_47 rfl ?_
  refine z_cV [.int ((nI bk))] (some (.int ((sfh B T K bk)))) yoX6_stepsFromHome yvX6_stepsFromHome rfl (by decide) lX6_97 (by omega) tW_obj rfl rfl (Nat.le_of_ble_eq_true rfl) (Nat.le_of_ble_eq_true rfl) dX6_take_48 (z_room (by omega) (Nat.le_refl _) (Nat.le_refl _) (w_stepsFromHome (d := 0) hb hR hbB ⟨rfl, rfl, rfl⟩)) ?_
  rw [show (sfh B T K bk) = (nI t) from hsf]
  refine z_ishl dX6_take_51 ?_
  refine z_iconst (v := (-1)) dX6_take_52 (by decide) ?_
  refine z_ixor dX6_take_53 ?_
  refine z_iand dX6_take_54 ?_
  refine t_ast 2 (by decide) hb (vp_in_nI (by omega) (by decide)) dX6_take_55 ?_
  refine z_aload_n (j := 0) dX6_take_56 rfl ?_
  refine z_get (v := .ref (b + 1)) (by omega) tW_obj fX6_9 rfl dX6_take_57 ?_
  refine z_iload_n (j := 2) dX6_take_60 rfl ?_
  refine z_iconst (v := (-1)) dX6_take_61 (by decide) ?_
  refine t_ast 0 (by decide) hb (vp_in_nI (by omega) (by decide)) dX6_take_62 ?_
  refine z_aload_n (j := 0) dX6_take_63 rfl ?_
  refine z_get (v := .ref (b + 2)) (by omega) tW_obj fX6_15 rfl dX6_take_64 ?_
  refine z_iload_n (j := 2) dX6_take_67 rfl ?_
  refine z_iconst (v := (-1)) dX6_take_68 (by decide) ?_
  refine t_ast 1 (by decide) hb (vp_in_nI (by omega) (by decide)) dX6_take_69 ?_
  refine z_aload_n (j := 0) dX6_take_70 rfl ?_
  refine z_dup rfl dX6_take_71 ?_
  refine z_get (v := .int (s 10)) (by omega) tW_obj fX6_67 rfl dX6_take_72 ?_
  refine z_iconst (v := 1) dX6_take_75 (by decide) ?_
  refine z_isub dX6_take_76 ?_
  refine t_put (k := 10) (by omega) fX6_67 (by decide) (by decide) (by decide) dX6_take_77 ?_
  refine z_aload_n (j := 0) dX6_take_80 rfl ?_
  refine z_dup rfl dX6_take_81 ?_
  refine z_get (v := .int (s 15)) (by omega) tW_obj fX6_51 rfl dX6_take_82 ?_
  refine z_iconst (v := 1) dX6_take_85 (by decide) ?_
  refine z_iadd dX6_take_86 ?_
  refine t_put (k := 15) (by omega) fX6_51 (by decide) (by decide) (by decide) dX6_take_87 ?_
  have hR1 : tR B H T (va_up K bk 0) (va_up V bk 0) (va_up (va_up s 10 ((s 10) - 1)) 15 ((s 15) + 1)) (va_up (va_up (va_up a 2 (va_up (a 2) ((nI (hmo B T key))).toNatClampNeg ((a 2 ((nI (hmo B T key))).toNatClampNeg) &&& ((1 <<< ((nI t) &&& 31)) ^^^ (-1))))) 0 (va_up ((va_up a 2 (va_up (a 2) ((nI (hmo B T key))).toNatClampNeg ((a 2 ((nI (hmo B T key))).toNatClampNeg) &&& ((1 <<< ((nI t) &&& 31)) ^^^ (-1))))) 0) ((nI bk)).toNatClampNeg (-1))) 1 (va_up ((va_up (va_up a 2 (va_up (a 2) ((nI (hmo B T key))).toNatClampNeg ((a 2 ((nI (hmo B T key))).toNatClampNeg) &&& ((1 <<< ((nI t) &&& 31)) ^^^ (-1))))) 0 (va_up ((va_up a 2 (va_up (a 2) ((nI (hmo B T key))).toNatClampNeg ((a 2 ((nI (hmo B T key))).toNatClampNeg) &&& ((1 <<< ((nI t) &&& 31)) ^^^ (-1))))) 0) ((nI bk)).toNatClampNeg (-1))) 1) ((nI bk)).toNatClampNeg (-1))) := by
    refine tR_s (s := s) ?_ rfl rfl rfl
    rw [hbk]
    refine tR_del hR ht (isO_of (by rw [← hbk]; exact hKb)) hhm (fun i hi => ?_) (fun i hi => ?_) (fun i hi => ?_)
    · rw [← hbk]; simp only [hcb, hch]; simp [va_up]
    · rw [← hbk]; simp only [hcb, hch]; simp [va_up]
    · simp only [hcb, hch]; simp [va_up]
  have h10 : (va_up (va_up s 10 ((s 10) - 1)) 15 ((s 15) + 1)) 10 = s 10 - 1 := by simp [va_up]
  have h15 : (va_up (va_up s 10 ((s 10) - 1)) 15 ((s 15) + 1)) 15 = s 15 + 1 := by simp [va_up]
  have hsk : ∀ k, k ≠ 10 → k ≠ 15 → (va_up (va_up s 10 ((s 10) - 1)) 15 ((s 15) + 1)) k = s k := fun k h1 h2 => by simp [va_up, h1, h2]
  generalize (va_up (va_up s 10 ((s 10) - 1)) 15 ((s 15) + 1)) = s1 at hR1 h10 h15 hsk ⊢
  generalize (va_up (va_up (va_up a 2 (va_up (a 2) ((nI (hmo B T key))).toNatClampNeg ((a 2 ((nI (hmo B T key))).toNatClampNeg) &&& ((1 <<< ((nI t) &&& 31)) ^^^ (-1))))) 0 (va_up ((va_up a 2 (va_up (a 2) ((nI (hmo B T key))).toNatClampNeg ((a 2 ((nI (hmo B T key))).toNatClampNeg) &&& ((1 <<< ((nI t) &&& 31)) ^^^ (-1))))) 0) ((nI bk)).toNatClampNeg (-1))) 1 (va_up ((va_up (va_up a 2 (va_up (a 2) ((nI (hmo B T key))).toNatClampNeg ((a 2 ((nI (hmo B T key))).toNatClampNeg) &&& ((1 <<< ((nI t) &&& 31)) ^^^ (-1))))) 0 (va_up ((va_up a 2 (va_up (a 2) ((nI (hmo B T key))).toNatClampNeg ((a 2 ((nI (hmo B T key))).toNatClampNeg) &&& ((1 <<< ((nI t) &&& 31)) ^^^ (-1))))) 0) ((nI bk)).toNatClampNeg (-1))) 1) ((nI bk)).toNatClampNeg (-1))) = a1 at hR1 ⊢
  have h9 : s1 9 = s 9 := hsk 9 (by decide) (by decide)
  have h12 : s1 12 = s 12 := hsk 12 (by decide) (by decide)
  refine z_aload_n (j := 0) dX6_take_90 rfl ?_
  refine z_get (v := .int (s1 9)) (by omega) tW_obj fX6_38 rfl dX6_take_91 ?_
  refine z_if_eq (tgt := 102) dX6_take_94 (by decide) (fun c_94 => ?_) (fun c_94 => ?_)
  · refine z_iload (j := 4) dX6_take_102 rfl ?_
    exact z_iret rfl dX6_take_104 (by
        rw [hcb, hva]
        exact hq _ _ (s 12) s1 a1 (by rw [takF, if_pos (h9 ▸ c_94)]) hR1 h10 h12 h15 (fun k x10 x12 x15 => hsk k x10 x15))
  · refine z_aload_n (j := 0) dX6_take_97 rfl ?_
    refine z_iload_n (j := 2) dX6_take_98 rfl ?_
    rcases hpf : pulF B H T 384 (va_up K bk 0) (va_up V bk 0) bk (s 12) with ⟨K1, V1, c1⟩
    refine z_cVx [.int (nI bk)] none (fun g => ∃ s2 a2, g = tW h b s2 a2 ∧ tR B H T K1 V1 s2 a2 ∧ s2 12 = c1 ∧ (∀ k, k ≠ 12 → s2 k = s1 k)) yoX6_pullFrom yvX6_pullFrom rfl (by decide) lX6_100 (by omega) tW_obj rfl rfl (Nat.le_of_ble_eq_true rfl) (Nat.le_of_ble_eq_true rfl) dX6_take_99 (z_room (by omega) (Nat.le_refl _) (Nat.le_refl _) (w_pullFrom (d := 0) hb hR1 hbB (by simp [va_up]) (fun K' V' c' s' a' e h1 h2 h3 => by
        rw [h12, hpf] at e
        cases e
        exact ⟨rfl, rfl, s', a', rfl, h1, h2, h3⟩))) (fun g hg => ?_)
    obtain ⟨s2, a2, rfl, hR2, h212, hs2⟩ := hg
    refine z_iload (j := 4) dX6_take_102 rfl ?_
    exact z_iret rfl dX6_take_104 (by
        rw [hcb, hva]
        exact hq K1 V1 c1 s2 a2 (by rw [takF, if_neg (h9 ▸ c_94), hpf]) hR2 (by rw [hs2 10 (by decide), h10]) h212 (by rw [hs2 15 (by decide), h15]) (fun k x10 x12 x15 => by rw [hs2 k x12, hsk k x10 x15]))

set_option maxHeartbeats 4000000 in
set_option maxRecDepth 100000 in
theorem w_takeN {l : zL} {d kc ks n b B H T : Nat} {h : Nat → va_E} {K V : Nat → Nat} {s : Nat → Int32} {a : Nat → Nat → Int32} {Q : zQ} (hb : b + 6 ≤ n) (hR : tR B H T K V s a) {key : Nat} (hkey : key ≤ 9999) (hbw : bw B H T K key = none) (hq : Q (.inl (some (.int (-1)))) n (tW h b s a)) : Zj l mX6_take (d + 3) kc ks 0 [(0, .ref b), (1, .int ((nI key)))] [] n (tW h b s a) Q := by
  obtain ⟨okb, h2H, hH6, h1T, hT99, e6, e7, e8, ek, ev, eh, ekv, ez⟩ := id hR
  have hle := okb.le
  refine z_aload_n (j := 0) dX6_take_0 rfl ?_
  refine z_iload_n (j := 1) dX6_take_1 rfl ?_
  refine z_cV [.int ((nI key))] (some (.int ((optI (bw B H T K key))))) yoX6_bucketWith yvX6_bucketWith rfl (by decide) lX6_84 (by omega) tW_obj rfl rfl (Nat.le_of_ble_eq_true rfl) (Nat.le_of_ble_eq_true rfl) dX6_take_2 (z_room (by omega) (Nat.le_refl _) (Nat.le_refl _) (w_bucketWith (d := 0) hb hR hkey ⟨rfl, rfl, rfl⟩)) ?_
  rw [show (optI (bw B H T K key)) = (-1) from by rw [hbw]; rfl]
  refine z_istore_n [1, 2, 0] [(0, .ref b), (1, .int ((nI key))), (2, .int ((-1)))] dX6_take_5 (by decide) rfl ?_
  refine z_aload_n (j := 0) dX6_take_6 rfl ?_
  refine z_iload_n (j := 1) dX6_take_7 rfl ?_
  refine z_cV [.int ((nI key))] (some (.int ((nI (hmo B T key))))) yoX6_homeFor yvX6_homeFor rfl (by decide) lX6_94 (by omega) tW_obj rfl rfl (Nat.le_of_ble_eq_true rfl) (Nat.le_of_ble_eq_true rfl) dX6_take_8 (z_room (by omega) (Nat.le_refl _) (Nat.le_refl _) (w_homeFor (d := 0) hb hR hkey ⟨rfl, rfl, rfl⟩)) ?_
  refine z_istore_n [1, 2, 3, 0] [(0, .ref b), (1, .int ((nI key))), (2, .int ((-1))), (3, .int ((nI (hmo B T key))))] dX6_take_11 (by decide) rfl ?_
  refine z_aload_n (j := 0) dX6_take_12 rfl ?_
  refine z_iload_n (j := 2) dX6_take_13 rfl ?_
  refine z_cV [.int ((-1))] (some (.int 0)) yoX6_hasBucket yvX6_hasBucket rfl (by decide) lX6_91 (by omega) tW_obj rfl rfl (Nat.le_of_ble_eq_true rfl) (Nat.le_of_ble_eq_true rfl) dX6_take_14 (z_room (by omega) (Nat.le_refl _) (Nat.le_refl _) (w_hasBucketN (d := 0) hb ⟨rfl, rfl, rfl⟩)) ?_
  refine z_if_eq (tgt := 28) dX6_take_17 (by decide) (fun c_17 => ?_) (fun c_17 => absurd rfl c_17)
  refine z_iconst (v := (-1)) dX6_take_28 (by decide) ?_
  exact z_iret rfl dX6_take_29 (hq)
end
section
/-! HOW MANY BUCKETS HAVE AN ENTRY -/
def cnt (K : Nat → Nat) : Nat → Nat
  | 0 => 0
  | i + 1 => cnt K i + if K i = 0 then 0 else 1
theorem entL_cnt (K V : Nat → Nat) : ∀ i, (entL K V i).length = cnt K i
  | 0 => rfl
  | i + 1 => by
    simp only [entL, List.length_append, cnt, entL_cnt K V i]
    split <;> rfl
theorem cnt_congr {K K' : Nat → Nat} : ∀ i, (∀ j, j < i → (K j = 0 ↔ K' j = 0)) → cnt K i = cnt K' i
  | 0, _ => rfl
  | i + 1, h => by
    simp only [cnt]
    rw [cnt_congr i (fun j hj => h j (by omega))]
    have := h i (by omega)
    by_cases h0 : K i = 0
    · rw [if_pos h0, if_pos (this.mp h0)]
    · rw [if_neg h0, if_neg (fun e => h0 (this.mpr e))]
theorem cnt_put {K : Nat → Nat} {x y : Nat} (hx : K x = 0) (hy : y ≠ 0) : ∀ i, cnt (va_up K x y) i = cnt K i + if x < i then 1 else 0
  | 0 => by simp [cnt]
  | i + 1 => by
    simp only [cnt]
    rw [cnt_put hx hy i]
    by_cases h : i = x
    · subst h
      simp [va_up, hx, hy]
    · have h1 : va_up K x y i = K i := by simp [va_up, h]
      rw [h1]
      by_cases h2 : x < i
      · rw [if_pos h2, if_pos (show x < i + 1 by omega)]; omega
      · rw [if_neg h2, if_neg (show ¬ x < i + 1 by omega)]; rfl
theorem cnt_del {K : Nat → Nat} {x : Nat} (hx : K x ≠ 0) : ∀ i, cnt (va_up K x 0) i + (if x < i then 1 else 0) = cnt K i
  | 0 => by simp [cnt]
  | i + 1 => by
    have ih := cnt_del hx i
    simp only [cnt]
    by_cases h : i = x
    · subst h
      simp only [Nat.lt_irrefl, if_false] at ih
      simp [va_up, hx]
      omega
    · have h1 : va_up K x 0 i = K i := by simp [va_up, h]
      rw [h1]
      by_cases h2 : x < i
      · rw [if_pos h2] at ih; rw [if_pos (show x < i + 1 by omega)]; omega
      · rw [if_neg h2] at ih; rw [if_neg (show ¬ x < i + 1 by omega)]; omega
theorem cnt_mv {K : Nat → Nat} {x y B : Nat} (hx : x < B) (hy : y < B) (hxy : x ≠ y) (hK : K x ≠ 0) (h0 : K y = 0) : cnt (mvK K x y) B = cnt K B := by
  unfold mvK
  have h1 := cnt_del hK B
  have h2 := cnt_put (K := va_up K x 0) (x := y) (y := K x) (by simp [va_up, h0]) hK B
  rw [if_pos hx] at h1
  rw [if_pos hy] at h2
  omega
theorem cnt_le (K : Nat → Nat) : ∀ i, cnt K i ≤ i
  | 0 => Nat.le_refl _
  | i + 1 => by
    have := cnt_le K i
    simp only [cnt]
    split <;> omega
theorem cnt_kz : ∀ i, cnt kz i = 0
  | 0 => rfl
  | i + 1 => by simp [cnt, cnt_kz i, kz]
theorem isO_K {B T : Nat} {K : Nat → Nat} {i hm : Nat} (h : isO B T K i hm = true) : K i ≠ 0 ∧ hmo B T (K i - 1) = hm := by
  simpa [isO] using h
/-- what every displacement keeps, finding a place keeps -/
theorem plc_ind {B H T hm : Nat} {P : (Nat → Nat) → (Nat → Nat) → Prop} (hB : okB B) (hH : H ≤ 6) (hhm : hm < B)
    (hmv : ∀ K V h0 f t, P K V → h0 < B → f < H → t < H → f ≠ t → isO B T K ((h0 + f) % B) h0 = true → K ((h0 + t) % B) = 0 → P (mvK K ((h0 + f) % B) ((h0 + t) % B)) (mvK V ((h0 + f) % B) ((h0 + t) % B))) :
    ∀ n K V st c o K' V' c', st < B → K ((hm + st) % B) = 0 → P K V → plc B H T hm n K V st c = (o, K', V', c') → P K' V' ∧ ∀ t, o = some t → t < H ∧ K' ((hm + t) % B) = 0 := by
  intro n
  induction n with
  | zero =>
    intro K V st c o K' V' c' hst hf hP e
    cases e
    exact ⟨hP, fun t ht => by cases ht⟩
  | succ n ih =>
    intro K V st c o K' V' c' hst hf hP e
    by_cases hs : st < H
    · rw [plc_near hs] at e
      cases e
      exact ⟨hP, fun t ht => by cases ht; exact ⟨hs, hf⟩⟩
    · cases hm2 : movS B T K ((hm + st) % B) (H - 1) with
      | none =>
        rw [plc_stuck hs hm2] at e
        cases e
        exact ⟨hP, fun t ht => by cases ht⟩
      | some q =>
        obtain ⟨j, k⟩ := q
        rw [plc_step hs hm2] at e
        obtain ⟨h1, h2, h3, h4⟩ := movS_some hm2
        have hle := hB.le
        have hbk := back_free (j := j) hB (mod_lt' hB (x := hm + st)) (by omega)
        have hsrc := mvSrc_step (k := k) hB hhm hst (by omega) (show k ≤ j by omega)
        have hh0 : ((hm + st) % B + B - j) % B < B := mod_lt' hB
        have hp := hmv K V _ k j hP hh0 (by omega) (by omega) (by omega) h4 (by rw [hbk]; exact hf)
        rw [hbk] at hp
        have hne : mvSrc B ((hm + st) % B) j k ≠ (hm + st) % B := by
          unfold mvSrc
          rcases hB with rfl | rfl | rfl | rfl <;> omega
        refine ih _ _ (st - (j - k)) _ o K' V' c' (by omega) ?_ hp e
        rw [← hsrc]
        exact mvK_src hne
theorem placeF_ind {B H T : Nat} {P Q : (Nat → Nat) → (Nat → Nat) → Prop} {K V : Nat → Nat} {c : Int32} {key v : Nat} {o : Option Nat} {K' V' : Nat → Nat} {c' : Int32} (hB : okB B) (hH : H ≤ 6)
    (hmv : ∀ K V h0 f t, P K V → h0 < B → f < H → t < H → f ≠ t → isO B T K ((h0 + f) % B) h0 = true → K ((h0 + t) % B) = 0 → P (mvK K ((h0 + f) % B) ((h0 + t) % B)) (mvK V ((h0 + f) % B) ((h0 + t) % B)))
    (hput : ∀ K V t, P K V → t < H → K ((hmo B T key + t) % B) = 0 → Q (va_up K ((hmo B T key + t) % B) (key + 1)) (va_up V ((hmo B T key + t) % B) v))
    (hP : P K V) (e : placeF B H T K V c key v = (o, K', V', c')) : ∀ bk, o = some bk → Q K' V' := by
  intro bk ho
  subst ho
  have hhm := hmo_lt hB T key
  unfold placeF at e
  split at e
  · cases e
  · rename_i d hd
    obtain ⟨h1, h2⟩ := frD_lt hd
    split at e
    · cases e
    · rename_i st K1 V1 c1 hpl
      obtain ⟨hp, ht⟩ := plc_ind hB hH hhm hmv 65 K V d c _ K1 V1 c1 h1 h2 hP hpl
      obtain ⟨h3, h4⟩ := ht st rfl
      cases e
      exact hput K1 V1 st hp h3 h4
/-- a success of the building keeps what placing keeps -/
theorem bldF_ind {B H T : Nat} {P : List (Nat × Nat) → (Nat → Nat) → (Nat → Nat) → Prop}
    (hpl : ∀ k v r K V c bk K' V' c', P ((k, v) :: r) K V → placeF B H T K V c k v = (some bk, K', V', c') → P r K' V') :
    ∀ L K V c K' V' c', P L K V → bldF B H T L K V c = (true, K', V', c') → P [] K' V'
  | [], K, V, c, K', V', c', hP, e => by cases e; exact hP
  | (k, v) :: r, K, V, c, K', V', c', hP, e => by
    simp only [bldF] at e
    split at e
    · cases e
    · rename_i bk K1 V1 c1 hp
      exact bldF_ind hpl r K1 V1 c1 K' V' c' (hpl k v r K V c bk K1 V1 c1 hP hp) e
theorem placeF_cnt {B H T : Nat} {K V : Nat → Nat} {c : Int32} {key v bk : Nat} {K' V' : Nat → Nat} {c' : Int32} (hB : okB B) (hH : H ≤ 6) (e : placeF B H T K V c key v = (some bk, K', V', c')) : cnt K' B = cnt K B + 1 := by
  refine placeF_ind (P := fun K1 _ => cnt K1 B = cnt K B) (Q := fun K1 _ => cnt K1 B = cnt K B + 1) hB hH ?_ ?_ rfl e bk rfl
  · intro K1 V1 h0 f t hp h1 h2 h3 h4 h5 h6
    rw [← hp]
    refine cnt_mv (mod_lt' hB) (mod_lt' hB) (fun e2 => ?_) (isO_K h5).1 h6
    exact (isO_K h5).1 (by rw [e2]; exact h6)
  · intro K1 V1 t hp h1 h2
    rw [← hp, cnt_put h2 (by omega), if_pos (mod_lt' hB)]
theorem bldF_cnt {B H T : Nat} {L : List (Nat × Nat)} {K' V' : Nat → Nat} {c c' : Int32} (hB : okB B) (hH : H ≤ 6) (e : bldF B H T L kz kz c = (true, K', V', c')) : cnt K' B = L.length := by
  have h := bldF_ind (P := fun r K1 _ => cnt K1 B + r.length = L.length) (fun k v r K1 V1 c1 bk K2 V2 c2 hp e2 => by
    have := placeF_cnt hB hH e2
    simp only [List.length_cons] at hp ⊢
    omega) L kz kz c K' V' c' (by simp [cnt_kz]) e
  simpa using h
theorem grF_cnt {H T : Nat} {L : List (Nat × Nat)} {key v : Nat} (hH : H ≤ 6) : ∀ m B K V c x bk B' K' V' c' x', m ≤ 4 → grF H T L key v m B K V c x = (some bk, B', K', V', c', x') → cnt K' B' = L.length + 1
  | 0, B, K, V, c, x, bk, B', K', V', c', x', _, e => by simp [grF] at e
  | m + 1, B, K, V, c, x, bk, B', K', V', c', x', hm, e => by
    have okB1 : okB (2 ^ (6 - m)) := okB_w (m := m) (by omega)
    simp only [grF] at e
    split at e
    · exact grF_cnt hH m _ _ _ _ _ _ _ _ _ _ _ (by omega) e
    · split at e
      · exact grF_cnt hH m _ _ _ _ _ _ _ _ _ _ _ (by omega) e
      · rename_i K1 V1 c1 hb
        split at e
        · rename_i bk2 K2 V2 c2 hp
          cases e
          rw [placeF_cnt okB1 hH hp, bldF_cnt okB1 hH hb]
        · exact grF_cnt hH m _ _ _ _ _ _ _ _ _ _ _ (by omega) e
theorem insF_cnt {B H T : Nat} {K V : Nat → Nat} {c x : Int32} {key v bk B' : Nat} {K' V' : Nat → Nat} {c' x' : Int32} (hB : okB B) (hH : H ≤ 6) (e : insF B H T K V c x key v = (some bk, B', K', V', c', x')) : cnt K' B' = cnt K B + 1 := by
  unfold insF at e
  split at e
  · rename_i bk2 K1 V1 c1 hp
    cases e
    exact placeF_cnt hB hH hp
  · rw [grF_cnt hH 4 _ _ _ _ _ _ _ _ _ _ _ (by omega) e, entL_cnt]
theorem rbF_cnt {H T : Nat} {L : List (Nat × Nat)} {newB : Nat} (hH : H ≤ 6) : ∀ m B K V c x B' K' V' c' x', m ≤ 4 → rbF H T L newB m B K V c x = (true, B', K', V', c', x') → cnt K' B' = L.length
  | 0, B, K, V, c, x, B', K', V', c', x', _, e => by simp [rbF] at e
  | m + 1, B, K, V, c, x, B', K', V', c', x', hm, e => by
    have okB1 : okB (2 ^ (6 - m)) := okB_w (m := m) (by omega)
    simp only [rbF] at e
    split at e
    · exact rbF_cnt hH m _ _ _ _ _ _ _ _ _ _ (by omega) e
    · split at e
      · rename_i K1 V1 c1 hb
        cases e
        exact bldF_cnt okB1 hH hb
      · exact rbF_cnt hH m _ _ _ _ _ _ _ _ _ _ (by omega) e
end
section
/-! A ROW, AS NUMBERS -/
/-- the keys of a row, one after the other: how many were added, the buckets, the counts -/
def rowF (H T step : Nat) : Nat → Nat → Nat → Nat → (Nat → Nat) → (Nat → Nat) → Int32 → Int32 → Option (Nat × Nat × (Nat → Nat) × (Nat → Nat) × Int32 × Int32)
  | 0, _, j, B, K, V, c, x => some (j, B, K, V, c, x)
  | m + 1, key, j, B, K, V, c, x => match bw B H T K key with
    | some _ => rowF H T step m (key + step) j B K V c x
    | none => match insF B H T K V c x key 0 with
      | (none, _) => none
      | (some _, B', K', V', c', x') => rowF H T step m (key + step) (j + 1) B' K' V' c' x'
theorem rowF_in {H T step m key j B : Nat} {K V : Nat → Nat} {c x : Int32} {bk : Nat} (h : bw B H T K key = some bk) : rowF H T step (m + 1) key j B K V c x = rowF H T step m (key + step) j B K V c x := by
  simp [rowF, h]
theorem rowF_no {H T step m key j B : Nat} {K V : Nat → Nat} {c x : Int32} {B' : Nat} {K' V' : Nat → Nat} {c' x' : Int32} (h : bw B H T K key = none) (h2 : insF B H T K V c x key 0 = (none, B', K', V', c', x')) : rowF H T step (m + 1) key j B K V c x = none := by
  simp [rowF, h, h2]
theorem rowF_yes {H T step m key j B : Nat} {K V : Nat → Nat} {c x : Int32} {bk B' : Nat} {K' V' : Nat → Nat} {c' x' : Int32} (h : bw B H T K key = none) (h2 : insF B H T K V c x key 0 = (some bk, B', K', V', c', x')) : rowF H T step (m + 1) key j B K V c x = rowF H T step m (key + step) (j + 1) B' K' V' c' x' := by
  simp [rowF, h, h2]
theorem bw_lt {B H T : Nat} {K : Nat → Nat} {key bk : Nat} (hB : okB B) (h : bw B H T K key = some bk) : bk < B ∧ K bk = key + 1 := by
  obtain ⟨t, -, h2, h3⟩ := bw_some h
  exact ⟨by rw [h2]; exact mod_lt' hB, h3⟩
theorem tR_val {B H T : Nat} {K V : Nat → Nat} {s : Nat → Int32} {a a' : Nat → Nat → Int32} {bk v : Nat} (hR : tR B H T K V s a) (hK : K bk ≠ 0) (hv : v ≤ 999) (h0 : a' 0 = a 0) (h1 : ∀ i, i < 64 → a' 1 i = if i = bk then nI v else a 1 i) (h2 : a' 2 = a 2) : tR B H T K (va_up V bk v) s a' := by
  obtain ⟨okb, h2H, hH6, h1T, hT99, e6, e7, e8, ek, ev, eh, ekv, ez⟩ := hR
  refine ⟨okb, h2H, hH6, h1T, hT99, e6, e7, e8, by rw [h0]; exact ek, fun i hi => ?_, by rw [h2]; exact eh, fun i => ⟨(ekv i).1, ?_⟩, ez⟩
  · rw [h1 i hi]
    by_cases hi2 : i = bk
    · subst hi2
      rw [if_pos rfl, tval, if_neg hK]
      simp [va_up]
    · rw [if_neg hi2, ev i hi]
      simp [va_up, hi2]
  · by_cases hi2 : i = bk
    · subst hi2; simp [va_up, hv]
    · simp [va_up, hi2, (ekv i).2]
end
section
set_option maxHeartbeats 4000000 in
set_option maxRecDepth 100000 in
theorem w_store {l : zL} {d kc ks n b B H T : Nat} {h : Nat → va_E} {K V : Nat → Nat} {s : Nat → Int32} {a : Nat → Nat → Int32} {Q : zQ} (hb : b + 6 ≤ n) (hR : tR B H T K V s a) {key v : Nat} (hkey : key ≤ 9999) (hv : v ≤ 999) (he : s 10 = nI (cnt K B)) (hqP : ∀ bk a', bw B H T K key = some bk → tR B H T K (va_up V bk v) s a' → Q (.inl (some (.int 1))) n (tW h b s a')) (hqN : ∀ {B' K' V' c' x'} s' a', bw B H T K key = none → insF B H T K V (s 11) (s 13) key v = (none, B', K', V', c', x') → Q (.inl (some (.int 0))) n (tW h b s' a')) (hqS : ∀ bk B' K' V' c' x' s' a', bw B H T K key = none → insF B H T K V (s 11) (s 13) key v = (some bk, B', K', V', c', x') → tR B' H T K' V' s' a' → s' 10 = nI (cnt K' B') → s' 11 = c' → s' 13 = x' → s' 14 = s 14 + 1 → (∀ k, k ≠ 5 → k ≠ 6 → k ≠ 10 → k ≠ 11 → k ≠ 13 → k ≠ 14 → s' k = s k) → Q (.inl (some (.int 1))) n (tW h b s' a')) : Zj l mX6_store (d + 7) kc ks 0 [(0, .ref b), (1, .int ((nI key))), (2, .int ((nI v)))] [] n (tW h b s a) Q := by
  obtain ⟨okb, h2H, hH6, h1T, hT99, e6, e7, e8, ek, ev, eh, ekv, ez⟩ := id hR
  have hle := okb.le
  refine z_aload_n (j := 0) dX6_store_0 rfl ?_
  refine z_iload_n (j := 1) dX6_store_1 rfl ?_
  refine z_cV [.int ((nI key))] (some (.int ((optI (bw B H T K key))))) yoX6_bucketWith yvX6_bucketWith rfl (by decide) lX6_84 (by omega) tW_obj rfl rfl (Nat.le_of_ble_eq_true rfl) (Nat.le_of_ble_eq_true rfl) dX6_store_2 (z_room (by omega) (Nat.le_refl _) (Nat.le_refl _) (w_bucketWith (d := 0) hb hR hkey ⟨rfl, rfl, rfl⟩)) ?_
  rcases hbw : bw B H T K key with _ | bk
  · rw [show optI none = -1 from rfl]
    refine z_istore_n [1, 2, 3, 0] [(0, .ref b), (1, .int ((nI key))), (2, .int ((nI v))), (3, .int ((-1)))] dX6_store_5 (by decide) rfl ?_
    refine z_aload_n (j := 0) dX6_store_6 rfl ?_
    refine z_iload_n (j := 3) dX6_store_7 rfl ?_
    refine z_cV [.int ((-1))] (some (.int 0)) yoX6_hasBucket yvX6_hasBucket rfl (by decide) lX6_91 (by omega) tW_obj rfl rfl (Nat.le_of_ble_eq_true rfl) (Nat.le_of_ble_eq_true rfl) dX6_store_8 (z_room (by omega) (Nat.le_refl _) (Nat.le_refl _) (w_hasBucketN (d := 0) hb ⟨rfl, rfl, rfl⟩)) ?_
    refine z_if_eq (tgt := 23) dX6_store_11 (by decide) (fun c_11 => ?_) (fun c_11 => absurd rfl c_11)
    refine z_aload_n (j := 0) dX6_store_23 rfl ?_
    refine z_iload_n (j := 1) dX6_store_24 rfl ?_
    refine z_iload_n (j := 2) dX6_store_25 rfl ?_
    rcases hif : insF B H T K V (s 11) (s 13) key v with ⟨_ | bk, B1, K1, V1, c1, x1⟩
    · refine z_cVx [.int (nI key), .int (nI v)] (some (.int (-1))) (fun g => ∃ s1 a1, g = tW h b s1 a1) yoX6_insert yvX6_insert rfl (by decide) lX6_88 (by omega) tW_obj rfl rfl (Nat.le_of_ble_eq_true rfl) (Nat.le_of_ble_eq_true rfl) dX6_store_26 (z_room (by omega) (Nat.le_refl _) (Nat.le_refl _) (w_insert (d := 0) (key := key) (v := v) hb hR hkey hv (by rw [entL_cnt]; exact he) (fun B' K' V' c' x' s' a' e => ⟨rfl, rfl, s', a', rfl⟩) (fun bk' B' K' V' c' x' s' a' e h1 h2 h3 h4 h5 h6 h7 => by rw [hif] at e; cases e))) (fun g hg => ?_)
      obtain ⟨s1, a1, rfl⟩ := hg
      refine z_iconst (v := (-1)) dX6_store_29 (by decide) ?_
      refine z_icmp_eq (tgt := 37) dX6_store_30 (by decide) (fun c_30 => ?_) (fun c_30 => absurd rfl c_30)
      refine z_iconst (v := 0) dX6_store_37 (by decide) ?_
      exact z_zret rfl rfl dX6_store_38 (hqN s1 a1 hbw hif)
    · refine z_cVx [.int (nI key), .int (nI v)] (some (.int (nI bk))) (fun g => ∃ s1 a1, g = tW h b s1 a1 ∧ tR B1 H T K1 V1 s1 a1 ∧ bk < B1 ∧ s1 10 = s 10 + 1 ∧ s1 11 = c1 ∧ s1 13 = x1 ∧ s1 14 = s 14 + 1 ∧ (∀ k, k ≠ 5 → k ≠ 6 → k ≠ 10 → k ≠ 11 → k ≠ 13 → k ≠ 14 → s1 k = s k)) yoX6_insert yvX6_insert rfl (by decide) lX6_88 (by omega) tW_obj rfl rfl (Nat.le_of_ble_eq_true rfl) (Nat.le_of_ble_eq_true rfl) dX6_store_26 (z_room (by omega) (Nat.le_refl _) (Nat.le_refl _) (w_insert (d := 0) (key := key) (v := v) hb hR hkey hv (by rw [entL_cnt]; exact he) (fun B' K' V' c' x' s' a' e => by rw [hif] at e; cases e) (fun bk' B' K' V' c' x' s' a' e h1 h2 h3 h4 h5 h6 h7 => by
          rw [hif] at e
          cases e
          exact ⟨rfl, rfl, s', a', rfl, h1, h2, h3, h4, h5, h6, h7⟩))) (fun g hg => ?_)
      obtain ⟨s1, a1, rfl, hR1, hbk1, h10, h11, h13, h14, hrs⟩ := hg
      have hle1 := hR1.1.le
      refine z_iconst (v := (-1)) dX6_store_29 (by decide) ?_
      refine z_icmp_eq (tgt := 37) dX6_store_30 (by decide) (fun c_30 => absurd c_30 (nI_neg1 (by omega))) (fun c_30 => ?_)
      refine z_iconst (v := 1) dX6_store_33 (by decide) ?_
      refine z_goto (tgt := 38) dX6_store_34 (by decide) ?_
      exact z_zret rfl rfl dX6_store_38 (hqS bk B1 K1 V1 c1 x1 s1 a1 hbw hif hR1 (by rw [h10, he, insF_cnt okb hH6 hif]; exact nI_1 _) h11 h13 h14 hrs)
  · rw [show optI (some bk) = nI bk from rfl]
    obtain ⟨hbB, hKb⟩ := bw_lt okb hbw
    have hcb : (nI bk).toNatClampNeg = bk := nI_clamp (by omega)
    refine z_istore_n [1, 2, 3, 0] [(0, .ref b), (1, .int ((nI key))), (2, .int ((nI v))), (3, .int ((nI bk)))] dX6_store_5 (by decide) rfl ?_
    refine z_aload_n (j := 0) dX6_store_6 rfl ?_
    refine z_iload_n (j := 3) dX6_store_7 rfl ?_
    refine z_cV [.int ((nI bk))] (some (.int 1)) yoX6_hasBucket yvX6_hasBucket rfl (by decide) lX6_91 (by omega) tW_obj rfl rfl (Nat.le_of_ble_eq_true rfl) (Nat.le_of_ble_eq_true rfl) dX6_store_8 (z_room (by omega) (Nat.le_refl _) (Nat.le_refl _) (w_hasBucket (d := 0) hb hR hbB ⟨rfl, rfl, rfl⟩)) ?_
    refine z_if_eq (tgt := 23) dX6_store_11 (by decide) (fun c_11 => absurd c_11 (by decide)) (fun c_11 => ?_)
    refine z_aload_n (j := 0) dX6_store_14 rfl ?_
    refine z_get (v := .ref (b + 2)) (by omega) tW_obj fX6_15 rfl dX6_store_15 ?_
    refine z_iload_n (j := 3) dX6_store_18 rfl ?_
    refine z_iload_n (j := 2) dX6_store_19 rfl ?_
    refine t_ast 1 (by decide) hb (vp_in_nI (by omega) (by decide)) dX6_store_20 ?_
    refine z_iconst (v := 1) dX6_store_21 (by decide) ?_
    exact z_zret rfl rfl dX6_store_22 (by
        simp only [hcb]
        exact hqP bk _ hbw (tR_val hR (by omega) hv (by simp [va_up]) (fun i hi => by simp [va_up]) (by simp [va_up])))

set_option maxHeartbeats 4000000 in
set_option maxRecDepth 100000 in
theorem w_insertRow_l {l : zL} {d kc ks n b H T key step count : Nat} {h : Nat → va_E} {Q : zQ} {x14 : Int32} (hb : b + 6 ≤ n) (hks : ∀ i, i < count → key + i * step ≤ 9999) (hct : count ≤ 20) : ∀ m i j (B : Nat) (K V : Nat → Nat) (s : Nat → Int32) (a : Nat → Nat → Int32), i + m = count → tR B H T K V s a → s 10 = nI (cnt K B) → s 14 = x14 + nI j → j ≤ i → (∀ s' a', rowF H T step m (key + i * step) j B K V (s 11) (s 13) = none → Q (.inl (some (.int (-1)))) n (tW h b s' a')) → (∀ j' B' K' V' c' x' s' a', rowF H T step m (key + i * step) j B K V (s 11) (s 13) = some (j', B', K', V', c', x') → tR B' H T K' V' s' a' → s' 10 = nI (cnt K' B') → s' 11 = c' → s' 13 = x' → s' 14 = x14 + nI j' → (∀ k, k ≠ 5 → k ≠ 6 → k ≠ 10 → k ≠ 11 → k ≠ 13 → k ≠ 14 → s' k = s k) → Q (.inl (some (.int (nI j')))) n (tW h b s' a')) → Zj l mX6_insertRow (d + 7) kc ks 6 [(0, .ref b), (1, .int ((nI key))), (2, .int ((nI step))), (3, .int ((nI count))), (4, .int ((nI j))), (5, .int ((nI i)))] [] n (tW h b s a) Q := by
  intro m
  induction m with
  | zero =>
    intro i j B K V s a hi hR he h14 hji hqN hqS
    refine z_iload (j := 5) dX6_insertRow_6 rfl ?_
    refine z_iload_n (j := 3) dX6_insertRow_8 rfl ?_
    refine z_icmp_ge (tgt := 55) dX6_insertRow_9 (by decide) (fun c_9 => ?_) (fun c_9 => absurd (nI_le (by omega) (by omega)) c_9)
    refine z_iload (j := 4) dX6_insertRow_55 rfl ?_
    exact z_iret rfl dX6_insertRow_57 (hqS j B K V (s 11) (s 13) s a rfl hR he rfl rfl h14 (fun _ _ _ _ _ _ _ => rfl))
  | succ m ih =>
    intro i j B K V s a hi hR he h14' hji hqN hqS
    obtain ⟨okb, h2H, hH6, h1T, hT99, e6, e7, e8, ek, ev, eh, ekv, ez⟩ := id hR
    have hle := okb.le
    have hki := hks i (by omega)
    refine z_iload (j := 5) dX6_insertRow_6 rfl ?_
    refine z_iload_n (j := 3) dX6_insertRow_8 rfl ?_
    refine z_icmp_ge (tgt := 55) dX6_insertRow_9 (by decide) (fun c_9 => absurd c_9 (nI_ge (by omega) (by omega))) (fun c_9 => ?_)
    refine z_iload_n (j := 1) dX6_insertRow_12 rfl ?_
    refine z_iload (j := 5) dX6_insertRow_13 rfl ?_
    refine z_iload_n (j := 2) dX6_insertRow_15 rfl ?_
    refine z_imul dX6_insertRow_16 ?_
    refine z_iadd dX6_insertRow_17 ?_
    rw [show ((nI key) + ((nI i) * (nI step))) = (nI (key + i * step)) from by rw [pk_mul, nI_add]]
    refine z_istore [1, 2, 3, 4, 5, 6, 0] [(0, .ref b), (1, .int ((nI key))), (2, .int ((nI step))), (3, .int ((nI count))), (4, .int ((nI j))), (5, .int ((nI i))), (6, .int ((nI (key + i * step))))] dX6_insertRow_18 (by decide) rfl ?_
    refine z_aload_n (j := 0) dX6_insertRow_20 rfl ?_
    refine z_iload (j := 6) dX6_insertRow_21 rfl ?_
    refine z_cV [.int ((nI (key + i * step)))] (some (.int ((optI (bw B H T K (key + i * step)))))) yoX6_bucketWith yvX6_bucketWith rfl (by decide) lX6_84 (by omega) tW_obj rfl rfl (Nat.le_of_ble_eq_true rfl) (Nat.le_of_ble_eq_true rfl) dX6_insertRow_23 (z_room (by omega) (Nat.le_refl _) (Nat.le_refl _) (w_bucketWith (d := 0) hb hR hki ⟨rfl, rfl, rfl⟩)) ?_
    rcases hbw : bw B H T K (key + i * step) with _ | bk0
    · rw [show optI none = -1 from rfl]
      refine z_iconst (v := (-1)) dX6_insertRow_26 (by decide) ?_
      refine z_icmp_eq (tgt := 33) dX6_insertRow_27 (by decide) (fun c_27 => ?_) (fun c_27 => absurd rfl c_27)
      refine z_aload_n (j := 0) dX6_insertRow_33 rfl ?_
      refine z_iload (j := 6) dX6_insertRow_34 rfl ?_
      refine z_iconst (v := 0) dX6_insertRow_36 (by decide) ?_
      rcases hif : insF B H T K V (s 11) (s 13) (key + i * step) 0 with ⟨_ | bk, B1, K1, V1, c1, x1⟩
      · refine z_cVx [.int (nI (key + i * step)), .int 0] (some (.int (-1))) (fun g => ∃ s1 a1, g = tW h b s1 a1) yoX6_insert yvX6_insert rfl (by decide) lX6_88 (by omega) tW_obj rfl rfl (Nat.le_of_ble_eq_true rfl) (Nat.le_of_ble_eq_true rfl) dX6_insertRow_37 (z_room (by omega) (Nat.le_refl _) (Nat.le_refl _) (w_insert (d := 0) (key := (key + i * step)) (v := 0) hb hR hki (by decide) (by rw [entL_cnt]; exact he) (fun B' K' V' c' x' s' a' e => ⟨rfl, rfl, s', a', rfl⟩) (fun bk' B' K' V' c' x' s' a' e h1 h2 h3 h4 h5 h6 h7 => by rw [hif] at e; cases e))) (fun g hg => ?_)
        obtain ⟨s1, a1, rfl⟩ := hg
        refine z_iconst (v := (-1)) dX6_insertRow_40 (by decide) ?_
        refine z_icmp_ne (tgt := 46) dX6_insertRow_41 (by decide) (fun c_41 => absurd rfl c_41) (fun c_41 => ?_)
        refine z_iconst (v := (-1)) dX6_insertRow_44 (by decide) ?_
        exact z_iret rfl dX6_insertRow_45 (hqN s1 a1 (rowF_no hbw hif))
      · refine z_cVx [.int (nI (key + i * step)), .int 0] (some (.int (nI bk))) (fun g => ∃ s1 a1, g = tW h b s1 a1 ∧ tR B1 H T K1 V1 s1 a1 ∧ bk < B1 ∧ s1 10 = s 10 + 1 ∧ s1 11 = c1 ∧ s1 13 = x1 ∧ s1 14 = s 14 + 1 ∧ (∀ k, k ≠ 5 → k ≠ 6 → k ≠ 10 → k ≠ 11 → k ≠ 13 → k ≠ 14 → s1 k = s k)) yoX6_insert yvX6_insert rfl (by decide) lX6_88 (by omega) tW_obj rfl rfl (Nat.le_of_ble_eq_true rfl) (Nat.le_of_ble_eq_true rfl) dX6_insertRow_37 (z_room (by omega) (Nat.le_refl _) (Nat.le_refl _) (w_insert (d := 0) (key := (key + i * step)) (v := 0) hb hR hki (by decide) (by rw [entL_cnt]; exact he) (fun B' K' V' c' x' s' a' e => by rw [hif] at e; cases e) (fun bk' B' K' V' c' x' s' a' e h1 h2 h3 h4 h5 h6 h7 => by
            rw [hif] at e
            cases e
            exact ⟨rfl, rfl, s', a', rfl, h1, h2, h3, h4, h5, h6, h7⟩))) (fun g hg => ?_)
        obtain ⟨s1, a1, rfl, hR1, hbk1, h10, h11, h13, h14, hrs⟩ := hg
        have hle1 := hR1.1.le
        refine z_iconst (v := (-1)) dX6_insertRow_40 (by decide) ?_
        refine z_icmp_ne (tgt := 46) dX6_insertRow_41 (by decide) (fun c_41 => ?_) (fun c_41 => absurd c_41 (nI_neg1 (by omega)))
        skip
        refine z_iinc ((nI (j + 1))) [1, 2, 3, 4, 0, 5, 6] [(0, .ref b), (1, .int ((nI key))), (2, .int ((nI step))), (3, .int ((nI count))), (4, .int ((nI (j + 1)))), (5, .int ((nI i))), (6, .int ((nI (key + i * step))))] dX6_insertRow_46 (j := 4) rfl (nI_1 j) (by decide) rfl ?_
        skip
        refine z_iinc ((nI (i + 1))) [1, 2, 3, 4, 5, 0, 6] [(0, .ref b), (1, .int ((nI key))), (2, .int ((nI step))), (3, .int ((nI count))), (4, .int ((nI (j + 1)))), (5, .int ((nI (i + 1)))), (6, .int ((nI (key + i * step))))] dX6_insertRow_49 (j := 5) rfl (nI_1 i) (by decide) rfl ?_
        refine z_goto (tgt := 6) dX6_insertRow_52 (by decide) ?_
        refine z_lv [(0, .ref b), (1, .int ((nI key))), (2, .int ((nI step))), (3, .int ((nI count))), (4, .int ((nI (j + 1)))), (5, .int ((nI (i + 1))))] [0, 1, 2, 3, 4, 5] rfl ?_
        have hgr : rowF H T step (m + 1) (key + i * step) j B K V (s 11) (s 13) = rowF H T step m (key + (i + 1) * step) (j + 1) B1 K1 V1 (s1 11) (s1 13) := by rw [rowF_yes hbw hif, h11, h13, show key + (i + 1) * step = key + i * step + step by rw [Nat.add_mul]; omega]
        refine ih (i + 1) (j + 1) B1 K1 V1 s1 a1 (by omega) hR1 (by rw [h10, he, insF_cnt okb hH6 hif]; exact nI_1 _) (by rw [h14, h14', Int32.add_assoc, nI_1]) (by omega) (fun s' a' e => hqN s' a' (hgr.trans e)) (fun j' B' K' V' c' x' s' a' e h1 h2 h3 h4 h5 h6 => hqS j' B' K' V' c' x' s' a' (hgr.trans e) h1 h2 h3 h4 h5 (fun k x5 x6 x10 x11 x13 x14 => (h6 k x5 x6 x10 x11 x13 x14).trans (hrs k x5 x6 x10 x11 x13 x14)))
    · rw [show optI (some bk0) = nI bk0 from rfl]
      obtain ⟨hbB, hKb⟩ := bw_lt okb hbw
      refine z_iconst (v := (-1)) dX6_insertRow_26 (by decide) ?_
      refine z_icmp_eq (tgt := 33) dX6_insertRow_27 (by decide) (fun c_27 => absurd c_27 (nI_neg1 (by omega))) (fun c_27 => ?_)
      refine z_goto (tgt := 49) dX6_insertRow_30 (by decide) ?_
      skip
      refine z_iinc ((nI (i + 1))) [1, 2, 3, 4, 5, 0, 6] [(0, .ref b), (1, .int ((nI key))), (2, .int ((nI step))), (3, .int ((nI count))), (4, .int ((nI j))), (5, .int ((nI (i + 1)))), (6, .int ((nI (key + i * step))))] dX6_insertRow_49 (j := 5) rfl (nI_1 i) (by decide) rfl ?_
      refine z_goto (tgt := 6) dX6_insertRow_52 (by decide) ?_
      refine z_lv [(0, .ref b), (1, .int ((nI key))), (2, .int ((nI step))), (3, .int ((nI count))), (4, .int ((nI j))), (5, .int ((nI (i + 1))))] [0, 1, 2, 3, 4, 5] rfl ?_
      have hgr : rowF H T step (m + 1) (key + i * step) j B K V (s 11) (s 13) = rowF H T step m (key + (i + 1) * step) j B K V (s 11) (s 13) := by rw [rowF_in hbw, show key + (i + 1) * step = key + i * step + step by rw [Nat.add_mul]; omega]
      exact ih (i + 1) j B K V s a (by omega) hR he h14' (by omega) (fun s' a' e => hqN s' a' (hgr.trans e)) (fun j' B' K' V' c' x' s' a' e => hqS j' B' K' V' c' x' s' a' (hgr.trans e))

set_option maxHeartbeats 4000000 in
set_option maxRecDepth 100000 in
theorem w_insertRow {l : zL} {d kc ks n b B H T : Nat} {h : Nat → va_E} {K V : Nat → Nat} {s : Nat → Int32} {a : Nat → Nat → Int32} {Q : zQ} {key step count : Nat} (hb : b + 6 ≤ n) (hR : tR B H T K V s a) (hks : ∀ i, i < count → key + i * step ≤ 9999) (hct : count ≤ 20) (he : s 10 = nI (cnt K B)) (hqN : ∀ s' a', rowF H T step count key 0 B K V (s 11) (s 13) = none → Q (.inl (some (.int (-1)))) n (tW h b s' a')) (hqS : ∀ j' B' K' V' c' x' s' a', rowF H T step count key 0 B K V (s 11) (s 13) = some (j', B', K', V', c', x') → tR B' H T K' V' s' a' → s' 10 = nI (cnt K' B') → s' 11 = c' → s' 13 = x' → s' 14 = s 14 + nI j' → (∀ k, k ≠ 5 → k ≠ 6 → k ≠ 10 → k ≠ 11 → k ≠ 13 → k ≠ 14 → s' k = s k) → Q (.inl (some (.int (nI j')))) n (tW h b s' a')) : Zj l mX6_insertRow (d + 7) kc ks 0 [(0, .ref b), (1, .int ((nI key))), (2, .int ((nI step))), (3, .int ((nI count)))] [] n (tW h b s a) Q := by
  refine z_iconst (v := 0) dX6_insertRow_0 (by decide) ?_
  refine z_istore [1, 2, 3, 4, 0] [(0, .ref b), (1, .int ((nI key))), (2, .int ((nI step))), (3, .int ((nI count))), (4, .int 0)] dX6_insertRow_1 (by decide) rfl ?_
  refine z_iconst (v := 0) dX6_insertRow_3 (by decide) ?_
  refine z_istore [1, 2, 3, 4, 5, 0] [(0, .ref b), (1, .int ((nI key))), (2, .int ((nI step))), (3, .int ((nI count))), (4, .int 0), (5, .int 0)] dX6_insertRow_4 (by decide) rfl ?_
  have e0 : key + 0 * step = key := by omega
  refine w_insertRow_l (x14 := s 14) hb hks hct count 0 0 B K V s a (by omega) hR he (by rw [show nI 0 = 0 from rfl, Int32.add_zero]) (Nat.le_refl _) ?_ ?_
  · rw [e0]; exact hqN
  · rw [e0]; exact hqS
end
section
/-! SUMS AND GREATEST, AS NUMBERS -/
def sumN (f : Nat → Nat) : Nat → Nat
  | 0 => 0
  | i + 1 => sumN f i + f i
def maxN (f : Nat → Nat) : Nat → Nat
  | 0 => 0
  | i + 1 => if maxN f i < f i then f i else maxN f i
theorem sumN_congr {f g : Nat → Nat} : ∀ i, (∀ j, j < i → f j = g j) → sumN f i = sumN g i
  | 0, _ => rfl
  | i + 1, h => by simp only [sumN]; rw [sumN_congr i (fun j hj => h j (by omega)), h i (by omega)]
theorem maxN_congr {f g : Nat → Nat} : ∀ i, (∀ j, j < i → f j = g j) → maxN f i = maxN g i
  | 0, _ => rfl
  | i + 1, h => by simp only [maxN]; rw [maxN_congr i (fun j hj => h j (by omega)), h i (by omega)]
theorem maxN_le {f : Nat → Nat} {M : Nat} (hf : ∀ i, f i ≤ M) : ∀ i, maxN f i ≤ M
  | 0 => Nat.zero_le _
  | i + 1 => by
    simp only [maxN]
    split
    · exact hf i
    · exact maxN_le hf i
theorem sumN_le {f : Nat → Nat} {M : Nat} (hf : ∀ i, f i ≤ M) : ∀ i, sumN f i ≤ M * i
  | 0 => Nat.zero_le _
  | i + 1 => by
    simp only [sumN]
    have h1 := sumN_le hf i
    have h2 := hf i
    rw [Nat.mul_add, Nat.mul_one]
    omega
def offN (B T : Nat) (K : Nat → Nat) (i : Nat) : Nat := if K i = 0 then 0 else dst B T K i
def belN (K : Nat → Nat) (key i : Nat) : Nat := if K i ≠ 0 ∧ K i < key + 1 then 1 else 0
def strN (B H T : Nat) (K : Nat → Nat) (i : Nat) : Nat := if K i ≠ 0 ∧ H ≤ dst B T K i then 1 else 0
def twN (K : Nat → Nat) (i j : Nat) : Nat := if K i ≠ 0 ∧ K i = K j then 1 else 0
def runN (B : Nat) (K : Nat → Nat) : Nat → Nat
  | 0 => 0
  | i + 1 => if K (i % B) = 0 then 0 else runN B K i + 1
def cntH (B H T : Nat) (K : Nat → Nat) (i : Nat) : Nat := sumN (fun k => if isO B T K ((i + k) % B) i = true then 1 else 0) H
def lokF (B H T : Nat) (K : Nat → Nat) (key : Nat) : Nat → Nat → Nat → Nat
  | 0, _, n => n
  | m + 1, k, n => if isO B T K ((hmo B T key + k) % B) (hmo B T key) = true then (if K ((hmo B T key + k) % B) = key + 1 then n + 1 else lokF B H T K key m (k + 1) (n + 1)) else lokF B H T K key m (k + 1) n
def fulF (c : Nat → Nat) : Nat → Nat → Option Nat → Nat → Option Nat
  | 0, _, o, _ => o
  | m + 1, i, o, w => if w < c i then fulF c m (i + 1) (some i) (c i) else fulF c m (i + 1) o w
theorem dst_lt {B T : Nat} {K : Nat → Nat} {i : Nat} (hB : okB B) : dst B T K i < B := Nat.mod_lt _ (by have := hB.le; omega)
theorem offN_le {B T : Nat} {K : Nat → Nat} (hB : okB B) (i : Nat) : offN B T K i ≤ 64 := by
  have h1 := dst_lt (T := T) (K := K) (i := i) hB
  have h2 := hB.le
  unfold offN
  split <;> omega
theorem runN_le {B : Nat} {K : Nat → Nat} : ∀ i, runN B K i ≤ i
  | 0 => Nat.le_refl _
  | i + 1 => by
    have := runN_le (B := B) (K := K) i
    simp only [runN]
    split <;> omega
theorem max_sfh {B T : Nat} {K : Nat → Nat} {i m : Nat} (hB : okB B) (hm : m ≤ 64) : (if nI m < sfh B T K i then sfh B T K i else nI m) = nI (if m < offN B T K i then offN B T K i else m) := by
  have h1 := dst_lt (T := T) (K := K) (i := i) hB
  have h2 := hB.le
  unfold sfh offN
  by_cases hK : K i = 0
  · rw [if_pos hK, if_pos hK, if_neg (show ¬ nI m < -1 from fun e => ?_), if_neg (by omega)]
    exact absurd (Int32.lt_trans e (by decide : (-1 : Int32) < 0)) (nI_pos (by omega))
  · rw [if_neg hK, if_neg hK]
    by_cases h3 : m < dst B T K i
    · rw [if_pos h3, if_pos (nI_lt h3 (by omega))]
    · rw [if_neg h3, if_neg (nI_nlt (by omega) (by omega))]
theorem max_nI {a b : Nat} (ha : a < 2 ^ 31) (hb : b < 2 ^ 31) : (if nI a < nI b then nI b else nI a) = nI (if a < b then b else a) := by
  by_cases h : a < b
  · rw [if_pos h, if_pos (nI_lt h hb)]
  · rw [if_neg h, if_neg (nI_nlt (by omega) ha)]
/-- the bits of a number below 64 -/
def popN (x : Nat) : Nat := x % 2 + x / 2 % 2 + x / 4 % 2 + x / 8 % 2 + x / 16 % 2 + x / 32 % 2
def popI (i0 : Int32) : Int32 :=
  let i1 := i0 - (zushr i0 1 &&& 1431655765)
  let i2 := (i1 &&& 858993459) + (zushr i1 2 &&& 858993459)
  let i3 := (i2 + zushr i2 4) &&& 252645135
  let i4 := i3 + zushr i3 8
  let i5 := i4 + zushr i4 16
  i5 &&& 63
theorem popI_eq : ∀ x, x < 64 → popI (nI x) = nI (popN x) := by decide +kernel
theorem popN_hb {f : Nat → Bool} : ∀ n, n ≤ 6 → popN (hb6 f n) = sumN (fun k => if f k = true then 1 else 0) n := by
  intro n hn
  generalize h0 : f 0 = b0
  generalize h1 : f 1 = b1
  generalize h2 : f 2 = b2
  generalize h3 : f 3 = b3
  generalize h4 : f 4 = b4
  generalize h5 : f 5 = b5
  rcases (show n = 0 ∨ n = 1 ∨ n = 2 ∨ n = 3 ∨ n = 4 ∨ n = 5 ∨ n = 6 by omega) with rfl | rfl | rfl | rfl | rfl | rfl | rfl <;> simp only [hb6, sumN, h0, h1, h2, h3, h4, h5] <;> clear h0 h1 h2 h3 h4 h5 hn <;> revert b0 b1 b2 b3 b4 b5 <;> decide
theorem pop_hop {B H T : Nat} {K : Nat → Nat} {i : Nat} (hH : H ≤ 6) : popI (nI (hop B H T K i)) = nI (cntH B H T K i) := by
  rw [popI_eq _ (hop_lt hH)]
  unfold hop cntH
  rw [popN_hb H hH]
theorem cntH_le {B H T : Nat} {K : Nat → Nat} {i : Nat} (hH : H ≤ 6) : cntH B H T K i ≤ 6 := by
  have := sumN_le (f := fun k => if isO B T K ((i + k) % B) i = true then 1 else 0) (M := 1) (fun k => by split <;> omega) H
  unfold cntH
  omega
theorem shr_out : ∀ H, H < 7 → ∀ x, x < 2 ^ H → nI x >>> (nI H &&& 31) = 0 := by decide +kernel
theorem hop_out {B H T : Nat} {K : Nat → Nat} {i : Nat} (hH : H ≤ 6) : nI (hop B H T K i) >>> (nI H &&& 31) = 0 := shr_out H (by omega) _ (hb6_lt _ _)
end
section
set_option maxHeartbeats 4000000 in
set_option maxRecDepth 100000 in
theorem w_bitCount {l : zL} {d kc ks n : Nat} {h : Nat → va_E} {x : Int32} {Q : zQ} (hq : Q (.inl (some (.int (popI x)))) n h) : Zj l mJ6_bitCount_0f7a4 d kc ks 0 [(0, .int x)] [] n h Q := by
  refine z_iload_n (j := 0) dJ6_bitCount_0f7a4_0 rfl ?_
  refine z_iload_n (j := 0) dJ6_bitCount_0f7a4_1 rfl ?_
  refine z_iconst (v := 1) dJ6_bitCount_0f7a4_2 (by decide) ?_
  refine z_iushr dJ6_bitCount_0f7a4_3 ?_
  refine z_ldcw lJ6_265 dJ6_bitCount_0f7a4_4 ?_
  refine z_iand dJ6_bitCount_0f7a4_7 ?_
  refine z_isub dJ6_bitCount_0f7a4_8 ?_
  refine z_istore_n [0] [(0, .int ((x - ((zushr x 1) &&& 1431655765))))] dJ6_bitCount_0f7a4_9 (by decide) rfl ?_
  refine z_iload_n (j := 0) dJ6_bitCount_0f7a4_10 rfl ?_
  refine z_ldcw lJ6_266 dJ6_bitCount_0f7a4_11 ?_
  refine z_iand dJ6_bitCount_0f7a4_14 ?_
  refine z_iload_n (j := 0) dJ6_bitCount_0f7a4_15 rfl ?_
  refine z_iconst (v := 2) dJ6_bitCount_0f7a4_16 (by decide) ?_
  refine z_iushr dJ6_bitCount_0f7a4_17 ?_
  refine z_ldcw lJ6_266 dJ6_bitCount_0f7a4_18 ?_
  refine z_iand dJ6_bitCount_0f7a4_21 ?_
  refine z_iadd dJ6_bitCount_0f7a4_22 ?_
  refine z_istore_n [0] [(0, .int ((((x - ((zushr x 1) &&& 1431655765)) &&& 858993459) + ((zushr (x - ((zushr x 1) &&& 1431655765)) 2) &&& 858993459))))] dJ6_bitCount_0f7a4_23 (by decide) rfl ?_
  refine z_iload_n (j := 0) dJ6_bitCount_0f7a4_24 rfl ?_
  refine z_iload_n (j := 0) dJ6_bitCount_0f7a4_25 rfl ?_
  refine z_iconst (v := 4) dJ6_bitCount_0f7a4_26 (by decide) ?_
  refine z_iushr dJ6_bitCount_0f7a4_27 ?_
  refine z_iadd dJ6_bitCount_0f7a4_28 ?_
  refine z_ldcw lJ6_267 dJ6_bitCount_0f7a4_29 ?_
  refine z_iand dJ6_bitCount_0f7a4_32 ?_
  refine z_istore_n [0] [(0, .int ((((((x - ((zushr x 1) &&& 1431655765)) &&& 858993459) + ((zushr (x - ((zushr x 1) &&& 1431655765)) 2) &&& 858993459)) + (zushr (((x - ((zushr x 1) &&& 1431655765)) &&& 858993459) + ((zushr (x - ((zushr x 1) &&& 1431655765)) 2) &&& 858993459)) 4)) &&& 252645135)))] dJ6_bitCount_0f7a4_33 (by decide) rfl ?_
  refine z_iload_n (j := 0) dJ6_bitCount_0f7a4_34 rfl ?_
  refine z_iload_n (j := 0) dJ6_bitCount_0f7a4_35 rfl ?_
  refine z_bipush (v := 8) dJ6_bitCount_0f7a4_36 (by decide) ?_
  refine z_iushr dJ6_bitCount_0f7a4_38 ?_
  refine z_iadd dJ6_bitCount_0f7a4_39 ?_
  refine z_istore_n [0] [(0, .int (((((((x - ((zushr x 1) &&& 1431655765)) &&& 858993459) + ((zushr (x - ((zushr x 1) &&& 1431655765)) 2) &&& 858993459)) + (zushr (((x - ((zushr x 1) &&& 1431655765)) &&& 858993459) + ((zushr (x - ((zushr x 1) &&& 1431655765)) 2) &&& 858993459)) 4)) &&& 252645135) + (zushr (((((x - ((zushr x 1) &&& 1431655765)) &&& 858993459) + ((zushr (x - ((zushr x 1) &&& 1431655765)) 2) &&& 858993459)) + (zushr (((x - ((zushr x 1) &&& 1431655765)) &&& 858993459) + ((zushr (x - ((zushr x 1) &&& 1431655765)) 2) &&& 858993459)) 4)) &&& 252645135) 8))))] dJ6_bitCount_0f7a4_40 (by decide) rfl ?_
  refine z_iload_n (j := 0) dJ6_bitCount_0f7a4_41 rfl ?_
  refine z_iload_n (j := 0) dJ6_bitCount_0f7a4_42 rfl ?_
  refine z_bipush (v := 16) dJ6_bitCount_0f7a4_43 (by decide) ?_
  refine z_iushr dJ6_bitCount_0f7a4_45 ?_
  refine z_iadd dJ6_bitCount_0f7a4_46 ?_
  refine z_istore_n [0] [(0, .int ((((((((x - ((zushr x 1) &&& 1431655765)) &&& 858993459) + ((zushr (x - ((zushr x 1) &&& 1431655765)) 2) &&& 858993459)) + (zushr (((x - ((zushr x 1) &&& 1431655765)) &&& 858993459) + ((zushr (x - ((zushr x 1) &&& 1431655765)) 2) &&& 858993459)) 4)) &&& 252645135) + (zushr (((((x - ((zushr x 1) &&& 1431655765)) &&& 858993459) + ((zushr (x - ((zushr x 1) &&& 1431655765)) 2) &&& 858993459)) + (zushr (((x - ((zushr x 1) &&& 1431655765)) &&& 858993459) + ((zushr (x - ((zushr x 1) &&& 1431655765)) 2) &&& 858993459)) 4)) &&& 252645135) 8)) + (zushr ((((((x - ((zushr x 1) &&& 1431655765)) &&& 858993459) + ((zushr (x - ((zushr x 1) &&& 1431655765)) 2) &&& 858993459)) + (zushr (((x - ((zushr x 1) &&& 1431655765)) &&& 858993459) + ((zushr (x - ((zushr x 1) &&& 1431655765)) 2) &&& 858993459)) 4)) &&& 252645135) + (zushr (((((x - ((zushr x 1) &&& 1431655765)) &&& 858993459) + ((zushr (x - ((zushr x 1) &&& 1431655765)) 2) &&& 858993459)) + (zushr (((x - ((zushr x 1) &&& 1431655765)) &&& 858993459) + ((zushr (x - ((zushr x 1) &&& 1431655765)) 2) &&& 858993459)) 4)) &&& 252645135) 8)) 16))))] dJ6_bitCount_0f7a4_47 (by decide) rfl ?_
  refine z_iload_n (j := 0) dJ6_bitCount_0f7a4_48 rfl ?_
  refine z_bipush (v := 63) dJ6_bitCount_0f7a4_49 (by decide) ?_
  refine z_iand dJ6_bitCount_0f7a4_51 ?_
  exact z_iret rfl dJ6_bitCount_0f7a4_52 (hq)

set_option maxHeartbeats 4000000 in
set_option maxRecDepth 100000 in
theorem w_sumOfSteps_l {l : zL} {d kc ks n b B H T : Nat} {h : Nat → va_E} {K V : Nat → Nat} {s : Nat → Int32} {a : Nat → Nat → Int32} {Q : zQ} (hb : b + 6 ≤ n) (hR : tR B H T K V s a) : ∀ m i, i + m = B → Q (.inl (some (.int (nI (sumN (offN B T K) B))))) n (tW h b s a) → Zj l mX6_sumOfSteps (d + 2) kc ks 4 [(0, .ref b), (1, .int ((nI (sumN (offN B T K) i)))), (2, .int ((nI i)))] [] n (tW h b s a) Q := by
  obtain ⟨okb, h2H, hH6, h1T, hT99, e6, e7, e8, ek, ev, eh, ekv, ez⟩ := id hR
  have hle := okb.le
  intro m
  induction m with
  | zero =>
    intro i hi hq
    refine z_iload_n (j := 2) dX6_sumOfSteps_4 rfl ?_
    refine z_aload_n (j := 0) dX6_sumOfSteps_5 rfl ?_
    refine z_get (v := .int (s 6)) (by omega) tW_obj fX6_64 rfl dX6_sumOfSteps_6 ?_
    refine z_icmp_ge (tgt := 30) dX6_sumOfSteps_9 (by decide) (fun c_9 => ?_) (fun c_9 => absurd (by rw [e6]; exact nI_le (by omega) (by omega)) c_9)
    refine z_iload_n (j := 1) dX6_sumOfSteps_30 rfl ?_
    exact z_iret rfl dX6_sumOfSteps_31 (by
        obtain rfl : i = B := by omega
        exact hq)
  | succ m ih =>
    intro i hi hq
    refine z_iload_n (j := 2) dX6_sumOfSteps_4 rfl ?_
    refine z_aload_n (j := 0) dX6_sumOfSteps_5 rfl ?_
    refine z_get (v := .int (s 6)) (by omega) tW_obj fX6_64 rfl dX6_sumOfSteps_6 ?_
    refine z_icmp_ge (tgt := 30) dX6_sumOfSteps_9 (by decide) (fun c_9 => absurd c_9 (by rw [e6]; exact nI_ge (by omega) (by omega))) (fun c_9 => ?_)
    refine z_iload_n (j := 1) dX6_sumOfSteps_12 rfl ?_
    refine z_iconst (v := 0) dX6_sumOfSteps_13 (by decide) ?_
    refine z_aload_n (j := 0) dX6_sumOfSteps_14 rfl ?_
    refine z_iload_n (j := 2) dX6_sumOfSteps_15 rfl ?_
    refine z_cV [.int ((nI i))] (some (.int ((sfh B T K i)))) yoX6_stepsFromHome yvX6_stepsFromHome rfl (by decide) lX6_97 (by omega) tW_obj rfl rfl (Nat.le_of_ble_eq_true rfl) (Nat.le_of_ble_eq_true rfl) dX6_sumOfSteps_16 (z_room (by omega) (Nat.le_refl _) (Nat.le_refl _) (w_stepsFromHome (d := 0) hb hR (show i < B by omega) ⟨rfl, rfl, rfl⟩)) ?_
    refine z_mmax lX6_127 mm_max1 mm_ini mm_max2 (Nat.le_of_ble_eq_true rfl) dX6_sumOfSteps_19 ?_
    rw [show (if (0 : Int32) < sfh B T K i then sfh B T K i else 0) = nI (offN B T K i) from by
      have := max_sfh (T := T) (K := K) (i := i) (m := 0) okb (by omega)
      rw [show nI 0 = 0 from rfl] at this
      rw [this]
      by_cases h0 : 0 < offN B T K i
      · rw [if_pos h0]
      · rw [if_neg h0, show offN B T K i = 0 by omega]]
    refine z_iadd dX6_sumOfSteps_22 ?_
    rw [show ((nI (sumN (offN B T K) i)) + (nI (offN B T K i))) = (nI (sumN (offN B T K) (i + 1))) from nI_add _ _]
    refine z_istore_n [1, 0, 2] [(0, .ref b), (1, .int ((nI (sumN (offN B T K) (i + 1))))), (2, .int ((nI i)))] dX6_sumOfSteps_23 (by decide) rfl ?_
    skip
    refine z_iinc ((nI (i + 1))) [1, 2, 0] [(0, .ref b), (1, .int ((nI (sumN (offN B T K) (i + 1))))), (2, .int ((nI (i + 1))))] dX6_sumOfSteps_24 (j := 2) rfl (nI_1 i) (by decide) rfl ?_
    refine z_goto (tgt := 4) dX6_sumOfSteps_27 (by decide) ?_
    exact ih (i + 1) (by omega) hq

set_option maxHeartbeats 4000000 in
set_option maxRecDepth 100000 in
theorem w_sumOfSteps {l : zL} {d kc ks n b B H T : Nat} {h : Nat → va_E} {K V : Nat → Nat} {s : Nat → Int32} {a : Nat → Nat → Int32} {Q : zQ} (hb : b + 6 ≤ n) (hR : tR B H T K V s a) (hq : Q (.inl (some (.int (nI (sumN (offN B T K) B))))) n (tW h b s a)) : Zj l mX6_sumOfSteps (d + 2) kc ks 0 [(0, .ref b)] [] n (tW h b s a) Q := by
  refine z_iconst (v := 0) dX6_sumOfSteps_0 (by decide) ?_
  refine z_istore_n [1, 0] [(0, .ref b), (1, .int 0)] dX6_sumOfSteps_1 (by decide) rfl ?_
  refine z_iconst (v := 0) dX6_sumOfSteps_2 (by decide) ?_
  refine z_istore_n [1, 2, 0] [(0, .ref b), (1, .int 0), (2, .int 0)] dX6_sumOfSteps_3 (by decide) rfl ?_
  exact w_sumOfSteps_l hb hR B 0 (by omega) hq

set_option maxHeartbeats 4000000 in
set_option maxRecDepth 100000 in
theorem w_mostSteps_l {l : zL} {d kc ks n b B H T : Nat} {h : Nat → va_E} {K V : Nat → Nat} {s : Nat → Int32} {a : Nat → Nat → Int32} {Q : zQ} (hb : b + 6 ≤ n) (hR : tR B H T K V s a) : ∀ m i, i + m = B → Q (.inl (some (.int (nI (maxN (offN B T K) B))))) n (tW h b s a) → Zj l mX6_mostSteps (d + 2) kc ks 4 [(0, .ref b), (1, .int ((nI (maxN (offN B T K) i)))), (2, .int ((nI i)))] [] n (tW h b s a) Q := by
  obtain ⟨okb, h2H, hH6, h1T, hT99, e6, e7, e8, ek, ev, eh, ekv, ez⟩ := id hR
  have hle := okb.le
  intro m
  induction m with
  | zero =>
    intro i hi hq
    refine z_iload_n (j := 2) dX6_mostSteps_4 rfl ?_
    refine z_aload_n (j := 0) dX6_mostSteps_5 rfl ?_
    refine z_get (v := .int (s 6)) (by omega) tW_obj fX6_64 rfl dX6_mostSteps_6 ?_
    refine z_icmp_ge (tgt := 28) dX6_mostSteps_9 (by decide) (fun c_9 => ?_) (fun c_9 => absurd (by rw [e6]; exact nI_le (by omega) (by omega)) c_9)
    refine z_iload_n (j := 1) dX6_mostSteps_28 rfl ?_
    exact z_iret rfl dX6_mostSteps_29 (by
        obtain rfl : i = B := by omega
        exact hq)
  | succ m ih =>
    intro i hi hq
    refine z_iload_n (j := 2) dX6_mostSteps_4 rfl ?_
    refine z_aload_n (j := 0) dX6_mostSteps_5 rfl ?_
    refine z_get (v := .int (s 6)) (by omega) tW_obj fX6_64 rfl dX6_mostSteps_6 ?_
    refine z_icmp_ge (tgt := 28) dX6_mostSteps_9 (by decide) (fun c_9 => absurd c_9 (by rw [e6]; exact nI_ge (by omega) (by omega))) (fun c_9 => ?_)
    refine z_iload_n (j := 1) dX6_mostSteps_12 rfl ?_
    refine z_aload_n (j := 0) dX6_mostSteps_13 rfl ?_
    refine z_iload_n (j := 2) dX6_mostSteps_14 rfl ?_
    refine z_cV [.int ((nI i))] (some (.int ((sfh B T K i)))) yoX6_stepsFromHome yvX6_stepsFromHome rfl (by decide) lX6_97 (by omega) tW_obj rfl rfl (Nat.le_of_ble_eq_true rfl) (Nat.le_of_ble_eq_true rfl) dX6_mostSteps_15 (z_room (by omega) (Nat.le_refl _) (Nat.le_refl _) (w_stepsFromHome (d := 0) hb hR (show i < B by omega) ⟨rfl, rfl, rfl⟩)) ?_
    refine z_mmax lX6_127 mm_max1 mm_ini mm_max2 (Nat.le_of_ble_eq_true rfl) dX6_mostSteps_18 ?_
    rw [max_sfh okb (maxN_le (offN_le okb) i)]
    refine z_istore_n [1, 0, 2] [(0, .ref b), (1, .int ((nI (maxN (offN B T K) (i + 1))))), (2, .int ((nI i)))] dX6_mostSteps_21 (by decide) rfl ?_
    skip
    refine z_iinc ((nI (i + 1))) [1, 2, 0] [(0, .ref b), (1, .int ((nI (maxN (offN B T K) (i + 1))))), (2, .int ((nI (i + 1))))] dX6_mostSteps_22 (j := 2) rfl (nI_1 i) (by decide) rfl ?_
    refine z_goto (tgt := 4) dX6_mostSteps_25 (by decide) ?_
    exact ih (i + 1) (by omega) hq

set_option maxHeartbeats 4000000 in
set_option maxRecDepth 100000 in
theorem w_mostSteps {l : zL} {d kc ks n b B H T : Nat} {h : Nat → va_E} {K V : Nat → Nat} {s : Nat → Int32} {a : Nat → Nat → Int32} {Q : zQ} (hb : b + 6 ≤ n) (hR : tR B H T K V s a) (hq : Q (.inl (some (.int (nI (maxN (offN B T K) B))))) n (tW h b s a)) : Zj l mX6_mostSteps (d + 2) kc ks 0 [(0, .ref b)] [] n (tW h b s a) Q := by
  refine z_iconst (v := 0) dX6_mostSteps_0 (by decide) ?_
  refine z_istore_n [1, 0] [(0, .ref b), (1, .int 0)] dX6_mostSteps_1 (by decide) rfl ?_
  refine z_iconst (v := 0) dX6_mostSteps_2 (by decide) ?_
  refine z_istore_n [1, 2, 0] [(0, .ref b), (1, .int 0), (2, .int 0)] dX6_mostSteps_3 (by decide) rfl ?_
  exact w_mostSteps_l hb hR B 0 (by omega) hq

set_option maxHeartbeats 4000000 in
set_option maxRecDepth 100000 in
theorem w_countBelow_l {l : zL} {d kc ks n b B H T : Nat} {h : Nat → va_E} {K V : Nat → Nat} {s : Nat → Int32} {a : Nat → Nat → Int32} {Q : zQ} {key : Nat} (hb : b + 6 ≤ n) (hR : tR B H T K V s a) (hkey : key ≤ 9999) : ∀ m i, i + m = B → Q (.inl (some (.int (nI (sumN (belN K key) B))))) n (tW h b s a) → Zj l mX6_countBelow (d + 1) kc ks 4 [(0, .ref b), (1, .int ((nI key))), (2, .int ((nI (sumN (belN K key) i)))), (3, .int ((nI i)))] [] n (tW h b s a) Q := by
  obtain ⟨okb, h2H, hH6, h1T, hT99, e6, e7, e8, ek, ev, eh, ekv, ez⟩ := id hR
  have hle := okb.le
  intro m
  induction m with
  | zero =>
    intro i hi hq
    refine z_iload_n (j := 3) dX6_countBelow_4 rfl ?_
    refine z_aload_n (j := 0) dX6_countBelow_5 rfl ?_
    refine z_get (v := .int (s 6)) (by omega) tW_obj fX6_64 rfl dX6_countBelow_6 ?_
    refine z_icmp_ge (tgt := 39) dX6_countBelow_9 (by decide) (fun c_9 => ?_) (fun c_9 => absurd (by rw [e6]; exact nI_le (by omega) (by omega)) c_9)
    refine z_iload_n (j := 2) dX6_countBelow_39 rfl ?_
    exact z_iret rfl dX6_countBelow_40 (by
        obtain rfl : i = B := by omega
        exact hq)
  | succ m ih =>
    intro i hi hq
    refine z_iload_n (j := 3) dX6_countBelow_4 rfl ?_
    refine z_aload_n (j := 0) dX6_countBelow_5 rfl ?_
    refine z_get (v := .int (s 6)) (by omega) tW_obj fX6_64 rfl dX6_countBelow_6 ?_
    refine z_icmp_ge (tgt := 39) dX6_countBelow_9 (by decide) (fun c_9 => absurd c_9 (by rw [e6]; exact nI_ge (by omega) (by omega))) (fun c_9 => ?_)
    refine z_aload_n (j := 0) dX6_countBelow_12 rfl ?_
    refine z_iload_n (j := 3) dX6_countBelow_13 rfl ?_
    refine z_cV [.int ((nI i))] (some (.int ((tkey (K i))))) yoX6_keyIn yvX6_keyIn rfl (by decide) lX6_124 (by omega) tW_obj rfl rfl (Nat.le_of_ble_eq_true rfl) (Nat.le_of_ble_eq_true rfl) dX6_countBelow_14 (z_room (by omega) (Nat.le_refl _) (Nat.le_refl _) (w_keyIn (d := 0) hb hR (show i < B by omega) ⟨rfl, rfl, rfl⟩)) ?_
    refine z_iconst (v := (-1)) dX6_countBelow_17 (by decide) ?_
    refine z_icmp_eq (tgt := 33) dX6_countBelow_18 (by decide) (fun c_18 => ?_) (fun c_18 => ?_)
    · skip
      refine z_iinc ((nI (i + 1))) [1, 2, 3, 0] [(0, .ref b), (1, .int ((nI key))), (2, .int ((nI (sumN (belN K key) i)))), (3, .int ((nI (i + 1))))] dX6_countBelow_33 (j := 3) rfl (nI_1 i) (by decide) rfl ?_
      refine z_goto (tgt := 4) dX6_countBelow_36 (by decide) ?_
      have hb0 : belN K key i = 0 := if_neg (fun e => e.1 ((tkey_eq (ekv i).1).mp c_18))
      have hs : sumN (belN K key) (i + 1) = sumN (belN K key) i + 0 := by simp only [sumN, hb0]
      refine ih (i + 1) (by omega) hq |> fun z => ?_
      rw [hs] at z
      exact z
    · refine z_aload_n (j := 0) dX6_countBelow_21 rfl ?_
      refine z_iload_n (j := 3) dX6_countBelow_22 rfl ?_
      refine z_cV [.int ((nI i))] (some (.int ((tkey (K i))))) yoX6_keyIn yvX6_keyIn rfl (by decide) lX6_124 (by omega) tW_obj rfl rfl (Nat.le_of_ble_eq_true rfl) (Nat.le_of_ble_eq_true rfl) dX6_countBelow_23 (z_room (by omega) (Nat.le_refl _) (Nat.le_refl _) (w_keyIn (d := 0) hb hR (show i < B by omega) ⟨rfl, rfl, rfl⟩)) ?_
      refine z_iload_n (j := 1) dX6_countBelow_26 rfl ?_
      refine z_icmp_ge (tgt := 33) dX6_countBelow_27 (by decide) (fun c_27 => ?_) (fun c_27 => ?_)
      · skip
        refine z_iinc ((nI (i + 1))) [1, 2, 3, 0] [(0, .ref b), (1, .int ((nI key))), (2, .int ((nI (sumN (belN K key) i)))), (3, .int ((nI (i + 1))))] dX6_countBelow_33 (j := 3) rfl (nI_1 i) (by decide) rfl ?_
        refine z_goto (tgt := 4) dX6_countBelow_36 (by decide) ?_
        have hK : K i ≠ 0 := fun e => c_18 ((tkey_eq (ekv i).1).mpr e)
        have hb0 : belN K key i = 0 := if_neg (fun e => by
          have := ekv i
          rw [tkey_ne hK] at c_27
          have := (nI_leI (by omega) (by omega)).mp c_27
          omega)
        have hs : sumN (belN K key) (i + 1) = sumN (belN K key) i + 0 := by simp only [sumN, hb0]
        refine ih (i + 1) (by omega) hq |> fun z => ?_
        rw [hs] at z
        exact z
      · skip
        refine z_iinc ((nI (sumN (belN K key) i + 1))) [1, 2, 0, 3] [(0, .ref b), (1, .int ((nI key))), (2, .int ((nI (sumN (belN K key) i + 1)))), (3, .int ((nI i)))] dX6_countBelow_30 (j := 2) rfl (nI_1 _) (by decide) rfl ?_
        skip
        refine z_iinc ((nI (i + 1))) [1, 2, 3, 0] [(0, .ref b), (1, .int ((nI key))), (2, .int ((nI (sumN (belN K key) i + 1)))), (3, .int ((nI (i + 1))))] dX6_countBelow_33 (j := 3) rfl (nI_1 i) (by decide) rfl ?_
        refine z_goto (tgt := 4) dX6_countBelow_36 (by decide) ?_
        have hK : K i ≠ 0 := fun e => c_18 ((tkey_eq (ekv i).1).mpr e)
        have hb0 : belN K key i = 1 := if_pos ⟨hK, by
          have := ekv i
          rw [tkey_ne hK] at c_27
          by_cases h9 : K i < key + 1
          · exact h9
          · exact absurd (nI_le (show key ≤ K i - 1 by omega) (by omega)) c_27⟩
        have hs : sumN (belN K key) (i + 1) = sumN (belN K key) i + 1 := by simp only [sumN, hb0]
        refine ih (i + 1) (by omega) hq |> fun z => ?_
        rw [hs] at z
        exact z

set_option maxHeartbeats 4000000 in
set_option maxRecDepth 100000 in
theorem w_countBelow {l : zL} {d kc ks n b B H T : Nat} {h : Nat → va_E} {K V : Nat → Nat} {s : Nat → Int32} {a : Nat → Nat → Int32} {Q : zQ} {key : Nat} (hb : b + 6 ≤ n) (hR : tR B H T K V s a) (hkey : key ≤ 9999) (hq : Q (.inl (some (.int (nI (sumN (belN K key) B))))) n (tW h b s a)) : Zj l mX6_countBelow (d + 1) kc ks 0 [(0, .ref b), (1, .int ((nI key)))] [] n (tW h b s a) Q := by
  refine z_iconst (v := 0) dX6_countBelow_0 (by decide) ?_
  refine z_istore_n [1, 2, 0] [(0, .ref b), (1, .int ((nI key))), (2, .int 0)] dX6_countBelow_1 (by decide) rfl ?_
  refine z_iconst (v := 0) dX6_countBelow_2 (by decide) ?_
  refine z_istore_n [1, 2, 3, 0] [(0, .ref b), (1, .int ((nI key))), (2, .int 0), (3, .int 0)] dX6_countBelow_3 (by decide) rfl ?_
  exact w_countBelow_l hb hR hkey B 0 (by omega) hq

set_option maxHeartbeats 4000000 in
set_option maxRecDepth 100000 in
theorem w_strayEntries_l {l : zL} {d kc ks n b B H T : Nat} {h : Nat → va_E} {K V : Nat → Nat} {s : Nat → Int32} {a : Nat → Nat → Int32} {Q : zQ} (hb : b + 6 ≤ n) (hR : tR B H T K V s a) : ∀ m i, i + m = B → Q (.inl (some (.int (nI (sumN (strN B H T K) B))))) n (tW h b s a) → Zj l mX6_strayEntries (d + 2) kc ks 4 [(0, .ref b), (1, .int ((nI (sumN (strN B H T K) i)))), (2, .int ((nI i)))] [] n (tW h b s a) Q := by
  obtain ⟨okb, h2H, hH6, h1T, hT99, e6, e7, e8, ek, ev, eh, ekv, ez⟩ := id hR
  have hle := okb.le
  intro m
  induction m with
  | zero =>
    intro i hi hq
    refine z_iload_n (j := 2) dX6_strayEntries_4 rfl ?_
    refine z_aload_n (j := 0) dX6_strayEntries_5 rfl ?_
    refine z_get (v := .int (s 6)) (by omega) tW_obj fX6_64 rfl dX6_strayEntries_6 ?_
    refine z_icmp_ge (tgt := 33) dX6_strayEntries_9 (by decide) (fun c_9 => ?_) (fun c_9 => absurd (by rw [e6]; exact nI_le (by omega) (by omega)) c_9)
    refine z_iload_n (j := 1) dX6_strayEntries_33 rfl ?_
    exact z_iret rfl dX6_strayEntries_34 (by
        obtain rfl : i = B := by omega
        exact hq)
  | succ m ih =>
    intro i hi hq
    refine z_iload_n (j := 2) dX6_strayEntries_4 rfl ?_
    refine z_aload_n (j := 0) dX6_strayEntries_5 rfl ?_
    refine z_get (v := .int (s 6)) (by omega) tW_obj fX6_64 rfl dX6_strayEntries_6 ?_
    refine z_icmp_ge (tgt := 33) dX6_strayEntries_9 (by decide) (fun c_9 => absurd c_9 (by rw [e6]; exact nI_ge (by omega) (by omega))) (fun c_9 => ?_)
    refine z_aload_n (j := 0) dX6_strayEntries_12 rfl ?_
    refine z_iload_n (j := 2) dX6_strayEntries_13 rfl ?_
    refine z_cV [.int ((nI i))] (some (.int ((sfh B T K i)))) yoX6_stepsFromHome yvX6_stepsFromHome rfl (by decide) lX6_97 (by omega) tW_obj rfl rfl (Nat.le_of_ble_eq_true rfl) (Nat.le_of_ble_eq_true rfl) dX6_strayEntries_14 (z_room (by omega) (Nat.le_refl _) (Nat.le_refl _) (w_stepsFromHome (d := 0) hb hR (show i < B by omega) ⟨rfl, rfl, rfl⟩)) ?_
    refine z_aload_n (j := 0) dX6_strayEntries_17 rfl ?_
    refine z_get (v := .int (s 7)) (by omega) tW_obj fX6_31 rfl dX6_strayEntries_18 ?_
    refine z_icmp_lt (tgt := 27) dX6_strayEntries_21 (by decide) (fun c_21 => ?_) (fun c_21 => ?_)
    · skip
      refine z_iinc ((nI (i + 1))) [1, 2, 0] [(0, .ref b), (1, .int ((nI (sumN (strN B H T K) i)))), (2, .int ((nI (i + 1))))] dX6_strayEntries_27 (j := 2) rfl (nI_1 i) (by decide) rfl ?_
      refine z_goto (tgt := 4) dX6_strayEntries_30 (by decide) ?_
      have hb0 : strN B H T K i = 0 := if_neg (fun e => by
        have hd := dst_lt (T := T) (K := K) (i := i) okb
        rw [sfh, if_neg e.1, e7] at c_21
        have := (nI_ltI (by omega) (by omega)).mp c_21
        omega)
      have hs : sumN (strN B H T K) (i + 1) = sumN (strN B H T K) i + 0 := by simp only [sumN, hb0]
      refine ih (i + 1) (by omega) hq |> fun z => ?_
      rw [hs] at z
      exact z
    · skip
      refine z_iinc ((nI (sumN (strN B H T K) i + 1))) [1, 0, 2] [(0, .ref b), (1, .int ((nI (sumN (strN B H T K) i + 1)))), (2, .int ((nI i)))] dX6_strayEntries_24 (j := 1) rfl (nI_1 _) (by decide) rfl ?_
      skip
      refine z_iinc ((nI (i + 1))) [1, 2, 0] [(0, .ref b), (1, .int ((nI (sumN (strN B H T K) i + 1)))), (2, .int ((nI (i + 1))))] dX6_strayEntries_27 (j := 2) rfl (nI_1 i) (by decide) rfl ?_
      refine z_goto (tgt := 4) dX6_strayEntries_30 (by decide) ?_
      have hb0 : strN B H T K i = 1 := by
        have hd := dst_lt (T := T) (K := K) (i := i) okb
        rw [sfh, e7] at c_21
        by_cases hK : K i = 0
        · rw [if_pos hK] at c_21
          exact absurd (Int32.lt_of_lt_of_le (by decide : (-1 : Int32) < 0) (nI_pos' (by omega))) c_21
        · rw [if_neg hK] at c_21
          refine if_pos ⟨hK, ?_⟩
          by_cases h9 : H ≤ dst B T K i
          · exact h9
          · exact absurd (nI_lt (show dst B T K i < H by omega) (by omega)) c_21
      have hs : sumN (strN B H T K) (i + 1) = sumN (strN B H T K) i + 1 := by simp only [sumN, hb0]
      refine ih (i + 1) (by omega) hq |> fun z => ?_
      rw [hs] at z
      exact z

set_option maxHeartbeats 4000000 in
set_option maxRecDepth 100000 in
theorem w_strayEntries {l : zL} {d kc ks n b B H T : Nat} {h : Nat → va_E} {K V : Nat → Nat} {s : Nat → Int32} {a : Nat → Nat → Int32} {Q : zQ} (hb : b + 6 ≤ n) (hR : tR B H T K V s a) (hq : Q (.inl (some (.int (nI (sumN (strN B H T K) B))))) n (tW h b s a)) : Zj l mX6_strayEntries (d + 2) kc ks 0 [(0, .ref b)] [] n (tW h b s a) Q := by
  refine z_iconst (v := 0) dX6_strayEntries_0 (by decide) ?_
  refine z_istore_n [1, 0] [(0, .ref b), (1, .int 0)] dX6_strayEntries_1 (by decide) rfl ?_
  refine z_iconst (v := 0) dX6_strayEntries_2 (by decide) ?_
  refine z_istore_n [1, 2, 0] [(0, .ref b), (1, .int 0), (2, .int 0)] dX6_strayEntries_3 (by decide) rfl ?_
  exact w_strayEntries_l hb hR B 0 (by omega) hq

set_option maxHeartbeats 4000000 in
set_option maxRecDepth 100000 in
theorem w_fullest_l {l : zL} {d kc ks n b B H T : Nat} {h : Nat → va_E} {K V : Nat → Nat} {s : Nat → Int32} {a : Nat → Nat → Int32} {Q : zQ} (hb : b + 6 ≤ n) (hR : tR B H T K V s a) : ∀ m i (o : Option Nat) (x : Nat), i + m = B → x ≤ 6 → Q (.inl (some (.int (optI (fulF (cntH B H T K) m i o x))))) n (tW h b s a) → Zj l mX6_fullest (d + 1) kc ks 6 [(0, .ref b), (1, .int ((optI o))), (2, .int ((nI x))), (3, .int ((nI i)))] [] n (tW h b s a) Q := by
  obtain ⟨okb, h2H, hH6, h1T, hT99, e6, e7, e8, ek, ev, eh, ekv, ez⟩ := id hR
  have hle := okb.le
  intro m
  induction m with
  | zero =>
    intro i o x hi hx hq
    refine z_iload_n (j := 3) dX6_fullest_6 rfl ?_
    refine z_aload_n (j := 0) dX6_fullest_7 rfl ?_
    refine z_get (v := .int (s 6)) (by omega) tW_obj fX6_64 rfl dX6_fullest_8 ?_
    refine z_icmp_ge (tgt := 41) dX6_fullest_11 (by decide) (fun c_11 => ?_) (fun c_11 => absurd (by rw [e6]; exact nI_le (by omega) (by omega)) c_11)
    refine z_iload_n (j := 1) dX6_fullest_41 rfl ?_
    exact z_iret rfl dX6_fullest_42 (hq)
  | succ m ih =>
    intro i o x hi hx hq
    have hcH := cntH_le (B := B) (H := H) (T := T) (K := K) (i := i) hH6
    refine z_iload_n (j := 3) dX6_fullest_6 rfl ?_
    refine z_aload_n (j := 0) dX6_fullest_7 rfl ?_
    refine z_get (v := .int (s 6)) (by omega) tW_obj fX6_64 rfl dX6_fullest_8 ?_
    refine z_icmp_ge (tgt := 41) dX6_fullest_11 (by decide) (fun c_11 => absurd c_11 (by rw [e6]; exact nI_ge (by omega) (by omega))) (fun c_11 => ?_)
    refine z_aload_n (j := 0) dX6_fullest_14 rfl ?_
    refine z_iload_n (j := 3) dX6_fullest_15 rfl ?_
    refine z_cV [.int ((nI i))] (some (.int ((nI (hop B H T K i))))) yoX6_hopsIn yvX6_hopsIn rfl (by decide) lX6_115 (by omega) tW_obj rfl rfl (Nat.le_of_ble_eq_true rfl) (Nat.le_of_ble_eq_true rfl) dX6_fullest_16 (z_room (by omega) (Nat.le_refl _) (Nat.le_refl _) (w_hopsIn (d := 0) hb hR (show i < B by omega) ⟨rfl, rfl, rfl⟩)) ?_
    refine z_cS [.int ((nI (hop B H T K i)))] (some (.int ((popI (nI (hop B H T K i)))))) yoJ6_bitCount_0f7a4 ysJ6_bitCount_0f7a4 rfl (by decide) lX6_135 rfl (Nat.le_of_ble_eq_true rfl) (Nat.le_of_ble_eq_true rfl) dX6_fullest_19 (z_room (by omega) (Nat.le_refl _) (Nat.le_refl _) (w_bitCount (d := 0)  ⟨rfl, rfl, rfl⟩)) ?_
    rw [show (popI (nI (hop B H T K i))) = (nI (cntH B H T K i)) from pop_hop hH6]
    refine z_istore [1, 2, 3, 4, 0] [(0, .ref b), (1, .int ((optI o))), (2, .int ((nI x))), (3, .int ((nI i))), (4, .int ((nI (cntH B H T K i))))] dX6_fullest_22 (by decide) rfl ?_
    refine z_iload (j := 4) dX6_fullest_24 rfl ?_
    refine z_iload_n (j := 2) dX6_fullest_26 rfl ?_
    refine z_icmp_le (tgt := 35) dX6_fullest_27 (by decide) (fun c_27 => ?_) (fun c_27 => ?_)
    · skip
      refine z_iinc ((nI (i + 1))) [1, 2, 3, 0, 4] [(0, .ref b), (1, .int ((optI o))), (2, .int ((nI x))), (3, .int ((nI (i + 1)))), (4, .int ((nI (cntH B H T K i))))] dX6_fullest_35 (j := 3) rfl (nI_1 i) (by decide) rfl ?_
      refine z_goto (tgt := 6) dX6_fullest_38 (by decide) ?_
      refine z_lv [(0, .ref b), (1, .int ((optI o))), (2, .int ((nI x))), (3, .int ((nI (i + 1))))] [0, 1, 2, 3] rfl ?_
      have hw : ¬ x < cntH B H T K i := by have := (nI_leI (by omega) (by omega)).mp c_27; omega
      refine ih (i + 1) o x (by omega) hx ?_
      rw [fulF, if_neg hw] at hq
      exact hq
    · refine z_iload_n (j := 3) dX6_fullest_30 rfl ?_
      refine z_istore_n [1, 0, 2, 3, 4] [(0, .ref b), (1, .int ((nI i))), (2, .int ((nI x))), (3, .int ((nI i))), (4, .int ((nI (cntH B H T K i))))] dX6_fullest_31 (by decide) rfl ?_
      refine z_iload (j := 4) dX6_fullest_32 rfl ?_
      refine z_istore_n [1, 2, 0, 3, 4] [(0, .ref b), (1, .int ((nI i))), (2, .int ((nI (cntH B H T K i)))), (3, .int ((nI i))), (4, .int ((nI (cntH B H T K i))))] dX6_fullest_34 (by decide) rfl ?_
      skip
      refine z_iinc ((nI (i + 1))) [1, 2, 3, 0, 4] [(0, .ref b), (1, .int ((nI i))), (2, .int ((nI (cntH B H T K i)))), (3, .int ((nI (i + 1)))), (4, .int ((nI (cntH B H T K i))))] dX6_fullest_35 (j := 3) rfl (nI_1 i) (by decide) rfl ?_
      refine z_goto (tgt := 6) dX6_fullest_38 (by decide) ?_
      refine z_lv [(0, .ref b), (1, .int ((nI i))), (2, .int ((nI (cntH B H T K i)))), (3, .int ((nI (i + 1))))] [0, 1, 2, 3] rfl ?_
      have hw : x < cntH B H T K i := by
        by_cases h9 : x < cntH B H T K i
        · exact h9
        · exact absurd (nI_le (show cntH B H T K i ≤ x by omega) (by omega)) c_27
      refine ih (i + 1) (some i) (cntH B H T K i) (by omega) hcH ?_
      rw [fulF, if_pos hw] at hq
      exact hq

set_option maxHeartbeats 4000000 in
set_option maxRecDepth 100000 in
theorem w_fullest {l : zL} {d kc ks n b B H T : Nat} {h : Nat → va_E} {K V : Nat → Nat} {s : Nat → Int32} {a : Nat → Nat → Int32} {Q : zQ} (hb : b + 6 ≤ n) (hR : tR B H T K V s a) (hq : Q (.inl (some (.int (optI (fulF (cntH B H T K) B 0 none 0))))) n (tW h b s a)) : Zj l mX6_fullest (d + 1) kc ks 0 [(0, .ref b)] [] n (tW h b s a) Q := by
  refine z_iconst (v := (-1)) dX6_fullest_0 (by decide) ?_
  refine z_istore_n [1, 0] [(0, .ref b), (1, .int ((-1)))] dX6_fullest_1 (by decide) rfl ?_
  refine z_iconst (v := 0) dX6_fullest_2 (by decide) ?_
  refine z_istore_n [1, 2, 0] [(0, .ref b), (1, .int ((-1))), (2, .int 0)] dX6_fullest_3 (by decide) rfl ?_
  refine z_iconst (v := 0) dX6_fullest_4 (by decide) ?_
  refine z_istore_n [1, 2, 3, 0] [(0, .ref b), (1, .int ((-1))), (2, .int 0), (3, .int 0)] dX6_fullest_5 (by decide) rfl ?_
  exact w_fullest_l hb hR B 0 none 0 (by omega) (by omega) hq

theorem max_run {B : Nat} {K : Nat → Nat} : ∀ i, maxN (fun j => runN B K (j + 1)) i ≤ i
  | 0 => Nat.le_refl _
  | i + 1 => by
    have h1 := max_run (B := B) (K := K) i
    have h2 := runN_le (B := B) (K := K) (i + 1)
    simp only [maxN]
    split <;> omega
theorem min_nI {a b : Nat} (ha : a < 2 ^ 31) (hb : b < 2 ^ 31) : (if nI a < nI b then nI a else nI b) = nI (if a < b then a else b) := by
  by_cases h : a < b
  · rw [if_pos h, if_pos (nI_lt h hb)]
  · rw [if_neg h, if_neg (nI_nlt (by omega) ha)]

set_option maxHeartbeats 4000000 in
set_option maxRecDepth 100000 in
theorem w_longestFull_l {l : zL} {d kc ks n b B H T : Nat} {h : Nat → va_E} {K V : Nat → Nat} {s : Nat → Int32} {a : Nat → Nat → Int32} {Q : zQ} (hb : b + 6 ≤ n) (hR : tR B H T K V s a) : ∀ m i, i + m = 2 * B → Q (.inl (some (.int (nI (if B < maxN (fun j => runN B K (j + 1)) (2 * B) then B else maxN (fun j => runN B K (j + 1)) (2 * B)))))) n (tW h b s a) → Zj l mX6_longestFull (d + 1) kc ks 6 [(0, .ref b), (1, .int ((nI (maxN (fun j => runN B K (j + 1)) i)))), (2, .int ((nI (runN B K i)))), (3, .int ((nI i)))] [] n (tW h b s a) Q := by
  obtain ⟨okb, h2H, hH6, h1T, hT99, e6, e7, e8, ek, ev, eh, ekv, ez⟩ := id hR
  have hle := okb.le
  have e2B : 2 * s 6 = nI (2 * B) := by rw [e6, show (2 : Int32) = nI 2 from rfl, pk_mul]
  intro m
  induction m with
  | zero =>
    intro i hi hq
    have hmx := max_run (B := B) (K := K) i
    refine z_iload_n (j := 3) dX6_longestFull_6 rfl ?_
    refine z_iconst (v := 2) dX6_longestFull_7 (by decide) ?_
    refine z_aload_n (j := 0) dX6_longestFull_8 rfl ?_
    refine z_get (v := .int (s 6)) (by omega) tW_obj fX6_64 rfl dX6_longestFull_9 ?_
    refine z_imul dX6_longestFull_12 ?_
    refine z_icmp_ge (tgt := 52) dX6_longestFull_13 (by decide) (fun c_13 => ?_) (fun c_13 => absurd (by rw [e2B]; exact nI_le (by omega) (by omega)) c_13)
    refine z_iload_n (j := 1) dX6_longestFull_52 rfl ?_
    refine z_aload_n (j := 0) dX6_longestFull_53 rfl ?_
    refine z_get (v := .int (s 6)) (by omega) tW_obj fX6_64 rfl dX6_longestFull_54 ?_
    refine z_mmin lX6_132 mm_min1 mm_ini mm_min2 (Nat.le_of_ble_eq_true rfl) dX6_longestFull_57 ?_
    obtain rfl : i = 2 * B := by omega
    rw [e6, min_nI (show B < 2 ^ 31 by omega) (show maxN (fun j => runN B K (j + 1)) (2 * B) < 2 ^ 31 by omega)]
    exact z_iret rfl dX6_longestFull_60 (hq)
  | succ m ih =>
    intro i hi hq
    have hmx := max_run (B := B) (K := K) i
    refine z_iload_n (j := 3) dX6_longestFull_6 rfl ?_
    refine z_iconst (v := 2) dX6_longestFull_7 (by decide) ?_
    refine z_aload_n (j := 0) dX6_longestFull_8 rfl ?_
    refine z_get (v := .int (s 6)) (by omega) tW_obj fX6_64 rfl dX6_longestFull_9 ?_
    refine z_imul dX6_longestFull_12 ?_
    refine z_icmp_ge (tgt := 52) dX6_longestFull_13 (by decide) (fun c_13 => absurd c_13 (by rw [e2B]; exact nI_ge (by omega) (by omega))) (fun c_13 => ?_)
    refine z_aload_n (j := 0) dX6_longestFull_16 rfl ?_
    refine z_iload_n (j := 3) dX6_longestFull_17 rfl ?_
    refine z_aload_n (j := 0) dX6_longestFull_18 rfl ?_
    refine z_get (v := .int (s 6)) (by omega) tW_obj fX6_64 rfl dX6_longestFull_19 ?_
    refine z_iconst (v := 1) dX6_longestFull_22 (by decide) ?_
    refine z_isub dX6_longestFull_23 ?_
    refine z_iand dX6_longestFull_24 ?_
    rw [show ((nI i) &&& ((s 6) - 1)) = (nI (i % B)) from by rw [e6]; exact mB okb (by omega)]
    refine z_cV [.int ((nI (i % B)))] (some (.int ((tkey (K (i % B)))))) yoX6_keyIn yvX6_keyIn rfl (by decide) lX6_124 (by omega) tW_obj rfl rfl (Nat.le_of_ble_eq_true rfl) (Nat.le_of_ble_eq_true rfl) dX6_longestFull_25 (z_room (by omega) (Nat.le_refl _) (Nat.le_refl _) (w_keyIn (d := 0) hb hR (mod_lt' okb) ⟨rfl, rfl, rfl⟩)) ?_
    refine z_iconst (v := (-1)) dX6_longestFull_28 (by decide) ?_
    refine z_icmp_ne (tgt := 36) dX6_longestFull_29 (by decide) (fun c_29 => ?_) (fun c_29 => ?_)
    · refine z_iload_n (j := 2) dX6_longestFull_36 rfl ?_
      refine z_iconst (v := 1) dX6_longestFull_37 (by decide) ?_
      refine z_iadd dX6_longestFull_38 ?_
      rw [show nI (runN B K i) + 1 = nI (runN B K (i + 1)) from by rw [runN, if_neg (fun e => c_29 ((tkey_eq (ekv _).1).mpr e))]; exact nI_1 _]
      refine z_istore_n [1, 2, 0, 3] [(0, .ref b), (1, .int ((nI (maxN (fun j => runN B K (j + 1)) i)))), (2, .int ((nI (runN B K (i + 1))))), (3, .int ((nI i)))] dX6_longestFull_39 (by decide) rfl ?_
      refine z_iload_n (j := 1) dX6_longestFull_40 rfl ?_
      refine z_iload_n (j := 2) dX6_longestFull_41 rfl ?_
      refine z_mmax lX6_127 mm_max1 mm_ini mm_max2 (Nat.le_of_ble_eq_true rfl) dX6_longestFull_42 ?_
      rw [max_nI (show maxN (fun j => runN B K (j + 1)) i < 2 ^ 31 by omega) (show runN B K (i + 1) < 2 ^ 31 by have := runN_le (B := B) (K := K) (i + 1); omega)]
      refine z_istore_n [1, 0, 2, 3] [(0, .ref b), (1, .int ((nI (maxN (fun j => runN B K (j + 1)) (i + 1))))), (2, .int ((nI (runN B K (i + 1))))), (3, .int ((nI i)))] dX6_longestFull_45 (by decide) rfl ?_
      skip
      refine z_iinc ((nI (i + 1))) [1, 2, 3, 0] [(0, .ref b), (1, .int ((nI (maxN (fun j => runN B K (j + 1)) (i + 1))))), (2, .int ((nI (runN B K (i + 1))))), (3, .int ((nI (i + 1))))] dX6_longestFull_46 (j := 3) rfl (nI_1 i) (by decide) rfl ?_
      refine z_goto (tgt := 6) dX6_longestFull_49 (by decide) ?_
      exact ih (i + 1) (by omega) hq
    · refine z_iconst (v := 0) dX6_longestFull_32 (by decide) ?_
      refine z_goto (tgt := 39) dX6_longestFull_33 (by decide) ?_
      rw [show (0 : Int32) = nI (runN B K (i + 1)) from by rw [runN, if_pos ((tkey_eq (ekv _).1).mp c_29)]; rfl]
      refine z_istore_n [1, 2, 0, 3] [(0, .ref b), (1, .int ((nI (maxN (fun j => runN B K (j + 1)) i)))), (2, .int ((nI (runN B K (i + 1))))), (3, .int ((nI i)))] dX6_longestFull_39 (by decide) rfl ?_
      refine z_iload_n (j := 1) dX6_longestFull_40 rfl ?_
      refine z_iload_n (j := 2) dX6_longestFull_41 rfl ?_
      refine z_mmax lX6_127 mm_max1 mm_ini mm_max2 (Nat.le_of_ble_eq_true rfl) dX6_longestFull_42 ?_
      rw [max_nI (show maxN (fun j => runN B K (j + 1)) i < 2 ^ 31 by omega) (show runN B K (i + 1) < 2 ^ 31 by have := runN_le (B := B) (K := K) (i + 1); omega)]
      refine z_istore_n [1, 0, 2, 3] [(0, .ref b), (1, .int ((nI (maxN (fun j => runN B K (j + 1)) (i + 1))))), (2, .int ((nI (runN B K (i + 1))))), (3, .int ((nI i)))] dX6_longestFull_45 (by decide) rfl ?_
      skip
      refine z_iinc ((nI (i + 1))) [1, 2, 3, 0] [(0, .ref b), (1, .int ((nI (maxN (fun j => runN B K (j + 1)) (i + 1))))), (2, .int ((nI (runN B K (i + 1))))), (3, .int ((nI (i + 1))))] dX6_longestFull_46 (j := 3) rfl (nI_1 i) (by decide) rfl ?_
      refine z_goto (tgt := 6) dX6_longestFull_49 (by decide) ?_
      exact ih (i + 1) (by omega) hq

set_option maxHeartbeats 4000000 in
set_option maxRecDepth 100000 in
theorem w_longestFull {l : zL} {d kc ks n b B H T : Nat} {h : Nat → va_E} {K V : Nat → Nat} {s : Nat → Int32} {a : Nat → Nat → Int32} {Q : zQ} (hb : b + 6 ≤ n) (hR : tR B H T K V s a) (hq : Q (.inl (some (.int (nI (if B < maxN (fun j => runN B K (j + 1)) (2 * B) then B else maxN (fun j => runN B K (j + 1)) (2 * B)))))) n (tW h b s a)) : Zj l mX6_longestFull (d + 1) kc ks 0 [(0, .ref b)] [] n (tW h b s a) Q := by
  refine z_iconst (v := 0) dX6_longestFull_0 (by decide) ?_
  refine z_istore_n [1, 0] [(0, .ref b), (1, .int 0)] dX6_longestFull_1 (by decide) rfl ?_
  refine z_iconst (v := 0) dX6_longestFull_2 (by decide) ?_
  refine z_istore_n [1, 2, 0] [(0, .ref b), (1, .int 0), (2, .int 0)] dX6_longestFull_3 (by decide) rfl ?_
  refine z_iconst (v := 0) dX6_longestFull_4 (by decide) ?_
  refine z_istore_n [1, 2, 3, 0] [(0, .ref b), (1, .int 0), (2, .int 0), (3, .int 0)] dX6_longestFull_5 (by decide) rfl ?_
  exact w_longestFull_l hb hR (2 * B) 0 (by omega) hq
end
section
set_option maxHeartbeats 4000000 in
set_option maxRecDepth 100000 in
theorem w_looksUntil_l {l : zL} {d kc ks n b B H T : Nat} {h : Nat → va_E} {K V : Nat → Nat} {s : Nat → Int32} {a : Nat → Nat → Int32} {Q : zQ} {key : Nat} (hb : b + 6 ≤ n) (hR : tR B H T K V s a) (hkey : key ≤ 9999) : ∀ m k r, k + m = H → Q (.inl (some (.int (nI (lokF B H T K key m k r))))) n (tW h b s a) → Zj l mX6_looksUntil (d + 1) kc ks 11 [(0, .ref b), (1, .int ((nI key))), (2, .int ((nI (hmo B T key)))), (3, .int ((nI r))), (4, .int ((nI k)))] [] n (tW h b s a) Q := by
  obtain ⟨okb, h2H, hH6, h1T, hT99, e6, e7, e8, ek, ev, eh, ekv, ez⟩ := id hR
  have hle := okb.le
  intro m
  induction m with
  | zero =>
    intro k r hk hq
    refine z_iload (j := 4) dX6_looksUntil_11 rfl ?_
    refine z_aload_n (j := 0) dX6_looksUntil_13 rfl ?_
    refine z_get (v := .int (s 7)) (by omega) tW_obj fX6_31 rfl dX6_looksUntil_14 ?_
    refine z_icmp_ge (tgt := 66) dX6_looksUntil_17 (by decide) (fun c_17 => ?_) (fun c_17 => absurd (by rw [e7]; exact nI_le (by omega) (by omega)) c_17)
    refine z_iload_n (j := 3) dX6_looksUntil_66 rfl ?_
    exact z_iret rfl dX6_looksUntil_67 (hq)
  | succ m ih =>
    intro k r hk hq
    have hbit := hop_bit (B := B) (T := T) (K := K) (i := (hmo B T key)) hH6 (show k < H by omega)
    refine z_iload (j := 4) dX6_looksUntil_11 rfl ?_
    refine z_aload_n (j := 0) dX6_looksUntil_13 rfl ?_
    refine z_get (v := .int (s 7)) (by omega) tW_obj fX6_31 rfl dX6_looksUntil_14 ?_
    refine z_icmp_ge (tgt := 66) dX6_looksUntil_17 (by decide) (fun c_17 => absurd c_17 (by rw [e7]; exact nI_ge (by omega) (by omega))) (fun c_17 => ?_)
    refine z_aload_n (j := 0) dX6_looksUntil_20 rfl ?_
    refine z_iload_n (j := 2) dX6_looksUntil_21 rfl ?_
    refine z_cV [.int ((nI (hmo B T key)))] (some (.int ((nI (hop B H T K (hmo B T key)))))) yoX6_hopsIn yvX6_hopsIn rfl (by decide) lX6_115 (by omega) tW_obj rfl rfl (Nat.le_of_ble_eq_true rfl) (Nat.le_of_ble_eq_true rfl) dX6_looksUntil_22 (z_room (by omega) (Nat.le_refl _) (Nat.le_refl _) (w_hopsIn (d := 0) hb hR (hmo_lt okb T key) ⟨rfl, rfl, rfl⟩)) ?_
    refine z_iload (j := 4) dX6_looksUntil_25 rfl ?_
    refine z_ishr dX6_looksUntil_27 ?_
    refine z_iconst (v := 1) dX6_looksUntil_28 (by decide) ?_
    refine z_iand dX6_looksUntil_29 ?_
    refine z_if_ne (tgt := 36) dX6_looksUntil_30 (by decide) (fun c_30 => ?_) (fun c_30 => ?_)
    · have hyes : isO B T K (((hmo B T key) + k) % B) (hmo B T key) = true := by
        cases ho : isO B T K (((hmo B T key) + k) % B) (hmo B T key) with
        | true => rfl
        | false => exact absurd (hbit.mpr ho) c_30
      skip
      refine z_iinc ((nI (r + 1))) [1, 2, 3, 0, 4] [(0, .ref b), (1, .int ((nI key))), (2, .int ((nI (hmo B T key)))), (3, .int ((nI (r + 1)))), (4, .int ((nI k)))] dX6_looksUntil_36 (j := 3) rfl (nI_1 r) (by decide) rfl ?_
      refine z_aload_n (j := 0) dX6_looksUntil_39 rfl ?_
      refine z_iload_n (j := 2) dX6_looksUntil_40 rfl ?_
      refine z_iload (j := 4) dX6_looksUntil_41 rfl ?_
      refine z_iadd dX6_looksUntil_43 ?_
      refine z_aload_n (j := 0) dX6_looksUntil_44 rfl ?_
      refine z_get (v := .int (s 6)) (by omega) tW_obj fX6_64 rfl dX6_looksUntil_45 ?_
      refine z_iconst (v := 1) dX6_looksUntil_48 (by decide) ?_
      refine z_isub dX6_looksUntil_49 ?_
      refine z_iand dX6_looksUntil_50 ?_
      rw [show (((nI (hmo B T key)) + (nI k)) &&& ((s 6) - 1)) = (nI (((hmo B T key) + k) % B)) from by rw [e6]; exact mBadd okb (by have := hmo_lt okb T key; omega) (by omega)]
      refine z_cV [.int ((nI (((hmo B T key) + k) % B)))] (some (.int ((tkey (K (((hmo B T key) + k) % B)))))) yoX6_keyIn yvX6_keyIn rfl (by decide) lX6_124 (by omega) tW_obj rfl rfl (Nat.le_of_ble_eq_true rfl) (Nat.le_of_ble_eq_true rfl) dX6_looksUntil_51 (z_room (by omega) (Nat.le_refl _) (Nat.le_refl _) (w_keyIn (d := 0) hb hR (mod_lt' okb) ⟨rfl, rfl, rfl⟩)) ?_
      refine z_iload_n (j := 1) dX6_looksUntil_54 rfl ?_
      refine z_icmp_ne (tgt := 60) dX6_looksUntil_55 (by decide) (fun c_55 => ?_) (fun c_55 => ?_)
      · skip
        refine z_iinc ((nI (k + 1))) [1, 2, 3, 4, 0] [(0, .ref b), (1, .int ((nI key))), (2, .int ((nI (hmo B T key)))), (3, .int ((nI (r + 1)))), (4, .int ((nI (k + 1))))] dX6_looksUntil_60 (j := 4) rfl (nI_1 k) (by decide) rfl ?_
        refine z_goto (tgt := 11) dX6_looksUntil_63 (by decide) ?_
        have hne : ¬ K (((hmo B T key) + k) % B) = key + 1 := fun e => c_55 ((tkey_is (ekv _).1 hkey).mpr e)
        refine ih (k + 1) (r + 1) (by omega) ?_
        rw [lokF, if_pos hyes, if_neg hne] at hq
        exact hq
      · refine z_iload_n (j := 3) dX6_looksUntil_58 rfl ?_
        exact z_iret rfl dX6_looksUntil_59 (by
            have hk2 : K (((hmo B T key) + k) % B) = key + 1 := (tkey_is (ekv _).1 hkey).mp c_55
            rw [lokF, if_pos hyes, if_pos hk2] at hq
            exact hq)
    · have c_30' := c_30
      refine z_goto (tgt := 60) dX6_looksUntil_33 (by decide) ?_
      skip
      refine z_iinc ((nI (k + 1))) [1, 2, 3, 4, 0] [(0, .ref b), (1, .int ((nI key))), (2, .int ((nI (hmo B T key)))), (3, .int ((nI r))), (4, .int ((nI (k + 1))))] dX6_looksUntil_60 (j := 4) rfl (nI_1 k) (by decide) rfl ?_
      refine z_goto (tgt := 11) dX6_looksUntil_63 (by decide) ?_
      have hno := hbit.mp c_30
      refine ih (k + 1) r (by omega) ?_
      rw [lokF, if_neg (by rw [hno]; decide)] at hq
      exact hq

set_option maxHeartbeats 4000000 in
set_option maxRecDepth 100000 in
theorem w_looksUntil {l : zL} {d kc ks n b B H T : Nat} {h : Nat → va_E} {K V : Nat → Nat} {s : Nat → Int32} {a : Nat → Nat → Int32} {Q : zQ} {key : Nat} (hb : b + 6 ≤ n) (hR : tR B H T K V s a) (hkey : key ≤ 9999) (hq : Q (.inl (some (.int (nI (lokF B H T K key H 0 0))))) n (tW h b s a)) : Zj l mX6_looksUntil (d + 1) kc ks 0 [(0, .ref b), (1, .int ((nI key)))] [] n (tW h b s a) Q := by
  refine z_aload_n (j := 0) dX6_looksUntil_0 rfl ?_
  refine z_iload_n (j := 1) dX6_looksUntil_1 rfl ?_
  refine z_cV [.int ((nI key))] (some (.int ((nI (hmo B T key))))) yoX6_homeFor yvX6_homeFor rfl (by decide) lX6_94 (by omega) tW_obj rfl rfl (Nat.le_of_ble_eq_true rfl) (Nat.le_of_ble_eq_true rfl) dX6_looksUntil_2 (z_room (by omega) (Nat.le_refl _) (Nat.le_refl _) (w_homeFor (d := 0) hb hR hkey ⟨rfl, rfl, rfl⟩)) ?_
  refine z_istore_n [1, 2, 0] [(0, .ref b), (1, .int ((nI key))), (2, .int ((nI (hmo B T key))))] dX6_looksUntil_5 (by decide) rfl ?_
  refine z_iconst (v := 0) dX6_looksUntil_6 (by decide) ?_
  refine z_istore_n [1, 2, 3, 0] [(0, .ref b), (1, .int ((nI key))), (2, .int ((nI (hmo B T key)))), (3, .int 0)] dX6_looksUntil_7 (by decide) rfl ?_
  refine z_iconst (v := 0) dX6_looksUntil_8 (by decide) ?_
  refine z_istore [1, 2, 3, 4, 0] [(0, .ref b), (1, .int ((nI key))), (2, .int ((nI (hmo B T key)))), (3, .int 0), (4, .int 0)] dX6_looksUntil_9 (by decide) rfl ?_
  exact w_looksUntil_l hb hR hkey H 0 0 (by omega) hq

set_option maxHeartbeats 4000000 in
set_option maxRecDepth 100000 in
theorem w_twins_j {l : zL} {d kc ks n b B H T : Nat} {h : Nat → va_E} {K V : Nat → Nat} {s : Nat → Int32} {a : Nat → Nat → Int32} {Q : zQ} {i : Nat} (hb : b + 6 ≤ n) (hR : tR B H T K V s a) (hiB : i < B) : ∀ m j, j + m = i → Zj l mX6_twins (d + 1) kc ks 4 [(0, .ref b), (1, .int (nI (sumN (fun i => sumN (twN K i) i) (i + 1)))), (2, .int (nI (i + 1)))] [] n (tW h b s a) Q → Zj l mX6_twins (d + 1) kc ks 14 [(0, .ref b), (1, .int ((nI (sumN (fun i => sumN (twN K i) i) i + sumN (twN K i) j)))), (2, .int ((nI i))), (3, .int ((nI j)))] [] n (tW h b s a) Q := by
  obtain ⟨okb, h2H, hH6, h1T, hT99, e6, e7, e8, ek, ev, eh, ekv, ez⟩ := id hR
  have hle := okb.le
  intro m
  induction m with
  | zero =>
    intro j hj hk
    refine z_iload_n (j := 3) dX6_twins_14 rfl ?_
    refine z_iload_n (j := 2) dX6_twins_15 rfl ?_
    refine z_icmp_ge (tgt := 50) dX6_twins_16 (by decide) (fun c_16 => ?_) (fun c_16 => absurd (nI_le (by omega) (by omega)) c_16)
    skip
    refine z_iinc ((nI (i + 1))) [1, 2, 0, 3] [(0, .ref b), (1, .int ((nI (sumN (fun i => sumN (twN K i) i) i + sumN (twN K i) j)))), (2, .int ((nI (i + 1)))), (3, .int ((nI j)))] dX6_twins_50 (j := 2) rfl (nI_1 i) (by decide) rfl ?_
    refine z_goto (tgt := 4) dX6_twins_53 (by decide) ?_
    refine z_lv [(0, .ref b), (1, .int ((nI (sumN (fun i => sumN (twN K i) i) i + sumN (twN K i) j)))), (2, .int ((nI (i + 1))))] [0, 1, 2] rfl ?_
    obtain rfl : j = i := by omega
    exact hk
  | succ m ih =>
    intro j hj hk
    refine z_iload_n (j := 3) dX6_twins_14 rfl ?_
    refine z_iload_n (j := 2) dX6_twins_15 rfl ?_
    refine z_icmp_ge (tgt := 50) dX6_twins_16 (by decide) (fun c_16 => absurd c_16 (nI_ge (by omega) (by omega))) (fun c_16 => ?_)
    refine z_aload_n (j := 0) dX6_twins_19 rfl ?_
    refine z_iload_n (j := 2) dX6_twins_20 rfl ?_
    refine z_cV [.int ((nI i))] (some (.int ((tkey (K i))))) yoX6_keyIn yvX6_keyIn rfl (by decide) lX6_124 (by omega) tW_obj rfl rfl (Nat.le_of_ble_eq_true rfl) (Nat.le_of_ble_eq_true rfl) dX6_twins_21 (z_room (by omega) (Nat.le_refl _) (Nat.le_refl _) (w_keyIn (d := 0) hb hR (show i < B by omega) ⟨rfl, rfl, rfl⟩)) ?_
    refine z_iconst (v := (-1)) dX6_twins_24 (by decide) ?_
    refine z_icmp_eq (tgt := 44) dX6_twins_25 (by decide) (fun c_25 => ?_) (fun c_25 => ?_)
    · skip
      refine z_iinc ((nI (j + 1))) [1, 2, 3, 0] [(0, .ref b), (1, .int ((nI (sumN (fun i => sumN (twN K i) i) i + sumN (twN K i) j)))), (2, .int ((nI i))), (3, .int ((nI (j + 1))))] dX6_twins_44 (j := 3) rfl (nI_1 j) (by decide) rfl ?_
      refine z_goto (tgt := 14) dX6_twins_47 (by decide) ?_
      have hb0 : twN K i j = 0 := if_neg (fun e => e.1 ((tkey_eq (ekv i).1).mp c_25))
      have hs : sumN (fun i => sumN (twN K i) i) i + sumN (twN K i) (j + 1) = sumN (fun i => sumN (twN K i) i) i + sumN (twN K i) j + 0 := by simp only [sumN, hb0]; omega
      refine ih (j + 1) (by omega) hk |> fun z => ?_
      rw [hs] at z
      exact z
    · refine z_aload_n (j := 0) dX6_twins_28 rfl ?_
      refine z_iload_n (j := 2) dX6_twins_29 rfl ?_
      refine z_cV [.int ((nI i))] (some (.int ((tkey (K i))))) yoX6_keyIn yvX6_keyIn rfl (by decide) lX6_124 (by omega) tW_obj rfl rfl (Nat.le_of_ble_eq_true rfl) (Nat.le_of_ble_eq_true rfl) dX6_twins_30 (z_room (by omega) (Nat.le_refl _) (Nat.le_refl _) (w_keyIn (d := 0) hb hR (show i < B by omega) ⟨rfl, rfl, rfl⟩)) ?_
      refine z_aload_n (j := 0) dX6_twins_33 rfl ?_
      refine z_iload_n (j := 3) dX6_twins_34 rfl ?_
      refine z_cV [.int ((nI j))] (some (.int ((tkey (K j))))) yoX6_keyIn yvX6_keyIn rfl (by decide) lX6_124 (by omega) tW_obj rfl rfl (Nat.le_of_ble_eq_true rfl) (Nat.le_of_ble_eq_true rfl) dX6_twins_35 (z_room (by omega) (Nat.le_refl _) (Nat.le_refl _) (w_keyIn (d := 0) hb hR (show j < B by omega) ⟨rfl, rfl, rfl⟩)) ?_
      refine z_icmp_ne (tgt := 44) dX6_twins_38 (by decide) (fun c_38 => ?_) (fun c_38 => ?_)
      · skip
        refine z_iinc ((nI (j + 1))) [1, 2, 3, 0] [(0, .ref b), (1, .int ((nI (sumN (fun i => sumN (twN K i) i) i + sumN (twN K i) j)))), (2, .int ((nI i))), (3, .int ((nI (j + 1))))] dX6_twins_44 (j := 3) rfl (nI_1 j) (by decide) rfl ?_
        refine z_goto (tgt := 14) dX6_twins_47 (by decide) ?_
        have hK : K i ≠ 0 := fun e => c_25 ((tkey_eq (ekv i).1).mpr e)
        have hiff : tkey (K i) = tkey (K j) ↔ K i = K j := by
          unfold tkey
          have h1 := ekv i
          have h2 := ekv j
          by_cases h3 : K j = 0
          · rw [if_neg hK, if_pos h3]
            exact ⟨fun e => absurd e (nI_neg1 (by omega)), fun e => absurd (e.trans h3) hK⟩
          · rw [if_neg hK, if_neg h3, nI_eq (by omega) (by omega)]
            omega
        have hb0 : twN K i j = 0 := if_neg (fun e => c_38 (hiff.mpr e.2))
        have hs : sumN (fun i => sumN (twN K i) i) i + sumN (twN K i) (j + 1) = sumN (fun i => sumN (twN K i) i) i + sumN (twN K i) j + 0 := by simp only [sumN, hb0]; omega
        refine ih (j + 1) (by omega) hk |> fun z => ?_
        rw [hs] at z
        exact z
      · skip
        refine z_iinc ((nI (sumN (fun i => sumN (twN K i) i) i + sumN (twN K i) j + 1))) [1, 0, 2, 3] [(0, .ref b), (1, .int ((nI (sumN (fun i => sumN (twN K i) i) i + sumN (twN K i) j + 1)))), (2, .int ((nI i))), (3, .int ((nI j)))] dX6_twins_41 (j := 1) rfl (nI_1 _) (by decide) rfl ?_
        skip
        refine z_iinc ((nI (j + 1))) [1, 2, 3, 0] [(0, .ref b), (1, .int ((nI (sumN (fun i => sumN (twN K i) i) i + sumN (twN K i) j + 1)))), (2, .int ((nI i))), (3, .int ((nI (j + 1))))] dX6_twins_44 (j := 3) rfl (nI_1 j) (by decide) rfl ?_
        refine z_goto (tgt := 14) dX6_twins_47 (by decide) ?_
        have hK : K i ≠ 0 := fun e => c_25 ((tkey_eq (ekv i).1).mpr e)
        have hiff : tkey (K i) = tkey (K j) ↔ K i = K j := by
          unfold tkey
          have h1 := ekv i
          have h2 := ekv j
          by_cases h3 : K j = 0
          · rw [if_neg hK, if_pos h3]
            exact ⟨fun e => absurd e (nI_neg1 (by omega)), fun e => absurd (e.trans h3) hK⟩
          · rw [if_neg hK, if_neg h3, nI_eq (by omega) (by omega)]
            omega
        have hb0 : twN K i j = 1 := if_pos ⟨hK, hiff.mp c_38⟩
        have hs : sumN (fun i => sumN (twN K i) i) i + sumN (twN K i) (j + 1) = sumN (fun i => sumN (twN K i) i) i + sumN (twN K i) j + 1 := by simp only [sumN, hb0]; omega
        refine ih (j + 1) (by omega) hk |> fun z => ?_
        rw [hs] at z
        exact z

set_option maxHeartbeats 4000000 in
set_option maxRecDepth 100000 in
theorem w_twins_l {l : zL} {d kc ks n b B H T : Nat} {h : Nat → va_E} {K V : Nat → Nat} {s : Nat → Int32} {a : Nat → Nat → Int32} {Q : zQ} (hb : b + 6 ≤ n) (hR : tR B H T K V s a) : ∀ m i, i + m = B → Q (.inl (some (.int (nI (sumN (fun i => sumN (twN K i) i) B))))) n (tW h b s a) → Zj l mX6_twins (d + 1) kc ks 4 [(0, .ref b), (1, .int ((nI (sumN (fun i => sumN (twN K i) i) i)))), (2, .int ((nI i)))] [] n (tW h b s a) Q := by
  obtain ⟨okb, h2H, hH6, h1T, hT99, e6, e7, e8, ek, ev, eh, ekv, ez⟩ := id hR
  have hle := okb.le
  intro m
  induction m with
  | zero =>
    intro i hi hq
    refine z_iload_n (j := 2) dX6_twins_4 rfl ?_
    refine z_aload_n (j := 0) dX6_twins_5 rfl ?_
    refine z_get (v := .int (s 6)) (by omega) tW_obj fX6_64 rfl dX6_twins_6 ?_
    refine z_icmp_ge (tgt := 56) dX6_twins_9 (by decide) (fun c_9 => ?_) (fun c_9 => absurd (by rw [e6]; exact nI_le (by omega) (by omega)) c_9)
    refine z_iload_n (j := 1) dX6_twins_56 rfl ?_
    exact z_iret rfl dX6_twins_57 (by
        obtain rfl : i = B := by omega
        exact hq)
  | succ m ih =>
    intro i hi hq
    refine z_iload_n (j := 2) dX6_twins_4 rfl ?_
    refine z_aload_n (j := 0) dX6_twins_5 rfl ?_
    refine z_get (v := .int (s 6)) (by omega) tW_obj fX6_64 rfl dX6_twins_6 ?_
    refine z_icmp_ge (tgt := 56) dX6_twins_9 (by decide) (fun c_9 => absurd c_9 (by rw [e6]; exact nI_ge (by omega) (by omega))) (fun c_9 => ?_)
    refine z_iconst (v := 0) dX6_twins_12 (by decide) ?_
    refine z_istore_n [1, 2, 3, 0] [(0, .ref b), (1, .int ((nI (sumN (fun i => sumN (twN K i) i) i)))), (2, .int ((nI i))), (3, .int 0)] dX6_twins_13 (by decide) rfl ?_
    exact w_twins_j hb hR (by omega) i 0 (by omega) (ih (i + 1) (by omega) hq)

set_option maxHeartbeats 4000000 in
set_option maxRecDepth 100000 in
theorem w_twins {l : zL} {d kc ks n b B H T : Nat} {h : Nat → va_E} {K V : Nat → Nat} {s : Nat → Int32} {a : Nat → Nat → Int32} {Q : zQ} (hb : b + 6 ≤ n) (hR : tR B H T K V s a) (hq : Q (.inl (some (.int (nI (sumN (fun i => sumN (twN K i) i) B))))) n (tW h b s a)) : Zj l mX6_twins (d + 1) kc ks 0 [(0, .ref b)] [] n (tW h b s a) Q := by
  refine z_iconst (v := 0) dX6_twins_0 (by decide) ?_
  refine z_istore_n [1, 0] [(0, .ref b), (1, .int 0)] dX6_twins_1 (by decide) rfl ?_
  refine z_iconst (v := 0) dX6_twins_2 (by decide) ?_
  refine z_istore_n [1, 2, 0] [(0, .ref b), (1, .int 0), (2, .int 0)] dX6_twins_3 (by decide) rfl ?_
  exact w_twins_l hb hR B 0 (by omega) hq

set_option maxHeartbeats 4000000 in
set_option maxRecDepth 100000 in
theorem w_wrongHops_k {l : zL} {d kc ks n b B H T : Nat} {h : Nat → va_E} {K V : Nat → Nat} {s : Nat → Int32} {a : Nat → Nat → Int32} {Q : zQ} {i : Nat} (hb : b + 6 ≤ n) (hR : tR B H T K V s a) (hiB : i < B) : ∀ m k, k + m = H → Zj l mX6_wrongHops (d + 1) kc ks 96 [(0, .ref b), (1, .int 0), (2, .int (nI i)), (3, .int (nI H))] [] n (tW h b s a) Q → Zj l mX6_wrongHops (d + 1) kc ks 14 [(0, .ref b), (1, .int 0), (2, .int ((nI i))), (3, .int ((nI k)))] [] n (tW h b s a) Q := by
  obtain ⟨okb, h2H, hH6, h1T, hT99, e6, e7, e8, ek, ev, eh, ekv, ez⟩ := id hR
  have hle := okb.le
  intro m
  induction m with
  | zero =>
    intro k hkm hk
    refine z_iload_n (j := 3) dX6_wrongHops_14 rfl ?_
    refine z_aload_n (j := 0) dX6_wrongHops_15 rfl ?_
    refine z_get (v := .int (s 7)) (by omega) tW_obj fX6_31 rfl dX6_wrongHops_16 ?_
    refine z_icmp_ge (tgt := 96) dX6_wrongHops_19 (by decide) (fun c_19 => ?_) (fun c_19 => absurd (by rw [e7]; exact nI_le (by omega) (by omega)) c_19)
    obtain rfl : k = H := by omega
    exact hk
  | succ m ih =>
    intro k hkm hk
    have hbit := hop_bit (B := B) (T := T) (K := K) (i := i) hH6 (show k < H by omega)
    have hx : (i + k) % B < B := mod_lt' okb
    refine z_iload_n (j := 3) dX6_wrongHops_14 rfl ?_
    refine z_aload_n (j := 0) dX6_wrongHops_15 rfl ?_
    refine z_get (v := .int (s 7)) (by omega) tW_obj fX6_31 rfl dX6_wrongHops_16 ?_
    refine z_icmp_ge (tgt := 96) dX6_wrongHops_19 (by decide) (fun c_19 => absurd c_19 (by rw [e7]; exact nI_ge (by omega) (by omega))) (fun c_19 => ?_)
    refine z_aload_n (j := 0) dX6_wrongHops_22 rfl ?_
    refine z_iload_n (j := 2) dX6_wrongHops_23 rfl ?_
    refine z_iload_n (j := 3) dX6_wrongHops_24 rfl ?_
    refine z_iadd dX6_wrongHops_25 ?_
    refine z_aload_n (j := 0) dX6_wrongHops_26 rfl ?_
    refine z_get (v := .int (s 6)) (by omega) tW_obj fX6_64 rfl dX6_wrongHops_27 ?_
    refine z_iconst (v := 1) dX6_wrongHops_30 (by decide) ?_
    refine z_isub dX6_wrongHops_31 ?_
    refine z_iand dX6_wrongHops_32 ?_
    rw [show (((nI i) + (nI k)) &&& ((s 6) - 1)) = (nI ((i + k) % B)) from by rw [e6]; exact mBadd okb (by omega) (by omega)]
    refine z_cV [.int ((nI ((i + k) % B)))] (some (.int ((tkey (K ((i + k) % B)))))) yoX6_keyIn yvX6_keyIn rfl (by decide) lX6_124 (by omega) tW_obj rfl rfl (Nat.le_of_ble_eq_true rfl) (Nat.le_of_ble_eq_true rfl) dX6_wrongHops_33 (z_room (by omega) (Nat.le_refl _) (Nat.le_refl _) (w_keyIn (d := 0) hb hR (mod_lt' okb) ⟨rfl, rfl, rfl⟩)) ?_
    refine z_istore [1, 2, 3, 4, 0] [(0, .ref b), (1, .int 0), (2, .int ((nI i))), (3, .int ((nI k))), (4, .int ((tkey (K ((i + k) % B)))))] dX6_wrongHops_36 (by decide) rfl ?_
    refine z_iload (j := 4) dX6_wrongHops_38 rfl ?_
    refine z_iconst (v := (-1)) dX6_wrongHops_40 (by decide) ?_
    refine z_icmp_eq (tgt := 58) dX6_wrongHops_41 (by decide) (fun c_41 => ?_) (fun c_41 => ?_)
    · refine z_iconst (v := 0) dX6_wrongHops_58 (by decide) ?_
      refine z_istore [1, 2, 3, 4, 5, 0] [(0, .ref b), (1, .int 0), (2, .int ((nI i))), (3, .int ((nI k))), (4, .int ((tkey (K ((i + k) % B))))), (5, .int 0)] dX6_wrongHops_59 (by decide) rfl ?_
      refine z_aload_n (j := 0) dX6_wrongHops_61 rfl ?_
      refine z_iload_n (j := 2) dX6_wrongHops_62 rfl ?_
      refine z_cV [.int ((nI i))] (some (.int ((nI (hop B H T K i))))) yoX6_hopsIn yvX6_hopsIn rfl (by decide) lX6_115 (by omega) tW_obj rfl rfl (Nat.le_of_ble_eq_true rfl) (Nat.le_of_ble_eq_true rfl) dX6_wrongHops_63 (z_room (by omega) (Nat.le_refl _) (Nat.le_refl _) (w_hopsIn (d := 0) hb hR (show i < B by omega) ⟨rfl, rfl, rfl⟩)) ?_
      refine z_iload_n (j := 3) dX6_wrongHops_66 rfl ?_
      refine z_ishr dX6_wrongHops_67 ?_
      refine z_iconst (v := 1) dX6_wrongHops_68 (by decide) ?_
      refine z_iand dX6_wrongHops_69 ?_
      refine z_if_eq (tgt := 77) dX6_wrongHops_70 (by decide) (fun c_70 => ?_) (fun c_70 => absurd (hbit.mpr (by simp [isO, (tkey_eq (ekv _).1).mp c_41])) c_70)
      refine z_iconst (v := 0) dX6_wrongHops_77 (by decide) ?_
      refine z_istore [1, 2, 3, 4, 5, 6, 0] [(0, .ref b), (1, .int 0), (2, .int ((nI i))), (3, .int ((nI k))), (4, .int ((tkey (K ((i + k) % B))))), (5, .int 0), (6, .int 0)] dX6_wrongHops_78 (by decide) rfl ?_
      refine z_iload (j := 5) dX6_wrongHops_80 rfl ?_
      refine z_iload (j := 6) dX6_wrongHops_82 rfl ?_
      refine z_icmp_eq (tgt := 90) dX6_wrongHops_84 (by decide) (fun c_84 => ?_) (fun c_84 => absurd rfl c_84)
      skip
      refine z_iinc ((nI (k + 1))) [1, 2, 3, 0, 4, 5, 6] [(0, .ref b), (1, .int 0), (2, .int ((nI i))), (3, .int ((nI (k + 1)))), (4, .int ((tkey (K ((i + k) % B))))), (5, .int 0), (6, .int 0)] dX6_wrongHops_90 (j := 3) rfl (nI_1 k) (by decide) rfl ?_
      refine z_goto (tgt := 14) dX6_wrongHops_93 (by decide) ?_
      refine z_lv [(0, .ref b), (1, .int 0), (2, .int ((nI i))), (3, .int ((nI (k + 1))))] [0, 1, 2, 3] rfl ?_
      exact ih (k + 1) (by omega) hk
    · have hK : K ((i + k) % B) ≠ 0 := fun e => c_41 ((tkey_eq (ekv _).1).mpr e)
      rw [tkey_ne hK]
      refine z_aload_n (j := 0) dX6_wrongHops_44 rfl ?_
      refine z_iload (j := 4) dX6_wrongHops_45 rfl ?_
      refine z_cV [.int ((nI (K ((i + k) % B) - 1)))] (some (.int ((nI (hmo B T (K ((i + k) % B) - 1)))))) yoX6_homeFor yvX6_homeFor rfl (by decide) lX6_94 (by omega) tW_obj rfl rfl (Nat.le_of_ble_eq_true rfl) (Nat.le_of_ble_eq_true rfl) dX6_wrongHops_47 (z_room (by omega) (Nat.le_refl _) (Nat.le_refl _) (w_homeFor (d := 0) hb hR (by have := ekv ((i + k) % B); omega) ⟨rfl, rfl, rfl⟩)) ?_
      refine z_iload_n (j := 2) dX6_wrongHops_50 rfl ?_
      refine z_icmp_ne (tgt := 58) dX6_wrongHops_51 (by decide) (fun c_51 => ?_) (fun c_51 => ?_)
      · refine z_iconst (v := 0) dX6_wrongHops_58 (by decide) ?_
        refine z_istore [1, 2, 3, 4, 5, 0] [(0, .ref b), (1, .int 0), (2, .int ((nI i))), (3, .int ((nI k))), (4, .int ((nI (K ((i + k) % B) - 1)))), (5, .int 0)] dX6_wrongHops_59 (by decide) rfl ?_
        refine z_aload_n (j := 0) dX6_wrongHops_61 rfl ?_
        refine z_iload_n (j := 2) dX6_wrongHops_62 rfl ?_
        refine z_cV [.int ((nI i))] (some (.int ((nI (hop B H T K i))))) yoX6_hopsIn yvX6_hopsIn rfl (by decide) lX6_115 (by omega) tW_obj rfl rfl (Nat.le_of_ble_eq_true rfl) (Nat.le_of_ble_eq_true rfl) dX6_wrongHops_63 (z_room (by omega) (Nat.le_refl _) (Nat.le_refl _) (w_hopsIn (d := 0) hb hR (show i < B by omega) ⟨rfl, rfl, rfl⟩)) ?_
        refine z_iload_n (j := 3) dX6_wrongHops_66 rfl ?_
        refine z_ishr dX6_wrongHops_67 ?_
        refine z_iconst (v := 1) dX6_wrongHops_68 (by decide) ?_
        refine z_iand dX6_wrongHops_69 ?_
        refine z_if_eq (tgt := 77) dX6_wrongHops_70 (by decide) (fun c_70 => ?_) (fun c_70 => absurd (hbit.mpr (by
              have hne : ¬ hmo B T (K ((i + k) % B) - 1) = i := fun e => c_51 (by rw [e])
              simp [isO, hne])) c_70)
        refine z_iconst (v := 0) dX6_wrongHops_77 (by decide) ?_
        refine z_istore [1, 2, 3, 4, 5, 6, 0] [(0, .ref b), (1, .int 0), (2, .int ((nI i))), (3, .int ((nI k))), (4, .int ((nI (K ((i + k) % B) - 1)))), (5, .int 0), (6, .int 0)] dX6_wrongHops_78 (by decide) rfl ?_
        refine z_iload (j := 5) dX6_wrongHops_80 rfl ?_
        refine z_iload (j := 6) dX6_wrongHops_82 rfl ?_
        refine z_icmp_eq (tgt := 90) dX6_wrongHops_84 (by decide) (fun c_84 => ?_) (fun c_84 => absurd rfl c_84)
        skip
        refine z_iinc ((nI (k + 1))) [1, 2, 3, 0, 4, 5, 6] [(0, .ref b), (1, .int 0), (2, .int ((nI i))), (3, .int ((nI (k + 1)))), (4, .int ((nI (K ((i + k) % B) - 1)))), (5, .int 0), (6, .int 0)] dX6_wrongHops_90 (j := 3) rfl (nI_1 k) (by decide) rfl ?_
        refine z_goto (tgt := 14) dX6_wrongHops_93 (by decide) ?_
        refine z_lv [(0, .ref b), (1, .int 0), (2, .int ((nI i))), (3, .int ((nI (k + 1))))] [0, 1, 2, 3] rfl ?_
        exact ih (k + 1) (by omega) hk
      · refine z_iconst (v := 1) dX6_wrongHops_54 (by decide) ?_
        refine z_goto (tgt := 59) dX6_wrongHops_55 (by decide) ?_
        refine z_istore [1, 2, 3, 4, 5, 0] [(0, .ref b), (1, .int 0), (2, .int ((nI i))), (3, .int ((nI k))), (4, .int ((nI (K ((i + k) % B) - 1)))), (5, .int 1)] dX6_wrongHops_59 (by decide) rfl ?_
        refine z_aload_n (j := 0) dX6_wrongHops_61 rfl ?_
        refine z_iload_n (j := 2) dX6_wrongHops_62 rfl ?_
        refine z_cV [.int ((nI i))] (some (.int ((nI (hop B H T K i))))) yoX6_hopsIn yvX6_hopsIn rfl (by decide) lX6_115 (by omega) tW_obj rfl rfl (Nat.le_of_ble_eq_true rfl) (Nat.le_of_ble_eq_true rfl) dX6_wrongHops_63 (z_room (by omega) (Nat.le_refl _) (Nat.le_refl _) (w_hopsIn (d := 0) hb hR (show i < B by omega) ⟨rfl, rfl, rfl⟩)) ?_
        refine z_iload_n (j := 3) dX6_wrongHops_66 rfl ?_
        refine z_ishr dX6_wrongHops_67 ?_
        refine z_iconst (v := 1) dX6_wrongHops_68 (by decide) ?_
        refine z_iand dX6_wrongHops_69 ?_
        refine z_if_eq (tgt := 77) dX6_wrongHops_70 (by decide) (fun c_70 => absurd c_70 (fun e => by
              have h1 := hbit.mp e
              have hh := hmo_lt okb T (K ((i + k) % B) - 1)
              have h2 : hmo B T (K ((i + k) % B) - 1) = i := (nI_eq (by omega) (by omega)).mp c_51
              simp [isO, h2, hK] at h1)) (fun c_70 => ?_)
        refine z_iconst (v := 1) dX6_wrongHops_73 (by decide) ?_
        refine z_goto (tgt := 78) dX6_wrongHops_74 (by decide) ?_
        refine z_istore [1, 2, 3, 4, 5, 6, 0] [(0, .ref b), (1, .int 0), (2, .int ((nI i))), (3, .int ((nI k))), (4, .int ((nI (K ((i + k) % B) - 1)))), (5, .int 1), (6, .int 1)] dX6_wrongHops_78 (by decide) rfl ?_
        refine z_iload (j := 5) dX6_wrongHops_80 rfl ?_
        refine z_iload (j := 6) dX6_wrongHops_82 rfl ?_
        refine z_icmp_eq (tgt := 90) dX6_wrongHops_84 (by decide) (fun c_84 => ?_) (fun c_84 => absurd rfl c_84)
        skip
        refine z_iinc ((nI (k + 1))) [1, 2, 3, 0, 4, 5, 6] [(0, .ref b), (1, .int 0), (2, .int ((nI i))), (3, .int ((nI (k + 1)))), (4, .int ((nI (K ((i + k) % B) - 1)))), (5, .int 1), (6, .int 1)] dX6_wrongHops_90 (j := 3) rfl (nI_1 k) (by decide) rfl ?_
        refine z_goto (tgt := 14) dX6_wrongHops_93 (by decide) ?_
        refine z_lv [(0, .ref b), (1, .int 0), (2, .int ((nI i))), (3, .int ((nI (k + 1))))] [0, 1, 2, 3] rfl ?_
        exact ih (k + 1) (by omega) hk

set_option maxHeartbeats 4000000 in
set_option maxRecDepth 100000 in
theorem w_wrongHops_t {l : zL} {d kc ks n b B H T : Nat} {h : Nat → va_E} {K V : Nat → Nat} {s : Nat → Int32} {a : Nat → Nat → Int32} {Q : zQ} {i : Nat} (hb : b + 6 ≤ n) (hR : tR B H T K V s a) (hiB : i < B) (hk : Zj l mX6_wrongHops (d + 1) kc ks 4 [(0, .ref b), (1, .int 0), (2, .int (nI (i + 1)))] [] n (tW h b s a) Q) : Zj l mX6_wrongHops (d + 1) kc ks 96 [(0, .ref b), (1, .int 0), (2, .int ((nI i))), (3, .int ((nI H)))] [] n (tW h b s a) Q := by
  obtain ⟨okb, h2H, hH6, h1T, hT99, e6, e7, e8, ek, ev, eh, ekv, ez⟩ := id hR
  have hle := okb.le
  refine z_iload_n (j := 1) dX6_wrongHops_96 rfl ?_
  refine z_aload_n (j := 0) dX6_wrongHops_97 rfl ?_
  refine z_iload_n (j := 2) dX6_wrongHops_98 rfl ?_
  refine z_cV [.int ((nI i))] (some (.int ((nI (hop B H T K i))))) yoX6_hopsIn yvX6_hopsIn rfl (by decide) lX6_115 (by omega) tW_obj rfl rfl (Nat.le_of_ble_eq_true rfl) (Nat.le_of_ble_eq_true rfl) dX6_wrongHops_99 (z_room (by omega) (Nat.le_refl _) (Nat.le_refl _) (w_hopsIn (d := 0) hb hR (show i < B by omega) ⟨rfl, rfl, rfl⟩)) ?_
  refine z_aload_n (j := 0) dX6_wrongHops_102 rfl ?_
  refine z_get (v := .int (s 7)) (by omega) tW_obj fX6_31 rfl dX6_wrongHops_103 ?_
  rw [show (s 7) = (nI H) from e7]
  refine z_ishr dX6_wrongHops_106 ?_
  rw [show ((nI (hop B H T K i)) >>> ((nI H) &&& 31)) = 0 from hop_out hH6]
  refine z_cS [.int 0] (some (.int ((popI 0)))) yoJ6_bitCount_0f7a4 ysJ6_bitCount_0f7a4 rfl (by decide) lX6_135 rfl (Nat.le_of_ble_eq_true rfl) (Nat.le_of_ble_eq_true rfl) dX6_wrongHops_107 (z_room (by omega) (Nat.le_refl _) (Nat.le_refl _) (w_bitCount (d := 0)  ⟨rfl, rfl, rfl⟩)) ?_
  refine z_iadd dX6_wrongHops_110 ?_
  rw [show (0 + (popI 0)) = 0 from (by decide)]
  refine z_istore_n [1, 0, 2, 3] [(0, .ref b), (1, .int 0), (2, .int ((nI i))), (3, .int ((nI H)))] dX6_wrongHops_111 (by decide) rfl ?_
  skip
  refine z_iinc ((nI (i + 1))) [1, 2, 0, 3] [(0, .ref b), (1, .int 0), (2, .int ((nI (i + 1)))), (3, .int ((nI H)))] dX6_wrongHops_112 (j := 2) rfl (nI_1 i) (by decide) rfl ?_
  refine z_goto (tgt := 4) dX6_wrongHops_115 (by decide) ?_
  refine z_lv [(0, .ref b), (1, .int 0), (2, .int ((nI (i + 1))))] [0, 1, 2] rfl ?_
  exact hk

set_option maxHeartbeats 4000000 in
set_option maxRecDepth 100000 in
theorem w_wrongHops_l {l : zL} {d kc ks n b B H T : Nat} {h : Nat → va_E} {K V : Nat → Nat} {s : Nat → Int32} {a : Nat → Nat → Int32} {Q : zQ} (hb : b + 6 ≤ n) (hR : tR B H T K V s a) : ∀ m i, i + m = B → Q (.inl (some (.int 0))) n (tW h b s a) → Zj l mX6_wrongHops (d + 1) kc ks 4 [(0, .ref b), (1, .int 0), (2, .int ((nI i)))] [] n (tW h b s a) Q := by
  obtain ⟨okb, h2H, hH6, h1T, hT99, e6, e7, e8, ek, ev, eh, ekv, ez⟩ := id hR
  have hle := okb.le
  intro m
  induction m with
  | zero =>
    intro i hi hq
    refine z_iload_n (j := 2) dX6_wrongHops_4 rfl ?_
    refine z_aload_n (j := 0) dX6_wrongHops_5 rfl ?_
    refine z_get (v := .int (s 6)) (by omega) tW_obj fX6_64 rfl dX6_wrongHops_6 ?_
    refine z_icmp_ge (tgt := 118) dX6_wrongHops_9 (by decide) (fun c_9 => ?_) (fun c_9 => absurd (by rw [e6]; exact nI_le (by omega) (by omega)) c_9)
    refine z_iload_n (j := 1) dX6_wrongHops_118 rfl ?_
    exact z_iret rfl dX6_wrongHops_119 (hq)
  | succ m ih =>
    intro i hi hq
    refine z_iload_n (j := 2) dX6_wrongHops_4 rfl ?_
    refine z_aload_n (j := 0) dX6_wrongHops_5 rfl ?_
    refine z_get (v := .int (s 6)) (by omega) tW_obj fX6_64 rfl dX6_wrongHops_6 ?_
    refine z_icmp_ge (tgt := 118) dX6_wrongHops_9 (by decide) (fun c_9 => absurd c_9 (by rw [e6]; exact nI_ge (by omega) (by omega))) (fun c_9 => ?_)
    refine z_iconst (v := 0) dX6_wrongHops_12 (by decide) ?_
    refine z_istore_n [1, 2, 3, 0] [(0, .ref b), (1, .int 0), (2, .int ((nI i))), (3, .int 0)] dX6_wrongHops_13 (by decide) rfl ?_
    exact w_wrongHops_k hb hR (by omega) H 0 (by omega) (w_wrongHops_t hb hR (by omega) (ih (i + 1) (by omega) hq))

set_option maxHeartbeats 4000000 in
set_option maxRecDepth 100000 in
theorem w_wrongHops {l : zL} {d kc ks n b B H T : Nat} {h : Nat → va_E} {K V : Nat → Nat} {s : Nat → Int32} {a : Nat → Nat → Int32} {Q : zQ} (hb : b + 6 ≤ n) (hR : tR B H T K V s a) (hq : Q (.inl (some (.int 0))) n (tW h b s a)) : Zj l mX6_wrongHops (d + 1) kc ks 0 [(0, .ref b)] [] n (tW h b s a) Q := by
  refine z_iconst (v := 0) dX6_wrongHops_0 (by decide) ?_
  refine z_istore_n [1, 0] [(0, .ref b), (1, .int 0)] dX6_wrongHops_1 (by decide) rfl ?_
  refine z_iconst (v := 0) dX6_wrongHops_2 (by decide) ?_
  refine z_istore_n [1, 2, 0] [(0, .ref b), (1, .int 0), (2, .int 0)] dX6_wrongHops_3 (by decide) rfl ?_
  exact w_wrongHops_l hb hR B 0 (by omega) hq
end
