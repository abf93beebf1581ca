/-! THE ABSTRACT MACHINE. A world is a function from places (0 .. n-1) to cells; references are places; 'ad' tells where a place lies.
Zj: from this place of a method's code, over this world, the machine comes to the method's end with Q. -/
def zv (ad : Nat → Nat) (v : Value) : Value := match v with
  | .ref k => .ref (ad k)
  | w => w
theorem zv_cat (ad : Nat → Nat) (v : Value) : (zv ad v).category = v.category := by cases v <;> rfl
theorem zv_cats (ad : Nat → Nat) (vs : List Value) : ((vs.map (zv ad)).map fun v => v.category) = vs.map fun v => v.category := by
  induction vs with
  | nil => rfl
  | cons a l ih => simp only [List.map_cons, zv_cat, ih]
abbrev zArr : Type := (Nat → Int32) ⊕ (Nat → Int64) ⊕ (Nat → UInt32) ⊕ (Nat → UInt64) ⊕ (Nat → Option Nat)
def zc (ad : Nat → Nat) (a : zArr) : zArr := match a with
  | .inr (.inr (.inr (.inr f))) => .inr (.inr (.inr (.inr (fun j => (f j).map ad))))
  | .inr (.inr (.inr (.inl f))) => .inr (.inr (.inr (.inl f)))
  | .inr (.inr (.inl f)) => .inr (.inr (.inl f))
  | .inr (.inl f) => .inr (.inl f)
  | .inl f => .inl f
def ze (ad : Nat → Nat) (cA : Nat → ClassId) (e : va_E) : va_E := match e with
  | .inl (t, n, a) => .inl (cA t, n, zc ad a)
  | .inr (ci, fs) => .inr (ci, fs.map (zv ad))
def zw (ad : Nat → Nat) (cA : Nat → ClassId) (n : Nat) (h : Nat → va_E) : va_W := (List.range n).map fun k => (ad k, ze ad cA (h k))
theorem zw_get {ad : Nat → Nat} {cA : Nat → ClassId} {n : Nat} {h : Nat → va_E} {k : Nat} (hk : k < n) : (zw ad cA n h)[k]? = some (ad k, ze ad cA (h k)) := by
  simp [zw, hk]
theorem zw_len {ad : Nat → Nat} {cA : Nat → ClassId} {n : Nat} {h : Nat → va_E} : (zw ad cA n h).length = n := by simp [zw]
theorem zw_set {ad : Nat → Nat} {cA : Nat → ClassId} {n : Nat} {h : Nat → va_E} {k : Nat} {e : va_E} (hk : k < n) : (zw ad cA n h).set k (ad k, ze ad cA e) = zw ad cA n (va_up h k e) := by
  apply List.ext_getElem?
  intro i
  by_cases hi : i < n
  · by_cases hik : i = k
    · subst hik
      rw [List.getElem?_set_self (by rw [zw_len]; exact hi), zw_get hi]
      simp [va_up]
    · rw [List.getElem?_set_ne (Ne.symm hik), zw_get hi, zw_get hi]
      simp [va_up, hik]
  · rw [List.getElem?_eq_none (by rw [List.length_set, zw_len]; omega), List.getElem?_eq_none (by rw [zw_len]; omega)]
def zokv (n : Nat) (v : Value) : Prop := match v with
  | .ref k => k < n ∨ zB ≤ k
  | _ => True
theorem kVo_ok {v : Value} (h : kVo v = true) : zokv 0 v := by
  cases v with
  | ref k => exact Or.inr (of_decide_eq_true h)
  | _ => trivial
theorem kTo_ok {c : List Int32 ⊕ Nat} (h : kTo c = true) (j : Nat) : zokv 0 (kTf c j) := by
  cases c with
  | inl l => trivial
  | inr b => exact Or.inr (Nat.le_trans (of_decide_eq_true h) (Nat.le_add_right b j))
def zok (n : Nat) (e : va_E) : Prop := match e with
  | .inl (_, _, .inr (.inr (.inr (.inr f)))) => ∀ j k, f j = some k → k < n ∨ zB ≤ k
  | .inl _ => True
  | .inr (_, fs) => ∀ v ∈ fs, zokv n v
def zag (n n' : Nat) (ad ad' : Nat → Nat) : Prop := n ≤ n' ∧ (∀ k, k < n ∨ zB ≤ k → ad' k = ad k) ∧ (n' = n → ad' = ad)
theorem zag_rf {n : Nat} {ad : Nat → Nat} : zag n n ad ad := ⟨Nat.le_refl _, fun _ _ => rfl, fun _ => rfl⟩
theorem zag_tr {n n1 n2 : Nat} {ad a1 a2 : Nat → Nat} (h1 : zag n n1 ad a1) (h2 : zag n1 n2 a1 a2) : zag n n2 ad a2 :=
  ⟨Nat.le_trans h1.1 h2.1, fun k hk => (h2.2.1 k (hk.imp (fun h => Nat.lt_of_lt_of_le h h1.1) id)).trans (h1.2.1 k hk), fun e => by
    have e1 : n1 = n := Nat.le_antisymm (e ▸ h2.1) h1.1
    have e2 : n2 = n1 := e.trans e1.symm
    rw [h2.2.2 e2, h1.2.2 e1]⟩
theorem zag_push {n q : Nat} {ad : Nat → Nat} (h : n < zB) : zag n (n + 1) ad (va_up ad n q) :=
  ⟨Nat.le_succ _, fun k hk => by
    have : k ≠ n := by omega
    simp [va_up, this], fun e => by omega⟩
theorem zv_ag {n n' : Nat} {ad ad' : Nat → Nat} {v : Value} (h : zag n n' ad ad') (hv : zokv n v) : zv ad' v = zv ad v := by
  cases v with
  | ref k => show Value.ref (ad' k) = Value.ref (ad k); rw [h.2.1 k hv]
  | _ => rfl
theorem zvs_ag {n n' : Nat} {ad ad' : Nat → Nat} {vs : List Value} (h : zag n n' ad ad') (hv : ∀ v ∈ vs, zokv n v) : vs.map (zv ad') = vs.map (zv ad) :=
  List.map_congr_left fun v hm => zv_ag h (hv v hm)
theorem ze_ag {n n' : Nat} {ad ad' : Nat → Nat} {cA : Nat → ClassId} {e : va_E} (h : zag n n' ad ad') (he : zok n e) : ze ad' cA e = ze ad cA e := by
  rcases e with ⟨t, m, a⟩ | ⟨ci, fs⟩
  · rcases a with f | f | f | f | f
    · rfl
    · rfl
    · rfl
    · rfl
    · show (Sum.inl (cA t, m, zc ad' _) : va_E) = Sum.inl (cA t, m, zc ad _)
      have : (fun j => (f j).map ad') = fun j => (f j).map ad := by
        funext j
        cases hj : f j with
        | none => rfl
        | some k => simp only [Option.map_some]; rw [h.2.1 k (he j k hj)]
      simp only [zc, this]
  · show (Sum.inr (ci, fs.map (zv ad')) : va_E) = Sum.inr (ci, fs.map (zv ad))
    rw [zvs_ag h he]
theorem zw_ag {n n' : Nat} {ad ad' : Nat → Nat} {cA : Nat → ClassId} {hp : Nat → va_E} (h : zag n n' ad ad') (hw : ∀ k, k < n → zok n (hp k)) : zw ad' cA n hp = zw ad cA n hp := by
  unfold zw
  refine List.map_congr_left fun k hk => ?_
  have hk := List.mem_range.mp hk
  rw [ze_ag h (hw k hk), h.2.1 k (Or.inl hk)]
theorem zokv_mono {n n' : Nat} (h : n ≤ n') {v : Value} (hv : zokv n v) : zokv n' v := by
  cases v with
  | ref k => exact hv.imp (fun x => Nat.lt_of_lt_of_le x h) id
  | _ => trivial
theorem zok_mono {n n' : Nat} (h : n ≤ n') {e : va_E} (he : zok n e) : zok n' e := by
  rcases e with ⟨t, m, a⟩ | ⟨ci, fs⟩
  · rcases a with f | f | f | f | f
    · trivial
    · trivial
    · trivial
    · trivial
    · exact fun j k hj => (he j k hj).imp (fun x => Nat.lt_of_lt_of_le x h) id
  · exact fun v hv => zokv_mono h (he v hv)
/-- the world in the heap -/
def zR (D : va_G) (cA : Nat → ClassId) (sz0 : Nat) (ad : Nat → Nat) (n : Nat) (h : Nat → va_E) (H : Heap) : Prop := va_P D vwCl (zw ad cA n h) H ∧ va_D (fun q => sz0 ≤ q) (zw ad cA n h) ∧ ∀ k, k < n → zok n (h k)
def zt (cA : Nat → ClassId) : List (ClassId × FieldType) := [(cA 0, .int), (cA 1, .int), (cA 2, .int), (cA 3, .object "NeighbourHash$Table")]
/-- the launch, and the script of the law: its length, its ints -/
abbrev zL : Type := Launch × Nat × (Nat → Int32)
/-- String's formatter: null, or a reference that is never followed; it lies at the place zB + 600 -/
def zSq (ad : Nat → Nat) (A : Nat → Prop) (U : State) (H : Heap) : Prop := True
theorem zSq.moved {ad : Nat → Nat} {A : Nat → Prop} {u U : State} {H : Heap} (hv : u.vm.Alike U.vm) (h : zSq ad A u H) : zSq ad A U H := trivial
theorem zSq.kept {ad : Nat → Nat} {A : Nat → Prop} {U : State} {H H1 : Heap} (h : zSq ad A U H) (hq : ∀ a : Nat, a < H.size → ¬ A a → H1[a]? = H[a]?) : zSq ad A U H1 := trivial
def zC (l : zL) (sz0 : Nat) (ad : Nat → Nat) (U : State) (H : Heap) : Prop :=
  (∀ q ∈ kO, va_O q.1 (ad q.2) (fun a => sz0 ≤ a) U H) ∧ (∀ q ∈ kF, va_OF q.1 q.2.1 q.2.2.1 (zv ad q.2.2.2.1) (ad q.2.2.2.2) (fun a => sz0 ≤ a) U H) ∧
  (∀ q ∈ kT, va_T q.1 (ad q.2.1) q.2.2.1 (fun j => zv ad (kTf q.2.2.2 j)) (fun a => sz0 ≤ a) U H) ∧ (∀ q ∈ kZ, va_Z q.1 q.2.1 q.2.2.1 (zv ad q.2.2.2) (fun a => sz0 ≤ a) U H) ∧
  (∀ q ∈ kR, vk_R q.1 q.2.1 q.2.2.1 (ad q.2.2.2) U) ∧ (∀ w ∈ kN, va_Nw w U) ∧
  vx_Zq Bundle.tN "UNASSIGNED_STACK" Bundle.steD (fun a => sz0 ≤ a) U H ∧ vx_Zq Bundle.tN "SUPPRESSED_SENTINEL" Bundle.listD (fun a => sz0 ≤ a) U H ∧
  (∀ i ∈ kE, ∀ j ∈ kE, ad i = ad j → i = j) ∧ (∀ q ∈ kX, va_Nc q.1 q.2 U) ∧ va_AO "NeighbourHash$Table" U ∧ va_T .int (ad (zB + 500)) l.2.1 (fun j => .int (l.2.2 j)) (fun a => sz0 ≤ a) U H ∧ zSq ad (fun a => sz0 ≤ a) U H
theorem zNw_decl {y : MethodName} {s U : State} (hW : s.WarmedH U.vm) (hZ : va_Nw (.declares y) s) : va_Nw (.declares y) U := va_tabs rfl (rfl : (s.setVm U.vm).vm = U.vm) (by rw [Cond.declares_setVm hW.alike]; exact hZ)
theorem zC.moved {l : zL} {sz0 : Nat} {ad : Nat → Nat} {s U : State} {H : Heap} (hW : s.WarmedH U.vm) (hH : U.heap = H) (hq : ∀ a : Nat, a < s.heap.size → ¬ sz0 ≤ a → H[a]? = s.heap[a]?) (h : zC l sz0 ad s s.heap) : zC l sz0 ad U U.heap := by
  rw [hH]
  obtain ⟨h1, h2, h3, h4, h5, h6, h7, h8, h9, hX, hO, hY, hSq⟩ := h
  refine ⟨fun q hm => va_O.moved hW.alike ((h1 q hm).kept hq), fun q hm => va_OF.moved hW.alike ((h2 q hm).kept hq), fun q hm => va_T.moved hW.alike ((h3 q hm).kept hq), fun q hm => va_Z.moved hW.alike ((h4 q hm).kept hq), fun q hm => (h5 q hm).warm hW, fun w hm => ?_, vx_Zq.moved hW.alike (h7.kept hq), vx_Zq.moved hW.alike (h8.kept hq), h9, fun q hm => va_Nc.moved hW.alike (hX q hm), hO.moved hW.alike, va_T.moved hW.alike (hY.kept hq), zSq.moved hW.alike (hSq.kept hq)⟩
  rcases kN_nest w hm with ⟨a, i, b, n, d, z, rfl⟩ | ⟨a, i, y, z, rfl⟩ | ⟨a, b, rfl⟩ | ⟨y, rfl⟩
  · exact va_Nw.warmF hW (h6 _ hm)
  · exact va_Nw.warmM hW (h6 _ hm)
  · exact va_Nw.warmC hW (h6 _ hm)
  · exact zNw_decl hW (h6 _ hm)
theorem zC.same {l : zL} {sz0 : Nat} {ad : Nat → Nat} {s U : State} (hv : U.vm = s.vm) (hh : U.heap = s.heap) (h : zC l sz0 ad s s.heap) : zC l sz0 ad U U.heap := by
  rw [hh]
  have hA : s.vm.Alike U.vm := by rw [hv]; exact Vm.Alike.refl _
  obtain ⟨h1, h2, h3, h4, h5, h6, h7, h8, h9, hX, hO, hY, hSq⟩ := h
  refine ⟨fun q hm => va_O.moved hA (h1 q hm), fun q hm => va_OF.moved hA (h2 q hm), fun q hm => va_T.moved hA (h3 q hm), fun q hm => va_Z.moved hA (h4 q hm), fun q hm => (h5 q hm).same hv, fun w hm => ?_, vx_Zq.moved hA h7, vx_Zq.moved hA h8, h9, fun q hm => va_Nc.moved hA (hX q hm), hO.moved hA, va_T.moved hA hY, zSq.moved hA hSq⟩
  rcases kN_nest w hm with ⟨a, i, b, n, d, z, rfl⟩ | ⟨a, i, y, z, rfl⟩ | ⟨a, b, rfl⟩ | ⟨y, rfl⟩
  · exact va_Nw.same rfl hv.symm (h6 _ hm)
  · exact va_Nw.same rfl hv.symm (h6 _ hm)
  · exact va_Nw.same rfl hv.symm (h6 _ hm)
  · exact va_Nw.same rfl hv.symm (h6 _ hm)
theorem zC.ag {l : zL} {sz0 n n' : Nat} {ad ad' : Nat → Nat} {s : State} {H : Heap} (hg : zag n n' ad ad') (h : zC l sz0 ad s H) : zC l sz0 ad' s H := by
  obtain ⟨h1, h2, h3, h4, h5, h6, h7, h8, h9, hX, hO, hY, hSq⟩ := h
  have e : ∀ k, zB ≤ k → ad' k = ad k := fun k hk => hg.2.1 k (Or.inr hk)
  have ev : ∀ v, zokv 0 v → zv ad' v = zv ad v := fun v hv => zv_ag hg (zokv_mono (Nat.zero_le _) hv)
  refine ⟨fun q hm => ?_, fun q hm => ?_, fun q hm => ?_, fun q hm => ?_, fun q hm => ?_, h6, h7, h8, fun i hi j hj => ?_, hX, hO, by rw [e (zB + 500) (Nat.le_add_right _ _)]; exact hY, trivial⟩
  · rw [e _ (kO_hi q hm)]; exact h1 q hm
  · rw [e _ (kF_hi0 q hm).1, ev _ (kVo_ok (kF_hi0 q hm).2)]; exact h2 q hm
  · rw [e _ (kT_hi0 q hm).1, show (fun j => zv ad' (kTf q.2.2.2 j)) = fun j => zv ad (kTf q.2.2.2 j) from funext fun j => ev _ (kTo_ok (kT_hi0 q hm).2 j)]; exact h3 q hm
  · rw [ev _ (kVo_ok (kZ_hi0 q hm))]; exact h4 q hm
  · rw [e _ (kR_hi q hm)]; exact h5 q hm
  · rw [e _ (kE_hi i hi), e _ (kE_hi j hj)]; exact h9 i hi j hj
/-- a method: its name, code, locals, return type, exception table -/
abbrev zM : Type := MethodName × ByteArray × Nat × Option FieldType × List (Nat × Nat × Nat × Nat)
def zTs : List Cond := lw_tbl.filter goodWord
theorem zIn {w : Cond} (i : Nat) (h : lw_tbl[i]? = some w) (hg : goodWord w = true) : w ∈ zTs := List.mem_filter.mpr ⟨List.mem_of_getElem? h, hg⟩
theorem zTs_good : ∀ w ∈ zTs, goodWord w = true := fun _ h => (List.mem_filter.mp h).2
def zcode (Y : zM) : Cond := if Y.2.2.2.2 = [] then .code Y.1 Y.2.1 Y.2.2.1 Y.2.2.2.1 else .codeWith Y.1 Y.2.1 Y.2.2.1 Y.2.2.2.1 Y.2.2.2.2
def zws (Y : zM) : List Cond := zcode Y :: zTs
def zrm (d kc ks : Nat) : Room := { frames := d + 2, cells := kc, slots := ks, locals := 40 * d + 54 }
/-- what stands throughout a method's run -/
def zK (Y : zM) (d : Nat) (l : Launch) (p : Program) (R : Room) (s : State) (m : MethodId) (args : Array Value) (meth : Method) (c : Code) (sz0 : Nat) (D : va_G) (cA : Nat → ClassId) : Prop :=
  p.tables.exec = Jvm.exec ∧ c.code = Y.2.1 ∧ c.maxLocals = Y.2.2.1 ∧ meth.sig.returnType = Y.2.2.2.1 ∧ meth.locks = false ∧ s.vm.findClass Y.1.cls = some m.cls ∧ (Y.1.name = "<init>" → meth.name = "<init>") ∧
  c.exceptionTable.toList = tableOf Y.2.2.2.2 ∧ (∀ w ∈ zTs, w.before args s = true) ∧ va_K D vwCl (zt cA) s ∧ sz0 ≤ s.heap.size ∧ d + 2 ≤ R.frames ∧ 40 * d + 54 ≤ R.locals ∧ l.stackTraces = false
def zret (Y : zM) (pc : Nat) (r : Option Value) : Prop :=
  (r = none ∧ Y.2.2.2.1 = none ∧ decode Y.2.1 pc = .ok (.return_, 1)) ∨
  (∃ (v : Int32) (ty : FieldType), r = some (.int v) ∧ Y.2.2.2.1 = some ty ∧ narrow ty (.int v) = .int v ∧ decode Y.2.1 pc = .ok (.ireturn, 1)) ∨
  (∃ v : UInt32, r = some (.float v) ∧ Y.2.2.2.1 = some .float ∧ decode Y.2.1 pc = .ok (.freturn, 1)) ∨
  (∃ v : UInt64, r = some (.double v) ∧ Y.2.2.2.1 = some .double ∧ decode Y.2.1 pc = .ok (.dreturn, 1)) ∨
  (∃ v : Int64, r = some (.long v) ∧ Y.2.2.2.1 = some .long ∧ decode Y.2.1 pc = .ok (.lreturn, 1)) ∨
  (∃ (v : Value) (ty : FieldType), r = some v ∧ (v = .null ∨ ∃ a, v = .ref a) ∧ Y.2.2.2.1 = some ty ∧ ((∃ n, ty = .object n) ∨ ∃ t, ty = .array t) ∧ decode Y.2.1 pc = .ok (.areturn, 1))
abbrev zQ : Type := (Option Value ⊕ String) → Nat → (Nat → va_E) → Prop
/-- the way out: at a return with Q the goal Z is near; what is thrown goes out to the caller -/
def zX (Y : zM) (p : Program) (l : Launch) (e : Env) (R : Room) (s : State) (m : MethodId) (args : Array Value) (below : List Frame) (meth : Method) (c : Code) (sz0 : Nat) (D : va_G) (cA : Nat → ClassId) (ad : Nat → Nat) (n mc ms : Nat) (Z : State → Prop) (Q : zQ) : Prop :=
  (∀ (ad' : Nat → Nat) (n' : Nat) (h' : Nat → va_E) (r : Option Value) (H : Heap) (locs : List Loc) (pc : Nat) (ls : Array Slot), zag n n' ad ad' → Q (.inl r) n' h' → zR D cA sz0 ad' n' h' H → va_S (fun q => sz0 ≤ q) s.heap H locs → zret Y pc r →
    W p l e R s m args below meth c H locs mc ms Z (F0 m pc ls (r.toList.map (zv ad')))) ∧
  ((∀ E n' h', ¬ Q (.inr E) n' h') ∨
    ∃ (Qc : Array Value → State → Outcome → State → Prop) (XC : String → State → State → Prop), Z = vx_MQ below Qc XC args s mc ms (fun q => sz0 ≤ q) ∧
      ∀ (ad' : Nat → Nat) (n' : Nat) (h' : Nat → va_E) (E : String) (t : State), zag n n' ad ad' → Q (.inr E) n' h' → zR D cA sz0 ad' n' h' t.heap → s.vm.Alike t.vm → va_F (fun q => sz0 ≤ q) s t → XC E s t)
theorem zX.ag {Y : zM} {p : Program} {l : Launch} {e : Env} {R : Room} {s : State} {m : MethodId} {args : Array Value} {below : List Frame} {meth : Method} {c : Code} {sz0 : Nat} {D : va_G} {cA : Nat → ClassId} {ad a1 : Nat → Nat} {n n1 mc ms : Nat} {Z : State → Prop} {Q : zQ} (hg : zag n n1 ad a1) (h : zX Y p l e R s m args below meth c sz0 D cA ad n mc ms Z Q) : zX Y p l e R s m args below meth c sz0 D cA a1 n1 mc ms Z Q := by
  refine ⟨fun ad' n' h' r H locs pc ls g => h.1 ad' n' h' r H locs pc ls (zag_tr hg g), ?_⟩
  rcases h.2 with h2 | ⟨Qc, XC, h2, h3⟩
  · exact Or.inl h2
  · exact Or.inr ⟨Qc, XC, h2, fun ad' n' h' E t g => h3 ad' n' h' E t (zag_tr hg g)⟩
def zlv (ad : Nat → Nat) (lv : List (Nat × Value)) : List (Nat × Value) := lv.map fun q => (q.1, zv ad q.2)
/-- THE JUDGEMENT -/
def Zj (l : zL) (Y : zM) (d kc ks pc : Nat) (lv : List (Nat × Value)) (st : List Value) (n : Nat) (h : Nat → va_E) (Q : zQ) : Prop :=
  ∀ (p : Program) (e : Env) (R : Room) (s : State) (m : MethodId) (args : Array Value) (below : List Frame) (meth : Method) (c : Code) (sz0 : Nat) (D : va_G) (cA : Nat → ClassId) (ad : Nat → Nat) (H : Heap) (locs : List Loc) (cells slots mc ms : Nat) (ls : Array Slot) (Z : State → Prop),
    zK Y d l.1 p R s m args meth c sz0 D cA → zC l sz0 ad s s.heap → zX Y p l.1 e R s m args below meth c sz0 D cA ad n mc ms Z Q → zR D cA sz0 ad n h H → va_S (fun q => sz0 ≤ q) s.heap H locs → lv_has ls Y.2.2.1 (zlv ad lv) →
    cells + kc ≤ mc → slots + ks ≤ ms → mc ≤ R.cells → ms ≤ R.slots → W p l.1 e R s m args below meth c H locs cells slots Z (F0 m pc ls (st.map (zv ad)))
theorem zlv_at {ad : Nat → Nat} {ls : Array Slot} {nL : Nat} {lv : List (Nat × Value)} (h : lv_has ls nL (zlv ad lv)) {k i : Nat} {v : Value} (hk : lv[k]? = some (i, v)) : ls[i]? = some (.val (zv ad v)) :=
  h.2.2 (i, zv ad v) (List.mem_map.mpr ⟨(i, v), List.mem_of_getElem? hk, rfl⟩)
theorem zlv_sub {ad : Nat → Nat} {ls : Array Slot} {nL : Nat} {lv lv' : List (Nat × Value)} (h : lv_has ls nL (zlv ad lv)) (hs : ∀ q ∈ lv', q ∈ lv) : lv_has ls nL (zlv ad lv') :=
  ⟨h.1, h.2.1, fun q hq => by
    obtain ⟨q0, h0, rfl⟩ := List.mem_map.mp hq
    exact h.2.2 _ (List.mem_map.mpr ⟨q0, hs q0 h0, rfl⟩)⟩
/-- fewer locals, in any order -/
theorem z_lv {l : zL} {Y : zM} {d kc ks pc n : Nat} {lv : List (Nat × Value)} {st : List Value} {h : Nat → va_E} {Q : zQ} (lv' : List (Nat × Value)) (is : List Nat) (hs : lv_pick lv is = lv') (k : Zj l Y d kc ks pc lv' st n h Q) : Zj l Y d kc ks pc lv st n h Q := by
  intro p e R s m args below meth c sz0 D cA ad H locs cells slots mc ms ls Z hK hC hX hR hS hl
  refine k p e R s m args below meth c sz0 D cA ad H locs cells slots mc ms ls Z hK hC hX hR hS (zlv_sub hl fun q hq => ?_)
  rw [← hs] at hq
  obtain ⟨i, -, hi⟩ := List.mem_filterMap.mp hq
  exact List.mem_of_getElem? hi
/-- more room than needed -/
theorem z_room {l : zL} {Y : zM} {d d' kc ks kc' ks' pc n : Nat} {lv : List (Nat × Value)} {st : List Value} {h : Nat → va_E} {Q : zQ} (hd : d' ≤ d) (h1 : kc' ≤ kc) (h2 : ks' ≤ ks) (k : Zj l Y d' kc' ks' pc lv st n h Q) : Zj l Y d kc ks pc lv st n h Q := by
  intro p e R s m args below meth c sz0 D cA ad H locs cells slots mc ms ls Z hK hC hX hR hS hl g1 g2 g3 g4
  obtain ⟨a1, a2, a3, a4, a5, a6, a7, a8, a9, a10, a11, a12, a13, a14⟩ := hK
  exact k p e R s m args below meth c sz0 D cA ad H locs cells slots mc ms ls Z ⟨a1, a2, a3, a4, a5, a6, a7, a8, a9, a10, a11, by omega, by omega, a14⟩ hC hX hR hS hl (by omega) (by omega) g3 g4
/-- a stronger end -/
theorem z_post {l : zL} {Y : zM} {d kc ks pc n : Nat} {lv : List (Nat × Value)} {st : List Value} {h : Nat → va_E} {Q Q' : zQ} (hq : ∀ r n' h', Q' r n' h' → Q r n' h') (k : Zj l Y d kc ks pc lv st n h Q') : Zj l Y d kc ks pc lv st n h Q := by
  intro p e R s m args below meth c sz0 D cA ad H locs cells slots mc ms ls Z hK hC hX
  refine k p e R s m args below meth c sz0 D cA ad H locs cells slots mc ms ls Z hK hC ⟨fun ad' n' h' r H locs pc ls g q => hX.1 ad' n' h' r H locs pc ls g (hq _ _ _ q), ?_⟩
  rcases hX.2 with h2 | ⟨Qc, XC, h2, h3⟩
  · exact Or.inl fun E n' h' q => h2 E n' h' (hq _ _ _ q)
  · exact Or.inr ⟨Qc, XC, h2, fun ad' n' h' E t g q => h3 ad' n' h' E t g (hq _ _ _ q)⟩
