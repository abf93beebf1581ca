theorem z_iconst {l : zL} {Y : zM} {d kc ks pc n : Nat} {lv : List (Nat × Value)} {rest : List Value} {h : Nat → va_E} {Q : zQ} {i : Int} {v : Int32} (hd : decode Y.2.1 pc = .ok (.iconst i, 1)) (hv : Int32.ofInt i = v) (k : Zj l Y d kc ks (pc + 1) lv (.int v :: rest) n h Q) : Zj l Y d kc ks pc lv rest n h Q := by
  intro p e R s m args below meth c sz0 D cA ad H locs cells slots mc ms ls Z hK hC hX hR hS hl g1 g2 g3 g4
  exact lv_iconst hK.1 hK.2.1 hd hv (k p e R s m args below meth c sz0 D cA ad H locs cells slots mc ms ls Z hK hC hX hR hS hl g1 g2 g3 g4)
theorem z_bipush {l : zL} {Y : zM} {d kc ks pc n : Nat} {lv : List (Nat × Value)} {rest : List Value} {h : Nat → va_E} {Q : zQ} {i : Int} {v : Int32} (hd : decode Y.2.1 pc = .ok (.bipush i, 2)) (hv : (Int8.ofInt i).toInt32 = v) (k : Zj l Y d kc ks (pc + 2) lv (.int v :: rest) n h Q) : Zj l Y d kc ks pc lv rest n h Q := by
  intro p e R s m args below meth c sz0 D cA ad H locs cells slots mc ms ls Z hK hC hX hR hS hl g1 g2 g3 g4
  exact lv_bipush hK.1 hK.2.1 hd hv (k p e R s m args below meth c sz0 D cA ad H locs cells slots mc ms ls Z hK hC hX hR hS hl g1 g2 g3 g4)
theorem z_sipush {l : zL} {Y : zM} {d kc ks pc n : Nat} {lv : List (Nat × Value)} {rest : List Value} {h : Nat → va_E} {Q : zQ} {i : Int} {v : Int32} (hd : decode Y.2.1 pc = .ok (.sipush i, 3)) (hv : (Int16.ofInt i).toInt32 = v) (k : Zj l Y d kc ks (pc + 3) lv (.int v :: rest) n h Q) : Zj l Y d kc ks pc lv rest n h Q := by
  intro p e R s m args below meth c sz0 D cA ad H locs cells slots mc ms ls Z hK hC hX hR hS hl g1 g2 g3 g4
  exact lv_sipush hK.1 hK.2.1 hd hv (k p e R s m args below meth c sz0 D cA ad H locs cells slots mc ms ls Z hK hC hX hR hS hl g1 g2 g3 g4)
theorem z_null {l : zL} {Y : zM} {d kc ks pc n : Nat} {lv : List (Nat × Value)} {rest : List Value} {h : Nat → va_E} {Q : zQ}  (hd : decode Y.2.1 pc = .ok (.aconst_null, 1)) (k : Zj l Y d kc ks (pc + 1) lv (.null :: rest) n h Q) : Zj l Y d kc ks pc lv rest n h Q := by
  intro p e R s m args below meth c sz0 D cA ad H locs cells slots mc ms ls Z hK hC hX hR hS hl g1 g2 g3 g4
  exact lv_null hK.1 hK.2.1 hd (k p e R s m args below meth c sz0 D cA ad H locs cells slots mc ms ls Z hK hC hX hR hS hl g1 g2 g3 g4)
theorem z_fconst0 {l : zL} {Y : zM} {d kc ks pc n : Nat} {lv : List (Nat × Value)} {rest : List Value} {h : Nat → va_E} {Q : zQ}  (hd : decode Y.2.1 pc = .ok (.fconst 0, 1)) (k : Zj l Y d kc ks (pc + 1) lv (.float FP.fconst0 :: rest) n h Q) : Zj l Y d kc ks pc lv rest n h Q := by
  intro p e R s m args below meth c sz0 D cA ad H locs cells slots mc ms ls Z hK hC hX hR hS hl g1 g2 g3 g4
  exact lv_fconst0 hK.1 hK.2.1 hd (k p e R s m args below meth c sz0 D cA ad H locs cells slots mc ms ls Z hK hC hX hR hS hl g1 g2 g3 g4)
theorem z_dconst0 {l : zL} {Y : zM} {d kc ks pc n : Nat} {lv : List (Nat × Value)} {rest : List Value} {h : Nat → va_E} {Q : zQ}  (hd : decode Y.2.1 pc = .ok (.dconst 0, 1)) (k : Zj l Y d kc ks (pc + 1) lv (.double FP.dconst0 :: rest) n h Q) : Zj l Y d kc ks pc lv rest n h Q := by
  intro p e R s m args below meth c sz0 D cA ad H locs cells slots mc ms ls Z hK hC hX hR hS hl g1 g2 g3 g4
  exact lv_dconst0 hK.1 hK.2.1 hd (k p e R s m args below meth c sz0 D cA ad H locs cells slots mc ms ls Z hK hC hX hR hS hl g1 g2 g3 g4)
theorem z_ldc {l : zL} {Y : zM} {d kc ks pc n : Nat} {lv : List (Nat × Value)} {rest : List Value} {h : Nat → va_E} {Q : zQ} {idx : Nat} {v : Int32} (hw : Jvm.Cond.constant Y.1.cls idx v ∈ zTs) (hd : decode Y.2.1 pc = .ok (.ldc idx, 2)) (k : Zj l Y d kc ks (pc + 2) lv (.int v :: rest) n h Q) : Zj l Y d kc ks pc lv rest n h Q := by
  intro p e R s m args below meth c sz0 D cA ad H locs cells slots mc ms ls Z hK hC hX hR hS hl g1 g2 g3 g4
  exact lv_ldc hK.1 hK.2.1 hK.2.2.2.2.2.1 (hK.2.2.2.2.2.2.2.2.1 _ hw) hd (k p e R s m args below meth c sz0 D cA ad H locs cells slots mc ms ls Z hK hC hX hR hS hl g1 g2 g3 g4)
theorem z_ldcw {l : zL} {Y : zM} {d kc ks pc n : Nat} {lv : List (Nat × Value)} {rest : List Value} {h : Nat → va_E} {Q : zQ} {idx : Nat} {v : Int32} (hw : Jvm.Cond.constant Y.1.cls idx v ∈ zTs) (hd : decode Y.2.1 pc = .ok (.ldc_w idx, 3)) (k : Zj l Y d kc ks (pc + 3) lv (.int v :: rest) n h Q) : Zj l Y d kc ks pc lv rest n h Q := by
  intro p e R s m args below meth c sz0 D cA ad H locs cells slots mc ms ls Z hK hC hX hR hS hl g1 g2 g3 g4
  exact lv_ldcw hK.1 hK.2.1 hK.2.2.2.2.2.1 (hK.2.2.2.2.2.2.2.2.1 _ hw) hd (k p e R s m args below meth c sz0 D cA ad H locs cells slots mc ms ls Z hK hC hX hR hS hl g1 g2 g3 g4)
theorem z_iload {l : zL} {Y : zM} {d kc ks pc n : Nat} {lv : List (Nat × Value)} {rest : List Value} {h : Nat → va_E} {Q : zQ} {i j : Nat} {v : Int32} (hd : decode Y.2.1 pc = .ok (.iload i, 2)) (hj : lv[j]? = some (i, .int v)) (k : Zj l Y d kc ks (pc + 2) lv (.int v :: rest) n h Q) : Zj l Y d kc ks pc lv rest n h Q := by
  intro p e R s m args below meth c sz0 D cA ad H locs cells slots mc ms ls Z hK hC hX hR hS hl g1 g2 g3 g4
  exact lv_iload hK.1 hK.2.1 hd (zlv_at hl hj) (k p e R s m args below meth c sz0 D cA ad H locs cells slots mc ms ls Z hK hC hX hR hS hl g1 g2 g3 g4)
theorem z_iload_n {l : zL} {Y : zM} {d kc ks pc n : Nat} {lv : List (Nat × Value)} {rest : List Value} {h : Nat → va_E} {Q : zQ} {i : Fin 4} {j : Nat} {v : Int32} (hd : decode Y.2.1 pc = .ok (.iload_n i, 1)) (hj : lv[j]? = some ((i : Nat), .int v)) (k : Zj l Y d kc ks (pc + 1) lv (.int v :: rest) n h Q) : Zj l Y d kc ks pc lv rest n h Q := by
  intro p e R s m args below meth c sz0 D cA ad H locs cells slots mc ms ls Z hK hC hX hR hS hl g1 g2 g3 g4
  exact lv_iload_n hK.1 hK.2.1 hd rfl (zlv_at hl hj) (k p e R s m args below meth c sz0 D cA ad H locs cells slots mc ms ls Z hK hC hX hR hS hl g1 g2 g3 g4)
theorem z_aload {l : zL} {Y : zM} {d kc ks pc n : Nat} {lv : List (Nat × Value)} {rest : List Value} {h : Nat → va_E} {Q : zQ} {i j : Nat} {v : Nat} (hd : decode Y.2.1 pc = .ok (.aload i, 2)) (hj : lv[j]? = some (i, .ref v)) (k : Zj l Y d kc ks (pc + 2) lv (.ref v :: rest) n h Q) : Zj l Y d kc ks pc lv rest n h Q := by
  intro p e R s m args below meth c sz0 D cA ad H locs cells slots mc ms ls Z hK hC hX hR hS hl g1 g2 g3 g4
  exact lv_aload hK.1 hK.2.1 hd (zlv_at hl hj) (k p e R s m args below meth c sz0 D cA ad H locs cells slots mc ms ls Z hK hC hX hR hS hl g1 g2 g3 g4)
theorem z_aload_n {l : zL} {Y : zM} {d kc ks pc n : Nat} {lv : List (Nat × Value)} {rest : List Value} {h : Nat → va_E} {Q : zQ} {i : Fin 4} {j : Nat} {v : Nat} (hd : decode Y.2.1 pc = .ok (.aload_n i, 1)) (hj : lv[j]? = some ((i : Nat), .ref v)) (k : Zj l Y d kc ks (pc + 1) lv (.ref v :: rest) n h Q) : Zj l Y d kc ks pc lv rest n h Q := by
  intro p e R s m args below meth c sz0 D cA ad H locs cells slots mc ms ls Z hK hC hX hR hS hl g1 g2 g3 g4
  exact lv_aload_n hK.1 hK.2.1 hd rfl (zlv_at hl hj) (k p e R s m args below meth c sz0 D cA ad H locs cells slots mc ms ls Z hK hC hX hR hS hl g1 g2 g3 g4)
theorem z_aloadN {l : zL} {Y : zM} {d kc ks pc n : Nat} {lv : List (Nat × Value)} {rest : List Value} {h : Nat → va_E} {Q : zQ} {i j : Nat} (hd : decode Y.2.1 pc = .ok (.aload i, 2)) (hj : lv[j]? = some (i, .null)) (k : Zj l Y d kc ks (pc + 2) lv (.null :: rest) n h Q) : Zj l Y d kc ks pc lv rest n h Q := by
  intro p e R s m args below meth c sz0 D cA ad H locs cells slots mc ms ls Z hK hC hX hR hS hl g1 g2 g3 g4
  exact lv_aloadN hK.1 hK.2.1 hd (zlv_at hl hj) (k p e R s m args below meth c sz0 D cA ad H locs cells slots mc ms ls Z hK hC hX hR hS hl g1 g2 g3 g4)
theorem z_aload_nN {l : zL} {Y : zM} {d kc ks pc n : Nat} {lv : List (Nat × Value)} {rest : List Value} {h : Nat → va_E} {Q : zQ} {i : Fin 4} {j : Nat} (hd : decode Y.2.1 pc = .ok (.aload_n i, 1)) (hj : lv[j]? = some ((i : Nat), .null)) (k : Zj l Y d kc ks (pc + 1) lv (.null :: rest) n h Q) : Zj l Y d kc ks pc lv rest n h Q := by
  intro p e R s m args below meth c sz0 D cA ad H locs cells slots mc ms ls Z hK hC hX hR hS hl g1 g2 g3 g4
  exact lv_aload_nN hK.1 hK.2.1 hd rfl (zlv_at hl hj) (k p e R s m args below meth c sz0 D cA ad H locs cells slots mc ms ls Z hK hC hX hR hS hl g1 g2 g3 g4)
theorem z_dload {l : zL} {Y : zM} {d kc ks pc n : Nat} {lv : List (Nat × Value)} {rest : List Value} {h : Nat → va_E} {Q : zQ} {i j : Nat} {v : UInt64} (hd : decode Y.2.1 pc = .ok (.dload i, 2)) (hj : lv[j]? = some (i, .double v)) (k : Zj l Y d kc ks (pc + 2) lv (.double v :: rest) n h Q) : Zj l Y d kc ks pc lv rest n h Q := by
  intro p e R s m args below meth c sz0 D cA ad H locs cells slots mc ms ls Z hK hC hX hR hS hl g1 g2 g3 g4
  exact lv_dload hK.1 hK.2.1 hd (zlv_at hl hj) (k p e R s m args below meth c sz0 D cA ad H locs cells slots mc ms ls Z hK hC hX hR hS hl g1 g2 g3 g4)
theorem zlv_f1 (ad : Nat → Nat) (lv : List (Nat × Value)) (i : Nat) : (zlv ad lv).filter (fun q => !(q.1 == i) && !(q.1 + 1 == i && q.2.category == 2)) = zlv ad (lv.filter (fun q => !(q.1 == i) && !(q.1 + 1 == i && q.2.category == 2))) := by
  unfold zlv
  rw [List.filter_map]
  congr 1
  exact List.filter_congr fun q _ => by simp [Function.comp, zv_cat]
theorem zlv_f2 (ad : Nat → Nat) (lv : List (Nat × Value)) (i : Nat) : (zlv ad lv).filter (fun q => !(q.1 == i) && (!(q.1 == i + 1) && !(q.1 + 1 == i && q.2.category == 2))) = zlv ad (lv.filter (fun q => !(q.1 == i) && (!(q.1 == i + 1) && !(q.1 + 1 == i && q.2.category == 2)))) := by
  unfold zlv
  rw [List.filter_map]
  congr 1
  exact List.filter_congr fun q _ => by simp [Function.comp, zv_cat]
theorem zlv_pk {ad : Nat → Nat} {ls : Array Slot} {nL : Nat} {l0 lv' : List (Nat × Value)} {is : List Nat} (h : lv_has ls nL (zlv ad l0)) (hs : lv_pick l0 is = lv') : lv_has ls nL (zlv ad lv') := zlv_sub h fun q hq => by
  rw [← hs] at hq
  obtain ⟨i, -, hi⟩ := List.mem_filterMap.mp hq
  exact List.mem_of_getElem? hi
theorem z_istore {l : zL} {Y : zM} {d kc ks pc n : Nat} {lv : List (Nat × Value)} {rest : List Value} {h : Nat → va_E} {Q : zQ} {i : Nat} {v : Int32} (is : List Nat) (lv' : List (Nat × Value)) (hd : decode Y.2.1 pc = .ok (.istore i, 2)) (hn : i < Y.2.2.1) (hp : lv_pick ((i, Value.int v) :: lv.filter (fun q => !(q.1 == i) && !(q.1 + 1 == i && q.2.category == 2))) is = lv') (k : Zj l Y d kc ks (pc + 2) lv' rest n h Q) : Zj l Y d kc ks pc lv (Value.int v :: rest) n h Q := by
  intro p e R s m args below meth c sz0 D cA ad H locs cells slots mc ms ls Z hK hC hX hR hS hl g1 g2 g3 g4
  refine lv_istore hK.1 hK.2.1 hd hl hn rfl (fun ls' hl' => ?_)
  rw [zlv_f1] at hl'
  exact k p e R s m args below meth c sz0 D cA ad H locs cells slots mc ms ls' Z hK hC hX hR hS (zlv_pk (l0 := (i, Value.int v) :: lv.filter (fun q => !(q.1 == i) && !(q.1 + 1 == i && q.2.category == 2))) hl' hp) g1 g2 g3 g4
theorem z_istore_n {l : zL} {Y : zM} {d kc ks pc n : Nat} {lv : List (Nat × Value)} {rest : List Value} {h : Nat → va_E} {Q : zQ} {i : Fin 4} {v : Int32} (is : List Nat) (lv' : List (Nat × Value)) (hd : decode Y.2.1 pc = .ok (.istore_n i, 1)) (hn : (i : Nat) < Y.2.2.1) (hp : lv_pick (((i : Nat), Value.int v) :: lv.filter (fun q => !(q.1 == (i : Nat)) && !(q.1 + 1 == (i : Nat) && q.2.category == 2))) is = lv') (k : Zj l Y d kc ks (pc + 1) lv' rest n h Q) : Zj l Y d kc ks pc lv (Value.int v :: rest) n h Q := by
  intro p e R s m args below meth c sz0 D cA ad H locs cells slots mc ms ls Z hK hC hX hR hS hl g1 g2 g3 g4
  refine lv_istore_n hK.1 hK.2.1 hd rfl hl hn rfl (fun ls' hl' => ?_)
  rw [zlv_f1] at hl'
  exact k p e R s m args below meth c sz0 D cA ad H locs cells slots mc ms ls' Z hK hC hX hR hS (zlv_pk (l0 := ((i : Nat), Value.int v) :: lv.filter (fun q => !(q.1 == (i : Nat)) && !(q.1 + 1 == (i : Nat) && q.2.category == 2))) hl' hp) g1 g2 g3 g4
theorem z_astore {l : zL} {Y : zM} {d kc ks pc n : Nat} {lv : List (Nat × Value)} {rest : List Value} {h : Nat → va_E} {Q : zQ} {i : Nat} {v : Nat} (is : List Nat) (lv' : List (Nat × Value)) (hd : decode Y.2.1 pc = .ok (.astore i, 2)) (hn : i < Y.2.2.1) (hp : lv_pick ((i, Value.ref v) :: lv.filter (fun q => !(q.1 == i) && !(q.1 + 1 == i && q.2.category == 2))) is = lv') (k : Zj l Y d kc ks (pc + 2) lv' rest n h Q) : Zj l Y d kc ks pc lv (Value.ref v :: rest) n h Q := by
  intro p e R s m args below meth c sz0 D cA ad H locs cells slots mc ms ls Z hK hC hX hR hS hl g1 g2 g3 g4
  refine lv_astore hK.1 hK.2.1 hd hl hn rfl (fun ls' hl' => ?_)
  rw [zlv_f1] at hl'
  exact k p e R s m args below meth c sz0 D cA ad H locs cells slots mc ms ls' Z hK hC hX hR hS (zlv_pk (l0 := (i, Value.ref v) :: lv.filter (fun q => !(q.1 == i) && !(q.1 + 1 == i && q.2.category == 2))) hl' hp) g1 g2 g3 g4
theorem z_astore_n {l : zL} {Y : zM} {d kc ks pc n : Nat} {lv : List (Nat × Value)} {rest : List Value} {h : Nat → va_E} {Q : zQ} {i : Fin 4} {v : Nat} (is : List Nat) (lv' : List (Nat × Value)) (hd : decode Y.2.1 pc = .ok (.astore_n i, 1)) (hn : (i : Nat) < Y.2.2.1) (hp : lv_pick (((i : Nat), Value.ref v) :: lv.filter (fun q => !(q.1 == (i : Nat)) && !(q.1 + 1 == (i : Nat) && q.2.category == 2))) is = lv') (k : Zj l Y d kc ks (pc + 1) lv' rest n h Q) : Zj l Y d kc ks pc lv (Value.ref v :: rest) n h Q := by
  intro p e R s m args below meth c sz0 D cA ad H locs cells slots mc ms ls Z hK hC hX hR hS hl g1 g2 g3 g4
  refine lv_astore_n hK.1 hK.2.1 hd rfl hl hn rfl (fun ls' hl' => ?_)
  rw [zlv_f1] at hl'
  exact k p e R s m args below meth c sz0 D cA ad H locs cells slots mc ms ls' Z hK hC hX hR hS (zlv_pk (l0 := ((i : Nat), Value.ref v) :: lv.filter (fun q => !(q.1 == (i : Nat)) && !(q.1 + 1 == (i : Nat) && q.2.category == 2))) hl' hp) g1 g2 g3 g4
theorem z_astoreN {l : zL} {Y : zM} {d kc ks pc n : Nat} {lv : List (Nat × Value)} {rest : List Value} {h : Nat → va_E} {Q : zQ} {i : Nat}  (is : List Nat) (lv' : List (Nat × Value)) (hd : decode Y.2.1 pc = .ok (.astore i, 2)) (hn : i < Y.2.2.1) (hp : lv_pick ((i, Value.null) :: lv.filter (fun q => !(q.1 == i) && !(q.1 + 1 == i && q.2.category == 2))) is = lv') (k : Zj l Y d kc ks (pc + 2) lv' rest n h Q) : Zj l Y d kc ks pc lv (Value.null :: rest) n h Q := by
  intro p e R s m args below meth c sz0 D cA ad H locs cells slots mc ms ls Z hK hC hX hR hS hl g1 g2 g3 g4
  refine lv_astoreN hK.1 hK.2.1 hd hl hn rfl (fun ls' hl' => ?_)
  rw [zlv_f1] at hl'
  exact k p e R s m args below meth c sz0 D cA ad H locs cells slots mc ms ls' Z hK hC hX hR hS (zlv_pk (l0 := (i, Value.null) :: lv.filter (fun q => !(q.1 == i) && !(q.1 + 1 == i && q.2.category == 2))) hl' hp) g1 g2 g3 g4
theorem z_astore_nN {l : zL} {Y : zM} {d kc ks pc n : Nat} {lv : List (Nat × Value)} {rest : List Value} {h : Nat → va_E} {Q : zQ} {i : Fin 4}  (is : List Nat) (lv' : List (Nat × Value)) (hd : decode Y.2.1 pc = .ok (.astore_n i, 1)) (hn : (i : Nat) < Y.2.2.1) (hp : lv_pick (((i : Nat), Value.null) :: lv.filter (fun q => !(q.1 == (i : Nat)) && !(q.1 + 1 == (i : Nat) && q.2.category == 2))) is = lv') (k : Zj l Y d kc ks (pc + 1) lv' rest n h Q) : Zj l Y d kc ks pc lv (Value.null :: rest) n h Q := by
  intro p e R s m args below meth c sz0 D cA ad H locs cells slots mc ms ls Z hK hC hX hR hS hl g1 g2 g3 g4
  refine lv_astore_nN hK.1 hK.2.1 hd rfl hl hn rfl (fun ls' hl' => ?_)
  rw [zlv_f1] at hl'
  exact k p e R s m args below meth c sz0 D cA ad H locs cells slots mc ms ls' Z hK hC hX hR hS (zlv_pk (l0 := ((i : Nat), Value.null) :: lv.filter (fun q => !(q.1 == (i : Nat)) && !(q.1 + 1 == (i : Nat) && q.2.category == 2))) hl' hp) g1 g2 g3 g4
theorem z_dstore {l : zL} {Y : zM} {d kc ks pc n : Nat} {lv : List (Nat × Value)} {rest : List Value} {h : Nat → va_E} {Q : zQ} {i : Nat} {v : UInt64} (is : List Nat) (lv' : List (Nat × Value)) (hd : decode Y.2.1 pc = .ok (.dstore i, 2)) (hn : i + 1 < Y.2.2.1) (hp : lv_pick ((i, Value.double v) :: lv.filter (fun q => !(q.1 == i) && (!(q.1 == i + 1) && !(q.1 + 1 == i && q.2.category == 2)))) is = lv') (k : Zj l Y d kc ks (pc + 2) lv' rest n h Q) : Zj l Y d kc ks pc lv (Value.double v :: rest) n h Q := by
  intro p e R s m args below meth c sz0 D cA ad H locs cells slots mc ms ls Z hK hC hX hR hS hl g1 g2 g3 g4
  refine lv_dstore hK.1 hK.2.1 hd hl hn rfl (fun ls' hl' => ?_)
  rw [zlv_f2] at hl'
  exact k p e R s m args below meth c sz0 D cA ad H locs cells slots mc ms ls' Z hK hC hX hR hS (zlv_pk (l0 := (i, Value.double v) :: lv.filter (fun q => !(q.1 == i) && (!(q.1 == i + 1) && !(q.1 + 1 == i && q.2.category == 2)))) hl' hp) g1 g2 g3 g4
theorem z_iinc {l : zL} {Y : zM} {d kc ks pc n : Nat} {lv : List (Nat × Value)} {rest : List Value} {h : Nat → va_E} {Q : zQ} {i j : Nat} {z : Int} {v : Int32} (u : Int32) (is : List Nat) (lv' : List (Nat × Value)) (hd : decode Y.2.1 pc = .ok (.iinc i z, 3)) (hj : lv[j]? = some (i, .int v)) (hv : v + Int32.ofInt z = u) (hn : i < Y.2.2.1) (hp : lv_pick ((i, Value.int u) :: lv.filter (fun q => !(q.1 == i) && !(q.1 + 1 == i && q.2.category == 2))) is = lv') (k : Zj l Y d kc ks (pc + 3) lv' rest n h Q) : Zj l Y d kc ks pc lv rest n h Q := by
  intro p e R s m args below meth c sz0 D cA ad H locs cells slots mc ms ls Z hK hC hX hR hS hl g1 g2 g3 g4
  have hj' : (zlv ad lv)[j]? = some (i, .int v) := by
    show (lv.map _)[j]? = _
    rw [List.getElem?_map, hj]
    rfl
  refine lv_iinc hK.1 hK.2.1 hd hl hj' hv hn rfl (fun ls' hl' => ?_)
  rw [zlv_f1] at hl'
  exact k p e R s m args below meth c sz0 D cA ad H locs cells slots mc ms ls' Z hK hC hX hR hS (zlv_pk (l0 := (i, Value.int u) :: lv.filter (fun q => !(q.1 == i) && !(q.1 + 1 == i && q.2.category == 2))) hl' hp) g1 g2 g3 g4
theorem z_iadd {l : zL} {Y : zM} {d kc ks pc n : Nat} {lv : List (Nat × Value)} {rest : List Value} {h : Nat → va_E} {Q : zQ} {x y : Int32} (hd : decode Y.2.1 pc = .ok (.iadd, 1)) (k : Zj l Y d kc ks (pc + 1) lv (.int (x + y) :: rest) n h Q) : Zj l Y d kc ks pc lv (.int y :: .int x :: rest) n h Q := by
  intro p e R s m args below meth c sz0 D cA ad H locs cells slots mc ms ls Z hK hC hX hR hS hl g1 g2 g3 g4
  exact lv_iadd hK.1 hK.2.1 hd (k p e R s m args below meth c sz0 D cA ad H locs cells slots mc ms ls Z hK hC hX hR hS hl g1 g2 g3 g4)
theorem z_isub {l : zL} {Y : zM} {d kc ks pc n : Nat} {lv : List (Nat × Value)} {rest : List Value} {h : Nat → va_E} {Q : zQ} {x y : Int32} (hd : decode Y.2.1 pc = .ok (.isub, 1)) (k : Zj l Y d kc ks (pc + 1) lv (.int (x - y) :: rest) n h Q) : Zj l Y d kc ks pc lv (.int y :: .int x :: rest) n h Q := by
  intro p e R s m args below meth c sz0 D cA ad H locs cells slots mc ms ls Z hK hC hX hR hS hl g1 g2 g3 g4
  exact lv_isub hK.1 hK.2.1 hd (k p e R s m args below meth c sz0 D cA ad H locs cells slots mc ms ls Z hK hC hX hR hS hl g1 g2 g3 g4)
theorem z_imul {l : zL} {Y : zM} {d kc ks pc n : Nat} {lv : List (Nat × Value)} {rest : List Value} {h : Nat → va_E} {Q : zQ} {x y : Int32} (hd : decode Y.2.1 pc = .ok (.imul, 1)) (k : Zj l Y d kc ks (pc + 1) lv (.int (x * y) :: rest) n h Q) : Zj l Y d kc ks pc lv (.int y :: .int x :: rest) n h Q := by
  intro p e R s m args below meth c sz0 D cA ad H locs cells slots mc ms ls Z hK hC hX hR hS hl g1 g2 g3 g4
  exact lv_imul hK.1 hK.2.1 hd (k p e R s m args below meth c sz0 D cA ad H locs cells slots mc ms ls Z hK hC hX hR hS hl g1 g2 g3 g4)
theorem z_iand {l : zL} {Y : zM} {d kc ks pc n : Nat} {lv : List (Nat × Value)} {rest : List Value} {h : Nat → va_E} {Q : zQ} {x y : Int32} (hd : decode Y.2.1 pc = .ok (.iand, 1)) (k : Zj l Y d kc ks (pc + 1) lv (.int (x &&& y) :: rest) n h Q) : Zj l Y d kc ks pc lv (.int y :: .int x :: rest) n h Q := by
  intro p e R s m args below meth c sz0 D cA ad H locs cells slots mc ms ls Z hK hC hX hR hS hl g1 g2 g3 g4
  exact lv_iand hK.1 hK.2.1 hd (k p e R s m args below meth c sz0 D cA ad H locs cells slots mc ms ls Z hK hC hX hR hS hl g1 g2 g3 g4)
theorem z_ior {l : zL} {Y : zM} {d kc ks pc n : Nat} {lv : List (Nat × Value)} {rest : List Value} {h : Nat → va_E} {Q : zQ} {x y : Int32} (hd : decode Y.2.1 pc = .ok (.ior, 1)) (k : Zj l Y d kc ks (pc + 1) lv (.int (x ||| y) :: rest) n h Q) : Zj l Y d kc ks pc lv (.int y :: .int x :: rest) n h Q := by
  intro p e R s m args below meth c sz0 D cA ad H locs cells slots mc ms ls Z hK hC hX hR hS hl g1 g2 g3 g4
  exact lv_ior hK.1 hK.2.1 hd (k p e R s m args below meth c sz0 D cA ad H locs cells slots mc ms ls Z hK hC hX hR hS hl g1 g2 g3 g4)
theorem z_ixor {l : zL} {Y : zM} {d kc ks pc n : Nat} {lv : List (Nat × Value)} {rest : List Value} {h : Nat → va_E} {Q : zQ} {x y : Int32} (hd : decode Y.2.1 pc = .ok (.ixor, 1)) (k : Zj l Y d kc ks (pc + 1) lv (.int (x ^^^ y) :: rest) n h Q) : Zj l Y d kc ks pc lv (.int y :: .int x :: rest) n h Q := by
  intro p e R s m args below meth c sz0 D cA ad H locs cells slots mc ms ls Z hK hC hX hR hS hl g1 g2 g3 g4
  exact lv_ixor hK.1 hK.2.1 hd (k p e R s m args below meth c sz0 D cA ad H locs cells slots mc ms ls Z hK hC hX hR hS hl g1 g2 g3 g4)
theorem z_idiv {l : zL} {Y : zM} {d kc ks pc n : Nat} {lv : List (Nat × Value)} {rest : List Value} {h : Nat → va_E} {Q : zQ} {x y : Int32} (hne : ¬ y = 0) (hd : decode Y.2.1 pc = .ok (.idiv, 1)) (k : Zj l Y d kc ks (pc + 1) lv (.int (x / y) :: rest) n h Q) : Zj l Y d kc ks pc lv (.int y :: .int x :: rest) n h Q := by
  intro p e R s m args below meth c sz0 D cA ad H locs cells slots mc ms ls Z hK hC hX hR hS hl g1 g2 g3 g4
  exact lv_idiv hK.1 hK.2.1 hd hne (k p e R s m args below meth c sz0 D cA ad H locs cells slots mc ms ls Z hK hC hX hR hS hl g1 g2 g3 g4)
theorem z_irem {l : zL} {Y : zM} {d kc ks pc n : Nat} {lv : List (Nat × Value)} {rest : List Value} {h : Nat → va_E} {Q : zQ} {x y : Int32} (hne : ¬ y = 0) (hd : decode Y.2.1 pc = .ok (.irem, 1)) (k : Zj l Y d kc ks (pc + 1) lv (.int (x - x / y * y) :: rest) n h Q) : Zj l Y d kc ks pc lv (.int y :: .int x :: rest) n h Q := by
  intro p e R s m args below meth c sz0 D cA ad H locs cells slots mc ms ls Z hK hC hX hR hS hl g1 g2 g3 g4
  exact lv_irem hK.1 hK.2.1 hd hne (k p e R s m args below meth c sz0 D cA ad H locs cells slots mc ms ls Z hK hC hX hR hS hl g1 g2 g3 g4)
theorem z_ineg {l : zL} {Y : zM} {d kc ks pc n : Nat} {lv : List (Nat × Value)} {rest : List Value} {h : Nat → va_E} {Q : zQ} {x : Int32} (hd : decode Y.2.1 pc = .ok (.ineg, 1)) (k : Zj l Y d kc ks (pc + 1) lv (.int (-x) :: rest) n h Q) : Zj l Y d kc ks pc lv (.int x :: rest) n h Q := by
  intro p e R s m args below meth c sz0 D cA ad H locs cells slots mc ms ls Z hK hC hX hR hS hl g1 g2 g3 g4
  exact lv_ineg hK.1 hK.2.1 hd (k p e R s m args below meth c sz0 D cA ad H locs cells slots mc ms ls Z hK hC hX hR hS hl g1 g2 g3 g4)
theorem z_ishl {l : zL} {Y : zM} {d kc ks pc n : Nat} {lv : List (Nat × Value)} {rest : List Value} {h : Nat → va_E} {Q : zQ} {x y : Int32} (hd : decode Y.2.1 pc = .ok (.ishl, 1)) (k : Zj l Y d kc ks (pc + 1) lv (.int (x <<< (y &&& 31)) :: rest) n h Q) : Zj l Y d kc ks pc lv (.int y :: .int x :: rest) n h Q := by
  intro p e R s m args below meth c sz0 D cA ad H locs cells slots mc ms ls Z hK hC hX hR hS hl g1 g2 g3 g4
  exact lv_ishl hK.1 hK.2.1 hd (k p e R s m args below meth c sz0 D cA ad H locs cells slots mc ms ls Z hK hC hX hR hS hl g1 g2 g3 g4)
theorem z_ishr {l : zL} {Y : zM} {d kc ks pc n : Nat} {lv : List (Nat × Value)} {rest : List Value} {h : Nat → va_E} {Q : zQ} {x y : Int32} (hd : decode Y.2.1 pc = .ok (.ishr, 1)) (k : Zj l Y d kc ks (pc + 1) lv (.int (x >>> (y &&& 31)) :: rest) n h Q) : Zj l Y d kc ks pc lv (.int y :: .int x :: rest) n h Q := by
  intro p e R s m args below meth c sz0 D cA ad H locs cells slots mc ms ls Z hK hC hX hR hS hl g1 g2 g3 g4
  exact lv_ishr hK.1 hK.2.1 hd (k p e R s m args below meth c sz0 D cA ad H locs cells slots mc ms ls Z hK hC hX hR hS hl g1 g2 g3 g4)
def zushr (x y : Int32) : Int32 := (x.toUInt32 >>> (y.toUInt32 &&& Int32.toUInt32 31)).toInt32
theorem z_iushr {l : zL} {Y : zM} {d kc ks pc n : Nat} {lv : List (Nat × Value)} {rest : List Value} {h : Nat → va_E} {Q : zQ} {x y : Int32} (hd : decode Y.2.1 pc = .ok (.iushr, 1)) (k : Zj l Y d kc ks (pc + 1) lv (.int (zushr x y) :: rest) n h Q) : Zj l Y d kc ks pc lv (.int y :: .int x :: rest) n h Q := by
  intro p e R s m args below meth c sz0 D cA ad H locs cells slots mc ms ls Z hK hC hX hR hS hl g1 g2 g3 g4
  exact lv_iushr hK.1 hK.2.1 (v := zushr x y) hd rfl (k p e R s m args below meth c sz0 D cA ad H locs cells slots mc ms ls Z hK hC hX hR hS hl g1 g2 g3 g4)
theorem z_i2l {l : zL} {Y : zM} {d kc ks pc n : Nat} {lv : List (Nat × Value)} {rest : List Value} {h : Nat → va_E} {Q : zQ} {x : Int32} (hd : decode Y.2.1 pc = .ok (.i2l, 1)) (k : Zj l Y d kc ks (pc + 1) lv (.long x.toInt64 :: rest) n h Q) : Zj l Y d kc ks pc lv (.int x :: rest) n h Q := by
  intro p e R s m args below meth c sz0 D cA ad H locs cells slots mc ms ls Z hK hC hX hR hS hl g1 g2 g3 g4
  exact lv_i2l hK.1 hK.2.1 (v := x.toInt64) hd rfl (k p e R s m args below meth c sz0 D cA ad H locs cells slots mc ms ls Z hK hC hX hR hS hl g1 g2 g3 g4)
def zi2c (x : Int32) : Int32 := (x.toUInt32 % 65536).toInt32
theorem z_i2c {l : zL} {Y : zM} {d kc ks pc n : Nat} {lv : List (Nat × Value)} {rest : List Value} {h : Nat → va_E} {Q : zQ} {x : Int32} (hd : decode Y.2.1 pc = .ok (.i2c, 1)) (k : Zj l Y d kc ks (pc + 1) lv (.int (zi2c x) :: rest) n h Q) : Zj l Y d kc ks pc lv (.int x :: rest) n h Q := by
  intro p e R s m args below meth c sz0 D cA ad H locs cells slots mc ms ls Z hK hC hX hR hS hl g1 g2 g3 g4
  exact lv_i2c hK.1 hK.2.1 (v := zi2c x) hd rfl (k p e R s m args below meth c sz0 D cA ad H locs cells slots mc ms ls Z hK hC hX hR hS hl g1 g2 g3 g4)
theorem z_i2d {l : zL} {Y : zM} {d kc ks pc n : Nat} {lv : List (Nat × Value)} {rest : List Value} {h : Nat → va_E} {Q : zQ} {x : Int32} (hd : decode Y.2.1 pc = .ok (.i2d, 1)) (k : Zj l Y d kc ks (pc + 1) lv (.double (FP.i2d x) :: rest) n h Q) : Zj l Y d kc ks pc lv (.int x :: rest) n h Q := by
  intro p e R s m args below meth c sz0 D cA ad H locs cells slots mc ms ls Z hK hC hX hR hS hl g1 g2 g3 g4
  exact lv_i2d hK.1 hK.2.1 hd (k p e R s m args below meth c sz0 D cA ad H locs cells slots mc ms ls Z hK hC hX hR hS hl g1 g2 g3 g4)
theorem z_i2f {l : zL} {Y : zM} {d kc ks pc n : Nat} {lv : List (Nat × Value)} {rest : List Value} {h : Nat → va_E} {Q : zQ} {x : Int32} (hd : decode Y.2.1 pc = .ok (.i2f, 1)) (k : Zj l Y d kc ks (pc + 1) lv (.float (FP.i2f x) :: rest) n h Q) : Zj l Y d kc ks pc lv (.int x :: rest) n h Q := by
  intro p e R s m args below meth c sz0 D cA ad H locs cells slots mc ms ls Z hK hC hX hR hS hl g1 g2 g3 g4
  exact lv_i2f hK.1 hK.2.1 hd (k p e R s m args below meth c sz0 D cA ad H locs cells slots mc ms ls Z hK hC hX hR hS hl g1 g2 g3 g4)
theorem z_f2d {l : zL} {Y : zM} {d kc ks pc n : Nat} {lv : List (Nat × Value)} {rest : List Value} {h : Nat → va_E} {Q : zQ} {x : UInt32} (hne : vf_n64 (FP.f2d x)) (hd : decode Y.2.1 pc = .ok (.f2d, 1)) (k : Zj l Y d kc ks (pc + 1) lv (.double (FP.f2d x) :: rest) n h Q) : Zj l Y d kc ks pc lv (.float x :: rest) n h Q := by
  intro p e R s m args below meth c sz0 D cA ad H locs cells slots mc ms ls Z hK hC hX hR hS hl g1 g2 g3 g4
  exact lv_f2d hK.1 hK.2.1 hd hne (k p e R s m args below meth c sz0 D cA ad H locs cells slots mc ms ls Z hK hC hX hR hS hl g1 g2 g3 g4)
theorem z_ddiv {l : zL} {Y : zM} {d kc ks pc n : Nat} {lv : List (Nat × Value)} {rest : List Value} {h : Nat → va_E} {Q : zQ} {x y : UInt64} (hne : vf_n64 (FP.ddiv x y)) (hd : decode Y.2.1 pc = .ok (.ddiv, 1)) (k : Zj l Y d kc ks (pc + 1) lv (.double (FP.ddiv x y) :: rest) n h Q) : Zj l Y d kc ks pc lv (.double y :: .double x :: rest) n h Q := by
  intro p e R s m args below meth c sz0 D cA ad H locs cells slots mc ms ls Z hK hC hX hR hS hl g1 g2 g3 g4
  exact lv_ddiv hK.1 hK.2.1 hd hne (k p e R s m args below meth c sz0 D cA ad H locs cells slots mc ms ls Z hK hC hX hR hS hl g1 g2 g3 g4)
theorem z_fdiv {l : zL} {Y : zM} {d kc ks pc n : Nat} {lv : List (Nat × Value)} {rest : List Value} {h : Nat → va_E} {Q : zQ} {x y : UInt32} (hne : vf_n32 (FP.fdiv x y)) (hd : decode Y.2.1 pc = .ok (.fdiv, 1)) (k : Zj l Y d kc ks (pc + 1) lv (.float (FP.fdiv x y) :: rest) n h Q) : Zj l Y d kc ks pc lv (.float y :: .float x :: rest) n h Q := by
  intro p e R s m args below meth c sz0 D cA ad H locs cells slots mc ms ls Z hK hC hX hR hS hl g1 g2 g3 g4
  exact lv_fdiv hK.1 hK.2.1 hd hne (k p e R s m args below meth c sz0 D cA ad H locs cells slots mc ms ls Z hK hC hX hR hS hl g1 g2 g3 g4)
theorem z_dcmp {l : zL} {Y : zM} {d kc ks pc n : Nat} {lv : List (Nat × Value)} {rest : List Value} {h : Nat → va_E} {Q : zQ} {x y : UInt64} {op : CmpOp} (hd : decode Y.2.1 pc = .ok (.dcmp op, 1)) (k : Zj l Y d kc ks (pc + 1) lv (.int (Op.cmpValue (FP.dcmp x y) op) :: rest) n h Q) : Zj l Y d kc ks pc lv (.double y :: .double x :: rest) n h Q := by
  intro p e R s m args below meth c sz0 D cA ad H locs cells slots mc ms ls Z hK hC hX hR hS hl g1 g2 g3 g4
  exact lv_dcmp hK.1 hK.2.1 hd (k p e R s m args below meth c sz0 D cA ad H locs cells slots mc ms ls Z hK hC hX hR hS hl g1 g2 g3 g4)
theorem z_lcmp {l : zL} {Y : zM} {d kc ks pc n : Nat} {lv : List (Nat × Value)} {rest : List Value} {h : Nat → va_E} {Q : zQ} {x y : Int64} (hd : decode Y.2.1 pc = .ok (.lcmp, 1)) (k : Zj l Y d kc ks (pc + 1) lv (.int (lg_cmp x y) :: rest) n h Q) : Zj l Y d kc ks pc lv (.long y :: .long x :: rest) n h Q := by
  intro p e R s m args below meth c sz0 D cA ad H locs cells slots mc ms ls Z hK hC hX hR hS hl g1 g2 g3 g4
  exact W.lcmp hK.1 hK.2.1 hd (k p e R s m args below meth c sz0 D cA ad H locs cells slots mc ms ls Z hK hC hX hR hS hl g1 g2 g3 g4)
theorem z_dup {l : zL} {Y : zM} {d kc ks pc n : Nat} {lv : List (Nat × Value)} {rest : List Value} {h : Nat → va_E} {Q : zQ} {v : Value} (hv : v.category = 1) (hd : decode Y.2.1 pc = .ok (.dup, 1)) (k : Zj l Y d kc ks (pc + 1) lv (v :: v :: rest) n h Q) : Zj l Y d kc ks pc lv (v :: rest) n h Q := by
  intro p e R s m args below meth c sz0 D cA ad H locs cells slots mc ms ls Z hK hC hX hR hS hl g1 g2 g3 g4
  exact lv_dup hK.1 hK.2.1 hd ((zv_cat ad v).trans hv) (k p e R s m args below meth c sz0 D cA ad H locs cells slots mc ms ls Z hK hC hX hR hS hl g1 g2 g3 g4)
theorem z_pop {l : zL} {Y : zM} {d kc ks pc n : Nat} {lv : List (Nat × Value)} {rest : List Value} {h : Nat → va_E} {Q : zQ} {v : Value} (hv : v.category = 1) (hd : decode Y.2.1 pc = .ok (.pop, 1)) (k : Zj l Y d kc ks (pc + 1) lv rest n h Q) : Zj l Y d kc ks pc lv (v :: rest) n h Q := by
  intro p e R s m args below meth c sz0 D cA ad H locs cells slots mc ms ls Z hK hC hX hR hS hl g1 g2 g3 g4
  exact lv_pop hK.1 hK.2.1 hd ((zv_cat ad v).trans hv) (k p e R s m args below meth c sz0 D cA ad H locs cells slots mc ms ls Z hK hC hX hR hS hl g1 g2 g3 g4)
theorem z_dup2 {l : zL} {Y : zM} {d kc ks pc n : Nat} {lv : List (Nat × Value)} {rest : List Value} {h : Nat → va_E} {Q : zQ} {v u : Value} (hv : v.category = 1) (hu : u.category = 1) (hd : decode Y.2.1 pc = .ok (.dup2, 1)) (k : Zj l Y d kc ks (pc + 1) lv (v :: u :: v :: u :: rest) n h Q) : Zj l Y d kc ks pc lv (v :: u :: rest) n h Q := by
  intro p e R s m args below meth c sz0 D cA ad H locs cells slots mc ms ls Z hK hC hX hR hS hl g1 g2 g3 g4
  exact lv_dup2_11 hK.1 hK.2.1 hd ((zv_cat ad v).trans hv) ((zv_cat ad u).trans hu) (k p e R s m args below meth c sz0 D cA ad H locs cells slots mc ms ls Z hK hC hX hR hS hl g1 g2 g3 g4)
theorem z_dup_x1 {l : zL} {Y : zM} {d kc ks pc n : Nat} {lv : List (Nat × Value)} {rest : List Value} {h : Nat → va_E} {Q : zQ} {v u : Value} (hv : v.category = 1) (hu : u.category = 1) (hd : decode Y.2.1 pc = .ok (.dup_x1, 1)) (k : Zj l Y d kc ks (pc + 1) lv (v :: u :: v :: rest) n h Q) : Zj l Y d kc ks pc lv (v :: u :: rest) n h Q := by
  intro p e R s m args below meth c sz0 D cA ad H locs cells slots mc ms ls Z hK hC hX hR hS hl g1 g2 g3 g4
  exact lv_dup_x1 hK.1 hK.2.1 hd ((zv_cat ad v).trans hv) ((zv_cat ad u).trans hu) (k p e R s m args below meth c sz0 D cA ad H locs cells slots mc ms ls Z hK hC hX hR hS hl g1 g2 g3 g4)
theorem z_if_eq {l : zL} {Y : zM} {d kc ks pc n : Nat} {lv : List (Nat × Value)} {rest : List Value} {h : Nat → va_E} {Q : zQ} {x : Int32} {off : Int} {tgt : Nat} (hd : decode Y.2.1 pc = .ok (.ifCond .eq off, 3)) (ht : (pc : Int) + off = (tgt : Int)) (kt : x = 0 → Zj l Y d kc ks tgt lv rest n h Q) (kf : ¬ x = 0 → Zj l Y d kc ks (pc + 3) lv rest n h Q) : Zj l Y d kc ks pc lv (.int x :: rest) n h Q := by
  intro p e R s m args below meth c sz0 D cA ad H locs cells slots mc ms ls Z hK hC hX hR hS hl g1 g2 g3 g4
  exact lv_if_eq hK.1 hK.2.1 hd ht (fun q => kt q p e R s m args below meth c sz0 D cA ad H locs cells slots mc ms ls Z hK hC hX hR hS hl g1 g2 g3 g4) (fun q => kf q p e R s m args below meth c sz0 D cA ad H locs cells slots mc ms ls Z hK hC hX hR hS hl g1 g2 g3 g4)
theorem z_if_ne {l : zL} {Y : zM} {d kc ks pc n : Nat} {lv : List (Nat × Value)} {rest : List Value} {h : Nat → va_E} {Q : zQ} {x : Int32} {off : Int} {tgt : Nat} (hd : decode Y.2.1 pc = .ok (.ifCond .ne off, 3)) (ht : (pc : Int) + off = (tgt : Int)) (kt : ¬ x = 0 → Zj l Y d kc ks tgt lv rest n h Q) (kf : x = 0 → Zj l Y d kc ks (pc + 3) lv rest n h Q) : Zj l Y d kc ks pc lv (.int x :: rest) n h Q := by
  intro p e R s m args below meth c sz0 D cA ad H locs cells slots mc ms ls Z hK hC hX hR hS hl g1 g2 g3 g4
  exact lv_if_ne hK.1 hK.2.1 hd ht (fun q => kt q p e R s m args below meth c sz0 D cA ad H locs cells slots mc ms ls Z hK hC hX hR hS hl g1 g2 g3 g4) (fun q => kf q p e R s m args below meth c sz0 D cA ad H locs cells slots mc ms ls Z hK hC hX hR hS hl g1 g2 g3 g4)
theorem z_if_lt {l : zL} {Y : zM} {d kc ks pc n : Nat} {lv : List (Nat × Value)} {rest : List Value} {h : Nat → va_E} {Q : zQ} {x : Int32} {off : Int} {tgt : Nat} (hd : decode Y.2.1 pc = .ok (.ifCond .lt off, 3)) (ht : (pc : Int) + off = (tgt : Int)) (kt : x < 0 → Zj l Y d kc ks tgt lv rest n h Q) (kf : ¬ x < 0 → Zj l Y d kc ks (pc + 3) lv rest n h Q) : Zj l Y d kc ks pc lv (.int x :: rest) n h Q := by
  intro p e R s m args below meth c sz0 D cA ad H locs cells slots mc ms ls Z hK hC hX hR hS hl g1 g2 g3 g4
  exact lv_if_lt hK.1 hK.2.1 hd ht (fun q => kt q p e R s m args below meth c sz0 D cA ad H locs cells slots mc ms ls Z hK hC hX hR hS hl g1 g2 g3 g4) (fun q => kf q p e R s m args below meth c sz0 D cA ad H locs cells slots mc ms ls Z hK hC hX hR hS hl g1 g2 g3 g4)
theorem z_if_ge {l : zL} {Y : zM} {d kc ks pc n : Nat} {lv : List (Nat × Value)} {rest : List Value} {h : Nat → va_E} {Q : zQ} {x : Int32} {off : Int} {tgt : Nat} (hd : decode Y.2.1 pc = .ok (.ifCond .ge off, 3)) (ht : (pc : Int) + off = (tgt : Int)) (kt : 0 ≤ x → Zj l Y d kc ks tgt lv rest n h Q) (kf : ¬ 0 ≤ x → Zj l Y d kc ks (pc + 3) lv rest n h Q) : Zj l Y d kc ks pc lv (.int x :: rest) n h Q := by
  intro p e R s m args below meth c sz0 D cA ad H locs cells slots mc ms ls Z hK hC hX hR hS hl g1 g2 g3 g4
  exact lv_if_ge hK.1 hK.2.1 hd ht (fun q => kt q p e R s m args below meth c sz0 D cA ad H locs cells slots mc ms ls Z hK hC hX hR hS hl g1 g2 g3 g4) (fun q => kf q p e R s m args below meth c sz0 D cA ad H locs cells slots mc ms ls Z hK hC hX hR hS hl g1 g2 g3 g4)
theorem z_if_gt {l : zL} {Y : zM} {d kc ks pc n : Nat} {lv : List (Nat × Value)} {rest : List Value} {h : Nat → va_E} {Q : zQ} {x : Int32} {off : Int} {tgt : Nat} (hd : decode Y.2.1 pc = .ok (.ifCond .gt off, 3)) (ht : (pc : Int) + off = (tgt : Int)) (kt : 0 < x → Zj l Y d kc ks tgt lv rest n h Q) (kf : ¬ 0 < x → Zj l Y d kc ks (pc + 3) lv rest n h Q) : Zj l Y d kc ks pc lv (.int x :: rest) n h Q := by
  intro p e R s m args below meth c sz0 D cA ad H locs cells slots mc ms ls Z hK hC hX hR hS hl g1 g2 g3 g4
  exact lv_if_gt hK.1 hK.2.1 hd ht (fun q => kt q p e R s m args below meth c sz0 D cA ad H locs cells slots mc ms ls Z hK hC hX hR hS hl g1 g2 g3 g4) (fun q => kf q p e R s m args below meth c sz0 D cA ad H locs cells slots mc ms ls Z hK hC hX hR hS hl g1 g2 g3 g4)
theorem z_if_le {l : zL} {Y : zM} {d kc ks pc n : Nat} {lv : List (Nat × Value)} {rest : List Value} {h : Nat → va_E} {Q : zQ} {x : Int32} {off : Int} {tgt : Nat} (hd : decode Y.2.1 pc = .ok (.ifCond .le off, 3)) (ht : (pc : Int) + off = (tgt : Int)) (kt : x ≤ 0 → Zj l Y d kc ks tgt lv rest n h Q) (kf : ¬ x ≤ 0 → Zj l Y d kc ks (pc + 3) lv rest n h Q) : Zj l Y d kc ks pc lv (.int x :: rest) n h Q := by
  intro p e R s m args below meth c sz0 D cA ad H locs cells slots mc ms ls Z hK hC hX hR hS hl g1 g2 g3 g4
  exact lv_if_le hK.1 hK.2.1 hd ht (fun q => kt q p e R s m args below meth c sz0 D cA ad H locs cells slots mc ms ls Z hK hC hX hR hS hl g1 g2 g3 g4) (fun q => kf q p e R s m args below meth c sz0 D cA ad H locs cells slots mc ms ls Z hK hC hX hR hS hl g1 g2 g3 g4)
theorem z_icmp_eq {l : zL} {Y : zM} {d kc ks pc n : Nat} {lv : List (Nat × Value)} {rest : List Value} {h : Nat → va_E} {Q : zQ} {x y : Int32} {off : Int} {tgt : Nat} (hd : decode Y.2.1 pc = .ok (.if_icmp .eq off, 3)) (ht : (pc : Int) + off = (tgt : Int)) (kt : x = y → Zj l Y d kc ks tgt lv rest n h Q) (kf : ¬ x = y → Zj l Y d kc ks (pc + 3) lv rest n h Q) : Zj l Y d kc ks pc lv (.int y :: .int x :: rest) n h Q := by
  intro p e R s m args below meth c sz0 D cA ad H locs cells slots mc ms ls Z hK hC hX hR hS hl g1 g2 g3 g4
  exact lv_icmp_eq hK.1 hK.2.1 hd ht (fun q => kt q p e R s m args below meth c sz0 D cA ad H locs cells slots mc ms ls Z hK hC hX hR hS hl g1 g2 g3 g4) (fun q => kf q p e R s m args below meth c sz0 D cA ad H locs cells slots mc ms ls Z hK hC hX hR hS hl g1 g2 g3 g4)
theorem z_icmp_ne {l : zL} {Y : zM} {d kc ks pc n : Nat} {lv : List (Nat × Value)} {rest : List Value} {h : Nat → va_E} {Q : zQ} {x y : Int32} {off : Int} {tgt : Nat} (hd : decode Y.2.1 pc = .ok (.if_icmp .ne off, 3)) (ht : (pc : Int) + off = (tgt : Int)) (kt : ¬ x = y → Zj l Y d kc ks tgt lv rest n h Q) (kf : x = y → Zj l Y d kc ks (pc + 3) lv rest n h Q) : Zj l Y d kc ks pc lv (.int y :: .int x :: rest) n h Q := by
  intro p e R s m args below meth c sz0 D cA ad H locs cells slots mc ms ls Z hK hC hX hR hS hl g1 g2 g3 g4
  exact lv_icmp_ne hK.1 hK.2.1 hd ht (fun q => kt q p e R s m args below meth c sz0 D cA ad H locs cells slots mc ms ls Z hK hC hX hR hS hl g1 g2 g3 g4) (fun q => kf q p e R s m args below meth c sz0 D cA ad H locs cells slots mc ms ls Z hK hC hX hR hS hl g1 g2 g3 g4)
theorem z_icmp_lt {l : zL} {Y : zM} {d kc ks pc n : Nat} {lv : List (Nat × Value)} {rest : List Value} {h : Nat → va_E} {Q : zQ} {x y : Int32} {off : Int} {tgt : Nat} (hd : decode Y.2.1 pc = .ok (.if_icmp .lt off, 3)) (ht : (pc : Int) + off = (tgt : Int)) (kt : x < y → Zj l Y d kc ks tgt lv rest n h Q) (kf : ¬ x < y → Zj l Y d kc ks (pc + 3) lv rest n h Q) : Zj l Y d kc ks pc lv (.int y :: .int x :: rest) n h Q := by
  intro p e R s m args below meth c sz0 D cA ad H locs cells slots mc ms ls Z hK hC hX hR hS hl g1 g2 g3 g4
  exact lv_icmp_lt hK.1 hK.2.1 hd ht (fun q => kt q p e R s m args below meth c sz0 D cA ad H locs cells slots mc ms ls Z hK hC hX hR hS hl g1 g2 g3 g4) (fun q => kf q p e R s m args below meth c sz0 D cA ad H locs cells slots mc ms ls Z hK hC hX hR hS hl g1 g2 g3 g4)
theorem z_icmp_ge {l : zL} {Y : zM} {d kc ks pc n : Nat} {lv : List (Nat × Value)} {rest : List Value} {h : Nat → va_E} {Q : zQ} {x y : Int32} {off : Int} {tgt : Nat} (hd : decode Y.2.1 pc = .ok (.if_icmp .ge off, 3)) (ht : (pc : Int) + off = (tgt : Int)) (kt : y ≤ x → Zj l Y d kc ks tgt lv rest n h Q) (kf : ¬ y ≤ x → Zj l Y d kc ks (pc + 3) lv rest n h Q) : Zj l Y d kc ks pc lv (.int y :: .int x :: rest) n h Q := by
  intro p e R s m args below meth c sz0 D cA ad H locs cells slots mc ms ls Z hK hC hX hR hS hl g1 g2 g3 g4
  exact lv_icmp_ge hK.1 hK.2.1 hd ht (fun q => kt q p e R s m args below meth c sz0 D cA ad H locs cells slots mc ms ls Z hK hC hX hR hS hl g1 g2 g3 g4) (fun q => kf q p e R s m args below meth c sz0 D cA ad H locs cells slots mc ms ls Z hK hC hX hR hS hl g1 g2 g3 g4)
theorem z_icmp_gt {l : zL} {Y : zM} {d kc ks pc n : Nat} {lv : List (Nat × Value)} {rest : List Value} {h : Nat → va_E} {Q : zQ} {x y : Int32} {off : Int} {tgt : Nat} (hd : decode Y.2.1 pc = .ok (.if_icmp .gt off, 3)) (ht : (pc : Int) + off = (tgt : Int)) (kt : y < x → Zj l Y d kc ks tgt lv rest n h Q) (kf : ¬ y < x → Zj l Y d kc ks (pc + 3) lv rest n h Q) : Zj l Y d kc ks pc lv (.int y :: .int x :: rest) n h Q := by
  intro p e R s m args below meth c sz0 D cA ad H locs cells slots mc ms ls Z hK hC hX hR hS hl g1 g2 g3 g4
  exact lv_icmp_gt hK.1 hK.2.1 hd ht (fun q => kt q p e R s m args below meth c sz0 D cA ad H locs cells slots mc ms ls Z hK hC hX hR hS hl g1 g2 g3 g4) (fun q => kf q p e R s m args below meth c sz0 D cA ad H locs cells slots mc ms ls Z hK hC hX hR hS hl g1 g2 g3 g4)
theorem z_icmp_le {l : zL} {Y : zM} {d kc ks pc n : Nat} {lv : List (Nat × Value)} {rest : List Value} {h : Nat → va_E} {Q : zQ} {x y : Int32} {off : Int} {tgt : Nat} (hd : decode Y.2.1 pc = .ok (.if_icmp .le off, 3)) (ht : (pc : Int) + off = (tgt : Int)) (kt : x ≤ y → Zj l Y d kc ks tgt lv rest n h Q) (kf : ¬ x ≤ y → Zj l Y d kc ks (pc + 3) lv rest n h Q) : Zj l Y d kc ks pc lv (.int y :: .int x :: rest) n h Q := by
  intro p e R s m args below meth c sz0 D cA ad H locs cells slots mc ms ls Z hK hC hX hR hS hl g1 g2 g3 g4
  exact lv_icmp_le hK.1 hK.2.1 hd ht (fun q => kt q p e R s m args below meth c sz0 D cA ad H locs cells slots mc ms ls Z hK hC hX hR hS hl g1 g2 g3 g4) (fun q => kf q p e R s m args below meth c sz0 D cA ad H locs cells slots mc ms ls Z hK hC hX hR hS hl g1 g2 g3 g4)
theorem z_goto {l : zL} {Y : zM} {d kc ks pc n : Nat} {lv : List (Nat × Value)} {rest : List Value} {h : Nat → va_E} {Q : zQ}  {off : Int} {tgt : Nat}  (hd : decode Y.2.1 pc = .ok (.goto off, 3)) (ht : (pc : Int) + off = (tgt : Int)) (k : Zj l Y d kc ks tgt lv rest n h Q) : Zj l Y d kc ks pc lv rest n h Q := by
  intro p e R s m args below meth c sz0 D cA ad H locs cells slots mc ms ls Z hK hC hX hR hS hl g1 g2 g3 g4
  exact lv_goto hK.1 hK.2.1 hd ht (k p e R s m args below meth c sz0 D cA ad H locs cells slots mc ms ls Z hK hC hX hR hS hl g1 g2 g3 g4)
theorem z_ifnonnull {l : zL} {Y : zM} {d kc ks pc n : Nat} {lv : List (Nat × Value)} {rest : List Value} {h : Nat → va_E} {Q : zQ} {v : Nat} {off : Int} {tgt : Nat}  (hd : decode Y.2.1 pc = .ok (.ifnonnull off, 3)) (ht : (pc : Int) + off = (tgt : Int)) (k : Zj l Y d kc ks tgt lv rest n h Q) : Zj l Y d kc ks pc lv (.ref v :: rest) n h Q := by
  intro p e R s m args below meth c sz0 D cA ad H locs cells slots mc ms ls Z hK hC hX hR hS hl g1 g2 g3 g4
  exact lv_ifnonnull hK.1 hK.2.1 hd ht (k p e R s m args below meth c sz0 D cA ad H locs cells slots mc ms ls Z hK hC hX hR hS hl g1 g2 g3 g4)
theorem z_ifnull {l : zL} {Y : zM} {d kc ks pc n : Nat} {lv : List (Nat × Value)} {rest : List Value} {h : Nat → va_E} {Q : zQ} {v : Nat} {off : Int} (hd : decode Y.2.1 pc = .ok (.ifnull off, 3)) (k : Zj l Y d kc ks (pc + 3) lv rest n h Q) : Zj l Y d kc ks pc lv (.ref v :: rest) n h Q := by
  intro p e R s m args below meth c sz0 D cA ad H locs cells slots mc ms ls Z hK hC hX hR hS hl g1 g2 g3 g4
  exact lv_ifnull hK.1 hK.2.1 hd (k p e R s m args below meth c sz0 D cA ad H locs cells slots mc ms ls Z hK hC hX hR hS hl g1 g2 g3 g4)
theorem z_ifnullN {l : zL} {Y : zM} {d kc ks pc n : Nat} {lv : List (Nat × Value)} {rest : List Value} {h : Nat → va_E} {Q : zQ}  {off : Int} {tgt : Nat}  (hd : decode Y.2.1 pc = .ok (.ifnull off, 3)) (ht : (pc : Int) + off = (tgt : Int)) (k : Zj l Y d kc ks tgt lv rest n h Q) : Zj l Y d kc ks pc lv (.null :: rest) n h Q := by
  intro p e R s m args below meth c sz0 D cA ad H locs cells slots mc ms ls Z hK hC hX hR hS hl g1 g2 g3 g4
  exact lv_ifnullN hK.1 hK.2.1 hd ht (k p e R s m args below meth c sz0 D cA ad H locs cells slots mc ms ls Z hK hC hX hR hS hl g1 g2 g3 g4)
theorem z_ifnonnullN {l : zL} {Y : zM} {d kc ks pc n : Nat} {lv : List (Nat × Value)} {rest : List Value} {h : Nat → va_E} {Q : zQ} {off : Int} (hd : decode Y.2.1 pc = .ok (.ifnonnull off, 3)) (k : Zj l Y d kc ks (pc + 3) lv rest n h Q) : Zj l Y d kc ks pc lv (.null :: rest) n h Q := by
  intro p e R s m args below meth c sz0 D cA ad H locs cells slots mc ms ls Z hK hC hX hR hS hl g1 g2 g3 g4
  exact lv_ifnonnullN hK.1 hK.2.1 hd (k p e R s m args below meth c sz0 D cA ad H locs cells slots mc ms ls Z hK hC hX hR hS hl g1 g2 g3 g4)
theorem z_lookup {l : zL} {Y : zM} {d kc ks pc n : Nat} {lv : List (Nat × Value)} {rest : List Value} {h : Nat → va_E} {Q : zQ} {dflt : Int} {ps : Array (Int × Int)} {len : Nat} {x : Int32} (off : Int) (tgt : Nat) (hd : decode Y.2.1 pc = .ok (.lookupswitch dflt ps, len)) (hp : (ps.toList.zip (ps.toList.drop 1)).all (fun (a, next) => a.1 < next.1) = true) (ho : Op.lookupswitch.offset ps.toList dflt x.toInt = off) (ht : (pc : Int) + off = (tgt : Int)) (k : Zj l Y d kc ks tgt lv rest n h Q) : Zj l Y d kc ks pc lv (.int x :: rest) n h Q := by
  intro p e R s m args below meth c sz0 D cA ad H locs cells slots mc ms ls Z hK hC hX hR hS hl g1 g2 g3 g4
  exact lv_lookup hK.1 hK.2.1 hd hp ho ht (k p e R s m args below meth c sz0 D cA ad H locs cells slots mc ms ls Z hK hC hX hR hS hl g1 g2 g3 g4)
theorem z_tableOut {l : zL} {Y : zM} {d kc ks pc n : Nat} {lv : List (Nat × Value)} {rest : List Value} {h : Nat → va_E} {Q : zQ} {dflt lo hi : Int} {offs : Array Int} {len : Nat} {x : Int32} (tgt : Nat) (hd : decode Y.2.1 pc = .ok (.tableswitch dflt lo hi offs, len)) (hx : x.toInt < lo ∨ hi < x.toInt) (ht : (pc : Int) + dflt = (tgt : Int)) (k : Zj l Y d kc ks tgt lv rest n h Q) : Zj l Y d kc ks pc lv (.int x :: rest) n h Q := by
  intro p e R s m args below meth c sz0 D cA ad H locs cells slots mc ms ls Z hK hC hX hR hS hl g1 g2 g3 g4
  exact lv_tableOut hK.1 hK.2.1 hd hx ht (k p e R s m args below meth c sz0 D cA ad H locs cells slots mc ms ls Z hK hC hX hR hS hl g1 g2 g3 g4)
theorem z_tableIn {l : zL} {Y : zM} {d kc ks pc n : Nat} {lv : List (Nat × Value)} {rest : List Value} {h : Nat → va_E} {Q : zQ} {dflt lo hi : Int} {offs : Array Int} {len : Nat} {x : Int32} (off : Int) (tgt : Nat) (hd : decode Y.2.1 pc = .ok (.tableswitch dflt lo hi offs, len)) (h1 : ¬ x.toInt < lo) (h2 : ¬ hi < x.toInt) (ho : offs[(x.toInt - lo).toNat]? = some off) (ht : (pc : Int) + off = (tgt : Int)) (k : Zj l Y d kc ks tgt lv rest n h Q) : Zj l Y d kc ks pc lv (.int x :: rest) n h Q := by
  intro p e R s m args below meth c sz0 D cA ad H locs cells slots mc ms ls Z hK hC hX hR hS hl g1 g2 g3 g4
  exact lv_tableIn hK.1 hK.2.1 hd h1 h2 ho ht (k p e R s m args below meth c sz0 D cA ad H locs cells slots mc ms ls Z hK hC hX hR hS hl g1 g2 g3 g4)
