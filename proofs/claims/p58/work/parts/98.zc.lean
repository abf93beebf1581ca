/-! THE CONSTANTS AT THE LAW'S START: what the given facts say of them -/
def flA : Cond → List Cond → List Cond
  | .and a b, r => flA a (flA b r)
  | c, r => c :: r
theorem flA_mem {args : Array Value} {s : State} : ∀ (T : Cond) (r : List Cond), T.before args s = true → ∀ c ∈ flA T r, c.before args s = true ∨ c ∈ r := by
  intro T
  induction T with
  | and a b iha ihb =>
    intro r h c hc
    rw [Cond.before_and, Bool.and_eq_true] at h
    rcases iha (flA b r) h.1 c hc with g | g
    · exact Or.inl g
    · exact ihb r h.2 c g
  | _ =>
    intro r h c hc
    rcases List.mem_cons.mp hc with rfl | g
    · exact Or.inl h
    · exact Or.inr g
def nfL : List Cond := flA (Jvm.Cond.and given_1 narrow_1) []
/-- the given facts, by their places -/
def nfH (b : Nat) (s : State) : Prop := ∀ (i : Nat) (c : Cond), nfL[i]? = some c → c.before #[.ref b] s = true
theorem nfH_of {b : Nat} {s : State} (h : (Jvm.Cond.and given_1 narrow_1).before #[.ref b] s = true) : nfH b s := fun i c hi =>
  (flA_mem _ [] h c (List.mem_of_getElem? hi)).elim id (fun g => absurd g List.not_mem_nil)
def evA (b : Nat) (s : State) (t : Term) : Nat := match t.eval #[.ref b] s none [] s with
  | some (.ref a) => a
  | _ => 0
theorem ev_ref {b a : Nat} {s : State} {t : Term} (h : t.eval #[.ref b] s none [] s = some (.ref a)) : evA b s t = a := by unfold evA; rw [h]
theorem ev_ex {b : Nat} {s : State} {t : Term} {nm : String} (h : (Cond.exactly t nm).before #[.ref b] s = true) : t.eval #[.ref b] s none [] s = some (.ref (evA b s t)) := by
  obtain ⟨a, c, cell, k, h1, -⟩ := Cond.exactly_spec (args := #[.ref b]) (first := s) (o := none) (s := s) (idx := []) h
  rw [ev_ref h1]
  exact h1
theorem ev_eqr {b a : Nat} {s : State} {t u : Term} (h : (Cond.eq t u).before #[.ref b] s = true) (hu : u.eval #[.ref b] s none [] s = some (.ref a)) : t.eval #[.ref b] s none [] s = some (.ref a) := by
  cases hv : t.eval #[.ref b] s none [] s with
  | none => simp [Cond.before, Cond.holds, Cond.value, hv] at h
  | some z =>
    simp only [Cond.before, Cond.holds, Cond.value, hv, hu] at h
    cases z <;> simp_all
abbrev lwA (s : State) : Nat → Prop := fun q => s.heap.size ≤ q
theorem lwA_h {s : State} : ∀ a : Nat, a < s.heap.size → ¬ lwA s a := fun _ h => Nat.not_le.mpr h
def sTm (i : Nat) : Term := match i with
  | 0 => .string "NeighbourHash" 129
  | 1 => .string "NeighbourHash" 135
  | 2 => .string "NeighbourHash" 165
  | 3 => .string "NeighbourHash" 171
  | 4 => .string "NeighbourHash" 176
  | 5 => .string "NeighbourHash" 184
  | 6 => .string "NeighbourHash" 263
  | 7 => .string "NeighbourHash" 299
  | 8 => .string "NeighbourHash" 304
  | _ => .string "NeighbourHash" 311
/-- which term lies at which place -/
def tmf (k : Nat) : Term := if k < 100 then sTm k else .arg 0
def ad0 (b : Nat) (s : State) : Nat → Nat := fun q => if zB ≤ q then evA b s (tmf (q - zB)) else 0
theorem ad0_k {b : Nat} {s : State} (k : Nat) : ad0 b s (zB + k) = evA b s (tmf k) := by
  unfold ad0
  rw [if_pos (Nat.le_add_right _ _), Nat.add_sub_cancel_left]
theorem nX_0 {b : Nat} {s : State} (H : nfH b s) : (sTm 0).eval #[.ref b] s none [] s = some (.ref (evA b s (sTm 0))) := ev_ex (nm := "java/lang/String") (H 69 _ (by decide +kernel))
theorem nX_1 {b : Nat} {s : State} (H : nfH b s) : (sTm 1).eval #[.ref b] s none [] s = some (.ref (evA b s (sTm 1))) := ev_ex (nm := "java/lang/String") (H 106 _ (by decide +kernel))
theorem nX_2 {b : Nat} {s : State} (H : nfH b s) : (sTm 2).eval #[.ref b] s none [] s = some (.ref (evA b s (sTm 2))) := ev_ex (nm := "java/lang/String") (H 136 _ (by decide +kernel))
theorem nX_3 {b : Nat} {s : State} (H : nfH b s) : (sTm 3).eval #[.ref b] s none [] s = some (.ref (evA b s (sTm 3))) := ev_ex (nm := "java/lang/String") (H 166 _ (by decide +kernel))
theorem nX_4 {b : Nat} {s : State} (H : nfH b s) : (sTm 4).eval #[.ref b] s none [] s = some (.ref (evA b s (sTm 4))) := ev_ex (nm := "java/lang/String") (H 202 _ (by decide +kernel))
theorem nX_5 {b : Nat} {s : State} (H : nfH b s) : (sTm 5).eval #[.ref b] s none [] s = some (.ref (evA b s (sTm 5))) := ev_ex (nm := "java/lang/String") (H 287 _ (by decide +kernel))
theorem nX_6 {b : Nat} {s : State} (H : nfH b s) : (sTm 6).eval #[.ref b] s none [] s = some (.ref (evA b s (sTm 6))) := ev_ex (nm := "java/lang/String") (H 243 _ (by decide +kernel))
theorem nX_7 {b : Nat} {s : State} (H : nfH b s) : (sTm 7).eval #[.ref b] s none [] s = some (.ref (evA b s (sTm 7))) := ev_ex (nm := "java/lang/String") (H 24 _ (by decide +kernel))
theorem nX_8 {b : Nat} {s : State} (H : nfH b s) : (sTm 8).eval #[.ref b] s none [] s = some (.ref (evA b s (sTm 8))) := ev_ex (nm := "java/lang/String") (H 45 _ (by decide +kernel))
theorem nX_9 {b : Nat} {s : State} (H : nfH b s) : (sTm 9).eval #[.ref b] s none [] s = some (.ref (evA b s (sTm 9))) := ev_ex (nm := "java/lang/String") (H 6 _ (by decide +kernel))
theorem zO0 {b : Nat} {s : State} : ∀ q ∈ kO, va_O q.1 (ad0 b s q.2) (lwA s) s s.heap := fun q hq => by cases hq
theorem zF0 {b : Nat} {s : State} : ∀ q ∈ kF, va_OF q.1 q.2.1 q.2.2.1 (zv (ad0 b s) q.2.2.2.1) (ad0 b s q.2.2.2.2) (lwA s) s s.heap := fun q hq => by cases hq
theorem zT0 {b : Nat} {s : State} : ∀ q ∈ kT, va_T q.1 (ad0 b s q.2.1) q.2.2.1 (fun j => zv (ad0 b s) (kTf q.2.2.2 j)) (lwA s) s s.heap := fun q hq => by cases hq
theorem zZ0 {b : Nat} {s : State} : ∀ q ∈ kZ, va_Z q.1 q.2.1 q.2.2.1 (zv (ad0 b s) q.2.2.2) (lwA s) s s.heap := fun q hq => by cases hq
theorem zR0 {b : Nat} {s : State} (H : nfH b s) (ht : ∀ (i : Nat) (w : Cond), lw_tbl[i]? = some w → w.before #[.ref b] s = true) : ∀ q ∈ kR, vk_R q.1 q.2.1 q.2.2.1 (ad0 b s q.2.2.2) s := by
  intro q hq
  simp only [kR, List.mem_cons, List.not_mem_nil, or_false] at hq
  rcases hq with rfl | rfl | rfl | rfl | rfl | rfl | rfl | rfl | rfl | rfl <;> rw [ad0_k]
  · exact vk_R.of (ht 467 _ (by decide +kernel)) (nX_0 H)
  · exact vk_R.of (ht 479 _ (by decide +kernel)) (nX_1 H)
  · exact vk_R.of (ht 513 _ (by decide +kernel)) (nX_2 H)
  · exact vk_R.of (ht 527 _ (by decide +kernel)) (nX_3 H)
  · exact vk_R.of (ht 540 _ (by decide +kernel)) (nX_4 H)
  · exact vk_R.of (ht 564 _ (by decide +kernel)) (nX_5 H)
  · exact vk_R.of (ht 545 _ (by decide +kernel)) (nX_6 H)
  · exact vk_R.of (ht 434 _ (by decide +kernel)) (nX_7 H)
  · exact vk_R.of (ht 457 _ (by decide +kernel)) (nX_8 H)
  · exact vk_R.of (ht 387 _ (by decide +kernel)) (nX_9 H)
theorem zN0 {b : Nat} {s : State} (ht : ∀ (i : Nat) (w : Cond), lw_tbl[i]? = some w → w.before #[.ref b] s = true) : ∀ w ∈ kN, va_Nw w s := by
  intro w hw
  simp only [kN, List.mem_cons, List.not_mem_nil, or_false] at hw
  rcases hw with rfl | rfl | rfl | rfl | rfl | rfl | rfl | rfl | rfl
  · exact va_Nw.of rfl (ht 39 _ (by decide +kernel))
  · exact va_Nw.of rfl (ht 192 _ (by decide +kernel))
  · exact va_Nw.of rfl (ht 427 _ (by decide +kernel))
  · exact va_Nw.of rfl (ht 460 _ (by decide +kernel))
  · exact va_Nw.of rfl (ht 347 _ (by decide +kernel))
  · exact va_Nw.of rfl (ht 506 _ (by decide +kernel))
  · exact va_Nw.of rfl (ht 349 _ (by decide +kernel))
  · exact va_Nw.of rfl (ht 351 _ (by decide +kernel))
  · exact va_Nw.of rfl (ht 353 _ (by decide +kernel))
theorem zC0 {l : zL} {b : Nat} {s : State} (H : nfH b s) (ht : ∀ (i : Nat) (w : Cond), lw_tbl[i]? = some w → w.before #[.ref b] s = true) (hX : va_X b l.2.1 l.2.2 s s.heap) (hL : l.2.1 < 2 ^ 31) (hb : b < s.heap.size) : zC l s.heap.size (ad0 b s) s s.heap := by
  refine ⟨zO0, zF0, zT0, zZ0, zR0 H ht, zN0 ht, ?_, ?_, fun i hi => (by cases hi), fun q hq => (by cases hq), ?_, ?_, trivial⟩
  · exact vx_Zqof (ht 372 _ (by decide +kernel)) (ht 21 _ (by decide +kernel)) (H 4 _ (by decide +kernel)) lwA_h
  · exact vx_Zqof (ht 374 _ (by decide +kernel)) (ht 21 _ (by decide +kernel)) (H 5 _ (by decide +kernel)) lwA_h
  · exact va_AO.of (A := #[.ref b]) (ht 177 _ (by decide +kernel))
  · obtain ⟨cell, h1, h2, h3, h4, h5⟩ := hX
    rw [ad0_k]
    have e : evA b s (tmf 500) = b := ev_ref (t := .arg 0) rfl
    rw [e]
    exact ⟨cell, h1, h2, h3, Nat.le_of_eq h4.symm, by rw [h4], h5, Nat.not_le.mpr hb⟩
