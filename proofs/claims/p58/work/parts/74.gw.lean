/-! CALLS WHOSE END GOES ON -/
def zk (Y : zM) (l : zL) (d k2 s2 pc : Nat) (lv : List (Nat × Value)) (rest : List Value) (n : Nat) (Q : zQ) : zQ := fun q n' g => match q with
  | .inl r => n' = n ∧ Zj l Y (d + 1) k2 s2 (pc + 3) lv (r.toList ++ rest) n g Q
  | .inr E => Y.2.2.2.2 = [] ∧ Q (.inr E) n' g
theorem z_kV {l : zL} {Y Y' : zM} {d kc ks pc n idx k : Nat} {lv : List (Nat × Value)} {rest : List Value} {h : Nat → va_E} {Q : zQ} {b ci : Nat} {fs : List Value} (As : List Value) (k1 s1 k2 s2 : Nat) (hY : zY Y' k) (hYv : zYv Y') (hh : Y'.2.2.2.2 = []) (hnL : Y'.2.2.1 ≤ 20) (hlink : Cond.methodLink Y.1.cls idx Y'.1 ∈ zTs) (hb : b < n) (hhb : h b = .inr (ci, fs)) (hci : (vwCl[ci]?).map (fun q => q.1) = some Y'.1.cls) (hlen : As.length = k) (hsl : (lg_sl (.ref b :: As)).length ≤ Y'.2.2.1) (hcat : (rest.map fun v => v.category).sum ≤ 8) (hd : decode Y.2.1 pc = .ok (.invokevirtual idx, 3)) (hk : k1 + k2 ≤ kc) (hs : s1 + s2 ≤ ks)
    (body : Zj l Y' d k1 s1 0 (lv_args 0 (.ref b :: As)) [] n h (zk Y l d k2 s2 pc lv rest n Q)) : Zj l Y (d + 1) kc ks pc lv (As.reverse ++ .ref b :: rest) n h Q :=
  z_callV (zk Y l d k2 s2 pc lv rest n Q) hY hYv hh hnL hlink hb hhb hci hlen hsl hcat hd body hk hs (fun r n' g hq => hq) (fun E n' g hq => hq)
theorem z_kS {l : zL} {Y Y' : zM} {d kc ks pc n idx k : Nat} {lv : List (Nat × Value)} {rest : List Value} {h : Nat → va_E} {Q : zQ} (As : List Value) (k1 s1 k2 s2 : Nat) (hY : zY Y' k) (hstat : Cond.static Y'.1 ∈ zTs) (hh : Y'.2.2.2.2 = []) (hnL : Y'.2.2.1 ≤ 20) (hlink : Cond.methodLink Y.1.cls idx Y'.1 ∈ zTs) (hlen : As.length = k) (hsl : (lg_sl As).length ≤ Y'.2.2.1) (hcat : (rest.map fun v => v.category).sum ≤ 8) (hd : decode Y.2.1 pc = .ok (.invokestatic idx, 3)) (hk : k1 + k2 ≤ kc) (hs : s1 + s2 ≤ ks)
    (body : Zj l Y' d k1 s1 0 (lv_args 0 As) [] n h (zk Y l d k2 s2 pc lv rest n Q)) : Zj l Y (d + 1) kc ks pc lv (As.reverse ++ rest) n h Q :=
  z_callS (zk Y l d k2 s2 pc lv rest n Q) hY hstat hh hnL hlink hlen hsl hcat hd body hk hs (fun r n' g hq => hq) (fun E n' g hq => hq)
/-- a law's call: what is thrown is caught -/
def zkt (Y : zM) (l : zL) (d k2 s2 pc : Nat) (lv : List (Nat × Value)) (rest : List Value) (n : Nat) (Q : zQ) : zQ := fun q n' g => match q with
  | .inl r => n' = n ∧ Zj l Y (d + 1) k2 s2 (pc + 3) lv (r.toList ++ rest) n g Q
  | .inr E => n' = n ∧ ∃ v, zCatch Y pc E v ∧ Q (.inl (some (.int v))) n g
theorem z_tryK {l : zL} {Y Y' : zM} {d kc ks pc n idx k : Nat} {lv : List (Nat × Value)} {rest : List Value} {h : Nat → va_E} {Q : zQ} {b ci : Nat} {fs : List Value} (As : List Value) (k1 s1 k2 s2 : Nat) (hY : zY Y' k) (hYv : zYv Y') (hh : Y'.2.2.2.2 = []) (hnL : Y'.2.2.1 ≤ 20) (hlink : Cond.methodLink Y.1.cls idx Y'.1 ∈ zTs) (hb : b < n) (hhb : h b = .inr (ci, fs)) (hci : (vwCl[ci]?).map (fun q => q.1) = some Y'.1.cls) (hlen : As.length = k) (hsl : (lg_sl (.ref b :: As)).length ≤ Y'.2.2.1) (hcat : (rest.map fun v => v.category).sum ≤ 8) (hd : decode Y.2.1 pc = .ok (.invokevirtual idx, 3)) (hk : k1 + k2 ≤ kc) (hs : s1 + s2 ≤ ks)
    (body : Zj l Y' d k1 s1 0 (lv_args 0 (.ref b :: As)) [] n h (zkt Y l d k2 s2 pc lv rest n Q)) : Zj l Y (d + 1) kc ks pc lv (As.reverse ++ .ref b :: rest) n h Q :=
  z_tryV (zkt Y l d k2 s2 pc lv rest n Q) hY hYv hh hnL hlink hb hhb hci hlen hsl hcat hd body hk hs (fun r n' g hq => hq) (fun E n' g hq => by
    obtain ⟨rfl, v, h1, h2⟩ := hq
    exact ⟨rfl, v, h1, h2⟩)
/-- worlds that are the same as far as they are used -/
theorem z_world {l : zL} {Y : zM} {d kc ks pc n : Nat} {lv : List (Nat × Value)} {st : List Value} {h h' : Nat → va_E} {Q : zQ} (he : ∀ k, k < n → h k = h' k) (kk : Zj l Y d kc ks pc lv st n h' Q) : Zj l Y d kc ks pc lv st n h Q := by
  intro p e R s m args below meth c sz0 D cA ad H locs cells slots mc ms ls Z hK hC hX hR
  refine kk p e R s m args below meth c sz0 D cA ad H locs cells slots mc ms ls Z hK hC hX ?_
  obtain ⟨r1, r2, r3⟩ := hR
  have hw : zw ad cA n h = zw ad cA n h' := by
    unfold zw
    refine List.map_congr_left fun k hk => ?_
    rw [he k (List.mem_range.mp hk)]
  rw [hw] at r1 r2
  exact ⟨r1, r2, fun k hk => by rw [← he k hk]; exact r3 k hk⟩
/-! THE CLASS IN A WORLD: at the places 0 .. 88. o: scalars of NeighbourHash (0), Input (1), Script (2), History (3), Report (4); u: the rows bytes (0), numbers (1), bodies (2), repetitions (3), the report's bytes (4); s, a: the tables (0 the script's, 1 now, 2 trial, 3 snapshot, 4 .. 12 the ring) -/
def gN (x : Nat → Int32) : List Value := [.ref 1, .ref 3, .ref 13, .ref 19, .ref 25, .int (x 5), .ref 31, .ref 87]
def gI (x : Nat → Int32) : List Value := [.ref 2, .int (x 1), .int (x 2), .int (x 3), .int (x 4), .int (x 5)]
def gS (cm : Value) (x : Nat → Int32) : List Value := [.ref 1, .ref 4, .ref 10, .ref 11, .ref 12, .int (x 5), .int (x 6), cm, .int (x 8), .int (x 9), .int (x 10), .int (x 11)]
def gH (x : Nat → Int32) : List Value := [.ref 32, .int (x 1), .int (x 2)]
def gP (x : Nat → Int32) : List Value := [.ref 88, .int (x 1)]
def gR : Nat → Option Nat := fun i => if i < 9 then some (33 + 6 * i) else none
def tp (t : Nat) : Nat := if t = 0 then 4 else if t < 4 then 7 + 6 * t else 9 + 6 * t
def gT (s : Nat → Nat → Int32) (a : Nat → Nat → Nat → Int32) (t q : Nat) : va_E := if q = tp t then .inr (4, tF (tp t) (s t)) else .inl (0, 64, .inl (a t (q - tp t - 1)))
def gt (q : Nat) : Nat := if q < 10 then 0 else if q < 31 then (q - 13) / 6 + 1 else (q - 33) / 6 + 4
def gW (h : Nat → va_E) (cm : Value) (o u : Nat → Nat → Int32) (s : Nat → Nat → Int32) (a : Nat → Nat → Nat → Int32) : Nat → va_E := fun q =>
  if 89 ≤ q then h q else if q = 0 then .inr (5, gN (o 0)) else if q = 1 then .inr (1, gI (o 1)) else if q = 2 then .inl (0, 600, .inl (u 0)) else if q = 3 then .inr (3, gS cm (o 2)) else if q = 10 then .inl (0, 3, .inl (u 1)) else if q = 11 then .inl (0, 2, .inl (u 2)) else if q = 12 then .inl (0, 2, .inl (u 3)) else if q = 31 then .inr (0, gH (o 3)) else if q = 32 then .inl (3, 9, .inr (.inr (.inr (.inr gR)))) else if q = 87 then .inr (2, gP (o 4)) else if q = 88 then .inl (0, 448, .inl (u 4)) else gT s a (gt q) q
theorem gW_0 {h : Nat → va_E} {cm : Value} {o u : Nat → Nat → Int32} {s : Nat → Nat → Int32} {a : Nat → Nat → Nat → Int32} : gW h cm o u s a 0 = .inr (5, gN (o 0)) := rfl
theorem gW_1 {h : Nat → va_E} {cm : Value} {o u : Nat → Nat → Int32} {s : Nat → Nat → Int32} {a : Nat → Nat → Nat → Int32} : gW h cm o u s a 1 = .inr (1, gI (o 1)) := rfl
theorem gW_2 {h : Nat → va_E} {cm : Value} {o u : Nat → Nat → Int32} {s : Nat → Nat → Int32} {a : Nat → Nat → Nat → Int32} : gW h cm o u s a 2 = .inl (0, 600, .inl (u 0)) := rfl
theorem gW_3 {h : Nat → va_E} {cm : Value} {o u : Nat → Nat → Int32} {s : Nat → Nat → Int32} {a : Nat → Nat → Nat → Int32} : gW h cm o u s a 3 = .inr (3, gS cm (o 2)) := rfl
theorem gW_10 {h : Nat → va_E} {cm : Value} {o u : Nat → Nat → Int32} {s : Nat → Nat → Int32} {a : Nat → Nat → Nat → Int32} : gW h cm o u s a 10 = .inl (0, 3, .inl (u 1)) := rfl
theorem gW_11 {h : Nat → va_E} {cm : Value} {o u : Nat → Nat → Int32} {s : Nat → Nat → Int32} {a : Nat → Nat → Nat → Int32} : gW h cm o u s a 11 = .inl (0, 2, .inl (u 2)) := rfl
theorem gW_12 {h : Nat → va_E} {cm : Value} {o u : Nat → Nat → Int32} {s : Nat → Nat → Int32} {a : Nat → Nat → Nat → Int32} : gW h cm o u s a 12 = .inl (0, 2, .inl (u 3)) := rfl
theorem gW_31 {h : Nat → va_E} {cm : Value} {o u : Nat → Nat → Int32} {s : Nat → Nat → Int32} {a : Nat → Nat → Nat → Int32} : gW h cm o u s a 31 = .inr (0, gH (o 3)) := rfl
theorem gW_32 {h : Nat → va_E} {cm : Value} {o u : Nat → Nat → Int32} {s : Nat → Nat → Int32} {a : Nat → Nat → Nat → Int32} : gW h cm o u s a 32 = .inl (3, 9, .inr (.inr (.inr (.inr gR)))) := rfl
theorem gW_87 {h : Nat → va_E} {cm : Value} {o u : Nat → Nat → Int32} {s : Nat → Nat → Int32} {a : Nat → Nat → Nat → Int32} : gW h cm o u s a 87 = .inr (2, gP (o 4)) := rfl
theorem gW_88 {h : Nat → va_E} {cm : Value} {o u : Nat → Nat → Int32} {s : Nat → Nat → Int32} {a : Nat → Nat → Nat → Int32} : gW h cm o u s a 88 = .inl (0, 448, .inl (u 4)) := rfl
theorem gW_hi {h : Nat → va_E} {cm : Value} {o u : Nat → Nat → Int32} {s : Nat → Nat → Int32} {a : Nat → Nat → Nat → Int32} {q : Nat} (hq : 89 ≤ q) : gW h cm o u s a q = h q := if_pos hq
/-- which places are the tables' -/
def gb (q : Nat) : Prop := 3 < q ∧ q < 10 ∨ 12 < q ∧ q < 31 ∨ 32 < q ∧ q < 87
theorem gW_T {h : Nat → va_E} {cm : Value} {o u : Nat → Nat → Int32} {s : Nat → Nat → Int32} {a : Nat → Nat → Nat → Int32} {q : Nat} (hq : gb q) : gW h cm o u s a q = gT s a (gt q) q := by
  unfold gb at hq
  unfold gW
  rw [if_neg (show ¬ 89 ≤ q by omega), if_neg (show ¬ q = 0 by omega), if_neg (show ¬ q = 1 by omega), if_neg (show ¬ q = 2 by omega), if_neg (show ¬ q = 3 by omega), if_neg (show ¬ q = 10 by omega), if_neg (show ¬ q = 11 by omega), if_neg (show ¬ q = 12 by omega), if_neg (show ¬ q = 31 by omega), if_neg (show ¬ q = 32 by omega), if_neg (show ¬ q = 87 by omega), if_neg (show ¬ q = 88 by omega)]
theorem tp_gb {t q : Nat} (ht : t < 13) (h1 : tp t ≤ q) (h2 : q ≤ tp t + 5) : gb q ∧ gt q = t := by
  rcases (show t = 0 ∨ t = 1 ∨ t = 2 ∨ t = 3 ∨ t = 4 ∨ t = 5 ∨ t = 6 ∨ t = 7 ∨ t = 8 ∨ t = 9 ∨ t = 10 ∨ t = 11 ∨ t = 12 by omega) with rfl | rfl | rfl | rfl | rfl | rfl | rfl | rfl | rfl | rfl | rfl | rfl | rfl <;> simp only [tp] at h1 h2 <;> simp at h1 h2 <;> refine ⟨by unfold gb; omega, ?_⟩ <;> unfold gt <;> split <;> first | omega | skip <;> split <;> omega
theorem tp_le {t : Nat} (ht : t < 13) : tp t + 6 ≤ 87 := by
  unfold tp
  split
  · omega
  · split <;> omega
theorem gb_tp {q : Nat} (h : gb q) : gt q < 13 ∧ tp (gt q) ≤ q ∧ q ≤ tp (gt q) + 5 := by
  unfold gb at h
  unfold gt tp
  rcases h with h | h | h
  · rw [if_pos (show q < 10 by omega)]
    simp only [if_true]
    omega
  · rw [if_neg (show ¬ q < 10 by omega), if_pos (show q < 31 by omega), if_neg (show ¬ (q - 13) / 6 + 1 = 0 by omega), if_pos (show (q - 13) / 6 + 1 < 4 by omega)]
    omega
  · rw [if_neg (show ¬ q < 10 by omega), if_neg (show ¬ q < 31 by omega), if_neg (show ¬ (q - 33) / 6 + 4 = 0 by omega), if_neg (show ¬ (q - 33) / 6 + 4 < 4 by omega)]
    omega
theorem gW_obj {h : Nat → va_E} {cm : Value} {o u : Nat → Nat → Int32} {s : Nat → Nat → Int32} {a : Nat → Nat → Nat → Int32} {t : Nat} (ht : t < 13) : gW h cm o u s a (tp t) = .inr (4, tF (tp t) (s t)) := by
  obtain ⟨h1, h2⟩ := tp_gb ht (Nat.le_refl _) (Nat.le_add_right _ 5)
  rw [gW_T h1, h2, gT, if_pos rfl]
theorem gT_put {h : Nat → va_E} {cm : Value} {o u : Nat → Nat → Int32} {s : Nat → Nat → Int32} {a : Nat → Nat → Nat → Int32} {t : Nat} {s' : Nat → Int32} {a' : Nat → Nat → Int32} (ht : t < 13) : tW (gW h cm o u s a) (tp t) s' a' = gW h cm o u (va_up s t s') (va_up a t a') := by
  funext q
  by_cases hr : tp t ≤ q ∧ q ≤ tp t + 5
  · obtain ⟨h1, h2⟩ := tp_gb ht hr.1 hr.2
    rw [gW_T h1, h2, gT, tW]
    have e1 : va_up s t s' t = s' := by simp [va_up]
    have e2 : va_up a t a' t = a' := by simp [va_up]
    rw [e1, e2]
    by_cases h3 : q = tp t
    · rw [if_pos h3, if_pos h3]
    · rw [if_neg h3, if_neg h3, if_pos (show tp t < q ∧ q ≤ tp t + 5 by omega)]
  · rw [tW_off (by omega)]
    by_cases hg : gb q
    · rw [gW_T hg, gW_T hg, gT, gT]
      obtain ⟨h1, h2, h3⟩ := gb_tp hg
      have hne : ¬ gt q = t := fun e => hr (by rw [e] at h2 h3; exact ⟨h2, h3⟩)
      have e1 : va_up s t s' (gt q) = s (gt q) := by simp [va_up, hne]
      have e2 : va_up a t a' (gt q) = a (gt q) := by simp [va_up, hne]
      rw [e1, e2]
    · by_cases h89 : 89 ≤ q
      · rw [gW_hi h89, gW_hi h89]
      · unfold gb at hg
        rcases (show q = 0 ∨ q = 1 ∨ q = 2 ∨ q = 3 ∨ q = 10 ∨ q = 11 ∨ q = 12 ∨ q = 31 ∨ q = 32 ∨ q = 87 ∨ q = 88 by omega) with rfl | rfl | rfl | rfl | rfl | rfl | rfl | rfl | rfl | rfl | rfl <;> rfl
theorem up_self {α : Type} (f : Nat → α) (t : Nat) : va_up f t (f t) = f := by
  funext k
  by_cases hk : k = t
  · subst hk; simp [va_up]
  · simp [va_up, hk]
theorem gT_eq {h : Nat → va_E} {cm : Value} {o u : Nat → Nat → Int32} {s : Nat → Nat → Int32} {a : Nat → Nat → Nat → Int32} {t : Nat} (ht : t < 13) : tW (gW h cm o u s a) (tp t) (s t) (a t) = gW h cm o u s a := by
  rw [gT_put ht, up_self, up_self]
theorem g_tIn {h : Nat → va_E} {cm : Value} {o u : Nat → Nat → Int32} {s : Nat → Nat → Int32} {a : Nat → Nat → Nat → Int32} {t : Nat} (ht : t < 13) : tIn (gW h cm o u s a) (tp t) (s t) (a t) := by
  have := tIn_tW (h := gW h cm o u s a) (b := tp t) (s := s t) (a := a t)
  rw [gT_eq ht] at this
  exact this
theorem tp_apart {t t2 : Nat} (ht : t < 13) (ht2 : t2 < 13) (h : t ≠ t2) : tp t2 + 6 ≤ tp t ∨ tp t + 6 ≤ tp t2 := by
  unfold tp
  split <;> split <;> first | omega | skip
  all_goals split
  all_goals first | omega | skip
  all_goals split <;> omega
-- writes
theorem gW_put0 {h : Nat → va_E} {cm : Value} {o u : Nat → Nat → Int32} {s : Nat → Nat → Int32} {a : Nat → Nat → Nat → Int32} {x : Nat → Int32} : va_up (gW h cm o u s a) 0 (.inr (5, gN x)) = gW h cm (va_up o 0 x) u s a := by
  funext q
  by_cases hq : q = 0
  · subst hq; rfl
  · simp only [va_up, if_neg hq, gW]
    rfl
theorem gW_put1 {h : Nat → va_E} {cm : Value} {o u : Nat → Nat → Int32} {s : Nat → Nat → Int32} {a : Nat → Nat → Nat → Int32} {x : Nat → Int32} : va_up (gW h cm o u s a) 1 (.inr (1, gI x)) = gW h cm (va_up o 1 x) u s a := by
  funext q
  by_cases hq : q = 1
  · subst hq; rfl
  · simp only [va_up, if_neg hq, gW]
    rfl
theorem gW_put3 {h : Nat → va_E} {cm cm' : Value} {o u : Nat → Nat → Int32} {s : Nat → Nat → Int32} {a : Nat → Nat → Nat → Int32} {x : Nat → Int32} : va_up (gW h cm o u s a) 3 (.inr (3, gS cm' x)) = gW h cm' (va_up o 2 x) u s a := by
  funext q
  by_cases hq : q = 3
  · subst hq; rfl
  · simp only [va_up, if_neg hq, gW]
    rfl
theorem gW_put31 {h : Nat → va_E} {cm : Value} {o u : Nat → Nat → Int32} {s : Nat → Nat → Int32} {a : Nat → Nat → Nat → Int32} {x : Nat → Int32} : va_up (gW h cm o u s a) 31 (.inr (0, gH x)) = gW h cm (va_up o 3 x) u s a := by
  funext q
  by_cases hq : q = 31
  · subst hq; rfl
  · simp only [va_up, if_neg hq, gW]
    rfl
theorem gW_put87 {h : Nat → va_E} {cm : Value} {o u : Nat → Nat → Int32} {s : Nat → Nat → Int32} {a : Nat → Nat → Nat → Int32} {x : Nat → Int32} : va_up (gW h cm o u s a) 87 (.inr (2, gP x)) = gW h cm (va_up o 4 x) u s a := by
  funext q
  by_cases hq : q = 87
  · subst hq; rfl
  · simp only [va_up, if_neg hq, gW]
    rfl
def gA (j : Nat) : Nat × Nat := match j with
  | 0 => (2, 600)
  | 1 => (10, 3)
  | 2 => (11, 2)
  | 3 => (12, 2)
  | _ => (88, 448)
theorem gW_arr {h : Nat → va_E} {cm : Value} {o u : Nat → Nat → Int32} {s : Nat → Nat → Int32} {a : Nat → Nat → Nat → Int32} {j : Nat} (hj : j < 5) : gW h cm o u s a (gA j).1 = .inl (0, (gA j).2, .inl (u j)) := by
  rcases (show j = 0 ∨ j = 1 ∨ j = 2 ∨ j = 3 ∨ j = 4 by omega) with rfl | rfl | rfl | rfl | rfl <;> rfl
theorem gW_ast {h : Nat → va_E} {cm : Value} {o u : Nat → Nat → Int32} {s : Nat → Nat → Int32} {a : Nat → Nat → Nat → Int32} {j : Nat} {f : Nat → Int32} (hj : j < 5) : va_up (gW h cm o u s a) (gA j).1 (.inl (0, (gA j).2, .inl f)) = gW h cm o (va_up u j f) s a := by
  rcases (show j = 0 ∨ j = 1 ∨ j = 2 ∨ j = 3 ∨ j = 4 by omega) with rfl | rfl | rfl | rfl | rfl
  all_goals
    funext q
    simp only [gA]
  · by_cases hq : q = 2
    · subst hq; rfl
    · simp only [va_up, if_neg hq, gW]; rfl
  · by_cases hq : q = 10
    · subst hq; rfl
    · simp only [va_up, if_neg hq, gW]; rfl
  · by_cases hq : q = 11
    · subst hq; rfl
    · simp only [va_up, if_neg hq, gW]; rfl
  · by_cases hq : q = 12
    · subst hq; rfl
    · simp only [va_up, if_neg hq, gW]; rfl
  · by_cases hq : q = 88
    · subst hq; rfl
    · simp only [va_up, if_neg hq, gW]; rfl
-- the rules: a scalar of object c (place, number of its class, fields), k: the field
def gO (cm : Value) (c : Nat) (x : Nat → Int32) : Nat × Nat × List Value := match c with
  | 0 => (0, 5, gN x)
  | 1 => (1, 1, gI x)
  | 2 => (3, 3, gS cm x)
  | 3 => (31, 0, gH x)
  | _ => (87, 2, gP x)
theorem gW_ob {h : Nat → va_E} {cm : Value} {o u : Nat → Nat → Int32} {s : Nat → Nat → Int32} {a : Nat → Nat → Nat → Int32} {c : Nat} (hc : c < 5) : gW h cm o u s a (gO cm c (o c)).1 = .inr (gO cm c (o c)).2 := by
  rcases (show c = 0 ∨ c = 1 ∨ c = 2 ∨ c = 3 ∨ c = 4 by omega) with rfl | rfl | rfl | rfl | rfl <;> rfl
theorem gW_oput {h : Nat → va_E} {cm : Value} {o u : Nat → Nat → Int32} {s : Nat → Nat → Int32} {a : Nat → Nat → Nat → Int32} {c : Nat} {x : Nat → Int32} (hc : c < 5) : va_up (gW h cm o u s a) (gO cm c x).1 (.inr (gO cm c x).2) = gW h cm (va_up o c x) u s a := by
  rcases (show c = 0 ∨ c = 1 ∨ c = 2 ∨ c = 3 ∨ c = 4 by omega) with rfl | rfl | rfl | rfl | rfl
  · exact gW_put0
  · exact gW_put1
  · exact gW_put3
  · exact gW_put31
  · exact gW_put87
theorem g_put {l : zL} {Y : zM} {d kc ks pc n k idx ci p : Nat} {lv : List (Nat × Value)} {rest : List Value} {h : Nat → va_E} {cm : Value} {o u : Nat → Nat → Int32} {s : Nat → Nat → Int32} {a : Nat → Nat → Nat → Int32} {x : Int32} {Q : zQ} {fs : List Value} {ty0 : Nat → FieldType} (c : Nat) (hc : c < 5) (hn : 89 ≤ n) (hp : p < 89) (hO : (p, ci, fs) = gO cm c (o c)) (hO2 : (p, ci, fs.set k (.int x)) = gO cm c (va_up (o c) k x)) (hf : zF Y.1.cls idx ci k) (hg : zG ci ty0) (hty : ty0 k = .int) (hfin : zFin ci k false) (hlen : k < fs.length) (hd : decode Y.2.1 pc = .ok (.putfield idx, 3)) (kk : Zj l Y d kc ks (pc + 3) lv rest n (gW h cm (va_up o c (va_up (o c) k x)) u s a) Q) : Zj l Y d kc ks pc lv (.int x :: .ref p :: rest) n (gW h cm o u s a) Q := by
  have e1 := gW_ob (h := h) (cm := cm) (o := o) (u := u) (s := s) (a := a) hc
  rw [← hO] at e1
  have e2 := gW_oput (h := h) (cm := cm) (o := o) (u := u) (s := s) (a := a) (x := va_up (o c) k x) hc
  rw [← hO2] at e2
  rw [← e2] at kk
  exact z_puti (by omega) e1 hf hg hty hfin hlen hd kk
theorem g_putz {l : zL} {Y : zM} {d kc ks pc n k idx ci p : Nat} {lv : List (Nat × Value)} {rest : List Value} {h : Nat → va_E} {cm : Value} {o u : Nat → Nat → Int32} {s : Nat → Nat → Int32} {a : Nat → Nat → Nat → Int32} {x : Int32} {Q : zQ} {fs : List Value} {ty0 : Nat → FieldType} (hx : x = 0 ∨ x = 1) (c : Nat) (hc : c < 5) (hn : 89 ≤ n) (hp : p < 89) (hO : (p, ci, fs) = gO cm c (o c)) (hO2 : (p, ci, fs.set k (.int x)) = gO cm c (va_up (o c) k x)) (hf : zF Y.1.cls idx ci k) (hg : zG ci ty0) (hty : ty0 k = .boolean) (hfin : zFin ci k false) (hlen : k < fs.length) (hd : decode Y.2.1 pc = .ok (.putfield idx, 3)) (kk : Zj l Y d kc ks (pc + 3) lv rest n (gW h cm (va_up o c (va_up (o c) k x)) u s a) Q) : Zj l Y d kc ks pc lv (.int x :: .ref p :: rest) n (gW h cm o u s a) Q := by
  have e1 := gW_ob (h := h) (cm := cm) (o := o) (u := u) (s := s) (a := a) hc
  rw [← hO] at e1
  have e2 := gW_oput (h := h) (cm := cm) (o := o) (u := u) (s := s) (a := a) (x := va_up (o c) k x) hc
  rw [← hO2] at e2
  rw [← e2] at kk
  exact z_putz hx (by omega) e1 hf hg hty hfin hlen hd kk
theorem g_ald {l : zL} {Y : zM} {d kc ks pc n p N : Nat} {lv : List (Nat × Value)} {rest : List Value} {h : Nat → va_E} {cm : Value} {o u : Nat → Nat → Int32} {s : Nat → Nat → Int32} {a : Nat → Nat → Nat → Int32} {i : Int32} {Q : zQ} (j : Nat) (hj : j < 5) (hp : (p, N) = gA j) (hn : 89 ≤ n) (hin : vp_in i N) (hd : decode Y.2.1 pc = .ok (.iaload, 1)) (kk : Zj l Y d kc ks (pc + 1) lv (.int (u j i.toNatClampNeg) :: rest) n (gW h cm o u s a) Q) : Zj l Y d kc ks pc lv (.int i :: .ref p :: rest) n (gW h cm o u s a) Q := by
  have e := gW_arr (h := h) (cm := cm) (o := o) (u := u) (s := s) (a := a) hj
  rw [← hp] at e
  have hlt : p < 89 := by
    have : p = (gA j).1 := by rw [← hp]
    rw [this]
    rcases (show j = 0 ∨ j = 1 ∨ j = 2 ∨ j = 3 ∨ j = 4 by omega) with rfl | rfl | rfl | rfl | rfl <;> decide
  exact z_iald (by omega) e hin hd kk
theorem g_ast {l : zL} {Y : zM} {d kc ks pc n p N : Nat} {lv : List (Nat × Value)} {rest : List Value} {h : Nat → va_E} {cm : Value} {o u : Nat → Nat → Int32} {s : Nat → Nat → Int32} {a : Nat → Nat → Nat → Int32} {i x : Int32} {Q : zQ} (j : Nat) (hj : j < 5) (hp : (p, N) = gA j) (hn : 89 ≤ n) (hin : vp_in i N) (hd : decode Y.2.1 pc = .ok (.iastore, 1)) (kk : Zj l Y d kc ks (pc + 1) lv rest n (gW h cm o (va_up u j (va_up (u j) i.toNatClampNeg x)) s a) Q) : Zj l Y d kc ks pc lv (.int x :: .int i :: .ref p :: rest) n (gW h cm o u s a) Q := by
  have e := gW_arr (h := h) (cm := cm) (o := o) (u := u) (s := s) (a := a) hj
  have e2 := gW_ast (h := h) (cm := cm) (o := o) (u := u) (s := s) (a := a) (f := va_up (u j) i.toNatClampNeg x) hj
  rw [← hp] at e e2
  rw [← e2] at kk
  have hlt : p < 89 := by
    have : p = (gA j).1 := by rw [← hp]
    rw [this]
    rcases (show j = 0 ∨ j = 1 ∨ j = 2 ∨ j = 3 ∨ j = 4 by omega) with rfl | rfl | rfl | rfl | rfl <;> decide
  exact z_iast (by omega) e hin hd kk
theorem g_tput {l : zL} {Y : zM} {d kc ks pc n idx b : Nat} {lv : List (Nat × Value)} {rest : List Value} {h : Nat → va_E} {cm : Value} {o u : Nat → Nat → Int32} {s : Nat → Nat → Int32} {a : Nat → Nat → Nat → Int32} {x : Int32} {Q : zQ} (t : Nat) (ht : t < 13) (hbt : b = tp t) (hx : x = 0 ∨ x = 1) (hn : 89 ≤ n) (hf : zF Y.1.cls idx 4 9) (hd : decode Y.2.1 pc = .ok (.putfield idx, 3)) (kk : Zj l Y d kc ks (pc + 3) lv rest n (gW h cm o u (va_up s t (va_up (s t) 9 x)) a) Q) : Zj l Y d kc ks pc lv (.int x :: .ref b :: rest) n (gW h cm o u s a) Q := by
  subst hbt
  have hle := tp_le ht
  have e := gT_put (h := h) (cm := cm) (o := o) (u := u) (s := s) (a := a) (s' := va_up (s t) 9 x) (a' := a t) ht
  rw [up_self] at e
  rw [← e] at kk
  rw [← gT_eq ht]
  exact t_putz hx (by omega) hf hd kk
theorem g_arl {l : zL} {Y : zM} {d kc ks pc n : Nat} {lv : List (Nat × Value)} {rest : List Value} {h : Nat → va_E} {cm : Value} {o u : Nat → Nat → Int32} {s : Nat → Nat → Int32} {a : Nat → Nat → Nat → Int32} {i : Nat} {Q : zQ} (hn : 89 ≤ n) (hi : i < 9) (hd : decode Y.2.1 pc = .ok (.aaload, 1)) (kk : Zj l Y d kc ks (pc + 1) lv (.ref (33 + 6 * i) :: rest) n (gW h cm o u s a) Q) : Zj l Y d kc ks pc lv (.int (nI i) :: .ref 32 :: rest) n (gW h cm o u s a) Q :=
  z_aald (q := 33 + 6 * i) (by omega) gW_32 (vp_in_nI hi (by decide)) (by rw [nI_clamp (by omega)]; simp [gR, hi]) hd kk
