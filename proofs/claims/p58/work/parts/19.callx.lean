/-! calls whose world behind is told by a property -/
theorem z_cVx {l : zL} {Y Y' : zM} {d kc ks pc n idx k : Nat} {lv : List (Nat × Value)} {rest : List Value} {h : Nat → va_E} {Q : zQ} {b ci : Nat} {fs : List Value} (As : List Value) (r : Option Value) (G : (Nat → va_E) → Prop) (hY : zY Y' k) (hYv : zYv Y') (hh : Y'.2.2.2.2 = []) (hnL : Y'.2.2.1 ≤ 20) (hlink : Cond.methodLink Y.1.cls idx Y'.1 ∈ zTs) (hb : b < n) (hhb : h b = .inr (ci, fs)) (hci : (vwCl[ci]?).map (fun q => q.1) = some Y'.1.cls) (hlen : As.length = k) (hsl : (lg_sl (.ref b :: As)).length ≤ Y'.2.2.1) (hcat : (rest.map fun v => v.category).sum ≤ 8) (hd : decode Y.2.1 pc = .ok (.invokevirtual idx, 3))
    (body : Zj l Y' d 0 0 0 (lv_args 0 (.ref b :: As)) [] n h (fun q n' g => q = .inl r ∧ n' = n ∧ G g))
    (kk : ∀ g, G g → Zj l Y (d + 1) kc ks (pc + 3) lv (r.toList ++ rest) n g Q) : Zj l Y (d + 1) kc ks pc lv (As.reverse ++ .ref b :: rest) n h Q :=
  z_callV (k1 := 0) (s1 := 0) (k2 := kc) (s2 := ks) _ hY hYv hh hnL hlink hb hhb hci hlen hsl hcat hd body (by omega) (by omega) (fun r' n' g hq => by
    obtain ⟨e1, rfl, hg⟩ := hq
    cases e1
    exact ⟨rfl, kk g hg⟩) (fun E n' g hq => by cases hq.1)
/-- .. and whose answer is told with it -/
theorem z_cVr {l : zL} {Y Y' : zM} {d kc ks pc n idx k : Nat} {lv : List (Nat × Value)} {rest : List Value} {h : Nat → va_E} {Q : zQ} {b ci : Nat} {fs : List Value} (As : List Value) (G : Option Value → (Nat → va_E) → Prop) (hY : zY Y' k) (hYv : zYv Y') (hh : Y'.2.2.2.2 = []) (hnL : Y'.2.2.1 ≤ 20) (hlink : Cond.methodLink Y.1.cls idx Y'.1 ∈ zTs) (hb : b < n) (hhb : h b = .inr (ci, fs)) (hci : (vwCl[ci]?).map (fun q => q.1) = some Y'.1.cls) (hlen : As.length = k) (hsl : (lg_sl (.ref b :: As)).length ≤ Y'.2.2.1) (hcat : (rest.map fun v => v.category).sum ≤ 8) (hd : decode Y.2.1 pc = .ok (.invokevirtual idx, 3))
    (body : Zj l Y' d 0 0 0 (lv_args 0 (.ref b :: As)) [] n h (fun q n' g => ∃ r, q = .inl r ∧ n' = n ∧ G r g))
    (kk : ∀ r g, G r g → Zj l Y (d + 1) kc ks (pc + 3) lv (r.toList ++ rest) n g Q) : Zj l Y (d + 1) kc ks pc lv (As.reverse ++ .ref b :: rest) n h Q :=
  z_callV (k1 := 0) (s1 := 0) (k2 := kc) (s2 := ks) _ hY hYv hh hnL hlink hb hhb hci hlen hsl hcat hd body (by omega) (by omega) (fun r' n' g hq => by
    obtain ⟨r0, e1, rfl, hg⟩ := hq
    cases e1
    exact ⟨rfl, kk _ g hg⟩) (fun E n' g hq => by obtain ⟨r0, e1, -⟩ := hq; cases e1)
