/-! THE CLASS'S SCRIPT: a command performed -/

set_option maxHeartbeats 4000000 in
set_option maxRecDepth 100000 in
theorem w_perfN {l : zL} {d kc ks n : Nat} {h : Nat → va_E} {o u : Nat → Nat → Int32} {s : Nat → Nat → Int32} {a : Nat → Nat → Nat → Int32} {Q : zQ} (hn : 89 ≤ n) (hq : Q (.inl none) n (gW h .null o u s a)) : Zj l mX5_perform (d + 8) kc ks 0 [(0, .ref 3)] [] n (gW h .null o u s a) Q := by
  refine z_aload_n (j := 0) dX5_perform_0 rfl ?_
  refine z_get (v := .null) (by omega) gW_3 fX5_57 rfl dX5_perform_1 ?_
  refine z_ifnullN (tgt := 14) dX5_perform_4 (by decide) ?_
  exact z_vret rfl dX5_perform_14 (hq)

set_option maxHeartbeats 4000000 in
set_option maxRecDepth 100000 in
theorem w_perfE {l : zL} {d kc ks n : Nat} {h : Nat → va_E} {o u : Nat → Nat → Int32} {s : Nat → Nat → Int32} {a : Nat → Nat → Nat → Int32} {q : Nat} {Q : zQ} (hn : 89 ≤ n) (he : ¬ o 2 10 = 0) (hq : Q (.inl none) n (gW h (.ref q) o u s a)) : Zj l mX5_perform (d + 8) kc ks 0 [(0, .ref 3)] [] n (gW h (.ref q) o u s a) Q := by
  refine z_aload_n (j := 0) dX5_perform_0 rfl ?_
  refine z_get (v := (.ref q)) (by omega) gW_3 fX5_57 rfl dX5_perform_1 ?_
  refine z_ifnull dX5_perform_4 ?_
  refine z_aload_n (j := 0) dX5_perform_7 rfl ?_
  refine z_get (v := .int (o 2 10)) (by omega) gW_3 fX5_54 rfl dX5_perform_8 ?_
  refine z_if_eq (tgt := 15) dX5_perform_11 (by decide) (fun czq11 => absurd czq11 he) (fun czq11 => ?_)
  exact z_vret rfl dX5_perform_14 (hq)

set_option maxHeartbeats 4000000 in
set_option maxRecDepth 100000 in
theorem w_perf0 {l : zL} {d kc ks n : Nat} {h : Nat → va_E} {o u : Nat → Nat → Int32} {s : Nat → Nat → Int32} {a : Nat → Nat → Nat → Int32} {ex off : Nat} {S : zS} {v0 v1 : Nat} {Q : zQ} (hn : 89 ≤ n) (h10 : o 2 10 = 0) (h6 : o 2 6 = nI ex) (h13 : o 1 3 = nI off) (hT : cT S (s 0) (a 0)) (hv0 : u 1 0 = nI v0) (hv1 : u 1 1 = nI v1) (h90 : v0 ≤ 9999) (h91 : v1 ≤ 999) (hqY : ∀ S', (oAdd S v0 v1) = some S' → ∀ o' s' a', o' 2 6 = nI (ex + 1) → (∀ c, c ≠ 2 → o' c = o c) → (∀ j, j ≠ 6 → o' 2 j = o 2 j) → cT S' (s' 0) (a' 0) → (∀ t, t ≠ 0 → s' t = s t) → (∀ t, t ≠ 0 → a' t = a t) → Q (.inl none) n (gW h (.ref (zB + 200 + 0)) o' u s' a')) (hqN : (oAdd S v0 v1) = none → ∀ o' s' a', er o o' 3 off → (∀ t, t ≠ 0 → s' t = s t) → (∀ t, t ≠ 0 → a' t = a t) → Q (.inl none) n (gW h (.ref (zB + 200 + 0)) o' u s' a')) : Zj l mX5_perform (d + 8) kc ks 0 [(0, .ref 3)] [] n (gW h (.ref (zB + 200 + 0)) o u s a) Q := by
  refine z_aload_n (j := 0) dX5_perform_0 rfl ?_
  refine z_get (v := (.ref (zB + 200 + 0))) (by omega) gW_3 fX5_57 rfl dX5_perform_1 ?_
  refine z_ifnull dX5_perform_4 ?_
  refine z_aload_n (j := 0) dX5_perform_7 rfl ?_
  refine z_get (v := .int (o 2 10)) (by omega) gW_3 fX5_54 rfl dX5_perform_8 ?_
  refine z_if_eq (tgt := 15) dX5_perform_11 (by decide) (fun czq11 => absurd czq11 (fun z => z h10)) (fun czq11 => ?_)
  exact z_vret rfl dX5_perform_14 (hq)

set_option maxHeartbeats 4000000 in
set_option maxRecDepth 100000 in
theorem w_perf1 {l : zL} {d kc ks n : Nat} {h : Nat → va_E} {o u : Nat → Nat → Int32} {s : Nat → Nat → Int32} {a : Nat → Nat → Nat → Int32} {ex off : Nat} {S : zS} {v0 v1 : Nat} {Q : zQ} (hn : 89 ≤ n) (h10 : o 2 10 = 0) (h6 : o 2 6 = nI ex) (h13 : o 1 3 = nI off) (hT : cT S (s 0) (a 0)) (hv0 : u 1 0 = nI v0) (hv1 : u 1 1 = nI v1) (h90 : v0 ≤ 9999) (h91 : v1 ≤ 999) (hqY : ∀ S', ((sPut S v0 v1).map (·.2)) = some S' → ∀ o' s' a', o' 2 6 = nI (ex + 1) → (∀ c, c ≠ 2 → o' c = o c) → (∀ j, j ≠ 6 → o' 2 j = o 2 j) → cT S' (s' 0) (a' 0) → (∀ t, t ≠ 0 → s' t = s t) → (∀ t, t ≠ 0 → a' t = a t) → Q (.inl none) n (gW h (.ref (zB + 200 + 1)) o' u s' a')) (hqN : ((sPut S v0 v1).map (·.2)) = none → ∀ o' s' a', er o o' 3 off → (∀ t, t ≠ 0 → s' t = s t) → (∀ t, t ≠ 0 → a' t = a t) → Q (.inl none) n (gW h (.ref (zB + 200 + 1)) o' u s' a')) : Zj l mX5_perform (d + 8) kc ks 0 [(0, .ref 3)] [] n (gW h (.ref (zB + 200 + 1)) o u s a) Q := by
  refine z_aload_n (j := 0) dX5_perform_0 rfl ?_
  refine z_get (v := (.ref (zB + 200 + 1))) (by omega) gW_3 fX5_57 rfl dX5_perform_1 ?_
  refine z_ifnull dX5_perform_4 ?_
  refine z_aload_n (j := 0) dX5_perform_7 rfl ?_
  refine z_get (v := .int (o 2 10)) (by omega) gW_3 fX5_54 rfl dX5_perform_8 ?_
  refine z_if_eq (tgt := 15) dX5_perform_11 (by decide) (fun czq11 => absurd czq11 (fun z => z h10)) (fun czq11 => ?_)
  exact z_vret rfl dX5_perform_14 (hq)

set_option maxHeartbeats 4000000 in
set_option maxRecDepth 100000 in
theorem w_perf2 {l : zL} {d kc ks n : Nat} {h : Nat → va_E} {o u : Nat → Nat → Int32} {s : Nat → Nat → Int32} {a : Nat → Nat → Nat → Int32} {ex off : Nat} {S : zS} {v0 v1 v2 : Nat} {Q : zQ} (hn : 89 ≤ n) (h10 : o 2 10 = 0) (h6 : o 2 6 = nI ex) (h13 : o 1 3 = nI off) (hT : cT S (s 0) (a 0)) (hv0 : u 1 0 = nI v0) (hv1 : u 1 1 = nI v1) (hv2 : u 1 2 = nI v2) (hks : ∀ i, i < v2 → v0 + i * v1 ≤ 9999) (hct : v2 ≤ 20) (hqY : ∀ S', ((sRow S v0 v1 v2).map (·.2)) = some S' → ∀ o' s' a', o' 2 6 = nI (ex + 1) → (∀ c, c ≠ 2 → o' c = o c) → (∀ j, j ≠ 6 → o' 2 j = o 2 j) → cT S' (s' 0) (a' 0) → (∀ t, t ≠ 0 → s' t = s t) → (∀ t, t ≠ 0 → a' t = a t) → Q (.inl none) n (gW h (.ref (zB + 200 + 2)) o' u s' a')) (hqN : ((sRow S v0 v1 v2).map (·.2)) = none → ∀ o' s' a', er o o' 3 off → (∀ t, t ≠ 0 → s' t = s t) → (∀ t, t ≠ 0 → a' t = a t) → Q (.inl none) n (gW h (.ref (zB + 200 + 2)) o' u s' a')) : Zj l mX5_perform (d + 8) kc ks 0 [(0, .ref 3)] [] n (gW h (.ref (zB + 200 + 2)) o u s a) Q := by
  refine z_aload_n (j := 0) dX5_perform_0 rfl ?_
  refine z_get (v := (.ref (zB + 200 + 2))) (by omega) gW_3 fX5_57 rfl dX5_perform_1 ?_
  refine z_ifnull dX5_perform_4 ?_
  refine z_aload_n (j := 0) dX5_perform_7 rfl ?_
  refine z_get (v := .int (o 2 10)) (by omega) gW_3 fX5_54 rfl dX5_perform_8 ?_
  refine z_if_eq (tgt := 15) dX5_perform_11 (by decide) (fun czq11 => absurd czq11 (fun z => z h10)) (fun czq11 => ?_)
  exact z_vret rfl dX5_perform_14 (hq)

set_option maxHeartbeats 4000000 in
set_option maxRecDepth 100000 in
theorem w_perf3 {l : zL} {d kc ks n : Nat} {h : Nat → va_E} {o u : Nat → Nat → Int32} {s : Nat → Nat → Int32} {a : Nat → Nat → Nat → Int32} {ex off : Nat} {S : zS} {v0 : Nat} {Q : zQ} (hn : 89 ≤ n) (h10 : o 2 10 = 0) (h6 : o 2 6 = nI ex) (h13 : o 1 3 = nI off) (hT : cT S (s 0) (a 0)) (hv0 : u 1 0 = nI v0) (h90 : v0 ≤ 9999) (hk0 : (sFind S v0).isSome = true) (hqY : ∀ S', (oRem S v0) = some S' → ∀ o' s' a', o' 2 6 = nI (ex + 1) → (∀ c, c ≠ 2 → o' c = o c) → (∀ j, j ≠ 6 → o' 2 j = o 2 j) → cT S' (s' 0) (a' 0) → (∀ t, t ≠ 0 → s' t = s t) → (∀ t, t ≠ 0 → a' t = a t) → Q (.inl none) n (gW h (.ref (zB + 200 + 3)) o' u s' a')) (hqN : (oRem S v0) = none → ∀ o' s' a', er o o' 3 off → (∀ t, t ≠ 0 → s' t = s t) → (∀ t, t ≠ 0 → a' t = a t) → Q (.inl none) n (gW h (.ref (zB + 200 + 3)) o' u s' a')) : Zj l mX5_perform (d + 8) kc ks 0 [(0, .ref 3)] [] n (gW h (.ref (zB + 200 + 3)) o u s a) Q := by
  refine z_aload_n (j := 0) dX5_perform_0 rfl ?_
  refine z_get (v := (.ref (zB + 200 + 3))) (by omega) gW_3 fX5_57 rfl dX5_perform_1 ?_
  refine z_ifnull dX5_perform_4 ?_
  refine z_aload_n (j := 0) dX5_perform_7 rfl ?_
  refine z_get (v := .int (o 2 10)) (by omega) gW_3 fX5_54 rfl dX5_perform_8 ?_
  refine z_if_eq (tgt := 15) dX5_perform_11 (by decide) (fun czq11 => absurd czq11 (fun z => z h10)) (fun czq11 => ?_)
  exact z_vret rfl dX5_perform_14 (hq)

set_option maxHeartbeats 4000000 in
set_option maxRecDepth 100000 in
theorem w_perf4 {l : zL} {d kc ks n : Nat} {h : Nat → va_E} {o u : Nat → Nat → Int32} {s : Nat → Nat → Int32} {a : Nat → Nat → Nat → Int32} {ex off : Nat} {S : zS} {v0 : Nat} {Q : zQ} (hn : 89 ≤ n) (h10 : o 2 10 = 0) (h6 : o 2 6 = nI ex) (h13 : o 1 3 = nI off) (hT : cT S (s 0) (a 0)) (hv0 : u 1 0 = nI v0) (hr1 : 2 ≤ v0) (hr2 : v0 ≤ 6) (hqY : ∀ S', (sNear S v0) = some S' → ∀ o' s' a', o' 2 6 = nI (ex + 1) → (∀ c, c ≠ 2 → o' c = o c) → (∀ j, j ≠ 6 → o' 2 j = o 2 j) → cT S' (s' 0) (a' 0) → (∀ t, t ≠ 0 → s' t = s t) → (∀ t, t ≠ 0 → a' t = a t) → Q (.inl none) n (gW h (.ref (zB + 200 + 4)) o' u s' a')) (hqN : (sNear S v0) = none → ∀ o' s' a', er o o' 3 off → (∀ t, t ≠ 0 → s' t = s t) → (∀ t, t ≠ 0 → a' t = a t) → Q (.inl none) n (gW h (.ref (zB + 200 + 4)) o' u s' a')) : Zj l mX5_perform (d + 8) kc ks 0 [(0, .ref 3)] [] n (gW h (.ref (zB + 200 + 4)) o u s a) Q := by
  refine z_aload_n (j := 0) dX5_perform_0 rfl ?_
  refine z_get (v := (.ref (zB + 200 + 4))) (by omega) gW_3 fX5_57 rfl dX5_perform_1 ?_
  refine z_ifnull dX5_perform_4 ?_
  refine z_aload_n (j := 0) dX5_perform_7 rfl ?_
  refine z_get (v := .int (o 2 10)) (by omega) gW_3 fX5_54 rfl dX5_perform_8 ?_
  refine z_if_eq (tgt := 15) dX5_perform_11 (by decide) (fun czq11 => absurd czq11 (fun z => z h10)) (fun czq11 => ?_)
  exact z_vret rfl dX5_perform_14 (hq)

set_option maxHeartbeats 4000000 in
set_option maxRecDepth 100000 in
theorem w_perf5 {l : zL} {d kc ks n : Nat} {h : Nat → va_E} {o u : Nat → Nat → Int32} {s : Nat → Nat → Int32} {a : Nat → Nat → Nat → Int32} {ex off : Nat} {S : zS} {v0 : Nat} {Q : zQ} (hn : 89 ≤ n) (h10 : o 2 10 = 0) (h6 : o 2 6 = nI ex) (h13 : o 1 3 = nI off) (hT : cT S (s 0) (a 0)) (hv0 : u 1 0 = nI v0) (hr1 : 1 ≤ v0) (hr2 : v0 ≤ 99) (hqY : ∀ S', (sTimes S v0) = some S' → ∀ o' s' a', o' 2 6 = nI (ex + 1) → (∀ c, c ≠ 2 → o' c = o c) → (∀ j, j ≠ 6 → o' 2 j = o 2 j) → cT S' (s' 0) (a' 0) → (∀ t, t ≠ 0 → s' t = s t) → (∀ t, t ≠ 0 → a' t = a t) → Q (.inl none) n (gW h (.ref (zB + 200 + 5)) o' u s' a')) (hqN : (sTimes S v0) = none → ∀ o' s' a', er o o' 3 off → (∀ t, t ≠ 0 → s' t = s t) → (∀ t, t ≠ 0 → a' t = a t) → Q (.inl none) n (gW h (.ref (zB + 200 + 5)) o' u s' a')) : Zj l mX5_perform (d + 8) kc ks 0 [(0, .ref 3)] [] n (gW h (.ref (zB + 200 + 5)) o u s a) Q := by
  refine z_aload_n (j := 0) dX5_perform_0 rfl ?_
  refine z_get (v := (.ref (zB + 200 + 5))) (by omega) gW_3 fX5_57 rfl dX5_perform_1 ?_
  refine z_ifnull dX5_perform_4 ?_
  refine z_aload_n (j := 0) dX5_perform_7 rfl ?_
  refine z_get (v := .int (o 2 10)) (by omega) gW_3 fX5_54 rfl dX5_perform_8 ?_
  refine z_if_eq (tgt := 15) dX5_perform_11 (by decide) (fun czq11 => absurd czq11 (fun z => z h10)) (fun czq11 => ?_)
  exact z_vret rfl dX5_perform_14 (hq)

set_option maxHeartbeats 4000000 in
set_option maxRecDepth 100000 in
theorem w_perf6 {l : zL} {d kc ks n : Nat} {h : Nat → va_E} {o u : Nat → Nat → Int32} {s : Nat → Nat → Int32} {a : Nat → Nat → Nat → Int32} {ex off : Nat} {S : zS} {Q : zQ} (hn : 89 ≤ n) (h10 : o 2 10 = 0) (h6 : o 2 6 = nI ex) (h13 : o 1 3 = nI off) (hT : cT S (s 0) (a 0))   (hqY : ∀ S', (some (sPull S 1)) = some S' → ∀ o' s' a', o' 2 6 = nI (ex + 1) → (∀ c, c ≠ 2 → o' c = o c) → (∀ j, j ≠ 6 → o' 2 j = o 2 j) → cT S' (s' 0) (a' 0) → (∀ t, t ≠ 0 → s' t = s t) → (∀ t, t ≠ 0 → a' t = a t) → Q (.inl none) n (gW h (.ref (zB + 200 + 6)) o' u s' a')) (hqN : (some (sPull S 1)) = none → ∀ o' s' a', er o o' 3 off → (∀ t, t ≠ 0 → s' t = s t) → (∀ t, t ≠ 0 → a' t = a t) → Q (.inl none) n (gW h (.ref (zB + 200 + 6)) o' u s' a')) : Zj l mX5_perform (d + 8) kc ks 0 [(0, .ref 3)] [] n (gW h (.ref (zB + 200 + 6)) o u s a) Q := by
  refine z_aload_n (j := 0) dX5_perform_0 rfl ?_
  refine z_get (v := (.ref (zB + 200 + 6))) (by omega) gW_3 fX5_57 rfl dX5_perform_1 ?_
  refine z_ifnull dX5_perform_4 ?_
  refine z_aload_n (j := 0) dX5_perform_7 rfl ?_
  refine z_get (v := .int (o 2 10)) (by omega) gW_3 fX5_54 rfl dX5_perform_8 ?_
  refine z_if_eq (tgt := 15) dX5_perform_11 (by decide) (fun czq11 => absurd czq11 (fun z => z h10)) (fun czq11 => ?_)
  exact z_vret rfl dX5_perform_14 (hq)

set_option maxHeartbeats 4000000 in
set_option maxRecDepth 100000 in
theorem w_perf7 {l : zL} {d kc ks n : Nat} {h : Nat → va_E} {o u : Nat → Nat → Int32} {s : Nat → Nat → Int32} {a : Nat → Nat → Nat → Int32} {ex off : Nat} {S : zS} {Q : zQ} (hn : 89 ≤ n) (h10 : o 2 10 = 0) (h6 : o 2 6 = nI ex) (h13 : o 1 3 = nI off) (hT : cT S (s 0) (a 0))   (hqY : ∀ S', (some (sPull S 0)) = some S' → ∀ o' s' a', o' 2 6 = nI (ex + 1) → (∀ c, c ≠ 2 → o' c = o c) → (∀ j, j ≠ 6 → o' 2 j = o 2 j) → cT S' (s' 0) (a' 0) → (∀ t, t ≠ 0 → s' t = s t) → (∀ t, t ≠ 0 → a' t = a t) → Q (.inl none) n (gW h (.ref (zB + 200 + 7)) o' u s' a')) (hqN : (some (sPull S 0)) = none → ∀ o' s' a', er o o' 3 off → (∀ t, t ≠ 0 → s' t = s t) → (∀ t, t ≠ 0 → a' t = a t) → Q (.inl none) n (gW h (.ref (zB + 200 + 7)) o' u s' a')) : Zj l mX5_perform (d + 8) kc ks 0 [(0, .ref 3)] [] n (gW h (.ref (zB + 200 + 7)) o u s a) Q := by
  refine z_aload_n (j := 0) dX5_perform_0 rfl ?_
  refine z_get (v := (.ref (zB + 200 + 7))) (by omega) gW_3 fX5_57 rfl dX5_perform_1 ?_
  refine z_ifnull dX5_perform_4 ?_
  refine z_aload_n (j := 0) dX5_perform_7 rfl ?_
  refine z_get (v := .int (o 2 10)) (by omega) gW_3 fX5_54 rfl dX5_perform_8 ?_
  refine z_if_eq (tgt := 15) dX5_perform_11 (by decide) (fun czq11 => absurd czq11 (fun z => z h10)) (fun czq11 => ?_)
  exact z_vret rfl dX5_perform_14 (hq)

set_option maxHeartbeats 4000000 in
set_option maxRecDepth 100000 in
theorem w_perf8 {l : zL} {d kc ks n : Nat} {h : Nat → va_E} {o u : Nat → Nat → Int32} {s : Nat → Nat → Int32} {a : Nat → Nat → Nat → Int32} {ex off : Nat} {S : zS} {Q : zQ} (hn : 89 ≤ n) (h10 : o 2 10 = 0) (h6 : o 2 6 = nI ex) (h13 : o 1 3 = nI off) (hT : cT S (s 0) (a 0))   (hqY : ∀ S', (sGrow S) = some S' → ∀ o' s' a', o' 2 6 = nI (ex + 1) → (∀ c, c ≠ 2 → o' c = o c) → (∀ j, j ≠ 6 → o' 2 j = o 2 j) → cT S' (s' 0) (a' 0) → (∀ t, t ≠ 0 → s' t = s t) → (∀ t, t ≠ 0 → a' t = a t) → Q (.inl none) n (gW h (.ref (zB + 200 + 8)) o' u s' a')) (hqN : (sGrow S) = none → ∀ o' s' a', er o o' 3 off → (∀ t, t ≠ 0 → s' t = s t) → (∀ t, t ≠ 0 → a' t = a t) → Q (.inl none) n (gW h (.ref (zB + 200 + 8)) o' u s' a')) : Zj l mX5_perform (d + 8) kc ks 0 [(0, .ref 3)] [] n (gW h (.ref (zB + 200 + 8)) o u s a) Q := by
  refine z_aload_n (j := 0) dX5_perform_0 rfl ?_
  refine z_get (v := (.ref (zB + 200 + 8))) (by omega) gW_3 fX5_57 rfl dX5_perform_1 ?_
  refine z_ifnull dX5_perform_4 ?_
  refine z_aload_n (j := 0) dX5_perform_7 rfl ?_
  refine z_get (v := .int (o 2 10)) (by omega) gW_3 fX5_54 rfl dX5_perform_8 ?_
  refine z_if_eq (tgt := 15) dX5_perform_11 (by decide) (fun czq11 => absurd czq11 (fun z => z h10)) (fun czq11 => ?_)
  exact z_vret rfl dX5_perform_14 (hq)

set_option maxHeartbeats 4000000 in
set_option maxRecDepth 100000 in
theorem w_perf9 {l : zL} {d kc ks n : Nat} {h : Nat → va_E} {o u : Nat → Nat → Int32} {s : Nat → Nat → Int32} {a : Nat → Nat → Nat → Int32} {ex off : Nat} {S : zS} {Q : zQ} (hn : 89 ≤ n) (h10 : o 2 10 = 0) (h6 : o 2 6 = nI ex) (h13 : o 1 3 = nI off) (hT : cT S (s 0) (a 0))   (hqY : ∀ S', (some (sClear S)) = some S' → ∀ o' s' a', o' 2 6 = nI (ex + 1) → (∀ c, c ≠ 2 → o' c = o c) → (∀ j, j ≠ 6 → o' 2 j = o 2 j) → cT S' (s' 0) (a' 0) → (∀ t, t ≠ 0 → s' t = s t) → (∀ t, t ≠ 0 → a' t = a t) → Q (.inl none) n (gW h (.ref (zB + 200 + 9)) o' u s' a')) (hqN : (some (sClear S)) = none → ∀ o' s' a', er o o' 3 off → (∀ t, t ≠ 0 → s' t = s t) → (∀ t, t ≠ 0 → a' t = a t) → Q (.inl none) n (gW h (.ref (zB + 200 + 9)) o' u s' a')) : Zj l mX5_perform (d + 8) kc ks 0 [(0, .ref 3)] [] n (gW h (.ref (zB + 200 + 9)) o u s a) Q := by
  refine z_aload_n (j := 0) dX5_perform_0 rfl ?_
  refine z_get (v := (.ref (zB + 200 + 9))) (by omega) gW_3 fX5_57 rfl dX5_perform_1 ?_
  refine z_ifnull dX5_perform_4 ?_
  refine z_aload_n (j := 0) dX5_perform_7 rfl ?_
  refine z_get (v := .int (o 2 10)) (by omega) gW_3 fX5_54 rfl dX5_perform_8 ?_
  refine z_if_eq (tgt := 15) dX5_perform_11 (by decide) (fun czq11 => absurd czq11 (fun z => z h10)) (fun czq11 => ?_)
  exact z_vret rfl dX5_perform_14 (hq)
