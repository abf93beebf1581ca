theorem g_insert {l : zL} {d kc ks n b : Nat} {h : Nat → va_E} {cm : Value} {o u : Nat → Nat → Int32} {s : Nat → Nat → Int32} {a : Nat → Nat → Nat → Int32} {t : Nat} {S : zS} {Q : zQ} {key v : Nat} (ht : t < 13) (hbt : b = tp t) (hn : 89 ≤ n) (hT : cT S (s t) (a t)) (hk : key ≤ 9999) (hv : v ≤ 999) (hw : sFind S key = none) (hqN : ∀ s' a', sAdd S key v = none → Q (.inl (some (.int (-1)))) n (gW h cm o u (va_up s t s') (va_up a t a'))) (hqS : ∀ bk S' s' a', sAdd S key v = some (bk, S') → cT S' s' a' → bk < S'.1 → Q (.inl (some (.int (nI bk)))) n (gW h cm o u (va_up s t s') (va_up a t a'))) : Zj l mX6_insert (d + 6) kc ks 0 [(0, .ref b), (1, .int (nI key)), (2, .int (nI v))] [] n (gW h cm o u s a) Q := by
  subst hbt
  have hle := tp_le ht
  rw [← gT_eq ht]
  exact c_insert (by omega) hT hk hv hw (fun s' a' e0 => by rw [gT_put ht]; exact hqN s' a' e0) (fun bk S' s' a' e0 e1 e2 => by rw [gT_put ht]; exact hqS bk S' s' a' e0 e1 e2)
theorem g_store {l : zL} {d kc ks n b : Nat} {h : Nat → va_E} {cm : Value} {o u : Nat → Nat → Int32} {s : Nat → Nat → Int32} {a : Nat → Nat → Nat → Int32} {t : Nat} {S : zS} {Q : zQ} {key v : Nat} (ht : t < 13) (hbt : b = tp t) (hn : 89 ≤ n) (hT : cT S (s t) (a t)) (hk : key ≤ 9999) (hv : v ≤ 999) (hqN : ∀ s' a', sPut S key v = none → Q (.inl (some (.int 0))) n (gW h cm o u (va_up s t s') (va_up a t a'))) (hqS : ∀ x S' s' a', sPut S key v = some (x, S') → cT S' s' a' → Q (.inl (some (.int 1))) n (gW h cm o u (va_up s t s') (va_up a t a'))) : Zj l mX6_store (d + 7) kc ks 0 [(0, .ref b), (1, .int (nI key)), (2, .int (nI v))] [] n (gW h cm o u s a) Q := by
  subst hbt
  have hle := tp_le ht
  rw [← gT_eq ht]
  exact c_store (by omega) hT hk hv (fun s' a' e0 => by rw [gT_put ht]; exact hqN s' a' e0) (fun x S' s' a' e0 e1 => by rw [gT_put ht]; exact hqS x S' s' a' e0 e1)
theorem g_take {l : zL} {d kc ks n b : Nat} {h : Nat → va_E} {cm : Value} {o u : Nat → Nat → Int32} {s : Nat → Nat → Int32} {a : Nat → Nat → Nat → Int32} {t : Nat} {S : zS} {Q : zQ} {key bk : Nat} (ht : t < 13) (hbt : b = tp t) (hn : 89 ≤ n) (hT : cT S (s t) (a t)) (hk : key ≤ 9999) (hf : sFind S key = some bk) (hq : ∀ s' a', cT (sRem S bk) s' a' → Q (.inl (some (.int (nI (S.2.2.2.2.1 bk))))) n (gW h cm o u (va_up s t s') (va_up a t a'))) : Zj l mX6_take (d + 3) kc ks 0 [(0, .ref b), (1, .int (nI key))] [] n (gW h cm o u s a) Q := by
  subst hbt
  have hle := tp_le ht
  rw [← gT_eq ht]
  exact c_take (by omega) hT hk hf (fun s' a' e0 => by rw [gT_put ht]; exact hq s' a' e0)
theorem g_takeN {l : zL} {d kc ks n b : Nat} {h : Nat → va_E} {cm : Value} {o u : Nat → Nat → Int32} {s : Nat → Nat → Int32} {a : Nat → Nat → Nat → Int32} {t : Nat} {S : zS} {Q : zQ} {key : Nat} (ht : t < 13) (hbt : b = tp t) (hn : 89 ≤ n) (hT : cT S (s t) (a t)) (hk : key ≤ 9999) (hf : sFind S key = none) (hq : Q (.inl (some (.int (-1)))) n (gW h cm o u s a)) : Zj l mX6_take (d + 3) kc ks 0 [(0, .ref b), (1, .int (nI key))] [] n (gW h cm o u s a) Q := by
  subst hbt
  have hle := tp_le ht
  rw [← gT_eq ht]
  exact c_takeN (by omega) hT hk hf (by rw [gT_eq ht]; exact hq)
theorem g_near {l : zL} {d kc ks n b : Nat} {h : Nat → va_E} {cm : Value} {o u : Nat → Nat → Int32} {s : Nat → Nat → Int32} {a : Nat → Nat → Nat → Int32} {t : Nat} {S : zS} {Q : zQ} {H2 : Nat} (ht : t < 13) (hbt : b = tp t) (hn : 89 ≤ n) (hT : cT S (s t) (a t)) (h2N : 2 ≤ H2) (hN6 : H2 ≤ 6) (hqN : ∀ s' a', sNear S H2 = none → Q (.inl (some (.int 0))) n (gW h cm o u (va_up s t s') (va_up a t a'))) (hqS : ∀ S' s' a', sNear S H2 = some S' → cT S' s' a' → Q (.inl (some (.int 1))) n (gW h cm o u (va_up s t s') (va_up a t a'))) : Zj l mX6_changeNear (d + 7) kc ks 0 [(0, .ref b), (1, .int (nI H2))] [] n (gW h cm o u s a) Q := by
  subst hbt
  have hle := tp_le ht
  rw [← gT_eq ht]
  exact c_near (by omega) hT h2N hN6 (fun s' a' e0 => by rw [gT_put ht]; exact hqN s' a' e0) (fun S' s' a' e0 e1 => by rw [gT_put ht]; exact hqS S' s' a' e0 e1)
theorem g_times {l : zL} {d kc ks n b : Nat} {h : Nat → va_E} {cm : Value} {o u : Nat → Nat → Int32} {s : Nat → Nat → Int32} {a : Nat → Nat → Nat → Int32} {t : Nat} {S : zS} {Q : zQ} {T2 : Nat} (ht : t < 13) (hbt : b = tp t) (hn : 89 ≤ n) (hT : cT S (s t) (a t)) (h2N : 1 ≤ T2) (hN6 : T2 ≤ 99) (hqN : ∀ s' a', sTimes S T2 = none → Q (.inl (some (.int 0))) n (gW h cm o u (va_up s t s') (va_up a t a'))) (hqS : ∀ S' s' a', sTimes S T2 = some S' → cT S' s' a' → Q (.inl (some (.int 1))) n (gW h cm o u (va_up s t s') (va_up a t a'))) : Zj l mX6_changeTimes (d + 7) kc ks 0 [(0, .ref b), (1, .int (nI T2))] [] n (gW h cm o u s a) Q := by
  subst hbt
  have hle := tp_le ht
  rw [← gT_eq ht]
  exact c_times (by omega) hT h2N hN6 (fun s' a' e0 => by rw [gT_put ht]; exact hqN s' a' e0) (fun S' s' a' e0 e1 => by rw [gT_put ht]; exact hqS S' s' a' e0 e1)
theorem g_grow {l : zL} {d kc ks n b : Nat} {h : Nat → va_E} {cm : Value} {o u : Nat → Nat → Int32} {s : Nat → Nat → Int32} {a : Nat → Nat → Nat → Int32} {t : Nat} {S : zS} {Q : zQ} (ht : t < 13) (hbt : b = tp t) (hn : 89 ≤ n) (hT : cT S (s t) (a t)) (hqN : ∀ s' a', sGrow S = none → Q (.inl (some (.int 0))) n (gW h cm o u (va_up s t s') (va_up a t a'))) (hqS : ∀ S' s' a', sGrow S = some S' → cT S' s' a' → Q (.inl (some (.int 1))) n (gW h cm o u (va_up s t s') (va_up a t a'))) : Zj l mX6_buildAnew (d + 6) kc ks 0 [(0, .ref b), (1, .int (nI (2 * S.1)))] [] n (gW h cm o u s a) Q := by
  subst hbt
  have hle := tp_le ht
  rw [← gT_eq ht]
  exact c_grow (by omega) hT (fun s' a' e0 => by rw [gT_put ht]; exact hqN s' a' e0) (fun S' s' a' e0 e1 => by rw [gT_put ht]; exact hqS S' s' a' e0 e1)
theorem g_dropAll {l : zL} {d kc ks n b : Nat} {h : Nat → va_E} {cm : Value} {o u : Nat → Nat → Int32} {s : Nat → Nat → Int32} {a : Nat → Nat → Nat → Int32} {t : Nat} {S : zS} {Q : zQ} (ht : t < 13) (hbt : b = tp t) (hn : 89 ≤ n) (hT : cT S (s t) (a t)) (hq : ∀ s' a', cT (sClear S) s' a' → Q (.inl (some (.int (nI (cnt S.2.2.2.1 S.1))))) n (gW h cm o u (va_up s t s') (va_up a t a'))) : Zj l mX6_dropAll (d + 1) kc ks 0 [(0, .ref b)] [] n (gW h cm o u s a) Q := by
  subst hbt
  have hle := tp_le ht
  rw [← gT_eq ht]
  exact c_dropAll (by omega) hT (fun s' a' e0 => by rw [gT_put ht]; exact hq s' a' e0)
theorem g_begin {l : zL} {d kc ks n b B H T : Nat} {h : Nat → va_E} {cm : Value} {o u : Nat → Nat → Int32} {s : Nat → Nat → Int32} {a : Nat → Nat → Nat → Int32} {t : Nat} {Q : zQ} (ht : t < 13) (hbt : b = tp t) (hn : 89 ≤ n) (okb : okB B) (h2H : 2 ≤ H) (hH6 : H ≤ 6) (h1T : 1 ≤ T) (hT99 : T ≤ 99) (hq : ∀ s' a', cT (sNew B H T) s' a' → Q (.inl none) n (gW h cm o u (va_up s t s') (va_up a t a'))) : Zj l mX6_begin (d + 1) kc ks 0 [(0, .ref b), (1, .int (nI B)), (2, .int (nI H)), (3, .int (nI T))] [] n (gW h cm o u s a) Q := by
  subst hbt
  have hle := tp_le ht
  rw [← gT_eq ht]
  exact c_begin (by omega) okb h2H hH6 h1T hT99 (fun s' a' e0 => by rw [gT_put ht]; exact hq s' a' e0)
theorem g_copy {l : zL} {d kc ks n b b2 : Nat} {h : Nat → va_E} {cm : Value} {o u : Nat → Nat → Int32} {s : Nat → Nat → Int32} {a : Nat → Nat → Nat → Int32} {t : Nat} {t2 : Nat} {S : zS} {Q : zQ} (ht : t < 13) (ht2 : t2 < 13) (htt : t ≠ t2) (hbt : b = tp t) (hbt2 : b2 = tp t2) (hn : 89 ≤ n) (hT : cT S (s t2) (a t2)) (hq : ∀ s' a', cT S s' a' → Q (.inl none) n (gW h cm o u (va_up s t s') (va_up a t a'))) : Zj l mX6_copyFrom d kc ks 0 [(0, .ref b), (1, .ref b2)] [] n (gW h cm o u s a) Q := by
  subst hbt
  subst hbt2
  have hle := tp_le ht
  have hle2 := tp_le ht2
  rw [← gT_eq ht]
  refine c_copy (by omega) (by omega) (tp_apart ht ht2 htt) ?_ hT (fun s' a' e => by rw [gT_put ht]; exact hq s' a' e)
  exact g_tIn ht2
theorem g_keyIn {l : zL} {d kc ks n b B H T : Nat} {h : Nat → va_E} {cm : Value} {o u : Nat → Nat → Int32} {s : Nat → Nat → Int32} {a : Nat → Nat → Nat → Int32} {t : Nat} {K V : Nat → Nat} {Q : zQ} {i : Nat} (ht : t < 13) (hbt : b = tp t) (hn : 89 ≤ n) (hR : tR B H T K V (s t) (a t)) (hi : i < B) (hq : Q (.inl (some (.int (tkey (K i))))) n (gW h cm o u s a)) : Zj l mX6_keyIn d kc ks 0 [(0, .ref b), (1, .int ((nI i)))] [] n (gW h cm o u s a) Q := by
  subst hbt
  have hle := tp_le ht
  rw [← gT_eq ht]
  exact w_keyIn (by omega) hR hi (by rw [gT_eq ht]; exact hq)
theorem g_valueIn {l : zL} {d kc ks n b B H T : Nat} {h : Nat → va_E} {cm : Value} {o u : Nat → Nat → Int32} {s : Nat → Nat → Int32} {a : Nat → Nat → Nat → Int32} {t : Nat} {K V : Nat → Nat} {Q : zQ} {i : Nat} (ht : t < 13) (hbt : b = tp t) (hn : 89 ≤ n) (hR : tR B H T K V (s t) (a t)) (hi : i < B) (hq : Q (.inl (some (.int (tval (K i) (V i))))) n (gW h cm o u s a)) : Zj l mX6_valueIn d kc ks 0 [(0, .ref b), (1, .int ((nI i)))] [] n (gW h cm o u s a) Q := by
  subst hbt
  have hle := tp_le ht
  rw [← gT_eq ht]
  exact w_valueIn (by omega) hR hi (by rw [gT_eq ht]; exact hq)
theorem g_hopsIn {l : zL} {d kc ks n b B H T : Nat} {h : Nat → va_E} {cm : Value} {o u : Nat → Nat → Int32} {s : Nat → Nat → Int32} {a : Nat → Nat → Nat → Int32} {t : Nat} {K V : Nat → Nat} {Q : zQ} {i : Nat} (ht : t < 13) (hbt : b = tp t) (hn : 89 ≤ n) (hR : tR B H T K V (s t) (a t)) (hi : i < B) (hq : Q (.inl (some (.int (nI (hop B H T K i))))) n (gW h cm o u s a)) : Zj l mX6_hopsIn d kc ks 0 [(0, .ref b), (1, .int ((nI i)))] [] n (gW h cm o u s a) Q := by
  subst hbt
  have hle := tp_le ht
  rw [← gT_eq ht]
  exact w_hopsIn (by omega) hR hi (by rw [gT_eq ht]; exact hq)
theorem g_stepsToFree {l : zL} {d kc ks n b B H T : Nat} {h : Nat → va_E} {cm : Value} {o u : Nat → Nat → Int32} {s : Nat → Nat → Int32} {a : Nat → Nat → Nat → Int32} {t : Nat} {K V : Nat → Nat} {Q : zQ} {f : Nat} (ht : t < 13) (hbt : b = tp t) (hn : 89 ≤ n) (hR : tR B H T K V (s t) (a t)) (hf : f < B) (hq : Q (.inl (some (.int (optI (frD B K f))))) n (gW h cm o u s a)) : Zj l mX6_stepsToFree (d + 1) kc ks 0 [(0, .ref b), (1, .int ((nI f)))] [] n (gW h cm o u s a) Q := by
  subst hbt
  have hle := tp_le ht
  rw [← gT_eq ht]
  exact w_stepsToFree (by omega) hR hf (by rw [gT_eq ht]; exact hq)
theorem g_homeFor {l : zL} {d kc ks n b B H T : Nat} {h : Nat → va_E} {cm : Value} {o u : Nat → Nat → Int32} {s : Nat → Nat → Int32} {a : Nat → Nat → Nat → Int32} {t : Nat} {K V : Nat → Nat} {Q : zQ} {key : Nat} (ht : t < 13) (hbt : b = tp t) (hn : 89 ≤ n) (hR : tR B H T K V (s t) (a t)) (hkey : key ≤ 9999) (hq : Q (.inl (some (.int (nI (hmo B T key))))) n (gW h cm o u s a)) : Zj l mX6_homeFor d kc ks 0 [(0, .ref b), (1, .int ((nI key)))] [] n (gW h cm o u s a) Q := by
  subst hbt
  have hle := tp_le ht
  rw [← gT_eq ht]
  exact w_homeFor (by omega) hR hkey (by rw [gT_eq ht]; exact hq)
theorem g_bucketWith {l : zL} {d kc ks n b B H T : Nat} {h : Nat → va_E} {cm : Value} {o u : Nat → Nat → Int32} {s : Nat → Nat → Int32} {a : Nat → Nat → Nat → Int32} {t : Nat} {K V : Nat → Nat} {Q : zQ} {key : Nat} (ht : t < 13) (hbt : b = tp t) (hn : 89 ≤ n) (hR : tR B H T K V (s t) (a t)) (hkey : key ≤ 9999) (hq : Q (.inl (some (.int (optI (bw B H T K key))))) n (gW h cm o u s a)) : Zj l mX6_bucketWith (d + 1) kc ks 0 [(0, .ref b), (1, .int ((nI key)))] [] n (gW h cm o u s a) Q := by
  subst hbt
  have hle := tp_le ht
  rw [← gT_eq ht]
  exact w_bucketWith (by omega) hR hkey (by rw [gT_eq ht]; exact hq)
theorem g_stepsFromHome {l : zL} {d kc ks n b B H T : Nat} {h : Nat → va_E} {cm : Value} {o u : Nat → Nat → Int32} {s : Nat → Nat → Int32} {a : Nat → Nat → Nat → Int32} {t : Nat} {K V : Nat → Nat} {Q : zQ} {i : Nat} (ht : t < 13) (hbt : b = tp t) (hn : 89 ≤ n) (hR : tR B H T K V (s t) (a t)) (hi : i < B) (hq : Q (.inl (some (.int (sfh B T K i)))) n (gW h cm o u s a)) : Zj l mX6_stepsFromHome (d + 1) kc ks 0 [(0, .ref b), (1, .int ((nI i)))] [] n (gW h cm o u s a) Q := by
  subst hbt
  have hle := tp_le ht
  rw [← gT_eq ht]
  exact w_stepsFromHome (by omega) hR hi (by rw [gT_eq ht]; exact hq)
theorem g_mostSteps {l : zL} {d kc ks n b B H T : Nat} {h : Nat → va_E} {cm : Value} {o u : Nat → Nat → Int32} {s : Nat → Nat → Int32} {a : Nat → Nat → Nat → Int32} {t : Nat} {K V : Nat → Nat} {Q : zQ} (ht : t < 13) (hbt : b = tp t) (hn : 89 ≤ n) (hR : tR B H T K V (s t) (a t)) (hq : Q (.inl (some (.int (nI (maxN (offN B T K) B))))) n (gW h cm o u s a)) : Zj l mX6_mostSteps (d + 2) kc ks 0 [(0, .ref b)] [] n (gW h cm o u s a) Q := by
  subst hbt
  have hle := tp_le ht
  rw [← gT_eq ht]
  exact w_mostSteps (by omega) hR (by rw [gT_eq ht]; exact hq)
theorem g_sumOfSteps {l : zL} {d kc ks n b B H T : Nat} {h : Nat → va_E} {cm : Value} {o u : Nat → Nat → Int32} {s : Nat → Nat → Int32} {a : Nat → Nat → Nat → Int32} {t : Nat} {K V : Nat → Nat} {Q : zQ} (ht : t < 13) (hbt : b = tp t) (hn : 89 ≤ n) (hR : tR B H T K V (s t) (a t)) (hq : Q (.inl (some (.int (nI (sumN (offN B T K) B))))) n (gW h cm o u s a)) : Zj l mX6_sumOfSteps (d + 2) kc ks 0 [(0, .ref b)] [] n (gW h cm o u s a) Q := by
  subst hbt
  have hle := tp_le ht
  rw [← gT_eq ht]
  exact w_sumOfSteps (by omega) hR (by rw [gT_eq ht]; exact hq)
theorem g_strayEntries {l : zL} {d kc ks n b B H T : Nat} {h : Nat → va_E} {cm : Value} {o u : Nat → Nat → Int32} {s : Nat → Nat → Int32} {a : Nat → Nat → Nat → Int32} {t : Nat} {K V : Nat → Nat} {Q : zQ} (ht : t < 13) (hbt : b = tp t) (hn : 89 ≤ n) (hR : tR B H T K V (s t) (a t)) (hq : Q (.inl (some (.int (nI (sumN (strN B H T K) B))))) n (gW h cm o u s a)) : Zj l mX6_strayEntries (d + 2) kc ks 0 [(0, .ref b)] [] n (gW h cm o u s a) Q := by
  subst hbt
  have hle := tp_le ht
  rw [← gT_eq ht]
  exact w_strayEntries (by omega) hR (by rw [gT_eq ht]; exact hq)
theorem g_wrongHops {l : zL} {d kc ks n b B H T : Nat} {h : Nat → va_E} {cm : Value} {o u : Nat → Nat → Int32} {s : Nat → Nat → Int32} {a : Nat → Nat → Nat → Int32} {t : Nat} {K V : Nat → Nat} {Q : zQ} (ht : t < 13) (hbt : b = tp t) (hn : 89 ≤ n) (hR : tR B H T K V (s t) (a t)) (hq : Q (.inl (some (.int 0))) n (gW h cm o u s a)) : Zj l mX6_wrongHops (d + 1) kc ks 0 [(0, .ref b)] [] n (gW h cm o u s a) Q := by
  subst hbt
  have hle := tp_le ht
  rw [← gT_eq ht]
  exact w_wrongHops (by omega) hR (by rw [gT_eq ht]; exact hq)
theorem g_twins {l : zL} {d kc ks n b B H T : Nat} {h : Nat → va_E} {cm : Value} {o u : Nat → Nat → Int32} {s : Nat → Nat → Int32} {a : Nat → Nat → Nat → Int32} {t : Nat} {K V : Nat → Nat} {Q : zQ} (ht : t < 13) (hbt : b = tp t) (hn : 89 ≤ n) (hR : tR B H T K V (s t) (a t)) (hq : Q (.inl (some (.int (nI (sumN (fun i => sumN (twN K i) i) B))))) n (gW h cm o u s a)) : Zj l mX6_twins (d + 1) kc ks 0 [(0, .ref b)] [] n (gW h cm o u s a) Q := by
  subst hbt
  have hle := tp_le ht
  rw [← gT_eq ht]
  exact w_twins (by omega) hR (by rw [gT_eq ht]; exact hq)
theorem g_keyInN {l : zL} {d kc ks n b : Nat} {h : Nat → va_E} {cm : Value} {o u : Nat → Nat → Int32} {s : Nat → Nat → Int32} {a : Nat → Nat → Nat → Int32} {t : Nat} {Q : zQ} (ht : t < 13) (hbt : b = tp t) (hn : 89 ≤ n) (hq : Q (.inl (some (.int (-1)))) n (gW h cm o u s a)) : Zj l mX6_keyIn d kc ks 0 [(0, .ref b), (1, .int ((-1)))] [] n (gW h cm o u s a) Q := by
  subst hbt
  have hle := tp_le ht
  rw [← gT_eq ht]
  exact w_keyInN (by omega) (by rw [gT_eq ht]; exact hq)
theorem g_valueInN {l : zL} {d kc ks n b : Nat} {h : Nat → va_E} {cm : Value} {o u : Nat → Nat → Int32} {s : Nat → Nat → Int32} {a : Nat → Nat → Nat → Int32} {t : Nat} {Q : zQ} (ht : t < 13) (hbt : b = tp t) (hn : 89 ≤ n) (hq : Q (.inl (some (.int (-1)))) n (gW h cm o u s a)) : Zj l mX6_valueIn d kc ks 0 [(0, .ref b), (1, .int ((-1)))] [] n (gW h cm o u s a) Q := by
  subst hbt
  have hle := tp_le ht
  rw [← gT_eq ht]
  exact w_valueInN (by omega) (by rw [gT_eq ht]; exact hq)
theorem g_stepsFromHomeN {l : zL} {d kc ks n b : Nat} {h : Nat → va_E} {cm : Value} {o u : Nat → Nat → Int32} {s : Nat → Nat → Int32} {a : Nat → Nat → Nat → Int32} {t : Nat} {Q : zQ} (ht : t < 13) (hbt : b = tp t) (hn : 89 ≤ n) (hq : Q (.inl (some (.int (-1)))) n (gW h cm o u s a)) : Zj l mX6_stepsFromHome (d + 1) kc ks 0 [(0, .ref b), (1, .int ((-1)))] [] n (gW h cm o u s a) Q := by
  subst hbt
  have hle := tp_le ht
  rw [← gT_eq ht]
  exact w_stepsFromHomeN (by omega) (by rw [gT_eq ht]; exact hq)
