/-! THE LAW: its world -/
def lA (F : Nat → Int64) : va_E := .inl (2, 1, .inr (.inl F))
/-- class at 0 .. 88, reference at 89 .. 102, the law's row at 103 -/
def lW (h : Nat → va_E) (F : Nat → Int64) (sR : Nat → Int32) (aR : Nat → Nat → Int32) (cm : Value) (o u : Nat → Nat → Int32) (s : Nat → Nat → Int32) (a : Nat → Nat → Nat → Int32) : Nat → va_E := gW (mW (va_up h 103 (lA F)) 89 sR aR) cm o u s a
theorem gW_lo {h h' : Nat → va_E} {cm : Value} {o u : Nat → Nat → Int32} {s : Nat → Nat → Int32} {a : Nat → Nat → Nat → Int32} {q : Nat} (hq : q < 89) : gW h cm o u s a q = gW h' cm o u s a q := by
  unfold gW
  rw [if_neg (show ¬ 89 ≤ q by omega), if_neg (show ¬ 89 ≤ q by omega)]
theorem mW_in {h h' : Nat → va_E} {b : Nat} {s : Nat → Int32} {a : Nat → Nat → Int32} {q : Nat} (h1 : b ≤ q) (h2 : q ≤ b + 13) : mW h b s a q = mW h' b s a q := by
  unfold mW
  by_cases e : q = b
  · rw [if_pos e, if_pos e]
  · rw [if_neg e, if_neg e, if_pos (show b < q ∧ q ≤ b + 13 by omega), if_pos (show b < q ∧ q ≤ b + 13 by omega)]
theorem lW_sw {h : Nat → va_E} {F : Nat → Int64} {sR : Nat → Int32} {aR : Nat → Nat → Int32} {cm : Value} {o u : Nat → Nat → Int32} {s : Nat → Nat → Int32} {a : Nat → Nat → Nat → Int32} : lW h F sR aR cm o u s a = mW (gW (va_up h 103 (lA F)) cm o u s a) 89 sR aR := by
  funext q
  unfold lW
  by_cases h89 : 89 ≤ q
  · rw [gW_hi h89]
    by_cases h2 : q ≤ 102
    · exact mW_in h89 h2
    · rw [mW_off (show q < 89 ∨ 89 + 13 < q by omega), mW_off (show q < 89 ∨ 89 + 13 < q by omega), gW_hi h89]
  · rw [mW_off (show q < 89 ∨ 89 + 13 < q by omega)]
    exact gW_lo (by omega)
theorem lW_0 {h : Nat → va_E} {F : Nat → Int64} {sR : Nat → Int32} {aR : Nat → Nat → Int32} {cm : Value} {o u : Nat → Nat → Int32} {s : Nat → Nat → Int32} {a : Nat → Nat → Nat → Int32} : lW h F sR aR cm o u s a 0 = .inr (5, gN (o 0)) := rfl
theorem lW_89 {h : Nat → va_E} {F : Nat → Int64} {sR : Nat → Int32} {aR : Nat → Nat → Int32} {cm : Value} {o u : Nat → Nat → Int32} {s : Nat → Nat → Int32} {a : Nat → Nat → Nat → Int32} : lW h F sR aR cm o u s a 89 = .inr (6, mF 89 sR) := by
  unfold lW
  rw [gW_hi (by decide), mW_obj]
theorem lW_103 {h : Nat → va_E} {F : Nat → Int64} {sR : Nat → Int32} {aR : Nat → Nat → Int32} {cm : Value} {o u : Nat → Nat → Int32} {s : Nat → Nat → Int32} {a : Nat → Nat → Nat → Int32} : lW h F sR aR cm o u s a 103 = .inl (2, 1, .inr (.inl F)) := by
  unfold lW
  rw [gW_hi (by decide), mW_off (by decide), up_eq]
  rfl
theorem lW_ast {h : Nat → va_E} {F F' : Nat → Int64} {sR : Nat → Int32} {aR : Nat → Nat → Int32} {cm : Value} {o u : Nat → Nat → Int32} {s : Nat → Nat → Int32} {a : Nat → Nat → Nat → Int32} : va_up (lW h F sR aR cm o u s a) 103 (.inl (2, 1, .inr (.inl F'))) = lW h F' sR aR cm o u s a := by
  funext q
  by_cases e : q = 103
  · rw [e, up_eq, lW_103]
  · rw [up_ne e]
    unfold lW
    by_cases h89 : 89 ≤ q
    · rw [gW_hi h89, gW_hi h89]
      by_cases h2 : q ≤ 102
      · exact mW_in h89 h2
      · rw [mW_off (show q < 89 ∨ 89 + 13 < q by omega), mW_off (show q < 89 ∨ 89 + 13 < q by omega), up_ne e, up_ne e]
    · exact gW_lo (by omega)
theorem l_ast {l : zL} {Y : zM} {d kc ks pc : Nat} {lv : List (Nat × Value)} {rest : List Value} {h : Nat → va_E} {F : Nat → Int64} {sR : Nat → Int32} {aR : Nat → Nat → Int32} {cm : Value} {o u : Nat → Nat → Int32} {s : Nat → Nat → Int32} {a : Nat → Nat → Nat → Int32} {x : Int64} {Q : zQ} (hd : decode Y.2.1 pc = .ok (.lastore, 1)) (kk : ∀ F', F' 0 = x → Zj l Y d kc ks (pc + 1) lv rest 104 (lW h F' sR aR cm o u s a) Q) : Zj l Y d kc ks pc lv (.long x :: .int 0 :: .ref 103 :: rest) 104 (lW h F sR aR cm o u s a) Q :=
  z_last (by decide) lW_103 (show vp_in (nI 0) 1 from vp_in_nI (by decide) (by decide)) hd (by rw [lW_ast]; exact kk _ (if_pos rfl))
theorem l_ald {l : zL} {Y : zM} {d kc ks pc : Nat} {lv : List (Nat × Value)} {rest : List Value} {h : Nat → va_E} {F : Nat → Int64} {sR : Nat → Int32} {aR : Nat → Nat → Int32} {cm : Value} {o u : Nat → Nat → Int32} {s : Nat → Nat → Int32} {a : Nat → Nat → Nat → Int32} {x : Int64} {Q : zQ} (hx : F 0 = x) (hd : decode Y.2.1 pc = .ok (.laload, 1)) (kk : Zj l Y d kc ks (pc + 1) lv (.long x :: rest) 104 (lW h F sR aR cm o u s a) Q) : Zj l Y d kc ks pc lv (.int 0 :: .ref 103 :: rest) 104 (lW h F sR aR cm o u s a) Q :=
  z_lald (by decide) lW_103 (show vp_in (nI 0) 1 from vp_in_nI (by decide) (by decide)) hd (by rw [show ((0 : Int32).toNatClampNeg) = 0 from rfl, hx]; exact kk)
theorem z_kSW {l : zL} {Y Y' : zM} {d kc ks pc n idx k : Nat} {lv : List (Nat × Value)} {rest : List Value} {h : Nat → va_E} {Q : zQ} (As : List Value) (k1 s1 k2 s2 : Nat) (hY : zY Y' k) (hstat : Cond.static Y'.1 ∈ zTs) (hh : Y'.2.2.2.2 ≠ []) (hnL : Y'.2.2.1 ≤ 20) (hlink : Cond.methodLink Y.1.cls idx Y'.1 ∈ zTs) (hlen : As.length = k) (hsl : (lg_sl As).length ≤ Y'.2.2.1) (hcat : (rest.map fun v => v.category).sum ≤ 8) (hd : decode Y.2.1 pc = .ok (.invokestatic idx, 3)) (hk : k1 + k2 ≤ kc) (hs : s1 + s2 ≤ ks)
    (body : Zj l Y' d k1 s1 0 (lv_args 0 As) [] n h (zk Y l d k2 s2 pc lv rest n Q)) : Zj l Y (d + 1) kc ks pc lv (As.reverse ++ rest) n h Q :=
  z_callSW (zk Y l d k2 s2 pc lv rest n Q) hY hstat hh hnL hlink hlen hsl hcat hd body hk hs (fun r n' g hq => hq) (fun E n' g hq => hq)
theorem m_thrown {l : zL} {d kc ks n b : Nat} {h : Nat → va_E} {s : Nat → Int32} {a : Nat → Nat → Int32} {Q : zQ} (hb : b + 14 ≤ n) (hq : Q (.inl (some (.int (s 20)))) n (mW h b s a)) : Zj l mX8_thrown d kc ks 0 [(0, .ref b)] [] n (mW h b s a) Q := by
  refine z_aload_n (j := 0) dX8_thrown_0 rfl ?_
  refine z_get (v := .int (s 20)) (by omega) mW_obj fX8_64 rfl dX8_thrown_1 ?_
  exact z_iret rfl dX8_thrown_4 hq
abbrev mL_law : zM := (yL_law, cL_law, 9, some .boolean, [])

theorem T_append {g g2 : zGs} {t v p q r y w : Int32} (h : f_append g p q r y w = (t, v, g2)) : t = 0 := by
  unfold f_append at h
  repeat' (split at h)
  all_goals (cases h; exact rfl)
theorem T_truncateInput {g g2 : zGs} {t v p : Int32} (h : f_truncateInput g p = (t, v, g2)) : t = 0 ∨ t = 1 := by
  unfold f_truncateInput at h
  repeat' (split at h)
  all_goals (cases h; first | exact Or.inl rfl | exact Or.inr rfl)
theorem T_runScript {g g2 : zGs} {t v : Int32} (h : f_runScript g = (t, v, g2)) : t = 0 := by
  unfold f_runScript at h
  repeat' (split at h)
  all_goals (cases h; exact rfl)
theorem T_add {g g2 : zGs} {t v p q : Int32} (h : f_add g p q = (t, v, g2)) : t = 0 ∨ t = 1 ∨ t = 2 := by
  unfold f_add at h
  repeat' (split at h)
  all_goals (cases h; first | exact Or.inl rfl | exact Or.inr (Or.inl rfl) | exact Or.inr (Or.inr rfl))
theorem T_put {g g2 : zGs} {t v p q : Int32} (h : f_put g p q = (t, v, g2)) : t = 0 ∨ t = 1 ∨ t = 2 := by
  unfold f_put at h
  repeat' (split at h)
  all_goals (cases h; first | exact Or.inl rfl | exact Or.inr (Or.inl rfl) | exact Or.inr (Or.inr rfl))
theorem T_addRow {g g2 : zGs} {t v p q r : Int32} (h : f_addRow g p q r = (t, v, g2)) : t = 0 ∨ t = 1 ∨ t = 2 := by
  unfold f_addRow at h
  repeat' (split at h)
  all_goals (cases h; first | exact Or.inl rfl | exact Or.inr (Or.inl rfl) | exact Or.inr (Or.inr rfl))
theorem T_remove {g g2 : zGs} {t v p : Int32} (h : f_remove g p = (t, v, g2)) : t = 0 ∨ t = 1 := by
  unfold f_remove at h
  repeat' (split at h)
  all_goals (cases h; first | exact Or.inl rfl | exact Or.inr rfl)
theorem T_setNeighbourhood {g g2 : zGs} {t v p : Int32} (h : f_setNeighbourhood g p = (t, v, g2)) : t = 0 ∨ t = 1 ∨ t = 2 := by
  unfold f_setNeighbourhood at h
  repeat' (split at h)
  all_goals (cases h; first | exact Or.inl rfl | exact Or.inr (Or.inl rfl) | exact Or.inr (Or.inr rfl))
theorem T_setMultiplier {g g2 : zGs} {t v p : Int32} (h : f_setMultiplier g p = (t, v, g2)) : t = 0 ∨ t = 1 ∨ t = 2 := by
  unfold f_setMultiplier at h
  repeat' (split at h)
  all_goals (cases h; first | exact Or.inl rfl | exact Or.inr (Or.inl rfl) | exact Or.inr (Or.inr rfl))
theorem T_setPulling {g g2 : zGs} {t v p : Int32} (h : f_setPulling g p = (t, v, g2)) : t = 0 := by
  unfold f_setPulling at h
  repeat' (split at h)
  all_goals (cases h; exact rfl)
theorem T_grow {g g2 : zGs} {t v : Int32} (h : f_grow g = (t, v, g2)) : t = 0 ∨ t = 1 := by
  unfold f_grow at h
  repeat' (split at h)
  all_goals (cases h; first | exact Or.inl rfl | exact Or.inr rfl)
theorem T_clear {g g2 : zGs} {t v : Int32} (h : f_clear g = (t, v, g2)) : t = 0 := by
  unfold f_clear at h
  repeat' (split at h)
  all_goals (cases h; exact rfl)
theorem T_undo {g g2 : zGs} {t v : Int32} (h : f_undo g = (t, v, g2)) : t = 0 := by
  unfold f_undo at h
  repeat' (split at h)
  all_goals (cases h; exact rfl)
theorem T_undoCount {g g2 : zGs} {t v : Int32} (h : f_undoCount g = (t, v, g2)) : t = 0 := by
  unfold f_undoCount at h
  repeat' (split at h)
  all_goals (cases h; exact rfl)
theorem T_saveSnapshot {g g2 : zGs} {t v : Int32} (h : f_saveSnapshot g = (t, v, g2)) : t = 0 := by
  unfold f_saveSnapshot at h
  repeat' (split at h)
  all_goals (cases h; exact rfl)
theorem T_restoreSnapshot {g g2 : zGs} {t v : Int32} (h : f_restoreSnapshot g = (t, v, g2)) : t = 0 ∨ t = 1 := by
  unfold f_restoreSnapshot at h
  repeat' (split at h)
  all_goals (cases h; first | exact Or.inl rfl | exact Or.inr rfl)
theorem T_scriptErrorKind {g g2 : zGs} {t v : Int32} (h : f_scriptErrorKind g = (t, v, g2)) : t = 0 := by
  unfold f_scriptErrorKind at h
  repeat' (split at h)
  all_goals (cases h; exact rfl)
theorem T_scriptErrorOffset {g g2 : zGs} {t v : Int32} (h : f_scriptErrorOffset g = (t, v, g2)) : t = 0 := by
  unfold f_scriptErrorOffset at h
  repeat' (split at h)
  all_goals (cases h; exact rfl)
theorem T_bucketCount {g g2 : zGs} {t v : Int32} (h : f_bucketCount g = (t, v, g2)) : t = 0 := by
  unfold f_bucketCount at h
  repeat' (split at h)
  all_goals (cases h; exact rfl)
theorem T_entryCount {g g2 : zGs} {t v : Int32} (h : f_entryCount g = (t, v, g2)) : t = 0 := by
  unfold f_entryCount at h
  repeat' (split at h)
  all_goals (cases h; exact rfl)
theorem T_neighbourhood {g g2 : zGs} {t v : Int32} (h : f_neighbourhood g = (t, v, g2)) : t = 0 := by
  unfold f_neighbourhood at h
  repeat' (split at h)
  all_goals (cases h; exact rfl)
theorem T_multiplier {g g2 : zGs} {t v : Int32} (h : f_multiplier g = (t, v, g2)) : t = 0 := by
  unfold f_multiplier at h
  repeat' (split at h)
  all_goals (cases h; exact rfl)
theorem T_isPulling {g g2 : zGs} {t v : Int32} (h : f_isPulling g = (t, v, g2)) : t = 0 := by
  unfold f_isPulling at h
  repeat' (split at h)
  all_goals (cases h; exact rfl)
theorem T_keyAt {g g2 : zGs} {t v p : Int32} (h : f_keyAt g p = (t, v, g2)) : t = 0 ∨ t = 1 := by
  unfold f_keyAt at h
  repeat' (split at h)
  all_goals (cases h; first | exact Or.inl rfl | exact Or.inr rfl)
theorem T_valueAt {g g2 : zGs} {t v p : Int32} (h : f_valueAt g p = (t, v, g2)) : t = 0 ∨ t = 1 := by
  unfold f_valueAt at h
  repeat' (split at h)
  all_goals (cases h; first | exact Or.inl rfl | exact Or.inr rfl)
theorem T_hopBits {g g2 : zGs} {t v p : Int32} (h : f_hopBits g p = (t, v, g2)) : t = 0 ∨ t = 1 := by
  unfold f_hopBits at h
  repeat' (split at h)
  all_goals (cases h; first | exact Or.inl rfl | exact Or.inr rfl)
theorem T_entriesOf {g g2 : zGs} {t v p : Int32} (h : f_entriesOf g p = (t, v, g2)) : t = 0 ∨ t = 1 := by
  unfold f_entriesOf at h
  repeat' (split at h)
  all_goals (cases h; first | exact Or.inl rfl | exact Or.inr rfl)
theorem T_freeDistance {g g2 : zGs} {t v p : Int32} (h : f_freeDistance g p = (t, v, g2)) : t = 0 ∨ t = 1 := by
  unfold f_freeDistance at h
  repeat' (split at h)
  all_goals (cases h; first | exact Or.inl rfl | exact Or.inr rfl)
theorem T_longestRun {g g2 : zGs} {t v : Int32} (h : f_longestRun g = (t, v, g2)) : t = 0 := by
  unfold f_longestRun at h
  repeat' (split at h)
  all_goals (cases h; exact rfl)
theorem T_fullestHome {g g2 : zGs} {t v : Int32} (h : f_fullestHome g = (t, v, g2)) : t = 0 := by
  unfold f_fullestHome at h
  repeat' (split at h)
  all_goals (cases h; exact rfl)
theorem T_homeOf {g g2 : zGs} {t v p : Int32} (h : f_homeOf g p = (t, v, g2)) : t = 0 ∨ t = 1 := by
  unfold f_homeOf at h
  repeat' (split at h)
  all_goals (cases h; first | exact Or.inl rfl | exact Or.inr rfl)
theorem T_bucketOf {g g2 : zGs} {t v p : Int32} (h : f_bucketOf g p = (t, v, g2)) : t = 0 ∨ t = 1 := by
  unfold f_bucketOf at h
  repeat' (split at h)
  all_goals (cases h; first | exact Or.inl rfl | exact Or.inr rfl)
theorem T_valueOf {g g2 : zGs} {t v p : Int32} (h : f_valueOf g p = (t, v, g2)) : t = 0 ∨ t = 1 := by
  unfold f_valueOf at h
  repeat' (split at h)
  all_goals (cases h; first | exact Or.inl rfl | exact Or.inr rfl)
theorem T_distanceOf {g g2 : zGs} {t v p : Int32} (h : f_distanceOf g p = (t, v, g2)) : t = 0 ∨ t = 1 := by
  unfold f_distanceOf at h
  repeat' (split at h)
  all_goals (cases h; first | exact Or.inl rfl | exact Or.inr rfl)
theorem T_looksFor {g g2 : zGs} {t v p : Int32} (h : f_looksFor g p = (t, v, g2)) : t = 0 ∨ t = 1 := by
  unfold f_looksFor at h
  repeat' (split at h)
  all_goals (cases h; first | exact Or.inl rfl | exact Or.inr rfl)
theorem T_longestDistance {g g2 : zGs} {t v : Int32} (h : f_longestDistance g = (t, v, g2)) : t = 0 := by
  unfold f_longestDistance at h
  repeat' (split at h)
  all_goals (cases h; exact rfl)
theorem T_sumOfDistances {g g2 : zGs} {t v : Int32} (h : f_sumOfDistances g = (t, v, g2)) : t = 0 := by
  unfold f_sumOfDistances at h
  repeat' (split at h)
  all_goals (cases h; exact rfl)
theorem T_rank {g g2 : zGs} {t v p : Int32} (h : f_rank g p = (t, v, g2)) : t = 0 ∨ t = 1 := by
  unfold f_rank at h
  repeat' (split at h)
  all_goals (cases h; first | exact Or.inl rfl | exact Or.inr rfl)
theorem T_whyNoAdd {g g2 : zGs} {t v p : Int32} (h : f_whyNoAdd g p = (t, v, g2)) : t = 0 ∨ t = 1 := by
  unfold f_whyNoAdd at h
  repeat' (split at h)
  all_goals (cases h; first | exact Or.inl rfl | exact Or.inr rfl)
theorem T_placeFor {g g2 : zGs} {t v p : Int32} (h : f_placeFor g p = (t, v, g2)) : t = 0 ∨ t = 1 := by
  unfold f_placeFor at h
  repeat' (split at h)
  all_goals (cases h; first | exact Or.inl rfl | exact Or.inr rfl)
theorem T_movesFor {g g2 : zGs} {t v p : Int32} (h : f_movesFor g p = (t, v, g2)) : t = 0 ∨ t = 1 := by
  unfold f_movesFor at h
  repeat' (split at h)
  all_goals (cases h; first | exact Or.inl rfl | exact Or.inr rfl)
theorem T_bucketsAfter {g g2 : zGs} {t v p : Int32} (h : f_bucketsAfter g p = (t, v, g2)) : t = 0 ∨ t = 1 := by
  unfold f_bucketsAfter at h
  repeat' (split at h)
  all_goals (cases h; first | exact Or.inl rfl | exact Or.inr rfl)
theorem T_pullsFor {g g2 : zGs} {t v p : Int32} (h : f_pullsFor g p = (t, v, g2)) : t = 0 ∨ t = 1 := by
  unfold f_pullsFor at h
  repeat' (split at h)
  all_goals (cases h; first | exact Or.inl rfl | exact Or.inr rfl)
theorem T_bucketsWith {g g2 : zGs} {t v p : Int32} (h : f_bucketsWith g p = (t, v, g2)) : t = 0 ∨ t = 1 := by
  unfold f_bucketsWith at h
  repeat' (split at h)
  all_goals (cases h; first | exact Or.inl rfl | exact Or.inr rfl)
theorem T_bestMultiplier {g g2 : zGs} {t v p : Int32} (h : f_bestMultiplier g p = (t, v, g2)) : t = 0 ∨ t = 1 := by
  unfold f_bestMultiplier at h
  repeat' (split at h)
  all_goals (cases h; first | exact Or.inl rfl | exact Or.inr rfl)
theorem T_told {g g2 : zGs} {k : Nat} {t v : Int32} (h : f_told k g = (t, v, g2)) : t = 0 := by
  unfold f_told at h
  repeat' (split at h)
  all_goals (cases h; exact rfl)
theorem T_violations {g g2 : zGs} {t v : Int32} (h : f_violations g = (t, v, g2)) : t = 0 := by
  unfold f_violations at h
  repeat' (split at h)
  all_goals (cases h; exact rfl)
theorem T_writeTable {g g2 : zGs} {t v : Int32} (h : f_writeTable g = (t, v, g2)) : t = 0 := by
  unfold f_writeTable at h
  repeat' (split at h)
  all_goals (cases h; exact rfl)
theorem T_reportByte {g g2 : zGs} {t v p : Int32} (h : f_reportByte g p = (t, v, g2)) : t = 0 := by
  unfold f_reportByte at h
  repeat' (split at h)
  all_goals (cases h; exact rfl)

set_option maxHeartbeats 4000000 in
set_option maxRecDepth 100000 in
theorem V_add {l : zL} {d kc ks : Nat} {h : Nat → va_E} {F : Nat → Int64} {sR : Nat → Int32} {aR : Nat → Nat → Int32} {cm : Value} {o u : Nat → Nat → Int32} {s : Nat → Nat → Int32} {a : Nat → Nat → Nat → Int32} {g : zGs} {Q : zQ} {p q : Int32} (hC : cI g o u s a) (hq : ∀ t v g2 cm2 o2 u2 s2 a2 F', f_add g p q = (t, v, g2) → cI g2 o2 u2 s2 a2 → (t = 0 → F' 0 = v.toInt64) → Q (.inl (some (.int t))) 104 (lW h F' sR aR cm2 o2 u2 s2 a2)) : Zj l mL_add (d + 13) (kc + 3) (ks + 18) 0 [(0, .ref 0), (1, .int p), (2, .int q), (3, .ref 103)] [] 104 (lW h F sR aR cm o u s a) Q := by
  refine z_aload_n (j := 3) dL_add_0 rfl ?_
  refine z_iconst (v := 0) dL_add_1 (by decide) ?_
  refine z_aload_n (j := 0) dL_add_2 rfl ?_
  refine z_iload_n (j := 1) dL_add_3 rfl ?_
  refine z_iload_n (j := 2) dL_add_4 rfl ?_
  refine z_tryK [.int p, .int q] (0 + 3) (0 + 18) kc ks yoX7_add yvX7_add rfl (by decide) lL_15 (by decide) lW_0 rfl rfl (Nat.le_of_ble_eq_true rfl) (Nat.le_of_ble_eq_true rfl) dL_add_5 (by omega) (by omega) (z_room (by omega) (Nat.le_refl _) (Nat.le_refl _) (K_add (d := 0) (by decide) hC (fun t v g2 cm2 o2 u2 s2 a2 hf hC2 => ?_)))
  show zkt mL_add l _ kc ks 5 _ _ 104 Q (oc IAE ISE t v) 104 (lW h F sR aR cm2 o2 u2 s2 a2)
  rcases T_add hf with rfl | rfl | rfl
  · rw [oc_0]
    refine ⟨rfl, ?_⟩
    refine z_i2l dL_add_8 ?_
    refine l_ast dL_add_9 (fun F' hF' => ?_)
    refine z_goto (tgt := 21) dL_add_10 (by decide) ?_
    refine z_iconst (v := 0) dL_add_21 (by decide) ?_
    exact z_iret rfl dL_add_22 (hq 0 v g2 cm2 o2 u2 s2 a2 F' hf hC2 (fun _ => hF'))
  · rw [oc_1]
    exact ⟨rfl, 1, zC_L_add_1, hq 1 v g2 cm2 o2 u2 s2 a2 F hf hC2 (fun e => absurd e (by decide))⟩
  · rw [oc_2]
    exact ⟨rfl, 2, zC_L_add_2, hq 2 v g2 cm2 o2 u2 s2 a2 F hf hC2 (fun e => absurd e (by decide))⟩

set_option maxHeartbeats 4000000 in
set_option maxRecDepth 100000 in
theorem V_addRow {l : zL} {d kc ks : Nat} {h : Nat → va_E} {F : Nat → Int64} {sR : Nat → Int32} {aR : Nat → Nat → Int32} {cm : Value} {o u : Nat → Nat → Int32} {s : Nat → Nat → Int32} {a : Nat → Nat → Nat → Int32} {g : zGs} {Q : zQ} {p q r : Int32} (hC : cI g o u s a) (hq : ∀ t v g2 cm2 o2 u2 s2 a2 F', f_addRow g p q r = (t, v, g2) → cI g2 o2 u2 s2 a2 → (t = 0 → F' 0 = v.toInt64) → Q (.inl (some (.int t))) 104 (lW h F' sR aR cm2 o2 u2 s2 a2)) : Zj l mL_addRow (d + 13) (kc + 3) (ks + 18) 0 [(0, .ref 0), (1, .int p), (2, .int q), (3, .int r), (4, .ref 103)] [] 104 (lW h F sR aR cm o u s a) Q := by
  refine z_aload (j := 4) dL_addRow_0 rfl ?_
  refine z_iconst (v := 0) dL_addRow_2 (by decide) ?_
  refine z_aload_n (j := 0) dL_addRow_3 rfl ?_
  refine z_iload_n (j := 1) dL_addRow_4 rfl ?_
  refine z_iload_n (j := 2) dL_addRow_5 rfl ?_
  refine z_iload_n (j := 3) dL_addRow_6 rfl ?_
  refine z_tryK [.int p, .int q, .int r] (0 + 3) (0 + 18) kc ks yoX7_addRow yvX7_addRow rfl (by decide) lL_24 (by decide) lW_0 rfl rfl (Nat.le_of_ble_eq_true rfl) (Nat.le_of_ble_eq_true rfl) dL_addRow_7 (by omega) (by omega) (z_room (by omega) (Nat.le_refl _) (Nat.le_refl _) (K_addRow (d := 0) (by decide) hC (fun t v g2 cm2 o2 u2 s2 a2 hf hC2 => ?_)))
  show zkt mL_addRow l _ kc ks 7 _ _ 104 Q (oc IAE ISE t v) 104 (lW h F sR aR cm2 o2 u2 s2 a2)
  rcases T_addRow hf with rfl | rfl | rfl
  · rw [oc_0]
    refine ⟨rfl, ?_⟩
    refine z_i2l dL_addRow_10 ?_
    refine l_ast dL_addRow_11 (fun F' hF' => ?_)
    refine z_goto (tgt := 23) dL_addRow_12 (by decide) ?_
    refine z_iconst (v := 0) dL_addRow_23 (by decide) ?_
    exact z_iret rfl dL_addRow_24 (hq 0 v g2 cm2 o2 u2 s2 a2 F' hf hC2 (fun _ => hF'))
  · rw [oc_1]
    exact ⟨rfl, 1, zC_L_addRow_1, hq 1 v g2 cm2 o2 u2 s2 a2 F hf hC2 (fun e => absurd e (by decide))⟩
  · rw [oc_2]
    exact ⟨rfl, 2, zC_L_addRow_2, hq 2 v g2 cm2 o2 u2 s2 a2 F hf hC2 (fun e => absurd e (by decide))⟩

set_option maxHeartbeats 4000000 in
set_option maxRecDepth 100000 in
theorem V_bestMultiplier {l : zL} {d kc ks : Nat} {h : Nat → va_E} {F : Nat → Int64} {sR : Nat → Int32} {aR : Nat → Nat → Int32} {cm : Value} {o u : Nat → Nat → Int32} {s : Nat → Nat → Int32} {a : Nat → Nat → Nat → Int32} {g : zGs} {Q : zQ} {p : Int32} (hC : cI g o u s a) (hq : ∀ t v g2 cm2 o2 u2 s2 a2 F', f_bestMultiplier g p = (t, v, g2) → cI g2 o2 u2 s2 a2 → (t = 0 → F' 0 = v.toInt64) → Q (.inl (some (.int t))) 104 (lW h F' sR aR cm2 o2 u2 s2 a2)) : Zj l mL_bestMultiplier (d + 13) (kc + 3) (ks + 18) 0 [(0, .ref 0), (1, .int p), (2, .ref 103)] [] 104 (lW h F sR aR cm o u s a) Q := by
  refine z_aload_n (j := 2) dL_bestMultiplier_0 rfl ?_
  refine z_iconst (v := 0) dL_bestMultiplier_1 (by decide) ?_
  refine z_aload_n (j := 0) dL_bestMultiplier_2 rfl ?_
  refine z_iload_n (j := 1) dL_bestMultiplier_3 rfl ?_
  refine z_tryK [.int p] (0 + 3) (0 + 18) kc ks yoX7_bestMultiplier yvX7_bestMultiplier rfl (by decide) lL_99 (by decide) lW_0 rfl rfl (Nat.le_of_ble_eq_true rfl) (Nat.le_of_ble_eq_true rfl) dL_bestMultiplier_4 (by omega) (by omega) (z_room (by omega) (Nat.le_refl _) (Nat.le_refl _) (K_bestMultiplier (d := 0) (by decide) hC (fun t v g2 cm2 o2 u2 s2 a2 hf hC2 => ?_)))
  show zkt mL_bestMultiplier l _ kc ks 4 _ _ 104 Q (oc IAE ISE t v) 104 (lW h F sR aR cm2 o2 u2 s2 a2)
  rcases T_bestMultiplier hf with rfl | rfl
  · rw [oc_0]
    refine ⟨rfl, ?_⟩
    refine z_i2l dL_bestMultiplier_7 ?_
    refine l_ast dL_bestMultiplier_8 (fun F' hF' => ?_)
    refine z_goto (tgt := 15) dL_bestMultiplier_9 (by decide) ?_
    refine z_iconst (v := 0) dL_bestMultiplier_15 (by decide) ?_
    exact z_iret rfl dL_bestMultiplier_16 (hq 0 v g2 cm2 o2 u2 s2 a2 F' hf hC2 (fun _ => hF'))
  · rw [oc_1]
    exact ⟨rfl, 1, zC_L_bestMultiplier_1, hq 1 v g2 cm2 o2 u2 s2 a2 F hf hC2 (fun e => absurd e (by decide))⟩

set_option maxHeartbeats 4000000 in
set_option maxRecDepth 100000 in
theorem V_bucketOf {l : zL} {d kc ks : Nat} {h : Nat → va_E} {F : Nat → Int64} {sR : Nat → Int32} {aR : Nat → Nat → Int32} {cm : Value} {o u : Nat → Nat → Int32} {s : Nat → Nat → Int32} {a : Nat → Nat → Nat → Int32} {g : zGs} {Q : zQ} {p : Int32} (hC : cI g o u s a) (hq : ∀ t v g2 cm2 o2 u2 s2 a2 F', f_bucketOf g p = (t, v, g2) → cI g2 o2 u2 s2 a2 → (t = 0 → F' 0 = v.toInt64) → Q (.inl (some (.int t))) 104 (lW h F' sR aR cm2 o2 u2 s2 a2)) : Zj l mL_bucketOf (d + 13) (kc + 3) (ks + 18) 0 [(0, .ref 0), (1, .int p), (2, .ref 103)] [] 104 (lW h F sR aR cm o u s a) Q := by
  refine z_aload_n (j := 2) dL_bucketOf_0 rfl ?_
  refine z_iconst (v := 0) dL_bucketOf_1 (by decide) ?_
  refine z_aload_n (j := 0) dL_bucketOf_2 rfl ?_
  refine z_iload_n (j := 1) dL_bucketOf_3 rfl ?_
  refine z_tryK [.int p] (0 + 3) (0 + 18) kc ks yoX7_bucketOf yvX7_bucketOf rfl (by decide) lL_66 (by decide) lW_0 rfl rfl (Nat.le_of_ble_eq_true rfl) (Nat.le_of_ble_eq_true rfl) dL_bucketOf_4 (by omega) (by omega) (z_room (by omega) (Nat.le_refl _) (Nat.le_refl _) (K_bucketOf (d := 0) (by decide) hC (fun t v g2 cm2 o2 u2 s2 a2 hf hC2 => ?_)))
  show zkt mL_bucketOf l _ kc ks 4 _ _ 104 Q (oc IAE ISE t v) 104 (lW h F sR aR cm2 o2 u2 s2 a2)
  rcases T_bucketOf hf with rfl | rfl
  · rw [oc_0]
    refine ⟨rfl, ?_⟩
    refine z_i2l dL_bucketOf_7 ?_
    refine l_ast dL_bucketOf_8 (fun F' hF' => ?_)
    refine z_goto (tgt := 15) dL_bucketOf_9 (by decide) ?_
    refine z_iconst (v := 0) dL_bucketOf_15 (by decide) ?_
    exact z_iret rfl dL_bucketOf_16 (hq 0 v g2 cm2 o2 u2 s2 a2 F' hf hC2 (fun _ => hF'))
  · rw [oc_1]
    exact ⟨rfl, 1, zC_L_bucketOf_1, hq 1 v g2 cm2 o2 u2 s2 a2 F hf hC2 (fun e => absurd e (by decide))⟩

set_option maxHeartbeats 4000000 in
set_option maxRecDepth 100000 in
theorem V_bucketsAfter {l : zL} {d kc ks : Nat} {h : Nat → va_E} {F : Nat → Int64} {sR : Nat → Int32} {aR : Nat → Nat → Int32} {cm : Value} {o u : Nat → Nat → Int32} {s : Nat → Nat → Int32} {a : Nat → Nat → Nat → Int32} {g : zGs} {Q : zQ} {p : Int32} (hC : cI g o u s a) (hq : ∀ t v g2 cm2 o2 u2 s2 a2 F', f_bucketsAfter g p = (t, v, g2) → cI g2 o2 u2 s2 a2 → (t = 0 → F' 0 = v.toInt64) → Q (.inl (some (.int t))) 104 (lW h F' sR aR cm2 o2 u2 s2 a2)) : Zj l mL_bucketsAfter (d + 13) (kc + 3) (ks + 18) 0 [(0, .ref 0), (1, .int p), (2, .ref 103)] [] 104 (lW h F sR aR cm o u s a) Q := by
  refine z_aload_n (j := 2) dL_bucketsAfter_0 rfl ?_
  refine z_iconst (v := 0) dL_bucketsAfter_1 (by decide) ?_
  refine z_aload_n (j := 0) dL_bucketsAfter_2 rfl ?_
  refine z_iload_n (j := 1) dL_bucketsAfter_3 rfl ?_
  refine z_tryK [.int p] (0 + 3) (0 + 18) kc ks yoX7_bucketsAfter yvX7_bucketsAfter rfl (by decide) lL_90 (by decide) lW_0 rfl rfl (Nat.le_of_ble_eq_true rfl) (Nat.le_of_ble_eq_true rfl) dL_bucketsAfter_4 (by omega) (by omega) (z_room (by omega) (Nat.le_refl _) (Nat.le_refl _) (K_bucketsAfter (d := 0) (by decide) hC (fun t v g2 cm2 o2 u2 s2 a2 hf hC2 => ?_)))
  show zkt mL_bucketsAfter l _ kc ks 4 _ _ 104 Q (oc IAE ISE t v) 104 (lW h F sR aR cm2 o2 u2 s2 a2)
  rcases T_bucketsAfter hf with rfl | rfl
  · rw [oc_0]
    refine ⟨rfl, ?_⟩
    refine z_i2l dL_bucketsAfter_7 ?_
    refine l_ast dL_bucketsAfter_8 (fun F' hF' => ?_)
    refine z_goto (tgt := 15) dL_bucketsAfter_9 (by decide) ?_
    refine z_iconst (v := 0) dL_bucketsAfter_15 (by decide) ?_
    exact z_iret rfl dL_bucketsAfter_16 (hq 0 v g2 cm2 o2 u2 s2 a2 F' hf hC2 (fun _ => hF'))
  · rw [oc_1]
    exact ⟨rfl, 1, zC_L_bucketsAfter_1, hq 1 v g2 cm2 o2 u2 s2 a2 F hf hC2 (fun e => absurd e (by decide))⟩

set_option maxHeartbeats 4000000 in
set_option maxRecDepth 100000 in
theorem V_bucketsWith {l : zL} {d kc ks : Nat} {h : Nat → va_E} {F : Nat → Int64} {sR : Nat → Int32} {aR : Nat → Nat → Int32} {cm : Value} {o u : Nat → Nat → Int32} {s : Nat → Nat → Int32} {a : Nat → Nat → Nat → Int32} {g : zGs} {Q : zQ} {p : Int32} (hC : cI g o u s a) (hq : ∀ t v g2 cm2 o2 u2 s2 a2 F', f_bucketsWith g p = (t, v, g2) → cI g2 o2 u2 s2 a2 → (t = 0 → F' 0 = v.toInt64) → Q (.inl (some (.int t))) 104 (lW h F' sR aR cm2 o2 u2 s2 a2)) : Zj l mL_bucketsWith (d + 13) (kc + 3) (ks + 18) 0 [(0, .ref 0), (1, .int p), (2, .ref 103)] [] 104 (lW h F sR aR cm o u s a) Q := by
  refine z_aload_n (j := 2) dL_bucketsWith_0 rfl ?_
  refine z_iconst (v := 0) dL_bucketsWith_1 (by decide) ?_
  refine z_aload_n (j := 0) dL_bucketsWith_2 rfl ?_
  refine z_iload_n (j := 1) dL_bucketsWith_3 rfl ?_
  refine z_tryK [.int p] (0 + 3) (0 + 18) kc ks yoX7_bucketsWith yvX7_bucketsWith rfl (by decide) lL_96 (by decide) lW_0 rfl rfl (Nat.le_of_ble_eq_true rfl) (Nat.le_of_ble_eq_true rfl) dL_bucketsWith_4 (by omega) (by omega) (z_room (by omega) (Nat.le_refl _) (Nat.le_refl _) (K_bucketsWith (d := 0) (by decide) hC (fun t v g2 cm2 o2 u2 s2 a2 hf hC2 => ?_)))
  show zkt mL_bucketsWith l _ kc ks 4 _ _ 104 Q (oc IAE ISE t v) 104 (lW h F sR aR cm2 o2 u2 s2 a2)
  rcases T_bucketsWith hf with rfl | rfl
  · rw [oc_0]
    refine ⟨rfl, ?_⟩
    refine z_i2l dL_bucketsWith_7 ?_
    refine l_ast dL_bucketsWith_8 (fun F' hF' => ?_)
    refine z_goto (tgt := 15) dL_bucketsWith_9 (by decide) ?_
    refine z_iconst (v := 0) dL_bucketsWith_15 (by decide) ?_
    exact z_iret rfl dL_bucketsWith_16 (hq 0 v g2 cm2 o2 u2 s2 a2 F' hf hC2 (fun _ => hF'))
  · rw [oc_1]
    exact ⟨rfl, 1, zC_L_bucketsWith_1, hq 1 v g2 cm2 o2 u2 s2 a2 F hf hC2 (fun e => absurd e (by decide))⟩

set_option maxHeartbeats 4000000 in
set_option maxRecDepth 100000 in
theorem V_distanceOf {l : zL} {d kc ks : Nat} {h : Nat → va_E} {F : Nat → Int64} {sR : Nat → Int32} {aR : Nat → Nat → Int32} {cm : Value} {o u : Nat → Nat → Int32} {s : Nat → Nat → Int32} {a : Nat → Nat → Nat → Int32} {g : zGs} {Q : zQ} {p : Int32} (hC : cI g o u s a) (hq : ∀ t v g2 cm2 o2 u2 s2 a2 F', f_distanceOf g p = (t, v, g2) → cI g2 o2 u2 s2 a2 → (t = 0 → F' 0 = v.toInt64) → Q (.inl (some (.int t))) 104 (lW h F' sR aR cm2 o2 u2 s2 a2)) : Zj l mL_distanceOf (d + 13) (kc + 3) (ks + 18) 0 [(0, .ref 0), (1, .int p), (2, .ref 103)] [] 104 (lW h F sR aR cm o u s a) Q := by
  refine z_aload_n (j := 2) dL_distanceOf_0 rfl ?_
  refine z_iconst (v := 0) dL_distanceOf_1 (by decide) ?_
  refine z_aload_n (j := 0) dL_distanceOf_2 rfl ?_
  refine z_iload_n (j := 1) dL_distanceOf_3 rfl ?_
  refine z_tryK [.int p] (0 + 3) (0 + 18) kc ks yoX7_distanceOf yvX7_distanceOf rfl (by decide) lL_72 (by decide) lW_0 rfl rfl (Nat.le_of_ble_eq_true rfl) (Nat.le_of_ble_eq_true rfl) dL_distanceOf_4 (by omega) (by omega) (z_room (by omega) (Nat.le_refl _) (Nat.le_refl _) (K_distanceOf (d := 0) (by decide) hC (fun t v g2 cm2 o2 u2 s2 a2 hf hC2 => ?_)))
  show zkt mL_distanceOf l _ kc ks 4 _ _ 104 Q (oc IAE ISE t v) 104 (lW h F sR aR cm2 o2 u2 s2 a2)
  rcases T_distanceOf hf with rfl | rfl
  · rw [oc_0]
    refine ⟨rfl, ?_⟩
    refine z_i2l dL_distanceOf_7 ?_
    refine l_ast dL_distanceOf_8 (fun F' hF' => ?_)
    refine z_goto (tgt := 15) dL_distanceOf_9 (by decide) ?_
    refine z_iconst (v := 0) dL_distanceOf_15 (by decide) ?_
    exact z_iret rfl dL_distanceOf_16 (hq 0 v g2 cm2 o2 u2 s2 a2 F' hf hC2 (fun _ => hF'))
  · rw [oc_1]
    exact ⟨rfl, 1, zC_L_distanceOf_1, hq 1 v g2 cm2 o2 u2 s2 a2 F hf hC2 (fun e => absurd e (by decide))⟩

set_option maxHeartbeats 4000000 in
set_option maxRecDepth 100000 in
theorem V_entriesOf {l : zL} {d kc ks : Nat} {h : Nat → va_E} {F : Nat → Int64} {sR : Nat → Int32} {aR : Nat → Nat → Int32} {cm : Value} {o u : Nat → Nat → Int32} {s : Nat → Nat → Int32} {a : Nat → Nat → Nat → Int32} {g : zGs} {Q : zQ} {p : Int32} (hC : cI g o u s a) (hq : ∀ t v g2 cm2 o2 u2 s2 a2 F', f_entriesOf g p = (t, v, g2) → cI g2 o2 u2 s2 a2 → (t = 0 → F' 0 = v.toInt64) → Q (.inl (some (.int t))) 104 (lW h F' sR aR cm2 o2 u2 s2 a2)) : Zj l mL_entriesOf (d + 13) (kc + 3) (ks + 18) 0 [(0, .ref 0), (1, .int p), (2, .ref 103)] [] 104 (lW h F sR aR cm o u s a) Q := by
  refine z_aload_n (j := 2) dL_entriesOf_0 rfl ?_
  refine z_iconst (v := 0) dL_entriesOf_1 (by decide) ?_
  refine z_aload_n (j := 0) dL_entriesOf_2 rfl ?_
  refine z_iload_n (j := 1) dL_entriesOf_3 rfl ?_
  refine z_tryK [.int p] (0 + 3) (0 + 18) kc ks yoX7_entriesOf yvX7_entriesOf rfl (by decide) lL_57 (by decide) lW_0 rfl rfl (Nat.le_of_ble_eq_true rfl) (Nat.le_of_ble_eq_true rfl) dL_entriesOf_4 (by omega) (by omega) (z_room (by omega) (Nat.le_refl _) (Nat.le_refl _) (K_entriesOf (d := 0) (by decide) hC (fun t v g2 cm2 o2 u2 s2 a2 hf hC2 => ?_)))
  show zkt mL_entriesOf l _ kc ks 4 _ _ 104 Q (oc IOE ISE t v) 104 (lW h F sR aR cm2 o2 u2 s2 a2)
  rcases T_entriesOf hf with rfl | rfl
  · rw [oc_0]
    refine ⟨rfl, ?_⟩
    refine z_i2l dL_entriesOf_7 ?_
    refine l_ast dL_entriesOf_8 (fun F' hF' => ?_)
    refine z_goto (tgt := 15) dL_entriesOf_9 (by decide) ?_
    refine z_iconst (v := 0) dL_entriesOf_15 (by decide) ?_
    exact z_iret rfl dL_entriesOf_16 (hq 0 v g2 cm2 o2 u2 s2 a2 F' hf hC2 (fun _ => hF'))
  · rw [oc_1]
    exact ⟨rfl, 1, zC_L_entriesOf_1, hq 1 v g2 cm2 o2 u2 s2 a2 F hf hC2 (fun e => absurd e (by decide))⟩

set_option maxHeartbeats 4000000 in
set_option maxRecDepth 100000 in
theorem V_freeDistance {l : zL} {d kc ks : Nat} {h : Nat → va_E} {F : Nat → Int64} {sR : Nat → Int32} {aR : Nat → Nat → Int32} {cm : Value} {o u : Nat → Nat → Int32} {s : Nat → Nat → Int32} {a : Nat → Nat → Nat → Int32} {g : zGs} {Q : zQ} {p : Int32} (hC : cI g o u s a) (hq : ∀ t v g2 cm2 o2 u2 s2 a2 F', f_freeDistance g p = (t, v, g2) → cI g2 o2 u2 s2 a2 → (t = 0 → F' 0 = v.toInt64) → Q (.inl (some (.int t))) 104 (lW h F' sR aR cm2 o2 u2 s2 a2)) : Zj l mL_freeDistance (d + 13) (kc + 3) (ks + 18) 0 [(0, .ref 0), (1, .int p), (2, .ref 103)] [] 104 (lW h F sR aR cm o u s a) Q := by
  refine z_aload_n (j := 2) dL_freeDistance_0 rfl ?_
  refine z_iconst (v := 0) dL_freeDistance_1 (by decide) ?_
  refine z_aload_n (j := 0) dL_freeDistance_2 rfl ?_
  refine z_iload_n (j := 1) dL_freeDistance_3 rfl ?_
  refine z_tryK [.int p] (0 + 3) (0 + 18) kc ks yoX7_freeDistance yvX7_freeDistance rfl (by decide) lL_60 (by decide) lW_0 rfl rfl (Nat.le_of_ble_eq_true rfl) (Nat.le_of_ble_eq_true rfl) dL_freeDistance_4 (by omega) (by omega) (z_room (by omega) (Nat.le_refl _) (Nat.le_refl _) (K_freeDistance (d := 0) (by decide) hC (fun t v g2 cm2 o2 u2 s2 a2 hf hC2 => ?_)))
  show zkt mL_freeDistance l _ kc ks 4 _ _ 104 Q (oc IOE ISE t v) 104 (lW h F sR aR cm2 o2 u2 s2 a2)
  rcases T_freeDistance hf with rfl | rfl
  · rw [oc_0]
    refine ⟨rfl, ?_⟩
    refine z_i2l dL_freeDistance_7 ?_
    refine l_ast dL_freeDistance_8 (fun F' hF' => ?_)
    refine z_goto (tgt := 15) dL_freeDistance_9 (by decide) ?_
    refine z_iconst (v := 0) dL_freeDistance_15 (by decide) ?_
    exact z_iret rfl dL_freeDistance_16 (hq 0 v g2 cm2 o2 u2 s2 a2 F' hf hC2 (fun _ => hF'))
  · rw [oc_1]
    exact ⟨rfl, 1, zC_L_freeDistance_1, hq 1 v g2 cm2 o2 u2 s2 a2 F hf hC2 (fun e => absurd e (by decide))⟩

set_option maxHeartbeats 4000000 in
set_option maxRecDepth 100000 in
theorem V_grow {l : zL} {d kc ks : Nat} {h : Nat → va_E} {F : Nat → Int64} {sR : Nat → Int32} {aR : Nat → Nat → Int32} {cm : Value} {o u : Nat → Nat → Int32} {s : Nat → Nat → Int32} {a : Nat → Nat → Nat → Int32} {g : zGs} {Q : zQ} (hC : cI g o u s a) (hq : ∀ t v g2 cm2 o2 u2 s2 a2 F', f_grow g = (t, v, g2) → cI g2 o2 u2 s2 a2 → (t = 0 → F' 0 = v.toInt64) → Q (.inl (some (.int t))) 104 (lW h F' sR aR cm2 o2 u2 s2 a2)) : Zj l mL_grow (d + 13) (kc + 3) (ks + 18) 0 [(0, .ref 0), (1, .ref 103)] [] 104 (lW h F sR aR cm o u s a) Q := by
  refine z_aload_n (j := 1) dL_grow_0 rfl ?_
  refine z_iconst (v := 0) dL_grow_1 (by decide) ?_
  refine z_aload_n (j := 0) dL_grow_2 rfl ?_
  refine z_tryK [] (0 + 3) (0 + 18) kc ks yoX7_grow yvX7_grow rfl (by decide) lL_39 (by decide) lW_0 rfl rfl (Nat.le_of_ble_eq_true rfl) (Nat.le_of_ble_eq_true rfl) dL_grow_3 (by omega) (by omega) (z_room (by omega) (Nat.le_refl _) (Nat.le_refl _) (K_grow (d := 0) (by decide) hC (fun t v g2 cm2 o2 u2 s2 a2 hf hC2 => ?_)))
  show zkt mL_grow l _ kc ks 3 _ _ 104 Q (oc ISE ISE t v) 104 (lW h F sR aR cm2 o2 u2 s2 a2)
  rcases T_grow hf with rfl | rfl
  · rw [oc_0]
    refine ⟨rfl, ?_⟩
    refine z_i2l dL_grow_6 ?_
    refine l_ast dL_grow_7 (fun F' hF' => ?_)
    refine z_goto (tgt := 14) dL_grow_8 (by decide) ?_
    refine z_iconst (v := 0) dL_grow_14 (by decide) ?_
    exact z_iret rfl dL_grow_15 (hq 0 v g2 cm2 o2 u2 s2 a2 F' hf hC2 (fun _ => hF'))
  · rw [oc_1]
    exact ⟨rfl, 1, zC_L_grow_1, hq 1 v g2 cm2 o2 u2 s2 a2 F hf hC2 (fun e => absurd e (by decide))⟩

set_option maxHeartbeats 4000000 in
set_option maxRecDepth 100000 in
theorem V_homeOf {l : zL} {d kc ks : Nat} {h : Nat → va_E} {F : Nat → Int64} {sR : Nat → Int32} {aR : Nat → Nat → Int32} {cm : Value} {o u : Nat → Nat → Int32} {s : Nat → Nat → Int32} {a : Nat → Nat → Nat → Int32} {g : zGs} {Q : zQ} {p : Int32} (hC : cI g o u s a) (hq : ∀ t v g2 cm2 o2 u2 s2 a2 F', f_homeOf g p = (t, v, g2) → cI g2 o2 u2 s2 a2 → (t = 0 → F' 0 = v.toInt64) → Q (.inl (some (.int t))) 104 (lW h F' sR aR cm2 o2 u2 s2 a2)) : Zj l mL_homeOf (d + 13) (kc + 3) (ks + 18) 0 [(0, .ref 0), (1, .int p), (2, .ref 103)] [] 104 (lW h F sR aR cm o u s a) Q := by
  refine z_aload_n (j := 2) dL_homeOf_0 rfl ?_
  refine z_iconst (v := 0) dL_homeOf_1 (by decide) ?_
  refine z_aload_n (j := 0) dL_homeOf_2 rfl ?_
  refine z_iload_n (j := 1) dL_homeOf_3 rfl ?_
  refine z_tryK [.int p] (0 + 3) (0 + 18) kc ks yoX7_homeOf yvX7_homeOf rfl (by decide) lL_63 (by decide) lW_0 rfl rfl (Nat.le_of_ble_eq_true rfl) (Nat.le_of_ble_eq_true rfl) dL_homeOf_4 (by omega) (by omega) (z_room (by omega) (Nat.le_refl _) (Nat.le_refl _) (K_homeOf (d := 0) (by decide) hC (fun t v g2 cm2 o2 u2 s2 a2 hf hC2 => ?_)))
  show zkt mL_homeOf l _ kc ks 4 _ _ 104 Q (oc IAE ISE t v) 104 (lW h F sR aR cm2 o2 u2 s2 a2)
  rcases T_homeOf hf with rfl | rfl
  · rw [oc_0]
    refine ⟨rfl, ?_⟩
    refine z_i2l dL_homeOf_7 ?_
    refine l_ast dL_homeOf_8 (fun F' hF' => ?_)
    refine z_goto (tgt := 15) dL_homeOf_9 (by decide) ?_
    refine z_iconst (v := 0) dL_homeOf_15 (by decide) ?_
    exact z_iret rfl dL_homeOf_16 (hq 0 v g2 cm2 o2 u2 s2 a2 F' hf hC2 (fun _ => hF'))
  · rw [oc_1]
    exact ⟨rfl, 1, zC_L_homeOf_1, hq 1 v g2 cm2 o2 u2 s2 a2 F hf hC2 (fun e => absurd e (by decide))⟩

set_option maxHeartbeats 4000000 in
set_option maxRecDepth 100000 in
theorem V_hopBits {l : zL} {d kc ks : Nat} {h : Nat → va_E} {F : Nat → Int64} {sR : Nat → Int32} {aR : Nat → Nat → Int32} {cm : Value} {o u : Nat → Nat → Int32} {s : Nat → Nat → Int32} {a : Nat → Nat → Nat → Int32} {g : zGs} {Q : zQ} {p : Int32} (hC : cI g o u s a) (hq : ∀ t v g2 cm2 o2 u2 s2 a2 F', f_hopBits g p = (t, v, g2) → cI g2 o2 u2 s2 a2 → (t = 0 → F' 0 = v.toInt64) → Q (.inl (some (.int t))) 104 (lW h F' sR aR cm2 o2 u2 s2 a2)) : Zj l mL_hopBits (d + 13) (kc + 3) (ks + 18) 0 [(0, .ref 0), (1, .int p), (2, .ref 103)] [] 104 (lW h F sR aR cm o u s a) Q := by
  refine z_aload_n (j := 2) dL_hopBits_0 rfl ?_
  refine z_iconst (v := 0) dL_hopBits_1 (by decide) ?_
  refine z_aload_n (j := 0) dL_hopBits_2 rfl ?_
  refine z_iload_n (j := 1) dL_hopBits_3 rfl ?_
  refine z_tryK [.int p] (0 + 3) (0 + 18) kc ks yoX7_hopBits yvX7_hopBits rfl (by decide) lL_54 (by decide) lW_0 rfl rfl (Nat.le_of_ble_eq_true rfl) (Nat.le_of_ble_eq_true rfl) dL_hopBits_4 (by omega) (by omega) (z_room (by omega) (Nat.le_refl _) (Nat.le_refl _) (K_hopBits (d := 0) (by decide) hC (fun t v g2 cm2 o2 u2 s2 a2 hf hC2 => ?_)))
  show zkt mL_hopBits l _ kc ks 4 _ _ 104 Q (oc IOE ISE t v) 104 (lW h F sR aR cm2 o2 u2 s2 a2)
  rcases T_hopBits hf with rfl | rfl
  · rw [oc_0]
    refine ⟨rfl, ?_⟩
    refine z_i2l dL_hopBits_7 ?_
    refine l_ast dL_hopBits_8 (fun F' hF' => ?_)
    refine z_goto (tgt := 15) dL_hopBits_9 (by decide) ?_
    refine z_iconst (v := 0) dL_hopBits_15 (by decide) ?_
    exact z_iret rfl dL_hopBits_16 (hq 0 v g2 cm2 o2 u2 s2 a2 F' hf hC2 (fun _ => hF'))
  · rw [oc_1]
    exact ⟨rfl, 1, zC_L_hopBits_1, hq 1 v g2 cm2 o2 u2 s2 a2 F hf hC2 (fun e => absurd e (by decide))⟩

set_option maxHeartbeats 4000000 in
set_option maxRecDepth 100000 in
theorem V_keyAt {l : zL} {d kc ks : Nat} {h : Nat → va_E} {F : Nat → Int64} {sR : Nat → Int32} {aR : Nat → Nat → Int32} {cm : Value} {o u : Nat → Nat → Int32} {s : Nat → Nat → Int32} {a : Nat → Nat → Nat → Int32} {g : zGs} {Q : zQ} {p : Int32} (hC : cI g o u s a) (hq : ∀ t v g2 cm2 o2 u2 s2 a2 F', f_keyAt g p = (t, v, g2) → cI g2 o2 u2 s2 a2 → (t = 0 → F' 0 = v.toInt64) → Q (.inl (some (.int t))) 104 (lW h F' sR aR cm2 o2 u2 s2 a2)) : Zj l mL_keyAt (d + 13) (kc + 3) (ks + 18) 0 [(0, .ref 0), (1, .int p), (2, .ref 103)] [] 104 (lW h F sR aR cm o u s a) Q := by
  refine z_aload_n (j := 2) dL_keyAt_0 rfl ?_
  refine z_iconst (v := 0) dL_keyAt_1 (by decide) ?_
  refine z_aload_n (j := 0) dL_keyAt_2 rfl ?_
  refine z_iload_n (j := 1) dL_keyAt_3 rfl ?_
  refine z_tryK [.int p] (0 + 3) (0 + 18) kc ks yoX7_keyAt yvX7_keyAt rfl (by decide) lL_46 (by decide) lW_0 rfl rfl (Nat.le_of_ble_eq_true rfl) (Nat.le_of_ble_eq_true rfl) dL_keyAt_4 (by omega) (by omega) (z_room (by omega) (Nat.le_refl _) (Nat.le_refl _) (K_keyAt (d := 0) (by decide) hC (fun t v g2 cm2 o2 u2 s2 a2 hf hC2 => ?_)))
  show zkt mL_keyAt l _ kc ks 4 _ _ 104 Q (oc IOE ISE t v) 104 (lW h F sR aR cm2 o2 u2 s2 a2)
  rcases T_keyAt hf with rfl | rfl
  · rw [oc_0]
    refine ⟨rfl, ?_⟩
    refine z_i2l dL_keyAt_7 ?_
    refine l_ast dL_keyAt_8 (fun F' hF' => ?_)
    refine z_goto (tgt := 15) dL_keyAt_9 (by decide) ?_
    refine z_iconst (v := 0) dL_keyAt_15 (by decide) ?_
    exact z_iret rfl dL_keyAt_16 (hq 0 v g2 cm2 o2 u2 s2 a2 F' hf hC2 (fun _ => hF'))
  · rw [oc_1]
    exact ⟨rfl, 1, zC_L_keyAt_1, hq 1 v g2 cm2 o2 u2 s2 a2 F hf hC2 (fun e => absurd e (by decide))⟩

set_option maxHeartbeats 4000000 in
set_option maxRecDepth 100000 in
theorem V_looksFor {l : zL} {d kc ks : Nat} {h : Nat → va_E} {F : Nat → Int64} {sR : Nat → Int32} {aR : Nat → Nat → Int32} {cm : Value} {o u : Nat → Nat → Int32} {s : Nat → Nat → Int32} {a : Nat → Nat → Nat → Int32} {g : zGs} {Q : zQ} {p : Int32} (hC : cI g o u s a) (hq : ∀ t v g2 cm2 o2 u2 s2 a2 F', f_looksFor g p = (t, v, g2) → cI g2 o2 u2 s2 a2 → (t = 0 → F' 0 = v.toInt64) → Q (.inl (some (.int t))) 104 (lW h F' sR aR cm2 o2 u2 s2 a2)) : Zj l mL_looksFor (d + 13) (kc + 3) (ks + 18) 0 [(0, .ref 0), (1, .int p), (2, .ref 103)] [] 104 (lW h F sR aR cm o u s a) Q := by
  refine z_aload_n (j := 2) dL_looksFor_0 rfl ?_
  refine z_iconst (v := 0) dL_looksFor_1 (by decide) ?_
  refine z_aload_n (j := 0) dL_looksFor_2 rfl ?_
  refine z_iload_n (j := 1) dL_looksFor_3 rfl ?_
  refine z_tryK [.int p] (0 + 3) (0 + 18) kc ks yoX7_looksFor yvX7_looksFor rfl (by decide) lL_75 (by decide) lW_0 rfl rfl (Nat.le_of_ble_eq_true rfl) (Nat.le_of_ble_eq_true rfl) dL_looksFor_4 (by omega) (by omega) (z_room (by omega) (Nat.le_refl _) (Nat.le_refl _) (K_looksFor (d := 0) (by decide) hC (fun t v g2 cm2 o2 u2 s2 a2 hf hC2 => ?_)))
  show zkt mL_looksFor l _ kc ks 4 _ _ 104 Q (oc IAE ISE t v) 104 (lW h F sR aR cm2 o2 u2 s2 a2)
  rcases T_looksFor hf with rfl | rfl
  · rw [oc_0]
    refine ⟨rfl, ?_⟩
    refine z_i2l dL_looksFor_7 ?_
    refine l_ast dL_looksFor_8 (fun F' hF' => ?_)
    refine z_goto (tgt := 15) dL_looksFor_9 (by decide) ?_
    refine z_iconst (v := 0) dL_looksFor_15 (by decide) ?_
    exact z_iret rfl dL_looksFor_16 (hq 0 v g2 cm2 o2 u2 s2 a2 F' hf hC2 (fun _ => hF'))
  · rw [oc_1]
    exact ⟨rfl, 1, zC_L_looksFor_1, hq 1 v g2 cm2 o2 u2 s2 a2 F hf hC2 (fun e => absurd e (by decide))⟩

set_option maxHeartbeats 4000000 in
set_option maxRecDepth 100000 in
theorem V_movesFor {l : zL} {d kc ks : Nat} {h : Nat → va_E} {F : Nat → Int64} {sR : Nat → Int32} {aR : Nat → Nat → Int32} {cm : Value} {o u : Nat → Nat → Int32} {s : Nat → Nat → Int32} {a : Nat → Nat → Nat → Int32} {g : zGs} {Q : zQ} {p : Int32} (hC : cI g o u s a) (hq : ∀ t v g2 cm2 o2 u2 s2 a2 F', f_movesFor g p = (t, v, g2) → cI g2 o2 u2 s2 a2 → (t = 0 → F' 0 = v.toInt64) → Q (.inl (some (.int t))) 104 (lW h F' sR aR cm2 o2 u2 s2 a2)) : Zj l mL_movesFor (d + 13) (kc + 3) (ks + 18) 0 [(0, .ref 0), (1, .int p), (2, .ref 103)] [] 104 (lW h F sR aR cm o u s a) Q := by
  refine z_aload_n (j := 2) dL_movesFor_0 rfl ?_
  refine z_iconst (v := 0) dL_movesFor_1 (by decide) ?_
  refine z_aload_n (j := 0) dL_movesFor_2 rfl ?_
  refine z_iload_n (j := 1) dL_movesFor_3 rfl ?_
  refine z_tryK [.int p] (0 + 3) (0 + 18) kc ks yoX7_movesFor yvX7_movesFor rfl (by decide) lL_87 (by decide) lW_0 rfl rfl (Nat.le_of_ble_eq_true rfl) (Nat.le_of_ble_eq_true rfl) dL_movesFor_4 (by omega) (by omega) (z_room (by omega) (Nat.le_refl _) (Nat.le_refl _) (K_movesFor (d := 0) (by decide) hC (fun t v g2 cm2 o2 u2 s2 a2 hf hC2 => ?_)))
  show zkt mL_movesFor l _ kc ks 4 _ _ 104 Q (oc IAE ISE t v) 104 (lW h F sR aR cm2 o2 u2 s2 a2)
  rcases T_movesFor hf with rfl | rfl
  · rw [oc_0]
    refine ⟨rfl, ?_⟩
    refine z_i2l dL_movesFor_7 ?_
    refine l_ast dL_movesFor_8 (fun F' hF' => ?_)
    refine z_goto (tgt := 15) dL_movesFor_9 (by decide) ?_
    refine z_iconst (v := 0) dL_movesFor_15 (by decide) ?_
    exact z_iret rfl dL_movesFor_16 (hq 0 v g2 cm2 o2 u2 s2 a2 F' hf hC2 (fun _ => hF'))
  · rw [oc_1]
    exact ⟨rfl, 1, zC_L_movesFor_1, hq 1 v g2 cm2 o2 u2 s2 a2 F hf hC2 (fun e => absurd e (by decide))⟩

set_option maxHeartbeats 4000000 in
set_option maxRecDepth 100000 in
theorem V_placeFor {l : zL} {d kc ks : Nat} {h : Nat → va_E} {F : Nat → Int64} {sR : Nat → Int32} {aR : Nat → Nat → Int32} {cm : Value} {o u : Nat → Nat → Int32} {s : Nat → Nat → Int32} {a : Nat → Nat → Nat → Int32} {g : zGs} {Q : zQ} {p : Int32} (hC : cI g o u s a) (hq : ∀ t v g2 cm2 o2 u2 s2 a2 F', f_placeFor g p = (t, v, g2) → cI g2 o2 u2 s2 a2 → (t = 0 → F' 0 = v.toInt64) → Q (.inl (some (.int t))) 104 (lW h F' sR aR cm2 o2 u2 s2 a2)) : Zj l mL_placeFor (d + 13) (kc + 3) (ks + 18) 0 [(0, .ref 0), (1, .int p), (2, .ref 103)] [] 104 (lW h F sR aR cm o u s a) Q := by
  refine z_aload_n (j := 2) dL_placeFor_0 rfl ?_
  refine z_iconst (v := 0) dL_placeFor_1 (by decide) ?_
  refine z_aload_n (j := 0) dL_placeFor_2 rfl ?_
  refine z_iload_n (j := 1) dL_placeFor_3 rfl ?_
  refine z_tryK [.int p] (0 + 3) (0 + 18) kc ks yoX7_placeFor yvX7_placeFor rfl (by decide) lL_84 (by decide) lW_0 rfl rfl (Nat.le_of_ble_eq_true rfl) (Nat.le_of_ble_eq_true rfl) dL_placeFor_4 (by omega) (by omega) (z_room (by omega) (Nat.le_refl _) (Nat.le_refl _) (K_placeFor (d := 0) (by decide) hC (fun t v g2 cm2 o2 u2 s2 a2 hf hC2 => ?_)))
  show zkt mL_placeFor l _ kc ks 4 _ _ 104 Q (oc IAE ISE t v) 104 (lW h F sR aR cm2 o2 u2 s2 a2)
  rcases T_placeFor hf with rfl | rfl
  · rw [oc_0]
    refine ⟨rfl, ?_⟩
    refine z_i2l dL_placeFor_7 ?_
    refine l_ast dL_placeFor_8 (fun F' hF' => ?_)
    refine z_goto (tgt := 15) dL_placeFor_9 (by decide) ?_
    refine z_iconst (v := 0) dL_placeFor_15 (by decide) ?_
    exact z_iret rfl dL_placeFor_16 (hq 0 v g2 cm2 o2 u2 s2 a2 F' hf hC2 (fun _ => hF'))
  · rw [oc_1]
    exact ⟨rfl, 1, zC_L_placeFor_1, hq 1 v g2 cm2 o2 u2 s2 a2 F hf hC2 (fun e => absurd e (by decide))⟩

set_option maxHeartbeats 4000000 in
set_option maxRecDepth 100000 in
theorem V_pullsFor {l : zL} {d kc ks : Nat} {h : Nat → va_E} {F : Nat → Int64} {sR : Nat → Int32} {aR : Nat → Nat → Int32} {cm : Value} {o u : Nat → Nat → Int32} {s : Nat → Nat → Int32} {a : Nat → Nat → Nat → Int32} {g : zGs} {Q : zQ} {p : Int32} (hC : cI g o u s a) (hq : ∀ t v g2 cm2 o2 u2 s2 a2 F', f_pullsFor g p = (t, v, g2) → cI g2 o2 u2 s2 a2 → (t = 0 → F' 0 = v.toInt64) → Q (.inl (some (.int t))) 104 (lW h F' sR aR cm2 o2 u2 s2 a2)) : Zj l mL_pullsFor (d + 13) (kc + 3) (ks + 18) 0 [(0, .ref 0), (1, .int p), (2, .ref 103)] [] 104 (lW h F sR aR cm o u s a) Q := by
  refine z_aload_n (j := 2) dL_pullsFor_0 rfl ?_
  refine z_iconst (v := 0) dL_pullsFor_1 (by decide) ?_
  refine z_aload_n (j := 0) dL_pullsFor_2 rfl ?_
  refine z_iload_n (j := 1) dL_pullsFor_3 rfl ?_
  refine z_tryK [.int p] (0 + 3) (0 + 18) kc ks yoX7_pullsFor yvX7_pullsFor rfl (by decide) lL_93 (by decide) lW_0 rfl rfl (Nat.le_of_ble_eq_true rfl) (Nat.le_of_ble_eq_true rfl) dL_pullsFor_4 (by omega) (by omega) (z_room (by omega) (Nat.le_refl _) (Nat.le_refl _) (K_pullsFor (d := 0) (by decide) hC (fun t v g2 cm2 o2 u2 s2 a2 hf hC2 => ?_)))
  show zkt mL_pullsFor l _ kc ks 4 _ _ 104 Q (oc IAE ISE t v) 104 (lW h F sR aR cm2 o2 u2 s2 a2)
  rcases T_pullsFor hf with rfl | rfl
  · rw [oc_0]
    refine ⟨rfl, ?_⟩
    refine z_i2l dL_pullsFor_7 ?_
    refine l_ast dL_pullsFor_8 (fun F' hF' => ?_)
    refine z_goto (tgt := 15) dL_pullsFor_9 (by decide) ?_
    refine z_iconst (v := 0) dL_pullsFor_15 (by decide) ?_
    exact z_iret rfl dL_pullsFor_16 (hq 0 v g2 cm2 o2 u2 s2 a2 F' hf hC2 (fun _ => hF'))
  · rw [oc_1]
    exact ⟨rfl, 1, zC_L_pullsFor_1, hq 1 v g2 cm2 o2 u2 s2 a2 F hf hC2 (fun e => absurd e (by decide))⟩

set_option maxHeartbeats 4000000 in
set_option maxRecDepth 100000 in
theorem V_put {l : zL} {d kc ks : Nat} {h : Nat → va_E} {F : Nat → Int64} {sR : Nat → Int32} {aR : Nat → Nat → Int32} {cm : Value} {o u : Nat → Nat → Int32} {s : Nat → Nat → Int32} {a : Nat → Nat → Nat → Int32} {g : zGs} {Q : zQ} {p q : Int32} (hC : cI g o u s a) (hq : ∀ t v g2 cm2 o2 u2 s2 a2 F', f_put g p q = (t, v, g2) → cI g2 o2 u2 s2 a2 → (t = 0 → F' 0 = v.toInt64) → Q (.inl (some (.int t))) 104 (lW h F' sR aR cm2 o2 u2 s2 a2)) : Zj l mL_put (d + 13) (kc + 3) (ks + 18) 0 [(0, .ref 0), (1, .int p), (2, .int q), (3, .ref 103)] [] 104 (lW h F sR aR cm o u s a) Q := by
  refine z_aload_n (j := 3) dL_put_0 rfl ?_
  refine z_iconst (v := 0) dL_put_1 (by decide) ?_
  refine z_aload_n (j := 0) dL_put_2 rfl ?_
  refine z_iload_n (j := 1) dL_put_3 rfl ?_
  refine z_iload_n (j := 2) dL_put_4 rfl ?_
  refine z_tryK [.int p, .int q] (0 + 3) (0 + 18) kc ks yoX7_put yvX7_put rfl (by decide) lL_21 (by decide) lW_0 rfl rfl (Nat.le_of_ble_eq_true rfl) (Nat.le_of_ble_eq_true rfl) dL_put_5 (by omega) (by omega) (z_room (by omega) (Nat.le_refl _) (Nat.le_refl _) (K_put (d := 0) (by decide) hC (fun t v g2 cm2 o2 u2 s2 a2 hf hC2 => ?_)))
  show zkt mL_put l _ kc ks 5 _ _ 104 Q (oc IAE ISE t v) 104 (lW h F sR aR cm2 o2 u2 s2 a2)
  rcases T_put hf with rfl | rfl | rfl
  · rw [oc_0]
    refine ⟨rfl, ?_⟩
    refine z_i2l dL_put_8 ?_
    refine l_ast dL_put_9 (fun F' hF' => ?_)
    refine z_goto (tgt := 21) dL_put_10 (by decide) ?_
    refine z_iconst (v := 0) dL_put_21 (by decide) ?_
    exact z_iret rfl dL_put_22 (hq 0 v g2 cm2 o2 u2 s2 a2 F' hf hC2 (fun _ => hF'))
  · rw [oc_1]
    exact ⟨rfl, 1, zC_L_put_1, hq 1 v g2 cm2 o2 u2 s2 a2 F hf hC2 (fun e => absurd e (by decide))⟩
  · rw [oc_2]
    exact ⟨rfl, 2, zC_L_put_2, hq 2 v g2 cm2 o2 u2 s2 a2 F hf hC2 (fun e => absurd e (by decide))⟩

set_option maxHeartbeats 4000000 in
set_option maxRecDepth 100000 in
theorem V_rank {l : zL} {d kc ks : Nat} {h : Nat → va_E} {F : Nat → Int64} {sR : Nat → Int32} {aR : Nat → Nat → Int32} {cm : Value} {o u : Nat → Nat → Int32} {s : Nat → Nat → Int32} {a : Nat → Nat → Nat → Int32} {g : zGs} {Q : zQ} {p : Int32} (hC : cI g o u s a) (hq : ∀ t v g2 cm2 o2 u2 s2 a2 F', f_rank g p = (t, v, g2) → cI g2 o2 u2 s2 a2 → (t = 0 → F' 0 = v.toInt64) → Q (.inl (some (.int t))) 104 (lW h F' sR aR cm2 o2 u2 s2 a2)) : Zj l mL_rank (d + 13) (kc + 3) (ks + 18) 0 [(0, .ref 0), (1, .int p), (2, .ref 103)] [] 104 (lW h F sR aR cm o u s a) Q := by
  refine z_aload_n (j := 2) dL_rank_0 rfl ?_
  refine z_iconst (v := 0) dL_rank_1 (by decide) ?_
  refine z_aload_n (j := 0) dL_rank_2 rfl ?_
  refine z_iload_n (j := 1) dL_rank_3 rfl ?_
  refine z_tryK [.int p] (0 + 3) (0 + 18) kc ks yoX7_rank yvX7_rank rfl (by decide) lL_78 (by decide) lW_0 rfl rfl (Nat.le_of_ble_eq_true rfl) (Nat.le_of_ble_eq_true rfl) dL_rank_4 (by omega) (by omega) (z_room (by omega) (Nat.le_refl _) (Nat.le_refl _) (K_rank (d := 0) (by decide) hC (fun t v g2 cm2 o2 u2 s2 a2 hf hC2 => ?_)))
  show zkt mL_rank l _ kc ks 4 _ _ 104 Q (oc IAE ISE t v) 104 (lW h F sR aR cm2 o2 u2 s2 a2)
  rcases T_rank hf with rfl | rfl
  · rw [oc_0]
    refine ⟨rfl, ?_⟩
    refine z_i2l dL_rank_7 ?_
    refine l_ast dL_rank_8 (fun F' hF' => ?_)
    refine z_goto (tgt := 15) dL_rank_9 (by decide) ?_
    refine z_iconst (v := 0) dL_rank_15 (by decide) ?_
    exact z_iret rfl dL_rank_16 (hq 0 v g2 cm2 o2 u2 s2 a2 F' hf hC2 (fun _ => hF'))
  · rw [oc_1]
    exact ⟨rfl, 1, zC_L_rank_1, hq 1 v g2 cm2 o2 u2 s2 a2 F hf hC2 (fun e => absurd e (by decide))⟩

set_option maxHeartbeats 4000000 in
set_option maxRecDepth 100000 in
theorem V_remove {l : zL} {d kc ks : Nat} {h : Nat → va_E} {F : Nat → Int64} {sR : Nat → Int32} {aR : Nat → Nat → Int32} {cm : Value} {o u : Nat → Nat → Int32} {s : Nat → Nat → Int32} {a : Nat → Nat → Nat → Int32} {g : zGs} {Q : zQ} {p : Int32} (hC : cI g o u s a) (hq : ∀ t v g2 cm2 o2 u2 s2 a2 F', f_remove g p = (t, v, g2) → cI g2 o2 u2 s2 a2 → (t = 0 → F' 0 = v.toInt64) → Q (.inl (some (.int t))) 104 (lW h F' sR aR cm2 o2 u2 s2 a2)) : Zj l mL_remove (d + 13) (kc + 3) (ks + 18) 0 [(0, .ref 0), (1, .int p), (2, .ref 103)] [] 104 (lW h F sR aR cm o u s a) Q := by
  refine z_aload_n (j := 2) dL_remove_0 rfl ?_
  refine z_iconst (v := 0) dL_remove_1 (by decide) ?_
  refine z_aload_n (j := 0) dL_remove_2 rfl ?_
  refine z_iload_n (j := 1) dL_remove_3 rfl ?_
  refine z_tryK [.int p] (0 + 3) (0 + 18) kc ks yoX7_remove yvX7_remove rfl (by decide) lL_28 (by decide) lW_0 rfl rfl (Nat.le_of_ble_eq_true rfl) (Nat.le_of_ble_eq_true rfl) dL_remove_4 (by omega) (by omega) (z_room (by omega) (Nat.le_refl _) (Nat.le_refl _) (K_remove (d := 0) (by decide) hC (fun t v g2 cm2 o2 u2 s2 a2 hf hC2 => ?_)))
  show zkt mL_remove l _ kc ks 4 _ _ 104 Q (oc NSE ISE t v) 104 (lW h F sR aR cm2 o2 u2 s2 a2)
  rcases T_remove hf with rfl | rfl
  · rw [oc_0]
    refine ⟨rfl, ?_⟩
    refine z_i2l dL_remove_7 ?_
    refine l_ast dL_remove_8 (fun F' hF' => ?_)
    refine z_goto (tgt := 15) dL_remove_9 (by decide) ?_
    refine z_iconst (v := 0) dL_remove_15 (by decide) ?_
    exact z_iret rfl dL_remove_16 (hq 0 v g2 cm2 o2 u2 s2 a2 F' hf hC2 (fun _ => hF'))
  · rw [oc_1]
    exact ⟨rfl, 1, zC_L_remove_1, hq 1 v g2 cm2 o2 u2 s2 a2 F hf hC2 (fun e => absurd e (by decide))⟩

set_option maxHeartbeats 4000000 in
set_option maxRecDepth 100000 in
theorem V_restoreSnapshot {l : zL} {d kc ks : Nat} {h : Nat → va_E} {F : Nat → Int64} {sR : Nat → Int32} {aR : Nat → Nat → Int32} {cm : Value} {o u : Nat → Nat → Int32} {s : Nat → Nat → Int32} {a : Nat → Nat → Nat → Int32} {g : zGs} {Q : zQ} (hC : cI g o u s a) (hq : ∀ t v g2 cm2 o2 u2 s2 a2 F', f_restoreSnapshot g = (t, v, g2) → cI g2 o2 u2 s2 a2 → (t = 0 → F' 0 = v.toInt64) → Q (.inl (some (.int t))) 104 (lW h F' sR aR cm2 o2 u2 s2 a2)) : Zj l mL_restoreSnapshot (d + 13) (kc + 3) (ks + 18) 0 [(0, .ref 0), (1, .ref 103)] [] 104 (lW h F sR aR cm o u s a) Q := by
  refine z_aload_n (j := 1) dL_restoreSnapshot_0 rfl ?_
  refine z_iconst (v := 0) dL_restoreSnapshot_1 (by decide) ?_
  refine z_aload_n (j := 0) dL_restoreSnapshot_2 rfl ?_
  refine z_tryK [] (0 + 3) (0 + 18) kc ks yoX7_restoreSnapshot yvX7_restoreSnapshot rfl (by decide) lL_43 (by decide) lW_0 rfl rfl (Nat.le_of_ble_eq_true rfl) (Nat.le_of_ble_eq_true rfl) dL_restoreSnapshot_3 (by omega) (by omega) (z_room (by omega) (Nat.le_refl _) (Nat.le_refl _) (K_restoreSnapshot (d := 0) (by decide) hC (fun t v g2 cm2 o2 u2 s2 a2 hf hC2 => ?_)))
  show zkt mL_restoreSnapshot l _ kc ks 3 _ _ 104 Q (oc NSE ISE t v) 104 (lW h F sR aR cm2 o2 u2 s2 a2)
  rcases T_restoreSnapshot hf with rfl | rfl
  · rw [oc_0]
    refine ⟨rfl, ?_⟩
    refine z_i2l dL_restoreSnapshot_6 ?_
    refine l_ast dL_restoreSnapshot_7 (fun F' hF' => ?_)
    refine z_goto (tgt := 14) dL_restoreSnapshot_8 (by decide) ?_
    refine z_iconst (v := 0) dL_restoreSnapshot_14 (by decide) ?_
    exact z_iret rfl dL_restoreSnapshot_15 (hq 0 v g2 cm2 o2 u2 s2 a2 F' hf hC2 (fun _ => hF'))
  · rw [oc_1]
    exact ⟨rfl, 1, zC_L_restoreSnapshot_1, hq 1 v g2 cm2 o2 u2 s2 a2 F hf hC2 (fun e => absurd e (by decide))⟩

set_option maxHeartbeats 4000000 in
set_option maxRecDepth 100000 in
theorem V_setMultiplier {l : zL} {d kc ks : Nat} {h : Nat → va_E} {F : Nat → Int64} {sR : Nat → Int32} {aR : Nat → Nat → Int32} {cm : Value} {o u : Nat → Nat → Int32} {s : Nat → Nat → Int32} {a : Nat → Nat → Nat → Int32} {g : zGs} {Q : zQ} {p : Int32} (hC : cI g o u s a) (hq : ∀ t v g2 cm2 o2 u2 s2 a2 F', f_setMultiplier g p = (t, v, g2) → cI g2 o2 u2 s2 a2 → (t = 0 → F' 0 = v.toInt64) → Q (.inl (some (.int t))) 104 (lW h F' sR aR cm2 o2 u2 s2 a2)) : Zj l mL_setMultiplier (d + 13) (kc + 3) (ks + 18) 0 [(0, .ref 0), (1, .int p), (2, .ref 103)] [] 104 (lW h F sR aR cm o u s a) Q := by
  refine z_aload_n (j := 2) dL_setMultiplier_0 rfl ?_
  refine z_iconst (v := 0) dL_setMultiplier_1 (by decide) ?_
  refine z_aload_n (j := 0) dL_setMultiplier_2 rfl ?_
  refine z_iload_n (j := 1) dL_setMultiplier_3 rfl ?_
  refine z_tryK [.int p] (0 + 3) (0 + 18) kc ks yoX7_setMultiplier yvX7_setMultiplier rfl (by decide) lL_36 (by decide) lW_0 rfl rfl (Nat.le_of_ble_eq_true rfl) (Nat.le_of_ble_eq_true rfl) dL_setMultiplier_4 (by omega) (by omega) (z_room (by omega) (Nat.le_refl _) (Nat.le_refl _) (K_setMultiplier (d := 0) (by decide) hC (fun t v g2 cm2 o2 u2 s2 a2 hf hC2 => ?_)))
  show zkt mL_setMultiplier l _ kc ks 4 _ _ 104 Q (oc IAE ISE t v) 104 (lW h F sR aR cm2 o2 u2 s2 a2)
  rcases T_setMultiplier hf with rfl | rfl | rfl
  · rw [oc_0]
    refine ⟨rfl, ?_⟩
    refine z_i2l dL_setMultiplier_7 ?_
    refine l_ast dL_setMultiplier_8 (fun F' hF' => ?_)
    refine z_goto (tgt := 18) dL_setMultiplier_9 (by decide) ?_
    refine z_iconst (v := 0) dL_setMultiplier_18 (by decide) ?_
    exact z_iret rfl dL_setMultiplier_19 (hq 0 v g2 cm2 o2 u2 s2 a2 F' hf hC2 (fun _ => hF'))
  · rw [oc_1]
    exact ⟨rfl, 1, zC_L_setMultiplier_1, hq 1 v g2 cm2 o2 u2 s2 a2 F hf hC2 (fun e => absurd e (by decide))⟩
  · rw [oc_2]
    exact ⟨rfl, 2, zC_L_setMultiplier_2, hq 2 v g2 cm2 o2 u2 s2 a2 F hf hC2 (fun e => absurd e (by decide))⟩

set_option maxHeartbeats 4000000 in
set_option maxRecDepth 100000 in
theorem V_setNeighbourhood {l : zL} {d kc ks : Nat} {h : Nat → va_E} {F : Nat → Int64} {sR : Nat → Int32} {aR : Nat → Nat → Int32} {cm : Value} {o u : Nat → Nat → Int32} {s : Nat → Nat → Int32} {a : Nat → Nat → Nat → Int32} {g : zGs} {Q : zQ} {p : Int32} (hC : cI g o u s a) (hq : ∀ t v g2 cm2 o2 u2 s2 a2 F', f_setNeighbourhood g p = (t, v, g2) → cI g2 o2 u2 s2 a2 → (t = 0 → F' 0 = v.toInt64) → Q (.inl (some (.int t))) 104 (lW h F' sR aR cm2 o2 u2 s2 a2)) : Zj l mL_setNeighbourhood (d + 13) (kc + 3) (ks + 18) 0 [(0, .ref 0), (1, .int p), (2, .ref 103)] [] 104 (lW h F sR aR cm o u s a) Q := by
  refine z_aload_n (j := 2) dL_setNeighbourhood_0 rfl ?_
  refine z_iconst (v := 0) dL_setNeighbourhood_1 (by decide) ?_
  refine z_aload_n (j := 0) dL_setNeighbourhood_2 rfl ?_
  refine z_iload_n (j := 1) dL_setNeighbourhood_3 rfl ?_
  refine z_tryK [.int p] (0 + 3) (0 + 18) kc ks yoX7_setNeighbourhood yvX7_setNeighbourhood rfl (by decide) lL_33 (by decide) lW_0 rfl rfl (Nat.le_of_ble_eq_true rfl) (Nat.le_of_ble_eq_true rfl) dL_setNeighbourhood_4 (by omega) (by omega) (z_room (by omega) (Nat.le_refl _) (Nat.le_refl _) (K_setNeighbourhood (d := 0) (by decide) hC (fun t v g2 cm2 o2 u2 s2 a2 hf hC2 => ?_)))
  show zkt mL_setNeighbourhood l _ kc ks 4 _ _ 104 Q (oc IAE ISE t v) 104 (lW h F sR aR cm2 o2 u2 s2 a2)
  rcases T_setNeighbourhood hf with rfl | rfl | rfl
  · rw [oc_0]
    refine ⟨rfl, ?_⟩
    refine z_i2l dL_setNeighbourhood_7 ?_
    refine l_ast dL_setNeighbourhood_8 (fun F' hF' => ?_)
    refine z_goto (tgt := 18) dL_setNeighbourhood_9 (by decide) ?_
    refine z_iconst (v := 0) dL_setNeighbourhood_18 (by decide) ?_
    exact z_iret rfl dL_setNeighbourhood_19 (hq 0 v g2 cm2 o2 u2 s2 a2 F' hf hC2 (fun _ => hF'))
  · rw [oc_1]
    exact ⟨rfl, 1, zC_L_setNeighbourhood_1, hq 1 v g2 cm2 o2 u2 s2 a2 F hf hC2 (fun e => absurd e (by decide))⟩
  · rw [oc_2]
    exact ⟨rfl, 2, zC_L_setNeighbourhood_2, hq 2 v g2 cm2 o2 u2 s2 a2 F hf hC2 (fun e => absurd e (by decide))⟩

set_option maxHeartbeats 4000000 in
set_option maxRecDepth 100000 in
theorem V_truncateInput {l : zL} {d kc ks : Nat} {h : Nat → va_E} {F : Nat → Int64} {sR : Nat → Int32} {aR : Nat → Nat → Int32} {cm : Value} {o u : Nat → Nat → Int32} {s : Nat → Nat → Int32} {a : Nat → Nat → Nat → Int32} {g : zGs} {Q : zQ} {p : Int32} (hC : cI g o u s a) (hq : ∀ t v g2 cm2 o2 u2 s2 a2 F', f_truncateInput g p = (t, v, g2) → cI g2 o2 u2 s2 a2 → (t = 0 → F' 0 = v.toInt64) → Q (.inl (some (.int t))) 104 (lW h F' sR aR cm2 o2 u2 s2 a2)) : Zj l mL_truncateInput (d + 13) (kc + 3) (ks + 18) 0 [(0, .ref 0), (1, .int p), (2, .ref 103)] [] 104 (lW h F sR aR cm o u s a) Q := by
  refine z_aload_n (j := 2) dL_truncateInput_0 rfl ?_
  refine z_iconst (v := 0) dL_truncateInput_1 (by decide) ?_
  refine z_aload_n (j := 0) dL_truncateInput_2 rfl ?_
  refine z_iload_n (j := 1) dL_truncateInput_3 rfl ?_
  refine z_tryK [.int p] (0 + 3) (0 + 18) kc ks yoX7_truncateInput yvX7_truncateInput rfl (by decide) lL_7 (by decide) lW_0 rfl rfl (Nat.le_of_ble_eq_true rfl) (Nat.le_of_ble_eq_true rfl) dL_truncateInput_4 (by omega) (by omega) (z_room (by omega) (Nat.le_refl _) (Nat.le_refl _) (K_truncateInput (d := 0) (by decide) hC (fun t v g2 cm2 o2 u2 s2 a2 hf hC2 => ?_)))
  show zkt mL_truncateInput l _ kc ks 4 _ _ 104 Q (oc IAE ISE t v) 104 (lW h F sR aR cm2 o2 u2 s2 a2)
  rcases T_truncateInput hf with rfl | rfl
  · rw [oc_0]
    refine ⟨rfl, ?_⟩
    refine z_i2l dL_truncateInput_7 ?_
    refine l_ast dL_truncateInput_8 (fun F' hF' => ?_)
    refine z_goto (tgt := 15) dL_truncateInput_9 (by decide) ?_
    refine z_iconst (v := 0) dL_truncateInput_15 (by decide) ?_
    exact z_iret rfl dL_truncateInput_16 (hq 0 v g2 cm2 o2 u2 s2 a2 F' hf hC2 (fun _ => hF'))
  · rw [oc_1]
    exact ⟨rfl, 1, zC_L_truncateInput_1, hq 1 v g2 cm2 o2 u2 s2 a2 F hf hC2 (fun e => absurd e (by decide))⟩

set_option maxHeartbeats 4000000 in
set_option maxRecDepth 100000 in
theorem V_valueAt {l : zL} {d kc ks : Nat} {h : Nat → va_E} {F : Nat → Int64} {sR : Nat → Int32} {aR : Nat → Nat → Int32} {cm : Value} {o u : Nat → Nat → Int32} {s : Nat → Nat → Int32} {a : Nat → Nat → Nat → Int32} {g : zGs} {Q : zQ} {p : Int32} (hC : cI g o u s a) (hq : ∀ t v g2 cm2 o2 u2 s2 a2 F', f_valueAt g p = (t, v, g2) → cI g2 o2 u2 s2 a2 → (t = 0 → F' 0 = v.toInt64) → Q (.inl (some (.int t))) 104 (lW h F' sR aR cm2 o2 u2 s2 a2)) : Zj l mL_valueAt (d + 13) (kc + 3) (ks + 18) 0 [(0, .ref 0), (1, .int p), (2, .ref 103)] [] 104 (lW h F sR aR cm o u s a) Q := by
  refine z_aload_n (j := 2) dL_valueAt_0 rfl ?_
  refine z_iconst (v := 0) dL_valueAt_1 (by decide) ?_
  refine z_aload_n (j := 0) dL_valueAt_2 rfl ?_
  refine z_iload_n (j := 1) dL_valueAt_3 rfl ?_
  refine z_tryK [.int p] (0 + 3) (0 + 18) kc ks yoX7_valueAt yvX7_valueAt rfl (by decide) lL_51 (by decide) lW_0 rfl rfl (Nat.le_of_ble_eq_true rfl) (Nat.le_of_ble_eq_true rfl) dL_valueAt_4 (by omega) (by omega) (z_room (by omega) (Nat.le_refl _) (Nat.le_refl _) (K_valueAt (d := 0) (by decide) hC (fun t v g2 cm2 o2 u2 s2 a2 hf hC2 => ?_)))
  show zkt mL_valueAt l _ kc ks 4 _ _ 104 Q (oc IOE ISE t v) 104 (lW h F sR aR cm2 o2 u2 s2 a2)
  rcases T_valueAt hf with rfl | rfl
  · rw [oc_0]
    refine ⟨rfl, ?_⟩
    refine z_i2l dL_valueAt_7 ?_
    refine l_ast dL_valueAt_8 (fun F' hF' => ?_)
    refine z_goto (tgt := 15) dL_valueAt_9 (by decide) ?_
    refine z_iconst (v := 0) dL_valueAt_15 (by decide) ?_
    exact z_iret rfl dL_valueAt_16 (hq 0 v g2 cm2 o2 u2 s2 a2 F' hf hC2 (fun _ => hF'))
  · rw [oc_1]
    exact ⟨rfl, 1, zC_L_valueAt_1, hq 1 v g2 cm2 o2 u2 s2 a2 F hf hC2 (fun e => absurd e (by decide))⟩

set_option maxHeartbeats 4000000 in
set_option maxRecDepth 100000 in
theorem V_valueOf {l : zL} {d kc ks : Nat} {h : Nat → va_E} {F : Nat → Int64} {sR : Nat → Int32} {aR : Nat → Nat → Int32} {cm : Value} {o u : Nat → Nat → Int32} {s : Nat → Nat → Int32} {a : Nat → Nat → Nat → Int32} {g : zGs} {Q : zQ} {p : Int32} (hC : cI g o u s a) (hq : ∀ t v g2 cm2 o2 u2 s2 a2 F', f_valueOf g p = (t, v, g2) → cI g2 o2 u2 s2 a2 → (t = 0 → F' 0 = v.toInt64) → Q (.inl (some (.int t))) 104 (lW h F' sR aR cm2 o2 u2 s2 a2)) : Zj l mL_valueOf (d + 13) (kc + 3) (ks + 18) 0 [(0, .ref 0), (1, .int p), (2, .ref 103)] [] 104 (lW h F sR aR cm o u s a) Q := by
  refine z_aload_n (j := 2) dL_valueOf_0 rfl ?_
  refine z_iconst (v := 0) dL_valueOf_1 (by decide) ?_
  refine z_aload_n (j := 0) dL_valueOf_2 rfl ?_
  refine z_iload_n (j := 1) dL_valueOf_3 rfl ?_
  refine z_tryK [.int p] (0 + 3) (0 + 18) kc ks yoX7_valueOf yvX7_valueOf rfl (by decide) lL_69 (by decide) lW_0 rfl rfl (Nat.le_of_ble_eq_true rfl) (Nat.le_of_ble_eq_true rfl) dL_valueOf_4 (by omega) (by omega) (z_room (by omega) (Nat.le_refl _) (Nat.le_refl _) (K_valueOf (d := 0) (by decide) hC (fun t v g2 cm2 o2 u2 s2 a2 hf hC2 => ?_)))
  show zkt mL_valueOf l _ kc ks 4 _ _ 104 Q (oc IAE ISE t v) 104 (lW h F sR aR cm2 o2 u2 s2 a2)
  rcases T_valueOf hf with rfl | rfl
  · rw [oc_0]
    refine ⟨rfl, ?_⟩
    refine z_i2l dL_valueOf_7 ?_
    refine l_ast dL_valueOf_8 (fun F' hF' => ?_)
    refine z_goto (tgt := 15) dL_valueOf_9 (by decide) ?_
    refine z_iconst (v := 0) dL_valueOf_15 (by decide) ?_
    exact z_iret rfl dL_valueOf_16 (hq 0 v g2 cm2 o2 u2 s2 a2 F' hf hC2 (fun _ => hF'))
  · rw [oc_1]
    exact ⟨rfl, 1, zC_L_valueOf_1, hq 1 v g2 cm2 o2 u2 s2 a2 F hf hC2 (fun e => absurd e (by decide))⟩

set_option maxHeartbeats 4000000 in
set_option maxRecDepth 100000 in
theorem V_whyNoAdd {l : zL} {d kc ks : Nat} {h : Nat → va_E} {F : Nat → Int64} {sR : Nat → Int32} {aR : Nat → Nat → Int32} {cm : Value} {o u : Nat → Nat → Int32} {s : Nat → Nat → Int32} {a : Nat → Nat → Nat → Int32} {g : zGs} {Q : zQ} {p : Int32} (hC : cI g o u s a) (hq : ∀ t v g2 cm2 o2 u2 s2 a2 F', f_whyNoAdd g p = (t, v, g2) → cI g2 o2 u2 s2 a2 → (t = 0 → F' 0 = v.toInt64) → Q (.inl (some (.int t))) 104 (lW h F' sR aR cm2 o2 u2 s2 a2)) : Zj l mL_whyNoAdd (d + 13) (kc + 3) (ks + 18) 0 [(0, .ref 0), (1, .int p), (2, .ref 103)] [] 104 (lW h F sR aR cm o u s a) Q := by
  refine z_aload_n (j := 2) dL_whyNoAdd_0 rfl ?_
  refine z_iconst (v := 0) dL_whyNoAdd_1 (by decide) ?_
  refine z_aload_n (j := 0) dL_whyNoAdd_2 rfl ?_
  refine z_iload_n (j := 1) dL_whyNoAdd_3 rfl ?_
  refine z_tryK [.int p] (0 + 3) (0 + 18) kc ks yoX7_whyNoAdd yvX7_whyNoAdd rfl (by decide) lL_81 (by decide) lW_0 rfl rfl (Nat.le_of_ble_eq_true rfl) (Nat.le_of_ble_eq_true rfl) dL_whyNoAdd_4 (by omega) (by omega) (z_room (by omega) (Nat.le_refl _) (Nat.le_refl _) (K_whyNoAdd (d := 0) (by decide) hC (fun t v g2 cm2 o2 u2 s2 a2 hf hC2 => ?_)))
  show zkt mL_whyNoAdd l _ kc ks 4 _ _ 104 Q (oc IAE ISE t v) 104 (lW h F sR aR cm2 o2 u2 s2 a2)
  rcases T_whyNoAdd hf with rfl | rfl
  · rw [oc_0]
    refine ⟨rfl, ?_⟩
    refine z_i2l dL_whyNoAdd_7 ?_
    refine l_ast dL_whyNoAdd_8 (fun F' hF' => ?_)
    refine z_goto (tgt := 15) dL_whyNoAdd_9 (by decide) ?_
    refine z_iconst (v := 0) dL_whyNoAdd_15 (by decide) ?_
    exact z_iret rfl dL_whyNoAdd_16 (hq 0 v g2 cm2 o2 u2 s2 a2 F' hf hC2 (fun _ => hF'))
  · rw [oc_1]
    exact ⟨rfl, 1, zC_L_whyNoAdd_1, hq 1 v g2 cm2 o2 u2 s2 a2 F hf hC2 (fun e => absurd e (by decide))⟩
