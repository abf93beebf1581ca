/-! THE CALLS OF THE LAW: each with its answer -/
theorem lL_104 : Cond.constantLong RL 104 100 ∈ zTs := zIn 669 (by decide +kernel) (by decide +kernel)
theorem lL_106 : Cond.constantLong RL 106 1000 ∈ zTs := zIn 670 (by decide +kernel) (by decide +kernel)
theorem lL_100 : Cond.constantLong RL 100 7 ∈ zTs := zIn 679 (by decide +kernel) (by decide +kernel)
theorem lL_115 : Cond.constantLong RL 115 11 ∈ zTs := zIn 680 (by decide +kernel) (by decide +kernel)
theorem lL_120 : Cond.constantLong RL 120 13 ∈ zTs := zIn 685 (by decide +kernel) (by decide +kernel)
theorem lL_125 : Cond.constantLong RL 125 17 ∈ zTs := zIn 690 (by decide +kernel) (by decide +kernel)
theorem lL_130 : Cond.constantLong RL 130 19 ∈ zTs := zIn 695 (by decide +kernel) (by decide +kernel)
theorem lL_132 : Cond.constantLong RL 132 23 ∈ zTs := zIn 696 (by decide +kernel) (by decide +kernel)
theorem lL_134 : Cond.constantLong RL 134 31 ∈ zTs := zIn 697 (by decide +kernel) (by decide +kernel)
theorem lL_136 : Cond.constantLong RL 136 20000 ∈ zTs := zIn 698 (by decide +kernel) (by decide +kernel)
theorem lL_102 : Cond.constantLong RL 102 3 ∈ zTs := zIn 705 (by decide +kernel) (by decide +kernel)
theorem V_bucketCount {l : zL} {d kc ks n : Nat} {h : Nat → va_E} {cm : Value} {o u : Nat → Nat → Int32} {s : Nat → Nat → Int32} {a : Nat → Nat → Nat → Int32} {g : zGs} {Q : zQ} {v : Int32} {g' : zGs} (hn : 89 ≤ n) (hno : ∀ E n' h', ¬ Q (.inr E) n' h') (hC : cI g o u s a) (hf : f_bucketCount g = (0, v, g')) (hq : ∀ cm' o' u' s' a', cI g' o' u' s' a' → Q (.inl (some (.int v))) n (gW h cm' o' u' s' a')) : Zj l mX7_bucketCount (d + 7) kc ks 0 [(0, .ref 0)] [] n (gW h cm o u s a) Q :=
  K_bucketCount hn hC (fun t v1 g1 cm' o' u' s' a' e hC' => by
    rw [hf] at e
    cases e
    exact hq cm' o' u' s' a' hC')
theorem V_entryCount {l : zL} {d kc ks n : Nat} {h : Nat → va_E} {cm : Value} {o u : Nat → Nat → Int32} {s : Nat → Nat → Int32} {a : Nat → Nat → Nat → Int32} {g : zGs} {Q : zQ} {v : Int32} {g' : zGs} (hn : 89 ≤ n) (hno : ∀ E n' h', ¬ Q (.inr E) n' h') (hC : cI g o u s a) (hf : f_entryCount g = (0, v, g')) (hq : ∀ cm' o' u' s' a', cI g' o' u' s' a' → Q (.inl (some (.int v))) n (gW h cm' o' u' s' a')) : Zj l mX7_entryCount (d + 7) kc ks 0 [(0, .ref 0)] [] n (gW h cm o u s a) Q :=
  K_entryCount hn hC (fun t v1 g1 cm' o' u' s' a' e hC' => by
    rw [hf] at e
    cases e
    exact hq cm' o' u' s' a' hC')
theorem V_neighbourhood {l : zL} {d kc ks n : Nat} {h : Nat → va_E} {cm : Value} {o u : Nat → Nat → Int32} {s : Nat → Nat → Int32} {a : Nat → Nat → Nat → Int32} {g : zGs} {Q : zQ} {v : Int32} {g' : zGs} (hn : 89 ≤ n) (hno : ∀ E n' h', ¬ Q (.inr E) n' h') (hC : cI g o u s a) (hf : f_neighbourhood g = (0, v, g')) (hq : ∀ cm' o' u' s' a', cI g' o' u' s' a' → Q (.inl (some (.int v))) n (gW h cm' o' u' s' a')) : Zj l mX7_neighbourhood (d + 7) kc ks 0 [(0, .ref 0)] [] n (gW h cm o u s a) Q :=
  K_neighbourhood hn hC (fun t v1 g1 cm' o' u' s' a' e hC' => by
    rw [hf] at e
    cases e
    exact hq cm' o' u' s' a' hC')
theorem V_multiplier {l : zL} {d kc ks n : Nat} {h : Nat → va_E} {cm : Value} {o u : Nat → Nat → Int32} {s : Nat → Nat → Int32} {a : Nat → Nat → Nat → Int32} {g : zGs} {Q : zQ} {v : Int32} {g' : zGs} (hn : 89 ≤ n) (hno : ∀ E n' h', ¬ Q (.inr E) n' h') (hC : cI g o u s a) (hf : f_multiplier g = (0, v, g')) (hq : ∀ cm' o' u' s' a', cI g' o' u' s' a' → Q (.inl (some (.int v))) n (gW h cm' o' u' s' a')) : Zj l mX7_multiplier (d + 7) kc ks 0 [(0, .ref 0)] [] n (gW h cm o u s a) Q :=
  K_multiplier hn hC (fun t v1 g1 cm' o' u' s' a' e hC' => by
    rw [hf] at e
    cases e
    exact hq cm' o' u' s' a' hC')
theorem V_isPulling {l : zL} {d kc ks n : Nat} {h : Nat → va_E} {cm : Value} {o u : Nat → Nat → Int32} {s : Nat → Nat → Int32} {a : Nat → Nat → Nat → Int32} {g : zGs} {Q : zQ} {v : Int32} {g' : zGs} (hn : 89 ≤ n) (hno : ∀ E n' h', ¬ Q (.inr E) n' h') (hC : cI g o u s a) (hf : f_isPulling g = (0, v, g')) (hq : ∀ cm' o' u' s' a', cI g' o' u' s' a' → Q (.inl (some (.int v))) n (gW h cm' o' u' s' a')) : Zj l mX7_isPulling (d + 7) kc ks 0 [(0, .ref 0)] [] n (gW h cm o u s a) Q :=
  K_isPulling hn hC (fun t v1 g1 cm' o' u' s' a' e hC' => by
    rw [hf] at e
    cases e
    exact hq cm' o' u' s' a' hC')
theorem V_undoCount {l : zL} {d kc ks n : Nat} {h : Nat → va_E} {cm : Value} {o u : Nat → Nat → Int32} {s : Nat → Nat → Int32} {a : Nat → Nat → Nat → Int32} {g : zGs} {Q : zQ} {v : Int32} {g' : zGs} (hn : 89 ≤ n) (hno : ∀ E n' h', ¬ Q (.inr E) n' h') (hC : cI g o u s a) (hf : f_undoCount g = (0, v, g')) (hq : ∀ cm' o' u' s' a', cI g' o' u' s' a' → Q (.inl (some (.int v))) n (gW h cm' o' u' s' a')) : Zj l mX7_undoCount (d + 7) kc ks 0 [(0, .ref 0)] [] n (gW h cm o u s a) Q :=
  K_undoCount hn hC (fun t v1 g1 cm' o' u' s' a' e hC' => by
    rw [hf] at e
    cases e
    exact hq cm' o' u' s' a' hC')
theorem V_moves {l : zL} {d kc ks n : Nat} {h : Nat → va_E} {cm : Value} {o u : Nat → Nat → Int32} {s : Nat → Nat → Int32} {a : Nat → Nat → Nat → Int32} {g : zGs} {Q : zQ} {v : Int32} {g' : zGs} (hn : 89 ≤ n) (hno : ∀ E n' h', ¬ Q (.inr E) n' h') (hC : cI g o u s a) (hf : f_told 4 g = (0, v, g')) (hq : ∀ cm' o' u' s' a', cI g' o' u' s' a' → Q (.inl (some (.int v))) n (gW h cm' o' u' s' a')) : Zj l mX7_moves (d + 7) kc ks 0 [(0, .ref 0)] [] n (gW h cm o u s a) Q :=
  K_moves hn hC (fun t v1 g1 cm' o' u' s' a' e hC' => by
    rw [hf] at e
    cases e
    exact hq cm' o' u' s' a' hC')
theorem V_pulls {l : zL} {d kc ks n : Nat} {h : Nat → va_E} {cm : Value} {o u : Nat → Nat → Int32} {s : Nat → Nat → Int32} {a : Nat → Nat → Nat → Int32} {g : zGs} {Q : zQ} {v : Int32} {g' : zGs} (hn : 89 ≤ n) (hno : ∀ E n' h', ¬ Q (.inr E) n' h') (hC : cI g o u s a) (hf : f_told 5 g = (0, v, g')) (hq : ∀ cm' o' u' s' a', cI g' o' u' s' a' → Q (.inl (some (.int v))) n (gW h cm' o' u' s' a')) : Zj l mX7_pulls (d + 7) kc ks 0 [(0, .ref 0)] [] n (gW h cm o u s a) Q :=
  K_pulls hn hC (fun t v1 g1 cm' o' u' s' a' e hC' => by
    rw [hf] at e
    cases e
    exact hq cm' o' u' s' a' hC')
theorem V_growths {l : zL} {d kc ks n : Nat} {h : Nat → va_E} {cm : Value} {o u : Nat → Nat → Int32} {s : Nat → Nat → Int32} {a : Nat → Nat → Nat → Int32} {g : zGs} {Q : zQ} {v : Int32} {g' : zGs} (hn : 89 ≤ n) (hno : ∀ E n' h', ¬ Q (.inr E) n' h') (hC : cI g o u s a) (hf : f_told 6 g = (0, v, g')) (hq : ∀ cm' o' u' s' a', cI g' o' u' s' a' → Q (.inl (some (.int v))) n (gW h cm' o' u' s' a')) : Zj l mX7_growths (d + 7) kc ks 0 [(0, .ref 0)] [] n (gW h cm o u s a) Q :=
  K_growths hn hC (fun t v1 g1 cm' o' u' s' a' e hC' => by
    rw [hf] at e
    cases e
    exact hq cm' o' u' s' a' hC')
theorem V_addedCount {l : zL} {d kc ks n : Nat} {h : Nat → va_E} {cm : Value} {o u : Nat → Nat → Int32} {s : Nat → Nat → Int32} {a : Nat → Nat → Nat → Int32} {g : zGs} {Q : zQ} {v : Int32} {g' : zGs} (hn : 89 ≤ n) (hno : ∀ E n' h', ¬ Q (.inr E) n' h') (hC : cI g o u s a) (hf : f_told 7 g = (0, v, g')) (hq : ∀ cm' o' u' s' a', cI g' o' u' s' a' → Q (.inl (some (.int v))) n (gW h cm' o' u' s' a')) : Zj l mX7_addedCount (d + 7) kc ks 0 [(0, .ref 0)] [] n (gW h cm o u s a) Q :=
  K_addedCount hn hC (fun t v1 g1 cm' o' u' s' a' e hC' => by
    rw [hf] at e
    cases e
    exact hq cm' o' u' s' a' hC')
theorem V_removedCount {l : zL} {d kc ks n : Nat} {h : Nat → va_E} {cm : Value} {o u : Nat → Nat → Int32} {s : Nat → Nat → Int32} {a : Nat → Nat → Nat → Int32} {g : zGs} {Q : zQ} {v : Int32} {g' : zGs} (hn : 89 ≤ n) (hno : ∀ E n' h', ¬ Q (.inr E) n' h') (hC : cI g o u s a) (hf : f_told 8 g = (0, v, g')) (hq : ∀ cm' o' u' s' a', cI g' o' u' s' a' → Q (.inl (some (.int v))) n (gW h cm' o' u' s' a')) : Zj l mX7_removedCount (d + 7) kc ks 0 [(0, .ref 0)] [] n (gW h cm o u s a) Q :=
  K_removedCount hn hC (fun t v1 g1 cm' o' u' s' a' e hC' => by
    rw [hf] at e
    cases e
    exact hq cm' o' u' s' a' hC')
theorem V_keyAt {l : zL} {d kc ks n : Nat} {h : Nat → va_E} {cm : Value} {o u : Nat → Nat → Int32} {s : Nat → Nat → Int32} {a : Nat → Nat → Nat → Int32} {g : zGs} {Q : zQ} {p : Int32} {v : Int32} {g' : zGs} (hn : 89 ≤ n) (hno : ∀ E n' h', ¬ Q (.inr E) n' h') (hC : cI g o u s a) (hf : f_keyAt g p = (0, v, g')) (hq : ∀ cm' o' u' s' a', cI g' o' u' s' a' → Q (.inl (some (.int v))) n (gW h cm' o' u' s' a')) : Zj l mX7_keyAt (d + 7) kc ks 0 [(0, .ref 0), (1, .int p)] [] n (gW h cm o u s a) Q :=
  K_keyAt hn hno hC (fun t v1 g1 cm' o' u' s' a' e hC' => by
    rw [hf] at e
    cases e
    exact hq cm' o' u' s' a' hC')
theorem V_valueAt {l : zL} {d kc ks n : Nat} {h : Nat → va_E} {cm : Value} {o u : Nat → Nat → Int32} {s : Nat → Nat → Int32} {a : Nat → Nat → Nat → Int32} {g : zGs} {Q : zQ} {p : Int32} {v : Int32} {g' : zGs} (hn : 89 ≤ n) (hno : ∀ E n' h', ¬ Q (.inr E) n' h') (hC : cI g o u s a) (hf : f_valueAt g p = (0, v, g')) (hq : ∀ cm' o' u' s' a', cI g' o' u' s' a' → Q (.inl (some (.int v))) n (gW h cm' o' u' s' a')) : Zj l mX7_valueAt (d + 7) kc ks 0 [(0, .ref 0), (1, .int p)] [] n (gW h cm o u s a) Q :=
  K_valueAt hn hno hC (fun t v1 g1 cm' o' u' s' a' e hC' => by
    rw [hf] at e
    cases e
    exact hq cm' o' u' s' a' hC')
theorem V_hopBits {l : zL} {d kc ks n : Nat} {h : Nat → va_E} {cm : Value} {o u : Nat → Nat → Int32} {s : Nat → Nat → Int32} {a : Nat → Nat → Nat → Int32} {g : zGs} {Q : zQ} {p : Int32} {v : Int32} {g' : zGs} (hn : 89 ≤ n) (hno : ∀ E n' h', ¬ Q (.inr E) n' h') (hC : cI g o u s a) (hf : f_hopBits g p = (0, v, g')) (hq : ∀ cm' o' u' s' a', cI g' o' u' s' a' → Q (.inl (some (.int v))) n (gW h cm' o' u' s' a')) : Zj l mX7_hopBits (d + 7) kc ks 0 [(0, .ref 0), (1, .int p)] [] n (gW h cm o u s a) Q :=
  K_hopBits hn hno hC (fun t v1 g1 cm' o' u' s' a' e hC' => by
    rw [hf] at e
    cases e
    exact hq cm' o' u' s' a' hC')
theorem V_entriesOf {l : zL} {d kc ks n : Nat} {h : Nat → va_E} {cm : Value} {o u : Nat → Nat → Int32} {s : Nat → Nat → Int32} {a : Nat → Nat → Nat → Int32} {g : zGs} {Q : zQ} {p : Int32} {v : Int32} {g' : zGs} (hn : 89 ≤ n) (hno : ∀ E n' h', ¬ Q (.inr E) n' h') (hC : cI g o u s a) (hf : f_entriesOf g p = (0, v, g')) (hq : ∀ cm' o' u' s' a', cI g' o' u' s' a' → Q (.inl (some (.int v))) n (gW h cm' o' u' s' a')) : Zj l mX7_entriesOf (d + 7) kc ks 0 [(0, .ref 0), (1, .int p)] [] n (gW h cm o u s a) Q :=
  K_entriesOf hn hno hC (fun t v1 g1 cm' o' u' s' a' e hC' => by
    rw [hf] at e
    cases e
    exact hq cm' o' u' s' a' hC')
theorem V_longestDistance {l : zL} {d kc ks n : Nat} {h : Nat → va_E} {cm : Value} {o u : Nat → Nat → Int32} {s : Nat → Nat → Int32} {a : Nat → Nat → Nat → Int32} {g : zGs} {Q : zQ} {v : Int32} {g' : zGs} (hn : 89 ≤ n) (hno : ∀ E n' h', ¬ Q (.inr E) n' h') (hC : cI g o u s a) (hf : f_longestDistance g = (0, v, g')) (hq : ∀ cm' o' u' s' a', cI g' o' u' s' a' → Q (.inl (some (.int v))) n (gW h cm' o' u' s' a')) : Zj l mX7_longestDistance (d + 7) kc ks 0 [(0, .ref 0)] [] n (gW h cm o u s a) Q :=
  K_longestDistance hn hC (fun t v1 g1 cm' o' u' s' a' e hC' => by
    rw [hf] at e
    cases e
    exact hq cm' o' u' s' a' hC')
theorem V_sumOfDistances {l : zL} {d kc ks n : Nat} {h : Nat → va_E} {cm : Value} {o u : Nat → Nat → Int32} {s : Nat → Nat → Int32} {a : Nat → Nat → Nat → Int32} {g : zGs} {Q : zQ} {v : Int32} {g' : zGs} (hn : 89 ≤ n) (hno : ∀ E n' h', ¬ Q (.inr E) n' h') (hC : cI g o u s a) (hf : f_sumOfDistances g = (0, v, g')) (hq : ∀ cm' o' u' s' a', cI g' o' u' s' a' → Q (.inl (some (.int v))) n (gW h cm' o' u' s' a')) : Zj l mX7_sumOfDistances (d + 7) kc ks 0 [(0, .ref 0)] [] n (gW h cm o u s a) Q :=
  K_sumOfDistances hn hC (fun t v1 g1 cm' o' u' s' a' e hC' => by
    rw [hf] at e
    cases e
    exact hq cm' o' u' s' a' hC')
theorem V_homeOf {l : zL} {d kc ks n : Nat} {h : Nat → va_E} {cm : Value} {o u : Nat → Nat → Int32} {s : Nat → Nat → Int32} {a : Nat → Nat → Nat → Int32} {g : zGs} {Q : zQ} {p : Int32} {v : Int32} {g' : zGs} (hn : 89 ≤ n) (hno : ∀ E n' h', ¬ Q (.inr E) n' h') (hC : cI g o u s a) (hf : f_homeOf g p = (0, v, g')) (hq : ∀ cm' o' u' s' a', cI g' o' u' s' a' → Q (.inl (some (.int v))) n (gW h cm' o' u' s' a')) : Zj l mX7_homeOf (d + 7) kc ks 0 [(0, .ref 0), (1, .int p)] [] n (gW h cm o u s a) Q :=
  K_homeOf hn hno hC (fun t v1 g1 cm' o' u' s' a' e hC' => by
    rw [hf] at e
    cases e
    exact hq cm' o' u' s' a' hC')
theorem V_bucketOf {l : zL} {d kc ks n : Nat} {h : Nat → va_E} {cm : Value} {o u : Nat → Nat → Int32} {s : Nat → Nat → Int32} {a : Nat → Nat → Nat → Int32} {g : zGs} {Q : zQ} {p : Int32} {v : Int32} {g' : zGs} (hn : 89 ≤ n) (hno : ∀ E n' h', ¬ Q (.inr E) n' h') (hC : cI g o u s a) (hf : f_bucketOf g p = (0, v, g')) (hq : ∀ cm' o' u' s' a', cI g' o' u' s' a' → Q (.inl (some (.int v))) n (gW h cm' o' u' s' a')) : Zj l mX7_bucketOf (d + 7) kc ks 0 [(0, .ref 0), (1, .int p)] [] n (gW h cm o u s a) Q :=
  K_bucketOf hn hno hC (fun t v1 g1 cm' o' u' s' a' e hC' => by
    rw [hf] at e
    cases e
    exact hq cm' o' u' s' a' hC')
theorem V_valueOf {l : zL} {d kc ks n : Nat} {h : Nat → va_E} {cm : Value} {o u : Nat → Nat → Int32} {s : Nat → Nat → Int32} {a : Nat → Nat → Nat → Int32} {g : zGs} {Q : zQ} {p : Int32} {v : Int32} {g' : zGs} (hn : 89 ≤ n) (hno : ∀ E n' h', ¬ Q (.inr E) n' h') (hC : cI g o u s a) (hf : f_valueOf g p = (0, v, g')) (hq : ∀ cm' o' u' s' a', cI g' o' u' s' a' → Q (.inl (some (.int v))) n (gW h cm' o' u' s' a')) : Zj l mX7_valueOf (d + 7) kc ks 0 [(0, .ref 0), (1, .int p)] [] n (gW h cm o u s a) Q :=
  K_valueOf hn hno hC (fun t v1 g1 cm' o' u' s' a' e hC' => by
    rw [hf] at e
    cases e
    exact hq cm' o' u' s' a' hC')
theorem V_distanceOf {l : zL} {d kc ks n : Nat} {h : Nat → va_E} {cm : Value} {o u : Nat → Nat → Int32} {s : Nat → Nat → Int32} {a : Nat → Nat → Nat → Int32} {g : zGs} {Q : zQ} {p : Int32} {v : Int32} {g' : zGs} (hn : 89 ≤ n) (hno : ∀ E n' h', ¬ Q (.inr E) n' h') (hC : cI g o u s a) (hf : f_distanceOf g p = (0, v, g')) (hq : ∀ cm' o' u' s' a', cI g' o' u' s' a' → Q (.inl (some (.int v))) n (gW h cm' o' u' s' a')) : Zj l mX7_distanceOf (d + 7) kc ks 0 [(0, .ref 0), (1, .int p)] [] n (gW h cm o u s a) Q :=
  K_distanceOf hn hno hC (fun t v1 g1 cm' o' u' s' a' e hC' => by
    rw [hf] at e
    cases e
    exact hq cm' o' u' s' a' hC')
theorem V_add {l : zL} {d kc ks n : Nat} {h : Nat → va_E} {cm : Value} {o u : Nat → Nat → Int32} {s : Nat → Nat → Int32} {a : Nat → Nat → Nat → Int32} {g : zGs} {Q : zQ} {p q : Int32} {v : Int32} {g' : zGs} (hn : 89 ≤ n) (hno : ∀ E n' h', ¬ Q (.inr E) n' h') (hC : cI g o u s a) (hf : f_add g p q = (0, v, g')) (hq : ∀ cm' o' u' s' a', cI g' o' u' s' a' → Q (.inl (some (.int v))) n (gW h cm' o' u' s' a')) : Zj l mX7_add (d + 8) kc ks 0 [(0, .ref 0), (1, .int p), (2, .int q)] [] n (gW h cm o u s a) Q :=
  K_add hn hno hC (fun t v1 g1 cm' o' u' s' a' e hC' => by
    rw [hf] at e
    cases e
    exact hq cm' o' u' s' a' hC')
theorem V_put {l : zL} {d kc ks n : Nat} {h : Nat → va_E} {cm : Value} {o u : Nat → Nat → Int32} {s : Nat → Nat → Int32} {a : Nat → Nat → Nat → Int32} {g : zGs} {Q : zQ} {p q : Int32} {v : Int32} {g' : zGs} (hn : 89 ≤ n) (hno : ∀ E n' h', ¬ Q (.inr E) n' h') (hC : cI g o u s a) (hf : f_put g p q = (0, v, g')) (hq : ∀ cm' o' u' s' a', cI g' o' u' s' a' → Q (.inl (some (.int v))) n (gW h cm' o' u' s' a')) : Zj l mX7_put (d + 8) kc ks 0 [(0, .ref 0), (1, .int p), (2, .int q)] [] n (gW h cm o u s a) Q :=
  K_put hn hno hC (fun t v1 g1 cm' o' u' s' a' e hC' => by
    rw [hf] at e
    cases e
    exact hq cm' o' u' s' a' hC')
theorem V_setNeighbourhood {l : zL} {d kc ks n : Nat} {h : Nat → va_E} {cm : Value} {o u : Nat → Nat → Int32} {s : Nat → Nat → Int32} {a : Nat → Nat → Nat → Int32} {g : zGs} {Q : zQ} {p : Int32} {v : Int32} {g' : zGs} (hn : 89 ≤ n) (hno : ∀ E n' h', ¬ Q (.inr E) n' h') (hC : cI g o u s a) (hf : f_setNeighbourhood g p = (0, v, g')) (hq : ∀ cm' o' u' s' a', cI g' o' u' s' a' → Q (.inl (some (.int v))) n (gW h cm' o' u' s' a')) : Zj l mX7_setNeighbourhood (d + 8) kc ks 0 [(0, .ref 0), (1, .int p)] [] n (gW h cm o u s a) Q :=
  K_setNeighbourhood hn hno hC (fun t v1 g1 cm' o' u' s' a' e hC' => by
    rw [hf] at e
    cases e
    exact hq cm' o' u' s' a' hC')
theorem V_setMultiplier {l : zL} {d kc ks n : Nat} {h : Nat → va_E} {cm : Value} {o u : Nat → Nat → Int32} {s : Nat → Nat → Int32} {a : Nat → Nat → Nat → Int32} {g : zGs} {Q : zQ} {p : Int32} {v : Int32} {g' : zGs} (hn : 89 ≤ n) (hno : ∀ E n' h', ¬ Q (.inr E) n' h') (hC : cI g o u s a) (hf : f_setMultiplier g p = (0, v, g')) (hq : ∀ cm' o' u' s' a', cI g' o' u' s' a' → Q (.inl (some (.int v))) n (gW h cm' o' u' s' a')) : Zj l mX7_setMultiplier (d + 8) kc ks 0 [(0, .ref 0), (1, .int p)] [] n (gW h cm o u s a) Q :=
  K_setMultiplier hn hno hC (fun t v1 g1 cm' o' u' s' a' e hC' => by
    rw [hf] at e
    cases e
    exact hq cm' o' u' s' a' hC')
theorem V_grow {l : zL} {d kc ks n : Nat} {h : Nat → va_E} {cm : Value} {o u : Nat → Nat → Int32} {s : Nat → Nat → Int32} {a : Nat → Nat → Nat → Int32} {g : zGs} {Q : zQ} {v : Int32} {g' : zGs} (hn : 89 ≤ n) (hno : ∀ E n' h', ¬ Q (.inr E) n' h') (hC : cI g o u s a) (hf : f_grow g = (0, v, g')) (hq : ∀ cm' o' u' s' a', cI g' o' u' s' a' → Q (.inl (some (.int v))) n (gW h cm' o' u' s' a')) : Zj l mX7_grow (d + 8) kc ks 0 [(0, .ref 0)] [] n (gW h cm o u s a) Q :=
  K_grow hn hno hC (fun t v1 g1 cm' o' u' s' a' e hC' => by
    rw [hf] at e
    cases e
    exact hq cm' o' u' s' a' hC')
theorem V_clear {l : zL} {d kc ks n : Nat} {h : Nat → va_E} {cm : Value} {o u : Nat → Nat → Int32} {s : Nat → Nat → Int32} {a : Nat → Nat → Nat → Int32} {g : zGs} {Q : zQ} {v : Int32} {g' : zGs} (hn : 89 ≤ n) (hno : ∀ E n' h', ¬ Q (.inr E) n' h') (hC : cI g o u s a) (hf : f_clear g = (0, v, g')) (hq : ∀ cm' o' u' s' a', cI g' o' u' s' a' → Q (.inl (some (.int v))) n (gW h cm' o' u' s' a')) : Zj l mX7_clear (d + 8) kc ks 0 [(0, .ref 0)] [] n (gW h cm o u s a) Q :=
  K_clear hn hC (fun t v1 g1 cm' o' u' s' a' e hC' => by
    rw [hf] at e
    cases e
    exact hq cm' o' u' s' a' hC')
theorem V_setPulling {l : zL} {d kc ks n : Nat} {h : Nat → va_E} {cm : Value} {o u : Nat → Nat → Int32} {s : Nat → Nat → Int32} {a : Nat → Nat → Nat → Int32} {g : zGs} {Q : zQ} {p : Int32} {v : Int32} {g' : zGs} (hp : p = 0 ∨ p = 1) (hn : 89 ≤ n) (hno : ∀ E n' h', ¬ Q (.inr E) n' h') (hC : cI g o u s a) (hf : f_setPulling g p = (0, v, g')) (hq : ∀ cm' o' u' s' a', cI g' o' u' s' a' → Q (.inl (some (.int v))) n (gW h cm' o' u' s' a')) : Zj l mX7_setPulling (d + 8) kc ks 0 [(0, .ref 0), (1, .int p)] [] n (gW h cm o u s a) Q :=
  K_setPulling hp hn hC (fun t v1 g1 cm' o' u' s' a' e hC' => by
    rw [hf] at e
    cases e
    exact hq cm' o' u' s' a' hC')
theorem V_remove {l : zL} {d kc ks n : Nat} {h : Nat → va_E} {cm : Value} {o u : Nat → Nat → Int32} {s : Nat → Nat → Int32} {a : Nat → Nat → Nat → Int32} {g : zGs} {Q : zQ} {p : Int32} {v : Int32} {g' : zGs} (hn : 89 ≤ n) (hno : ∀ E n' h', ¬ Q (.inr E) n' h') (hC : cI g o u s a) (hf : f_remove g p = (0, v, g')) (hq : ∀ cm' o' u' s' a', cI g' o' u' s' a' → Q (.inl (some (.int v))) n (gW h cm' o' u' s' a')) : Zj l mX7_remove (d + 8) kc ks 0 [(0, .ref 0), (1, .int p)] [] n (gW h cm o u s a) Q :=
  K_remove hn hno hC (fun t v1 g1 cm' o' u' s' a' e hC' => by
    rw [hf] at e
    cases e
    exact hq cm' o' u' s' a' hC')
theorem V_whyNoAdd {l : zL} {d kc ks n : Nat} {h : Nat → va_E} {cm : Value} {o u : Nat → Nat → Int32} {s : Nat → Nat → Int32} {a : Nat → Nat → Nat → Int32} {g : zGs} {Q : zQ} {p : Int32} {v : Int32} {g' : zGs} (hn : 89 ≤ n) (hno : ∀ E n' h', ¬ Q (.inr E) n' h') (hC : cI g o u s a) (hf : f_whyNoAdd g p = (0, v, g')) (hq : ∀ cm' o' u' s' a', cI g' o' u' s' a' → Q (.inl (some (.int v))) n (gW h cm' o' u' s' a')) : Zj l mX7_whyNoAdd (d + 8) kc ks 0 [(0, .ref 0), (1, .int p)] [] n (gW h cm o u s a) Q :=
  K_whyNoAdd hn hno hC (fun t v1 g1 cm' o' u' s' a' e hC' => by
    rw [hf] at e
    cases e
    exact hq cm' o' u' s' a' hC')
theorem V_bucketsWith {l : zL} {d kc ks n : Nat} {h : Nat → va_E} {cm : Value} {o u : Nat → Nat → Int32} {s : Nat → Nat → Int32} {a : Nat → Nat → Nat → Int32} {g : zGs} {Q : zQ} {p : Int32} {v : Int32} {g' : zGs} (hn : 89 ≤ n) (hno : ∀ E n' h', ¬ Q (.inr E) n' h') (hC : cI g o u s a) (hf : f_bucketsWith g p = (0, v, g')) (hq : ∀ cm' o' u' s' a', cI g' o' u' s' a' → Q (.inl (some (.int v))) n (gW h cm' o' u' s' a')) : Zj l mX7_bucketsWith (d + 8) kc ks 0 [(0, .ref 0), (1, .int p)] [] n (gW h cm o u s a) Q :=
  K_bucketsWith hn hno hC (fun t v1 g1 cm' o' u' s' a' e hC' => by
    rw [hf] at e
    cases e
    exact hq cm' o' u' s' a' hC')
theorem V_violations {l : zL} {d kc ks n : Nat} {h : Nat → va_E} {cm : Value} {o u : Nat → Nat → Int32} {s : Nat → Nat → Int32} {a : Nat → Nat → Nat → Int32} {g : zGs} {Q : zQ} {v : Int32} {g' : zGs} (hn : 89 ≤ n) (hno : ∀ E n' h', ¬ Q (.inr E) n' h') (hC : cI g o u s a) (hf : f_violations g = (0, v, g')) (hq : ∀ cm' o' u' s' a', cI g' o' u' s' a' → Q (.inl (some (.int v))) n (gW h cm' o' u' s' a')) : Zj l mX7_violations (d + 7) kc ks 0 [(0, .ref 0)] [] n (gW h cm o u s a) Q :=
  K_violations hn hC (fun t v1 g1 cm' o' u' s' a' e hC' => by
    rw [hf] at e
    cases e
    exact hq cm' o' u' s' a' hC')
theorem V_undo {l : zL} {d kc ks n : Nat} {h : Nat → va_E} {cm : Value} {o u : Nat → Nat → Int32} {s : Nat → Nat → Int32} {a : Nat → Nat → Nat → Int32} {g : zGs} {Q : zQ} {v : Int32} {g' : zGs} (hn : 89 ≤ n) (hno : ∀ E n' h', ¬ Q (.inr E) n' h') (hC : cI g o u s a) (hf : f_undo g = (0, v, g')) (hq : ∀ cm' o' u' s' a', cI g' o' u' s' a' → Q (.inl (some (.int v))) n (gW h cm' o' u' s' a')) : Zj l mX7_undo (d + 8) kc ks 0 [(0, .ref 0)] [] n (gW h cm o u s a) Q :=
  K_undo hn hC (fun t v1 g1 cm' o' u' s' a' e hC' => by
    rw [hf] at e
    cases e
    exact hq cm' o' u' s' a' hC')
theorem V_bestMultiplier {l : zL} {d kc ks n : Nat} {h : Nat → va_E} {cm : Value} {o u : Nat → Nat → Int32} {s : Nat → Nat → Int32} {a : Nat → Nat → Nat → Int32} {g : zGs} {Q : zQ} {p : Int32} {v : Int32} {g' : zGs} (hn : 89 ≤ n) (hno : ∀ E n' h', ¬ Q (.inr E) n' h') (hC : cI g o u s a) (hf : f_bestMultiplier g p = (0, v, g')) (hq : ∀ cm' o' u' s' a', cI g' o' u' s' a' → Q (.inl (some (.int v))) n (gW h cm' o' u' s' a')) : Zj l mX7_bestMultiplier (d + 8) kc ks 0 [(0, .ref 0), (1, .int p)] [] n (gW h cm o u s a) Q :=
  K_bestMultiplier hn hno hC (fun t v1 g1 cm' o' u' s' a' e hC' => by
    rw [hf] at e
    cases e
    exact hq cm' o' u' s' a' hC')
