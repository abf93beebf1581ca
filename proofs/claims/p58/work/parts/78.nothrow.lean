/-! the calls that are walked here throw nothing: where a method throws, its end cannot be reached -/
theorem z_thr {l : zL} {Y : zM} {d kc ks pc n : Nat} {lv : List (Nat × Value)} {st : List Value} {h : Nat → va_E} {Q : zQ} {E : String} (hno : ∀ E n' h', ¬ Q (.inr E) n' h') (hq : Q (.inr E) n h) : Zj l Y d kc ks pc lv st n h Q := absurd hq (hno E n h)
theorem zk_no {l : zL} {Y : zM} {d k2 s2 pc n : Nat} {lv : List (Nat × Value)} {rest : List Value} {Q : zQ} (hno : ∀ E n' h', ¬ Q (.inr E) n' h') : ∀ E n' h', ¬ zk Y l d k2 s2 pc lv rest n Q (.inr E) n' h' := fun E n' h' q => hno E n' h' q.2
def nsN : String := "java/util/NoSuchElementException"
