theorem tn4 : Cond.initialized nsN ∈ zTs := zIn 117 (by decide +kernel) (by decide +kernel)
theorem tn1 : ∀ w ∈ ((nsA RX7 167).filter vx_no ++ Bundle.passSAtoms nsN nsR 13 nsB ++ Bundle.chainSAtoms nsR ["java/lang/Exception"]).filter goodWord, w ∈ zTs := by decide +kernel
theorem tn2 : ∀ w ∈ ((nsA RX7 167).filter vx_no ++ Bundle.passSAtoms nsN nsR 13 nsB ++ Bundle.chainSAtoms nsR ["java/lang/Exception"]).filter (fun w => !goodWord w), w ∈ kN := by decide +kernel
theorem tn3 : ∀ w ∈ Cond.classLink RX7 163 nsN :: Cond.initialized nsN :: ((nsA RX7 167).filter vx_no ++ Bundle.passSAtoms nsN nsR 13 nsB ++ Bundle.chainSAtoms nsR ["java/lang/Exception"]), vx_ot w = true := by decide +kernel
theorem zE_NSE_165 : zEN RX7 163 165 167 "no entry with the key" := ⟨lX7_163, tn4, ⟨zB + 5, by decide +kernel⟩, tn1, tn2, tn3⟩
theorem zE_NSE_202 : zEN RX7 163 202 167 "no snapshot was saved" := ⟨lX7_163, tn4, ⟨zB + 9, by decide +kernel⟩, tn1, tn2, tn3⟩
