/-! THE REFERENCE'S READER: commands, fifth part: rows -/
def rhi (k st : Nat) : Nat := if 20 < 1 + (9999 - k) / st then 20 else 1 + (9999 - k) / st
theorem rhi_cnt {k st v : Nat} (hk : k ≤ 9999) (hs : 1 ≤ st) : oIn 1 (rhi k st) v = oCnt k st v := by
  have hd : v - 1 ≤ (9999 - k) / st ↔ k + st * (v - 1) ≤ 9999 := by
    rw [Nat.le_div_iff_mul_le (by omega), Nat.mul_comm (v - 1) st]
    omega
  unfold oIn oCnt oIn rhi
  by_cases h1 : 1 ≤ v
  · by_cases h2 : k + st * (v - 1) ≤ 9999
    · have h3 := hd.mpr h2
      by_cases h20 : 20 < 1 + (9999 - k) / st
      · rw [if_pos h20]; simp [h1, h2]
      · rw [if_neg h20]
        have h4 : v ≤ 1 + (9999 - k) / st := by omega
        have h5 : v ≤ 20 := by omega
        simp [h1, h2, h4, h5]
    · have h3 : ¬ v - 1 ≤ (9999 - k) / st := fun z => h2 (hd.mp z)
      by_cases h20 : 20 < 1 + (9999 - k) / st
      · rw [if_pos h20]
        have h5 : ¬ v ≤ 20 := by omega
        simp [h1, h2, h5]
      · rw [if_neg h20]
        have h4 : ¬ v ≤ 1 + (9999 - k) / st := by omega
        simp [h1, h2, h4]
  · simp [h1]
theorem rhi_le {k st : Nat} : rhi k st ≤ 20 := by unfold rhi; split <;> omega
theorem oKey_in2 (v : Nat) : oKey v = oIn 0 9999 v := by simp [oKey, oIn]

set_option maxHeartbeats 4000000 in
set_option maxRecDepth 100000 in
theorem m_reads2 {l : zL} {d kc ks n b : Nat} {h : Nat → va_E} {a : Nat → Nat → Int32} {L : Nat} {x : Nat → Nat} {p : Nat} {S : zS} {Q : zQ} {s : Nat → Int32} (hb : b + 14 ≤ n) (hL : L ≤ 600) (hu : ∀ i, i < L → a 10 i = nI (x i)) (hx : ∀ i, x i < 256) (hp : p ≤ L) (h15 : s 15 = nI L) (h16 : s 16 = 0) (hT : rT L x (tS L x p) s) (hM : mT S (a 0)) (hqY : ∀ p' S', smp L x 2 p S = .inr (p', S') → ∀ s' a', mT S' (a' 0) → s' 23 = nI p' → s' 16 = 0 → s' 25 = s 25 → rF s a s' a' → Q (.inl (some (.int 1))) n (mW h b s' a')) (hqN : ∀ k off, smp L x 2 p S = .inl (k, off) → k ≠ 0 → k < 10 → ∀ s' a', s' 16 = nI k → s' 17 = nI off → rF s a s' a' → Q (.inl (some (.int 0))) n (mW h b s' a')) : Zj l mX8_readsRow (d + 9) kc ks 0 [(0, .ref b)] [] n (mW h b s a) Q := by
  refine z_aload_n (j := 0) dX8_readsRow_0 rfl ?_
  refine z_iconst (v := 0) dX8_readsRow_1 (by decide) ?_
  refine z_iconst (v := 0) dX8_readsRow_2 (by decide) ?_
  refine z_sipush (v := 9999) dX8_readsRow_3 (by decide) ?_
  refine z_kV [.int 0, .int 0, .int 9999] 0 0 kc ks yoX8_number yvX8_number rfl (by decide) lX8_191 (by omega) mW_obj rfl rfl (Nat.le_of_ble_eq_true rfl) (Nat.le_of_ble_eq_true rfl) dX8_readsRow_6 (by omega) (by omega) (z_room (by omega) (Nat.le_refl _) (Nat.le_refl _) (m_number (d := 0) (j := 0) (lo := 0) (hi := 9999) hb hL hu hx (tS_le (x := x) hp).2 h15 h16 hT (by decide) (by decide) (by decide) (fun hk0 hok s1 hT1 hf1 => ⟨rfl, ?_⟩) (fun k hkk s1 he => ⟨rfl, ?_⟩)))
  · have hu1 : ∀ i, i < L → (va_up a 12 (va_up (a 12) 0 (nI (tV L x (tS L x p))))) 10 i = nI (x i) := fun i hi => (congrFun (up_ne (by decide)) i).trans (hu i hi)
    have h15_1 : s1 15 = nI L := (hf1 15 (by decide) (by decide) (by decide) (by decide)).trans h15
    have h16_1 : s1 16 = 0 := (hf1 16 (by decide) (by decide) (by decide) (by decide)).trans h16
    have hok0 : oKey (tV L x (tS L x p)) = true := by rw [oKey_in2]; exact hok
    have hV0 := tV_lt hk0
    refine z_if_eq (tgt := 57) dX8_readsRow_9 (by decide) (fun czq9 => absurd czq9 (by decide)) (fun czq9 => ?_)
    refine z_aload_n (j := 0) dX8_readsRow_12 rfl ?_
    refine z_iconst (v := 1) dX8_readsRow_13 (by decide) ?_
    refine z_iconst (v := 1) dX8_readsRow_14 (by decide) ?_
    refine z_sipush (v := 999) dX8_readsRow_15 (by decide) ?_
    refine z_kV [.int 1, .int 1, .int 999] 0 0 kc ks yoX8_number yvX8_number rfl (by decide) lX8_191 (by omega) mW_obj rfl rfl (Nat.le_of_ble_eq_true rfl) (Nat.le_of_ble_eq_true rfl) dX8_readsRow_18 (by omega) (by omega) (z_room (by omega) (Nat.le_refl _) (Nat.le_refl _) (m_number (d := 0) (j := 1) (lo := 1) (hi := 999) hb hL hu1 hx (tS_le (x := x) (nx_le (x := x) hp).2).2 h15_1 h16_1 hT1 (by decide) (by decide) (by decide) (fun hk1 hok1 s2 hT2 hf2 => ⟨rfl, ?_⟩) (fun k hkk s2 he => ⟨rfl, ?_⟩)))
    · have hu2 : ∀ i, i < L → (va_up (va_up a 12 (va_up (a 12) 0 (nI (tV L x (tS L x p))))) 12 (va_up ((va_up a 12 (va_up (a 12) 0 (nI (tV L x (tS L x p))))) 12) 1 (nI (tV L x (tS L x (nx L x p)))))) 10 i = nI (x i) := fun i hi => (congrFun (up_ne (by decide)) i).trans (hu1 i hi)
      have h15_2 : s2 15 = nI L := (hf2 15 (by decide) (by decide) (by decide) (by decide)).trans h15_1
      have h16_2 : s2 16 = 0 := (hf2 16 (by decide) (by decide) (by decide) (by decide)).trans h16_1
      have hst9 := hok1
      simp only [oIn, Bool.and_eq_true, decide_eq_true_eq] at hst9
      have hq9 : (9999 - (tV L x (tS L x p))) / (tV L x (tS L x (nx L x p))) ≤ 9999 := Nat.le_trans (Nat.div_le_self _ _) (Nat.sub_le _ _)
      refine z_if_eq (tgt := 57) dX8_readsRow_21 (by decide) (fun czq21 => absurd czq21 (by decide)) (fun czq21 => ?_)
      refine z_aload_n (j := 0) dX8_readsRow_24 rfl ?_
      refine z_iconst (v := 2) dX8_readsRow_25 (by decide) ?_
      refine z_iconst (v := 1) dX8_readsRow_26 (by decide) ?_
      refine z_bipush (v := 20) dX8_readsRow_27 (by decide) ?_
      refine z_iconst (v := 1) dX8_readsRow_29 (by decide) ?_
      refine z_sipush (v := 9999) dX8_readsRow_30 (by decide) ?_
      refine z_aload_n (j := 0) dX8_readsRow_33 rfl ?_
      refine z_get (v := .ref (b + 13)) (by omega) mW_obj fX8_51 rfl dX8_readsRow_34 ?_
      refine z_iconst (v := 0) dX8_readsRow_37 (by decide) ?_
      refine m_aldN 12 3 0 (by decide) rfl rfl hb rfl (by decide) (by decide) dX8_readsRow_38 ?_
      rw [show ((va_up (va_up a 12 (va_up (a 12) 0 (nI (tV L x (tS L x p))))) 12 (va_up ((va_up a 12 (va_up (a 12) 0 (nI (tV L x (tS L x p))))) 12) 1 (nI (tV L x (tS L x (nx L x p)))))) 12 0) = (nI (tV L x (tS L x p))) from by rw [up_eq, up_ne (by decide), up_eq, up_eq]]
      refine z_isub dX8_readsRow_39 ?_
      refine z_aload_n (j := 0) dX8_readsRow_40 rfl ?_
      refine z_get (v := .ref (b + 13)) (by omega) mW_obj fX8_51 rfl dX8_readsRow_41 ?_
      refine z_iconst (v := 1) dX8_readsRow_44 (by decide) ?_
      refine m_aldN 12 3 1 (by decide) rfl rfl hb rfl (by decide) (by decide) dX8_readsRow_45 ?_
      rw [show ((va_up (va_up a 12 (va_up (a 12) 0 (nI (tV L x (tS L x p))))) 12 (va_up ((va_up a 12 (va_up (a 12) 0 (nI (tV L x (tS L x p))))) 12) 1 (nI (tV L x (tS L x (nx L x p)))))) 12 1) = nI (tV L x (tS L x (nx L x p))) from by rw [up_eq, up_eq], show (9999 - (nI (tV L x (tS L x p)))) = nI (9999 - (tV L x (tS L x p))) from by rw [show (9999 : Int32) = nI 9999 from rfl, pk_sub (by omega)]]
      refine z_idiv (nI_ne0 (by omega) (by have := tV_lt hk1; omega)) dX8_readsRow_46 ?_
      rw [show ((nI (9999 - (tV L x (tS L x p)))) / (nI (tV L x (tS L x (nx L x p))))) = (nI ((9999 - (tV L x (tS L x p))) / (tV L x (tS L x (nx L x p))))) from pk_div (by omega) (by omega) (by have := tV_lt hk1; omega)]
      refine z_iadd dX8_readsRow_47 ?_
      rw [show (1 + (nI ((9999 - (tV L x (tS L x p))) / (tV L x (tS L x (nx L x p)))))) = (nI (1 + (9999 - (tV L x (tS L x p))) / (tV L x (tS L x (nx L x p))))) from nI_add 1 _]
      refine z_mmin lX8_207 mm_min1 mm_ini mm_min2 (Nat.le_of_ble_eq_true rfl) dX8_readsRow_48 ?_
      rw [show (if nI (1 + (9999 - (tV L x (tS L x p))) / (tV L x (tS L x (nx L x p)))) < 20 then nI (1 + (9999 - (tV L x (tS L x p))) / (tV L x (tS L x (nx L x p)))) else 20) = nI (rhi (tV L x (tS L x p)) (tV L x (tS L x (nx L x p)))) from by
        rw [show (20 : Int32) = nI 20 from rfl, min_nI (by omega) (by decide)]
        congr 1
        unfold rhi
        split <;> split <;> omega]
      refine z_kV [.int 2, .int 1, .int ((nI (rhi (tV L x (tS L x p)) (tV L x (tS L x (nx L x p))))))] 0 0 kc ks yoX8_number yvX8_number rfl (by decide) lX8_191 (by omega) mW_obj rfl rfl (Nat.le_of_ble_eq_true rfl) (Nat.le_of_ble_eq_true rfl) dX8_readsRow_51 (by omega) (by omega) (z_room (by omega) (Nat.le_refl _) (Nat.le_refl _) (m_number (d := 0) (j := 2) (lo := 1) (hi := rhi (tV L x (tS L x p)) (tV L x (tS L x (nx L x p)))) hb hL hu2 hx (tS_le (x := x) (nx_le (x := x) (nx_le (x := x) hp).2).2).2 h15_2 h16_2 hT2 (by decide) (by decide) (Nat.lt_of_le_of_lt rhi_le (by decide)) (fun hk2 hok9 s3 hT3 hf3 => ⟨rfl, ?_⟩) (fun k hkk s3 he => ⟨rfl, ?_⟩)))
      · have hu3 : ∀ i, i < L → (va_up (va_up (va_up a 12 (va_up (a 12) 0 (nI (tV L x (tS L x p))))) 12 (va_up ((va_up a 12 (va_up (a 12) 0 (nI (tV L x (tS L x p))))) 12) 1 (nI (tV L x (tS L x (nx L x p)))))) 12 (va_up ((va_up (va_up a 12 (va_up (a 12) 0 (nI (tV L x (tS L x p))))) 12 (va_up ((va_up a 12 (va_up (a 12) 0 (nI (tV L x (tS L x p))))) 12) 1 (nI (tV L x (tS L x (nx L x p)))))) 12) 2 (nI (tV L x (tS L x (nx L x (nx L x p))))))) 10 i = nI (x i) := fun i hi => (congrFun (up_ne (by decide)) i).trans (hu2 i hi)
        have h15_3 : s3 15 = nI L := (hf3 15 (by decide) (by decide) (by decide) (by decide)).trans h15_2
        have h16_3 : s3 16 = 0 := (hf3 16 (by decide) (by decide) (by decide) (by decide)).trans h16_2
        have hok2 : oCnt (tV L x (tS L x p)) (tV L x (tS L x (nx L x p))) (tV L x (tS L x (nx L x (nx L x p)))) = true := by rw [← rhi_cnt hV0 hst9.1]; exact hok9
        have hkc := oCnt_ks hok2
        have hM3 : mT S ((va_up (va_up (va_up a 12 (va_up (a 12) 0 (nI (tV L x (tS L x p))))) 12 (va_up ((va_up a 12 (va_up (a 12) 0 (nI (tV L x (tS L x p))))) 12) 1 (nI (tV L x (tS L x (nx L x p)))))) 12 (va_up ((va_up (va_up a 12 (va_up (a 12) 0 (nI (tV L x (tS L x p))))) 12 (va_up ((va_up a 12 (va_up (a 12) 0 (nI (tV L x (tS L x p))))) 12) 1 (nI (tV L x (tS L x (nx L x p)))))) 12) 2 (nI (tV L x (tS L x (nx L x (nx L x p))))))) 0) := by rw [up_ne (by decide), up_ne (by decide), up_ne (by decide)]; exact hM
        have e0 : (va_up (va_up (va_up a 12 (va_up (a 12) 0 (nI (tV L x (tS L x p))))) 12 (va_up ((va_up a 12 (va_up (a 12) 0 (nI (tV L x (tS L x p))))) 12) 1 (nI (tV L x (tS L x (nx L x p)))))) 12 (va_up ((va_up (va_up a 12 (va_up (a 12) 0 (nI (tV L x (tS L x p))))) 12 (va_up ((va_up a 12 (va_up (a 12) 0 (nI (tV L x (tS L x p))))) 12) 1 (nI (tV L x (tS L x (nx L x p)))))) 12) 2 (nI (tV L x (tS L x (nx L x (nx L x p))))))) 12 0 = nI (tV L x (tS L x p)) := by rw [up_eq, up_ne (by decide), up_eq, up_ne (by decide), up_eq, up_eq]
        have e1 : (va_up (va_up (va_up a 12 (va_up (a 12) 0 (nI (tV L x (tS L x p))))) 12 (va_up ((va_up a 12 (va_up (a 12) 0 (nI (tV L x (tS L x p))))) 12) 1 (nI (tV L x (tS L x (nx L x p)))))) 12 (va_up ((va_up (va_up a 12 (va_up (a 12) 0 (nI (tV L x (tS L x p))))) 12 (va_up ((va_up a 12 (va_up (a 12) 0 (nI (tV L x (tS L x p))))) 12) 1 (nI (tV L x (tS L x (nx L x p)))))) 12) 2 (nI (tV L x (tS L x (nx L x (nx L x p))))))) 12 1 = nI (tV L x (tS L x (nx L x p))) := by rw [up_eq, up_ne (by decide), up_eq, up_eq]
        have e2 : (va_up (va_up (va_up a 12 (va_up (a 12) 0 (nI (tV L x (tS L x p))))) 12 (va_up ((va_up a 12 (va_up (a 12) 0 (nI (tV L x (tS L x p))))) 12) 1 (nI (tV L x (tS L x (nx L x p)))))) 12 (va_up ((va_up (va_up a 12 (va_up (a 12) 0 (nI (tV L x (tS L x p))))) 12 (va_up ((va_up a 12 (va_up (a 12) 0 (nI (tV L x (tS L x p))))) 12) 1 (nI (tV L x (tS L x (nx L x p)))))) 12) 2 (nI (tV L x (tS L x (nx L x (nx L x p))))))) 12 2 = nI (tV L x (tS L x (nx L x (nx L x p)))) := by rw [up_eq, up_eq]
        refine z_if_ne (tgt := 59) dX8_readsRow_54 (by decide) (fun czq54 => ?_) (fun czq54 => absurd czq54 (by decide))
        refine z_aload_n (j := 0) dX8_readsRow_59 rfl ?_
        skip
        refine z_aload_n (j := 0) dX8_readsRow_60 rfl ?_
        refine z_aload_n (j := 0) dX8_readsRow_61 rfl ?_
        refine z_get (v := .ref (b + 13)) (by omega) mW_obj fX8_51 rfl dX8_readsRow_62 ?_
        refine z_iconst (v := 0) dX8_readsRow_65 (by decide) ?_
        refine m_aldN 12 3 0 (by decide) rfl rfl hb rfl (by decide) (by decide) dX8_readsRow_66 ?_
        rw [show ((va_up (va_up (va_up a 12 (va_up (a 12) 0 (nI (tV L x (tS L x p))))) 12 (va_up ((va_up a 12 (va_up (a 12) 0 (nI (tV L x (tS L x p))))) 12) 1 (nI (tV L x (tS L x (nx L x p)))))) 12 (va_up ((va_up (va_up a 12 (va_up (a 12) 0 (nI (tV L x (tS L x p))))) 12 (va_up ((va_up a 12 (va_up (a 12) 0 (nI (tV L x (tS L x p))))) 12) 1 (nI (tV L x (tS L x (nx L x p)))))) 12) 2 (nI (tV L x (tS L x (nx L x (nx L x p))))))) 12 0) = (nI (tV L x (tS L x p))) from e0]
        refine z_aload_n (j := 0) dX8_readsRow_67 rfl ?_
        refine z_get (v := .ref (b + 13)) (by omega) mW_obj fX8_51 rfl dX8_readsRow_68 ?_
        refine z_iconst (v := 1) dX8_readsRow_71 (by decide) ?_
        refine m_aldN 12 3 1 (by decide) rfl rfl hb rfl (by decide) (by decide) dX8_readsRow_72 ?_
        rw [show ((va_up (va_up (va_up a 12 (va_up (a 12) 0 (nI (tV L x (tS L x p))))) 12 (va_up ((va_up a 12 (va_up (a 12) 0 (nI (tV L x (tS L x p))))) 12) 1 (nI (tV L x (tS L x (nx L x p)))))) 12 (va_up ((va_up (va_up a 12 (va_up (a 12) 0 (nI (tV L x (tS L x p))))) 12 (va_up ((va_up a 12 (va_up (a 12) 0 (nI (tV L x (tS L x p))))) 12) 1 (nI (tV L x (tS L x (nx L x p)))))) 12) 2 (nI (tV L x (tS L x (nx L x (nx L x p))))))) 12 1) = (nI (tV L x (tS L x (nx L x p)))) from e1]
        refine z_aload_n (j := 0) dX8_readsRow_73 rfl ?_
        refine z_get (v := .ref (b + 13)) (by omega) mW_obj fX8_51 rfl dX8_readsRow_74 ?_
        refine z_iconst (v := 2) dX8_readsRow_77 (by decide) ?_
        refine m_aldN 12 3 2 (by decide) rfl rfl hb rfl (by decide) (by decide) dX8_readsRow_78 ?_
        rw [show ((va_up (va_up (va_up a 12 (va_up (a 12) 0 (nI (tV L x (tS L x p))))) 12 (va_up ((va_up a 12 (va_up (a 12) 0 (nI (tV L x (tS L x p))))) 12) 1 (nI (tV L x (tS L x (nx L x p)))))) 12 (va_up ((va_up (va_up a 12 (va_up (a 12) 0 (nI (tV L x (tS L x p))))) 12 (va_up ((va_up a 12 (va_up (a 12) 0 (nI (tV L x (tS L x p))))) 12) 1 (nI (tV L x (tS L x (nx L x p)))))) 12) 2 (nI (tV L x (tS L x (nx L x (nx L x p))))))) 12 2) = (nI (tV L x (tS L x (nx L x (nx L x p))))) from e2]
        refine z_kV [.int ((nI (tV L x (tS L x p)))), .int ((nI (tV L x (tS L x (nx L x p))))), .int ((nI (tV L x (tS L x (nx L x (nx L x p))))))] 0 0 kc ks yoX8_canRow yvX8_canRow rfl (by decide) lX8_212 (by omega) mW_obj rfl rfl (Nat.le_of_ble_eq_true rfl) (Nat.le_of_ble_eq_true rfl) dX8_readsRow_79 (by omega) (by omega) (z_room (by omega) (Nat.le_refl _) (Nat.le_refl _) (m_canRow2 (d := 0) (S := S) hb hM3 hkc.1 hkc.2 (fun s4 a4 hwe hF4 => ⟨rfl, ?_⟩)))
        have hM4 : mT S (a4 0) := hM3.cp hwe
        have hu4 : ∀ i, i < L → a4 10 i = nI (x i) := fun i hi => by rw [hF4.2 10 (by decide) (by decide) (by decide) (by decide) (by decide) (by decide)]; exact hu3 i hi
        have h16b : s4 16 = 0 := (hF4.1 16 (by decide)).trans h16_3
        have h15b : s4 15 = nI L := (hF4.1 15 (by decide)).trans h15_3
        have hT4 := hT3.fr hF4.1
        have h12 : a4 12 = (va_up (va_up (va_up a 12 (va_up (a 12) 0 (nI (tV L x (tS L x p))))) 12 (va_up ((va_up a 12 (va_up (a 12) 0 (nI (tV L x (tS L x p))))) 12) 1 (nI (tV L x (tS L x (nx L x p)))))) 12 (va_up ((va_up (va_up a 12 (va_up (a 12) 0 (nI (tV L x (tS L x p))))) 12 (va_up ((va_up a 12 (va_up (a 12) 0 (nI (tV L x (tS L x p))))) 12) 1 (nI (tV L x (tS L x (nx L x p)))))) 12) 2 (nI (tV L x (tS L x (nx L x (nx L x p))))))) 12 := hF4.2 12 (by decide) (by decide) (by decide) (by decide) (by decide) (by decide)
        refine z_kV [.int ((oI (sRow S (tV L x (tS L x p)) (tV L x (tS L x (nx L x p))) (tV L x (tS L x (nx L x (nx L x p)))))))] 0 0 kc ks yoX8_stops yvX8_stops rfl (by decide) lX8_200 (by omega) mW_obj rfl rfl (Nat.le_of_ble_eq_true rfl) (Nat.le_of_ble_eq_true rfl) dX8_readsRow_82 (by omega) (by omega) (z_room (by omega) (Nat.le_refl _) (Nat.le_refl _) (m_stops (d := 0) (L := L) (x := x) hb hL hu4 hx (tS_le (x := x) (nx_le (x := x) (nx_le (x := x) (nx_le (x := x) hp).2).2).2).2 h15b h16b hT4 (fun hk5 hv => ⟨rfl, ?_⟩) (fun k hkk s5 he => ⟨rfl, ?_⟩)))
        · refine z_if_ne (tgt := 90) dX8_readsRow_85 (by decide) (fun czq85 => ?_) (fun czq85 => absurd czq85 (by decide))
          refine z_aload_n (j := 0) dX8_readsRow_90 rfl ?_
          refine z_aload_n (j := 0) dX8_readsRow_91 rfl ?_
          refine z_get (v := .ref (b + 13)) (by omega) mW_obj fX8_51 rfl dX8_readsRow_92 ?_
          refine z_iconst (v := 0) dX8_readsRow_95 (by decide) ?_
          refine m_aldN 12 3 0 (by decide) rfl rfl hb rfl (by decide) (by decide) dX8_readsRow_96 ?_
          rw [show (a4 12 0) = (nI (tV L x (tS L x p))) from by rw [h12]; exact e0]
          refine z_aload_n (j := 0) dX8_readsRow_97 rfl ?_
          refine z_get (v := .ref (b + 13)) (by omega) mW_obj fX8_51 rfl dX8_readsRow_98 ?_
          refine z_iconst (v := 1) dX8_readsRow_101 (by decide) ?_
          refine m_aldN 12 3 1 (by decide) rfl rfl hb rfl (by decide) (by decide) dX8_readsRow_102 ?_
          rw [show (a4 12 1) = (nI (tV L x (tS L x (nx L x p)))) from by rw [h12]; exact e1]
          refine z_aload_n (j := 0) dX8_readsRow_103 rfl ?_
          refine z_get (v := .ref (b + 13)) (by omega) mW_obj fX8_51 rfl dX8_readsRow_104 ?_
          refine z_iconst (v := 2) dX8_readsRow_107 (by decide) ?_
          refine m_aldN 12 3 2 (by decide) rfl rfl hb rfl (by decide) (by decide) dX8_readsRow_108 ?_
          rw [show (a4 12 2) = (nI (tV L x (tS L x (nx L x (nx L x p))))) from by rw [h12]; exact e2]
          refine z_kV [.int ((nI (tV L x (tS L x p)))), .int ((nI (tV L x (tS L x (nx L x p))))), .int ((nI (tV L x (tS L x (nx L x (nx L x p))))))] 0 0 kc ks yoX8_rows yvX8_rows rfl (by decide) lX8_135 (by omega) mW_obj rfl rfl (Nat.le_of_ble_eq_true rfl) (Nat.le_of_ble_eq_true rfl) dX8_readsRow_109 (by omega) (by omega) (z_room (by omega) (Nat.le_refl _) (Nat.le_refl _) (m_rows (d := 0) (S := S) hb hM4 hkc.1 hkc.2 (fun s5 a5 ea hF5 => ⟨rfl, ?_⟩) (fun j S' s5 a5 ea hM5 hF5 => ⟨rfl, ?_⟩)))
          · exact absurd (oI_0.mpr ea) hv
          · refine z_pop rfl dX8_readsRow_112 ?_
            refine z_iconst (v := 1) dX8_readsRow_113 (by decide) ?_
            exact z_zret rfl rfl dX8_readsRow_114 (by
                exact hqY _ S' (by
                  unfold smp
                  simp only [rdN_3 (ok := oKey) hk0 hok0, rdN_3 (ok := oIn 1 999) hk1 hok1, rdN_3 (ok := oCnt (tV L x (tS L x p)) (tV L x (tS L x (nx L x p)))) hk2 hok2]
                  rw [ea]
                  exact fin_y (p := nx L x (nx L x (nx L x p))) hk5) _ _ hM5 ((hF5.1 23 (by decide)).trans hT4.2.1) ((hF5.1 16 (by decide)).trans h16b) ((hF5.1 25 (by decide)).trans ((hF4.1 25 (by decide)).trans ((hf3 25 (by decide) (by decide) (by decide) (by decide)).trans ((hf2 25 (by decide) (by decide) (by decide) (by decide)).trans (hf1 25 (by decide) (by decide) (by decide) (by decide)))))) (((((((rF.num.tr hf1.F).tr rF.num).tr hf2.F).tr rF.num).tr hf3.F).tr hF4.F).tr hF5.f0.F))
        · refine z_if_ne (tgt := 90) dX8_readsRow_85 (by decide) (fun czq85 => absurd czq85 (fun z => z rfl)) (fun czq85 => ?_)
          refine z_iconst (v := 0) dX8_readsRow_88 (by decide) ?_
          exact z_zret rfl rfl dX8_readsRow_89 (by
              rcases hkk with ⟨hk5, rfl⟩ | ⟨hk5, hv, rfl⟩
              · exact hqN 1 _ (by
                unfold smp
                simp only [rdN_3 (ok := oKey) hk0 hok0, rdN_3 (ok := oIn 1 999) hk1 hok1, rdN_3 (ok := oCnt (tV L x (tS L x p)) (tV L x (tS L x (nx L x p)))) hk2 hok2, fin_1 (p := nx L x (nx L x (nx L x p))) hk5]) (by decide) (by decide) _ _ he.1 he.2.1 (((((((rF.num.tr hf1.F).tr rF.num).tr hf2.F).tr rF.num).tr hf3.F).tr hF4.F).tr he.F)
              · exact hqN 3 _ (by
                  unfold smp
                  simp only [rdN_3 (ok := oKey) hk0 hok0, rdN_3 (ok := oIn 1 999) hk1 hok1, rdN_3 (ok := oCnt (tV L x (tS L x p)) (tV L x (tS L x (nx L x p)))) hk2 hok2]
                  rw [oI_0.mp hv]
                  exact fin_3 (p := nx L x (nx L x (nx L x p))) hk5) (by decide) (by decide) _ _ he.1 he.2.1 (((((((rF.num.tr hf1.F).tr rF.num).tr hf2.F).tr rF.num).tr hf3.F).tr hF4.F).tr he.F))
      · refine z_if_ne (tgt := 59) dX8_readsRow_54 (by decide) (fun czq54 => absurd czq54 (fun z => z rfl)) (fun czq54 => ?_)
        refine z_iconst (v := 0) dX8_readsRow_57 (by decide) ?_
        exact z_zret rfl rfl dX8_readsRow_58 (by
            rcases hkk with ⟨hk2, rfl⟩ | ⟨hk2, hno, rfl⟩
            · exact hqN 1 _ (by
              unfold smp
              simp only [rdN_3 (ok := oKey) hk0 hok0, rdN_3 (ok := oIn 1 999) hk1 hok1, rdN_1 (ok := oCnt (tV L x (tS L x p)) (tV L x (tS L x (nx L x p)))) hk2]) (by decide) (by decide) _ _ he.1 he.2.1 ((((rF.num.tr hf1.F).tr rF.num).tr hf2.F).tr he.F)
            · exact hqN 2 _ (by
              unfold smp
              simp only [rdN_3 (ok := oKey) hk0 hok0, rdN_3 (ok := oIn 1 999) hk1 hok1, rdN_2 (ok := oCnt (tV L x (tS L x p)) (tV L x (tS L x (nx L x p)))) hk2 (by rw [← rhi_cnt hV0 hst9.1]; exact hno)]) (by decide) (by decide) _ _ he.1 he.2.1 ((((rF.num.tr hf1.F).tr rF.num).tr hf2.F).tr he.F))
    · refine z_if_eq (tgt := 57) dX8_readsRow_21 (by decide) (fun czq21 => ?_) (fun czq21 => absurd rfl czq21)
      refine z_iconst (v := 0) dX8_readsRow_57 (by decide) ?_
      exact z_zret rfl rfl dX8_readsRow_58 (by
          rcases hkk with ⟨hk1, rfl⟩ | ⟨hk1, hno, rfl⟩
          · exact hqN 1 _ (by
            unfold smp
            simp only [rdN_3 (ok := oKey) hk0 hok0, rdN_1 (ok := oIn 1 999) hk1]) (by decide) (by decide) _ _ he.1 he.2.1 ((rF.num.tr hf1.F).tr he.F)
          · exact hqN 2 _ (by
            unfold smp
            simp only [rdN_3 (ok := oKey) hk0 hok0, rdN_2 (ok := oIn 1 999) hk1 (hno)]) (by decide) (by decide) _ _ he.1 he.2.1 ((rF.num.tr hf1.F).tr he.F))
  · refine z_if_eq (tgt := 57) dX8_readsRow_9 (by decide) (fun czq9 => ?_) (fun czq9 => absurd rfl czq9)
    refine z_iconst (v := 0) dX8_readsRow_57 (by decide) ?_
    exact z_zret rfl rfl dX8_readsRow_58 (by
        rcases hkk with ⟨hk0, rfl⟩ | ⟨hk0, hno, rfl⟩
        · exact hqN 1 _ (by
          unfold smp
          simp only [rdN_1 (ok := oKey) hk0]) (by decide) (by decide) _ _ he.1 he.2.1 he.F
        · exact hqN 2 _ (by
          unfold smp
          simp only [rdN_2 (ok := oKey) hk0 (by rw [oKey_in2]; exact hno)]) (by decide) (by decide) _ _ he.1 he.2.1 he.F)
