/-! THE REFERENCE'S READER: tokens -/
def skc (c : Nat) : Nat := if c = 59 then 1 else if tLe c = true then 2 else if tDi c = true then 3 else if c = 40 then 4 else if c = 41 then 5 else 6
/-- a token's kind, as the reference names it -/
def mkd (k : Nat) : Nat := match k with
  | 0 => 0
  | 1 => 2
  | 2 => 3
  | 3 => 4
  | 4 => 5
  | 5 => 1
  | _ => 6
theorem skc_all : ∀ c, c < 256 → skc c ≤ 6 ∧ (skc c = 2 ↔ tLe c = true) ∧ (skc c = 3 ↔ tDi c = true) := by decide +kernel

set_option maxHeartbeats 4000000 in
set_option maxRecDepth 100000 in
theorem m_sortOf {l : zL} {d kc ks n c : Nat} {h : Nat → va_E} {Q : zQ} (hc9 : c < 256) (hq : Q (.inl (some (.int (nI (skc c))))) n h) : Zj l mX8_sortOf d kc ks 0 [(0, .int ((nI c)))] [] n h Q := by
  refine z_iload_n (j := 0) dX8_sortOf_0 rfl ?_
  refine z_bipush (v := 59) dX8_sortOf_1 (by decide) ?_
  refine z_icmp_ne (tgt := 10) dX8_sortOf_3 (by decide) (fun czq3 => ?_) (fun czq3 => ?_)
  · refine z_iload_n (j := 0) dX8_sortOf_10 rfl ?_
    refine z_bipush (v := 97) dX8_sortOf_11 (by decide) ?_
    refine z_icmp_lt (tgt := 26) dX8_sortOf_13 (by decide) (fun czq13 => ?_) (fun czq13 => ?_)
    · refine z_iload_n (j := 0) dX8_sortOf_26 rfl ?_
      refine z_bipush (v := 48) dX8_sortOf_27 (by decide) ?_
      refine z_icmp_lt (tgt := 42) dX8_sortOf_29 (by decide) (fun czq29 => ?_) (fun czq29 => ?_)
      · refine z_iload_n (j := 0) dX8_sortOf_42 rfl ?_
        refine z_bipush (v := 40) dX8_sortOf_43 (by decide) ?_
        refine z_icmp_ne (tgt := 52) dX8_sortOf_45 (by decide) (fun czq45 => ?_) (fun czq45 => ?_)
        · refine z_iload_n (j := 0) dX8_sortOf_52 rfl ?_
          refine z_bipush (v := 41) dX8_sortOf_53 (by decide) ?_
          refine z_icmp_ne (tgt := 62) dX8_sortOf_55 (by decide) (fun czq55 => ?_) (fun czq55 => ?_)
          · refine z_bipush (v := 6) dX8_sortOf_62 (by decide) ?_
            exact z_iret rfl dX8_sortOf_64 (by
                have hc := fun v (hv : v < 256) => (nI_eq (a := c) (b := v) (by omega) (by omega))
                have e59 : ¬ c = 59 := fun z => czq3 ((hc 59 (by decide)).mpr z)
                have hl : ¬ tLe c = true := fun z => by
                  simp only [tLe, Bool.and_eq_true, decide_eq_true_eq] at z
                  exact absurd czq13 (nI_nlt (b := 97) z.1 (by omega))
                have hd : ¬ tDi c = true := fun z => by
                  simp only [tDi, Bool.and_eq_true, decide_eq_true_eq] at z
                  exact absurd czq29 (nI_nlt (b := 48) z.1 (by omega))
                have e40 : ¬ c = 40 := fun z => czq45 ((hc 40 (by decide)).mpr z)
                have e41 : ¬ c = 41 := fun z => czq55 ((hc 41 (by decide)).mpr z)
                unfold skc at hq
                rw [if_neg e59, if_neg hl, if_neg hd, if_neg e40, if_neg e41] at hq
                exact hq)
          · refine z_iconst (v := 5) dX8_sortOf_58 (by decide) ?_
            refine z_goto (tgt := 64) dX8_sortOf_59 (by decide) ?_
            exact z_iret rfl dX8_sortOf_64 (by
                have hc := fun v (hv : v < 256) => (nI_eq (a := c) (b := v) (by omega) (by omega))
                have e59 : ¬ c = 59 := fun z => czq3 ((hc 59 (by decide)).mpr z)
                have hl : ¬ tLe c = true := fun z => by
                  simp only [tLe, Bool.and_eq_true, decide_eq_true_eq] at z
                  exact absurd czq13 (nI_nlt (b := 97) z.1 (by omega))
                have hd : ¬ tDi c = true := fun z => by
                  simp only [tDi, Bool.and_eq_true, decide_eq_true_eq] at z
                  exact absurd czq29 (nI_nlt (b := 48) z.1 (by omega))
                have e40 : ¬ c = 40 := fun z => czq45 ((hc 40 (by decide)).mpr z)
                have e41 :  c = 41 := (hc 41 (by decide)).mp czq55
                unfold skc at hq
                rw [if_neg e59, if_neg hl, if_neg hd, if_neg e40, if_pos e41] at hq
                exact hq)
        · refine z_iconst (v := 4) dX8_sortOf_48 (by decide) ?_
          refine z_goto (tgt := 64) dX8_sortOf_49 (by decide) ?_
          exact z_iret rfl dX8_sortOf_64 (by
              have hc := fun v (hv : v < 256) => (nI_eq (a := c) (b := v) (by omega) (by omega))
              have e59 : ¬ c = 59 := fun z => czq3 ((hc 59 (by decide)).mpr z)
              have hl : ¬ tLe c = true := fun z => by
                simp only [tLe, Bool.and_eq_true, decide_eq_true_eq] at z
                exact absurd czq13 (nI_nlt (b := 97) z.1 (by omega))
              have hd : ¬ tDi c = true := fun z => by
                simp only [tDi, Bool.and_eq_true, decide_eq_true_eq] at z
                exact absurd czq29 (nI_nlt (b := 48) z.1 (by omega))
              have e40 :  c = 40 := (hc 40 (by decide)).mp czq45
              unfold skc at hq
              rw [if_neg e59, if_neg hl, if_neg hd, if_pos e40] at hq
              exact hq)
      · refine z_iload_n (j := 0) dX8_sortOf_32 rfl ?_
        refine z_bipush (v := 57) dX8_sortOf_33 (by decide) ?_
        refine z_icmp_gt (tgt := 42) dX8_sortOf_35 (by decide) (fun czq35 => ?_) (fun czq35 => ?_)
        · refine z_iload_n (j := 0) dX8_sortOf_42 rfl ?_
          refine z_bipush (v := 40) dX8_sortOf_43 (by decide) ?_
          refine z_icmp_ne (tgt := 52) dX8_sortOf_45 (by decide) (fun czq45 => ?_) (fun czq45 => ?_)
          · refine z_iload_n (j := 0) dX8_sortOf_52 rfl ?_
            refine z_bipush (v := 41) dX8_sortOf_53 (by decide) ?_
            refine z_icmp_ne (tgt := 62) dX8_sortOf_55 (by decide) (fun czq55 => ?_) (fun czq55 => ?_)
            · refine z_bipush (v := 6) dX8_sortOf_62 (by decide) ?_
              exact z_iret rfl dX8_sortOf_64 (by
                  have hc := fun v (hv : v < 256) => (nI_eq (a := c) (b := v) (by omega) (by omega))
                  have e59 : ¬ c = 59 := fun z => czq3 ((hc 59 (by decide)).mpr z)
                  have hl : ¬ tLe c = true := fun z => by
                    simp only [tLe, Bool.and_eq_true, decide_eq_true_eq] at z
                    exact absurd czq13 (nI_nlt (b := 97) z.1 (by omega))
                  have hd : ¬ tDi c = true := fun z => by
                    simp only [tDi, Bool.and_eq_true, decide_eq_true_eq] at z
                    exact absurd czq35 (nI_nlt (a := 57) z.2 (by decide))
                  have e40 : ¬ c = 40 := fun z => czq45 ((hc 40 (by decide)).mpr z)
                  have e41 : ¬ c = 41 := fun z => czq55 ((hc 41 (by decide)).mpr z)
                  unfold skc at hq
                  rw [if_neg e59, if_neg hl, if_neg hd, if_neg e40, if_neg e41] at hq
                  exact hq)
            · refine z_iconst (v := 5) dX8_sortOf_58 (by decide) ?_
              refine z_goto (tgt := 64) dX8_sortOf_59 (by decide) ?_
              exact z_iret rfl dX8_sortOf_64 (by
                  have hc := fun v (hv : v < 256) => (nI_eq (a := c) (b := v) (by omega) (by omega))
                  have e59 : ¬ c = 59 := fun z => czq3 ((hc 59 (by decide)).mpr z)
                  have hl : ¬ tLe c = true := fun z => by
                    simp only [tLe, Bool.and_eq_true, decide_eq_true_eq] at z
                    exact absurd czq13 (nI_nlt (b := 97) z.1 (by omega))
                  have hd : ¬ tDi c = true := fun z => by
                    simp only [tDi, Bool.and_eq_true, decide_eq_true_eq] at z
                    exact absurd czq35 (nI_nlt (a := 57) z.2 (by decide))
                  have e40 : ¬ c = 40 := fun z => czq45 ((hc 40 (by decide)).mpr z)
                  have e41 :  c = 41 := (hc 41 (by decide)).mp czq55
                  unfold skc at hq
                  rw [if_neg e59, if_neg hl, if_neg hd, if_neg e40, if_pos e41] at hq
                  exact hq)
          · refine z_iconst (v := 4) dX8_sortOf_48 (by decide) ?_
            refine z_goto (tgt := 64) dX8_sortOf_49 (by decide) ?_
            exact z_iret rfl dX8_sortOf_64 (by
                have hc := fun v (hv : v < 256) => (nI_eq (a := c) (b := v) (by omega) (by omega))
                have e59 : ¬ c = 59 := fun z => czq3 ((hc 59 (by decide)).mpr z)
                have hl : ¬ tLe c = true := fun z => by
                  simp only [tLe, Bool.and_eq_true, decide_eq_true_eq] at z
                  exact absurd czq13 (nI_nlt (b := 97) z.1 (by omega))
                have hd : ¬ tDi c = true := fun z => by
                  simp only [tDi, Bool.and_eq_true, decide_eq_true_eq] at z
                  exact absurd czq35 (nI_nlt (a := 57) z.2 (by decide))
                have e40 :  c = 40 := (hc 40 (by decide)).mp czq45
                unfold skc at hq
                rw [if_neg e59, if_neg hl, if_neg hd, if_pos e40] at hq
                exact hq)
        · refine z_iconst (v := 3) dX8_sortOf_38 (by decide) ?_
          refine z_goto (tgt := 64) dX8_sortOf_39 (by decide) ?_
          exact z_iret rfl dX8_sortOf_64 (by
              have hc := fun v (hv : v < 256) => (nI_eq (a := c) (b := v) (by omega) (by omega))
              have e59 : ¬ c = 59 := fun z => czq3 ((hc 59 (by decide)).mpr z)
              have hl : ¬ tLe c = true := fun z => by
                simp only [tLe, Bool.and_eq_true, decide_eq_true_eq] at z
                exact absurd czq13 (nI_nlt (b := 97) z.1 (by omega))
              have hd : tDi c = true := by
                simp only [tDi, Bool.and_eq_true, decide_eq_true_eq]
                exact ⟨Decidable.byContradiction fun z => czq29 (nI_lt (b := 48) (by omega) (by decide)), Decidable.byContradiction fun z => czq35 (nI_lt (a := 57) (by omega) (by omega))⟩
              unfold skc at hq
              rw [if_neg e59, if_neg hl, if_pos hd] at hq
              exact hq)
    · refine z_iload_n (j := 0) dX8_sortOf_16 rfl ?_
      refine z_bipush (v := 122) dX8_sortOf_17 (by decide) ?_
      refine z_icmp_gt (tgt := 26) dX8_sortOf_19 (by decide) (fun czq19 => ?_) (fun czq19 => ?_)
      · refine z_iload_n (j := 0) dX8_sortOf_26 rfl ?_
        refine z_bipush (v := 48) dX8_sortOf_27 (by decide) ?_
        refine z_icmp_lt (tgt := 42) dX8_sortOf_29 (by decide) (fun czq29 => ?_) (fun czq29 => ?_)
        · refine z_iload_n (j := 0) dX8_sortOf_42 rfl ?_
          refine z_bipush (v := 40) dX8_sortOf_43 (by decide) ?_
          refine z_icmp_ne (tgt := 52) dX8_sortOf_45 (by decide) (fun czq45 => ?_) (fun czq45 => ?_)
          · refine z_iload_n (j := 0) dX8_sortOf_52 rfl ?_
            refine z_bipush (v := 41) dX8_sortOf_53 (by decide) ?_
            refine z_icmp_ne (tgt := 62) dX8_sortOf_55 (by decide) (fun czq55 => ?_) (fun czq55 => ?_)
            · refine z_bipush (v := 6) dX8_sortOf_62 (by decide) ?_
              exact z_iret rfl dX8_sortOf_64 (by
                  have hc := fun v (hv : v < 256) => (nI_eq (a := c) (b := v) (by omega) (by omega))
                  have e59 : ¬ c = 59 := fun z => czq3 ((hc 59 (by decide)).mpr z)
                  have hl : ¬ tLe c = true := fun z => by
                    simp only [tLe, Bool.and_eq_true, decide_eq_true_eq] at z
                    exact absurd czq19 (nI_nlt (a := 122) z.2 (by decide))
                  have hd : ¬ tDi c = true := fun z => by
                    simp only [tDi, Bool.and_eq_true, decide_eq_true_eq] at z
                    exact absurd czq29 (nI_nlt (b := 48) z.1 (by omega))
                  have e40 : ¬ c = 40 := fun z => czq45 ((hc 40 (by decide)).mpr z)
                  have e41 : ¬ c = 41 := fun z => czq55 ((hc 41 (by decide)).mpr z)
                  unfold skc at hq
                  rw [if_neg e59, if_neg hl, if_neg hd, if_neg e40, if_neg e41] at hq
                  exact hq)
            · refine z_iconst (v := 5) dX8_sortOf_58 (by decide) ?_
              refine z_goto (tgt := 64) dX8_sortOf_59 (by decide) ?_
              exact z_iret rfl dX8_sortOf_64 (by
                  have hc := fun v (hv : v < 256) => (nI_eq (a := c) (b := v) (by omega) (by omega))
                  have e59 : ¬ c = 59 := fun z => czq3 ((hc 59 (by decide)).mpr z)
                  have hl : ¬ tLe c = true := fun z => by
                    simp only [tLe, Bool.and_eq_true, decide_eq_true_eq] at z
                    exact absurd czq19 (nI_nlt (a := 122) z.2 (by decide))
                  have hd : ¬ tDi c = true := fun z => by
                    simp only [tDi, Bool.and_eq_true, decide_eq_true_eq] at z
                    exact absurd czq29 (nI_nlt (b := 48) z.1 (by omega))
                  have e40 : ¬ c = 40 := fun z => czq45 ((hc 40 (by decide)).mpr z)
                  have e41 :  c = 41 := (hc 41 (by decide)).mp czq55
                  unfold skc at hq
                  rw [if_neg e59, if_neg hl, if_neg hd, if_neg e40, if_pos e41] at hq
                  exact hq)
          · refine z_iconst (v := 4) dX8_sortOf_48 (by decide) ?_
            refine z_goto (tgt := 64) dX8_sortOf_49 (by decide) ?_
            exact z_iret rfl dX8_sortOf_64 (by
                have hc := fun v (hv : v < 256) => (nI_eq (a := c) (b := v) (by omega) (by omega))
                have e59 : ¬ c = 59 := fun z => czq3 ((hc 59 (by decide)).mpr z)
                have hl : ¬ tLe c = true := fun z => by
                  simp only [tLe, Bool.and_eq_true, decide_eq_true_eq] at z
                  exact absurd czq19 (nI_nlt (a := 122) z.2 (by decide))
                have hd : ¬ tDi c = true := fun z => by
                  simp only [tDi, Bool.and_eq_true, decide_eq_true_eq] at z
                  exact absurd czq29 (nI_nlt (b := 48) z.1 (by omega))
                have e40 :  c = 40 := (hc 40 (by decide)).mp czq45
                unfold skc at hq
                rw [if_neg e59, if_neg hl, if_neg hd, if_pos e40] at hq
                exact hq)
        · refine z_iload_n (j := 0) dX8_sortOf_32 rfl ?_
          refine z_bipush (v := 57) dX8_sortOf_33 (by decide) ?_
          refine z_icmp_gt (tgt := 42) dX8_sortOf_35 (by decide) (fun czq35 => ?_) (fun czq35 => ?_)
          · refine z_iload_n (j := 0) dX8_sortOf_42 rfl ?_
            refine z_bipush (v := 40) dX8_sortOf_43 (by decide) ?_
            refine z_icmp_ne (tgt := 52) dX8_sortOf_45 (by decide) (fun czq45 => ?_) (fun czq45 => ?_)
            · refine z_iload_n (j := 0) dX8_sortOf_52 rfl ?_
              refine z_bipush (v := 41) dX8_sortOf_53 (by decide) ?_
              refine z_icmp_ne (tgt := 62) dX8_sortOf_55 (by decide) (fun czq55 => ?_) (fun czq55 => ?_)
              · refine z_bipush (v := 6) dX8_sortOf_62 (by decide) ?_
                exact z_iret rfl dX8_sortOf_64 (by
                    have hc := fun v (hv : v < 256) => (nI_eq (a := c) (b := v) (by omega) (by omega))
                    have e59 : ¬ c = 59 := fun z => czq3 ((hc 59 (by decide)).mpr z)
                    have hl : ¬ tLe c = true := fun z => by
                      simp only [tLe, Bool.and_eq_true, decide_eq_true_eq] at z
                      exact absurd czq19 (nI_nlt (a := 122) z.2 (by decide))
                    have hd : ¬ tDi c = true := fun z => by
                      simp only [tDi, Bool.and_eq_true, decide_eq_true_eq] at z
                      exact absurd czq35 (nI_nlt (a := 57) z.2 (by decide))
                    have e40 : ¬ c = 40 := fun z => czq45 ((hc 40 (by decide)).mpr z)
                    have e41 : ¬ c = 41 := fun z => czq55 ((hc 41 (by decide)).mpr z)
                    unfold skc at hq
                    rw [if_neg e59, if_neg hl, if_neg hd, if_neg e40, if_neg e41] at hq
                    exact hq)
              · refine z_iconst (v := 5) dX8_sortOf_58 (by decide) ?_
                refine z_goto (tgt := 64) dX8_sortOf_59 (by decide) ?_
                exact z_iret rfl dX8_sortOf_64 (by
                    have hc := fun v (hv : v < 256) => (nI_eq (a := c) (b := v) (by omega) (by omega))
                    have e59 : ¬ c = 59 := fun z => czq3 ((hc 59 (by decide)).mpr z)
                    have hl : ¬ tLe c = true := fun z => by
                      simp only [tLe, Bool.and_eq_true, decide_eq_true_eq] at z
                      exact absurd czq19 (nI_nlt (a := 122) z.2 (by decide))
                    have hd : ¬ tDi c = true := fun z => by
                      simp only [tDi, Bool.and_eq_true, decide_eq_true_eq] at z
                      exact absurd czq35 (nI_nlt (a := 57) z.2 (by decide))
                    have e40 : ¬ c = 40 := fun z => czq45 ((hc 40 (by decide)).mpr z)
                    have e41 :  c = 41 := (hc 41 (by decide)).mp czq55
                    unfold skc at hq
                    rw [if_neg e59, if_neg hl, if_neg hd, if_neg e40, if_pos e41] at hq
                    exact hq)
            · refine z_iconst (v := 4) dX8_sortOf_48 (by decide) ?_
              refine z_goto (tgt := 64) dX8_sortOf_49 (by decide) ?_
              exact z_iret rfl dX8_sortOf_64 (by
                  have hc := fun v (hv : v < 256) => (nI_eq (a := c) (b := v) (by omega) (by omega))
                  have e59 : ¬ c = 59 := fun z => czq3 ((hc 59 (by decide)).mpr z)
                  have hl : ¬ tLe c = true := fun z => by
                    simp only [tLe, Bool.and_eq_true, decide_eq_true_eq] at z
                    exact absurd czq19 (nI_nlt (a := 122) z.2 (by decide))
                  have hd : ¬ tDi c = true := fun z => by
                    simp only [tDi, Bool.and_eq_true, decide_eq_true_eq] at z
                    exact absurd czq35 (nI_nlt (a := 57) z.2 (by decide))
                  have e40 :  c = 40 := (hc 40 (by decide)).mp czq45
                  unfold skc at hq
                  rw [if_neg e59, if_neg hl, if_neg hd, if_pos e40] at hq
                  exact hq)
          · refine z_iconst (v := 3) dX8_sortOf_38 (by decide) ?_
            refine z_goto (tgt := 64) dX8_sortOf_39 (by decide) ?_
            exact z_iret rfl dX8_sortOf_64 (by
                have hc := fun v (hv : v < 256) => (nI_eq (a := c) (b := v) (by omega) (by omega))
                have e59 : ¬ c = 59 := fun z => czq3 ((hc 59 (by decide)).mpr z)
                have hl : ¬ tLe c = true := fun z => by
                  simp only [tLe, Bool.and_eq_true, decide_eq_true_eq] at z
                  exact absurd czq19 (nI_nlt (a := 122) z.2 (by decide))
                have hd : tDi c = true := by
                  simp only [tDi, Bool.and_eq_true, decide_eq_true_eq]
                  exact ⟨Decidable.byContradiction fun z => czq29 (nI_lt (b := 48) (by omega) (by decide)), Decidable.byContradiction fun z => czq35 (nI_lt (a := 57) (by omega) (by omega))⟩
                unfold skc at hq
                rw [if_neg e59, if_neg hl, if_pos hd] at hq
                exact hq)
      · refine z_iconst (v := 2) dX8_sortOf_22 (by decide) ?_
        refine z_goto (tgt := 64) dX8_sortOf_23 (by decide) ?_
        exact z_iret rfl dX8_sortOf_64 (by
            have hc := fun v (hv : v < 256) => (nI_eq (a := c) (b := v) (by omega) (by omega))
            have e59 : ¬ c = 59 := fun z => czq3 ((hc 59 (by decide)).mpr z)
            have hl : tLe c = true := by
              simp only [tLe, Bool.and_eq_true, decide_eq_true_eq]
              exact ⟨Decidable.byContradiction fun z => czq13 (nI_lt (b := 97) (by omega) (by decide)), Decidable.byContradiction fun z => czq19 (nI_lt (a := 122) (by omega) (by omega))⟩
            unfold skc at hq
            rw [if_neg e59, if_pos hl] at hq
            exact hq)
  · refine z_iconst (v := 1) dX8_sortOf_6 (by decide) ?_
    refine z_goto (tgt := 64) dX8_sortOf_7 (by decide) ?_
    exact z_iret rfl dX8_sortOf_64 (by
        have hc := fun v (hv : v < 256) => (nI_eq (a := c) (b := v) (by omega) (by omega))
        have e59 :  c = 59 := (hc 59 (by decide)).mp czq3
        unfold skc at hq
        rw [if_pos e59] at hq
        exact hq)

set_option maxHeartbeats 4000000 in
set_option maxRecDepth 100000 in
theorem n_blank {l : zL} {d kc ks n b : Nat} {h : Nat → va_E} {a : Nat → Nat → Int32} {L : Nat} {x : Nat → Nat} {Q : zQ} (hb : b + 14 ≤ n) (hL : L ≤ 600) (hu : ∀ i, i < L → a 10 i = nI (x i)) (hx : ∀ i, x i < 256) : ∀ m i (s : Nat → Int32), i + m = L → s 15 = nI L → s 22 = nI i → (∀ s', s' 22 = nI (rn tBl x m i) → (∀ q, q ≠ 22 → s' q = s q) → Zj l mX8_next d kc ks 60 [(0, .ref b)] [] n (mW h b s' a) Q) → Zj l mX8_next d kc ks 8 [(0, .ref b)] [] n (mW h b s a) Q := by
  intro m
  induction m with
  | zero =>
    intro i s hi h15 h22 hq
    have hiL : i = L := by omega
    refine z_aload_n (j := 0) dX8_next_8 rfl ?_
    refine z_get (v := .int (s 22)) (by omega) mW_obj fX8_167 rfl dX8_next_9 ?_
    refine z_aload_n (j := 0) dX8_next_12 rfl ?_
    refine z_get (v := .int (s 15)) (by omega) mW_obj fX8_157 rfl dX8_next_13 ?_
    rw [show (s 15) = (nI L) from h15, show (s 22) = (nI i) from h22]
    refine z_icmp_ge (tgt := 60) dX8_next_16 (by decide) (fun czq16 => ?_) (fun czq16 => absurd (nI_le (by omega) (by omega)) czq16)
    exact hq s (by rw [h22]; rfl) (fun _ _ => rfl)
  | succ m ih =>
    intro i s hi h15 h22 hq
    refine z_aload_n (j := 0) dX8_next_8 rfl ?_
    refine z_get (v := .int (s 22)) (by omega) mW_obj fX8_167 rfl dX8_next_9 ?_
    refine z_aload_n (j := 0) dX8_next_12 rfl ?_
    refine z_get (v := .int (s 15)) (by omega) mW_obj fX8_157 rfl dX8_next_13 ?_
    rw [show (s 15) = (nI L) from h15, show (s 22) = (nI i) from h22]
    refine z_icmp_ge (tgt := 60) dX8_next_16 (by decide) (fun czq16 => absurd czq16 (nI_ge (by omega) (by omega))) (fun czq16 => ?_)
    refine z_aload_n (j := 0) dX8_next_19 rfl ?_
    refine z_get (v := .ref (b + 11)) (by omega) mW_obj fX8_40 rfl dX8_next_20 ?_
    refine z_aload_n (j := 0) dX8_next_23 rfl ?_
    refine z_get (v := .int (s 22)) (by omega) mW_obj fX8_167 rfl dX8_next_24 ?_
    rw [show (s 22) = (nI i) from h22]
    refine m_aldN 10 600 i (by decide) rfl rfl hb rfl (by omega) (by decide) dX8_next_27 ?_
    rw [show (a 10 i) = (nI (x i)) from hu i (by omega)]
    refine z_bipush (v := 32) dX8_next_28 (by decide) ?_
    refine z_icmp_eq (tgt := 47) dX8_next_30 (by decide) (fun czq30 => ?_) (fun czq30 => ?_)
    · refine z_aload_n (j := 0) dX8_next_47 rfl ?_
      refine z_dup rfl dX8_next_48 ?_
      refine z_get (v := .int (s 22)) (by omega) mW_obj fX8_167 rfl dX8_next_49 ?_
      refine z_iconst (v := 1) dX8_next_52 (by decide) ?_
      refine z_iadd dX8_next_53 ?_
      rw [show ((s 22) + 1) = (nI (i + 1)) from by rw [h22, nI_1]]
      refine m_put (k := 22) (by omega) fX8_167 (by unfold mS; omega) (by decide) dX8_next_54 ?_
      refine z_goto (tgt := 8) dX8_next_57 (by decide) ?_
      have hyes : tBl (x i) = true := by
        simp only [tBl, Bool.or_eq_true, decide_eq_true_eq]
        exact Or.inl ((nI_eq (b := 32) (by have := hx i; omega) (by decide)).mp czq30)
      refine ih (i + 1) _ (by omega) (by rw [up_ne (by decide)]; exact h15) (by rw [up_eq]) (fun s' g1 g2 => hq s' (by rw [rn_yes hyes]; exact g1) (fun q hq9 => (g2 q hq9).trans (up_ne hq9)))
    · refine z_aload_n (j := 0) dX8_next_33 rfl ?_
      refine z_get (v := .ref (b + 11)) (by omega) mW_obj fX8_40 rfl dX8_next_34 ?_
      refine z_aload_n (j := 0) dX8_next_37 rfl ?_
      refine z_get (v := .int (s 22)) (by omega) mW_obj fX8_167 rfl dX8_next_38 ?_
      rw [show (s 22) = (nI i) from h22]
      refine m_aldN 10 600 i (by decide) rfl rfl hb rfl (by omega) (by decide) dX8_next_41 ?_
      rw [show (a 10 i) = (nI (x i)) from hu i (by omega)]
      refine z_bipush (v := 10) dX8_next_42 (by decide) ?_
      refine z_icmp_ne (tgt := 60) dX8_next_44 (by decide) (fun czq44 => ?_) (fun czq44 => ?_)
      · have hno : ¬ tBl (x i) = true := fun z => by
          simp only [tBl, Bool.or_eq_true, decide_eq_true_eq] at z
          exact z.elim (fun z => czq30 (by rw [z]; rfl)) (fun z => czq44 (by rw [z]; rfl))
        exact hq s (by rw [rn_no hno]; exact h22) (fun _ _ => rfl)
      · refine z_aload_n (j := 0) dX8_next_47 rfl ?_
        refine z_dup rfl dX8_next_48 ?_
        refine z_get (v := .int (s 22)) (by omega) mW_obj fX8_167 rfl dX8_next_49 ?_
        refine z_iconst (v := 1) dX8_next_52 (by decide) ?_
        refine z_iadd dX8_next_53 ?_
        rw [show ((s 22) + 1) = (nI (i + 1)) from by rw [h22, nI_1]]
        refine m_put (k := 22) (by omega) fX8_167 (by unfold mS; omega) (by decide) dX8_next_54 ?_
        refine z_goto (tgt := 8) dX8_next_57 (by decide) ?_
        have hyes : tBl (x i) = true := by
          simp only [tBl, Bool.or_eq_true, decide_eq_true_eq]
          exact Or.inr ((nI_eq (b := 10) (by have := hx i; omega) (by decide)).mp czq44)
        refine ih (i + 1) _ (by omega) (by rw [up_ne (by decide)]; exact h15) (by rw [up_eq]) (fun s' g1 g2 => hq s' (by rw [rn_yes hyes]; exact g1) (fun q hq9 => (g2 q hq9).trans (up_ne hq9)))

set_option maxHeartbeats 4000000 in
set_option maxRecDepth 100000 in
theorem n_let {l : zL} {d kc ks n b : Nat} {h : Nat → va_E} {a : Nat → Nat → Int32} {L : Nat} {x : Nat → Nat} {Q : zQ} (hb : b + 14 ≤ n) (hL : L ≤ 600) (hu : ∀ i, i < L → a 10 i = nI (x i)) (hx : ∀ i, x i < 256) : ∀ m i (s : Nat → Int32), i + m = L → s 15 = nI L → s 21 = 2 → s 23 = nI i → (∀ s', s' 23 = nI (rn tLe x m i) → (∀ q, q ≠ 23 → s' q = s q) → Zj l mX8_next (d + 1) kc ks 170 [(0, .ref b)] [] n (mW h b s' a) Q) → Zj l mX8_next (d + 1) kc ks 111 [(0, .ref b)] [] n (mW h b s a) Q := by
  intro m
  induction m with
  | zero =>
    intro i s hi h15 h21 h23 hq
    have hiL : i = L := by omega
    refine z_aload_n (j := 0) dX8_next_111 rfl ?_
    refine z_get (v := .int (s 21)) (by omega) mW_obj fX8_170 rfl dX8_next_112 ?_
    refine z_iconst (v := 2) dX8_next_115 (by decide) ?_
    rw [show (s 21) = 2 from h21]
    refine z_icmp_eq (tgt := 127) dX8_next_116 (by decide) (fun czq116 => ?_) (fun czq116 => absurd rfl czq116)
    refine z_aload_n (j := 0) dX8_next_127 rfl ?_
    refine z_get (v := .int (s 23)) (by omega) mW_obj fX8_164 rfl dX8_next_128 ?_
    refine z_aload_n (j := 0) dX8_next_131 rfl ?_
    refine z_get (v := .int (s 15)) (by omega) mW_obj fX8_157 rfl dX8_next_132 ?_
    rw [show (s 15) = (nI L) from h15, show (s 23) = (nI i) from h23]
    refine z_icmp_ge (tgt := 170) dX8_next_135 (by decide) (fun czq135 => ?_) (fun czq135 => absurd (nI_le (by omega) (by omega)) czq135)
    exact hq s (by rw [h23]; rfl) (fun _ _ => rfl)
  | succ m ih =>
    intro i s hi h15 h21 h23 hq
    refine z_aload_n (j := 0) dX8_next_111 rfl ?_
    refine z_get (v := .int (s 21)) (by omega) mW_obj fX8_170 rfl dX8_next_112 ?_
    refine z_iconst (v := 2) dX8_next_115 (by decide) ?_
    rw [show (s 21) = 2 from h21]
    refine z_icmp_eq (tgt := 127) dX8_next_116 (by decide) (fun czq116 => ?_) (fun czq116 => absurd rfl czq116)
    refine z_aload_n (j := 0) dX8_next_127 rfl ?_
    refine z_get (v := .int (s 23)) (by omega) mW_obj fX8_164 rfl dX8_next_128 ?_
    refine z_aload_n (j := 0) dX8_next_131 rfl ?_
    refine z_get (v := .int (s 15)) (by omega) mW_obj fX8_157 rfl dX8_next_132 ?_
    rw [show (s 15) = (nI L) from h15, show (s 23) = (nI i) from h23]
    refine z_icmp_ge (tgt := 170) dX8_next_135 (by decide) (fun czq135 => absurd czq135 (nI_ge (by omega) (by omega))) (fun czq135 => ?_)
    refine z_aload_n (j := 0) dX8_next_138 rfl ?_
    refine z_get (v := .ref (b + 11)) (by omega) mW_obj fX8_40 rfl dX8_next_139 ?_
    refine z_aload_n (j := 0) dX8_next_142 rfl ?_
    refine z_get (v := .int (s 23)) (by omega) mW_obj fX8_164 rfl dX8_next_143 ?_
    rw [show (s 23) = (nI i) from h23]
    refine m_aldN 10 600 i (by decide) rfl rfl hb rfl (by omega) (by decide) dX8_next_146 ?_
    rw [show (a 10 i) = (nI (x i)) from hu i (by omega)]
    refine z_kS [.int ((nI (x i)))] 0 0 kc ks yoX8_sortOf ysX8_sortOf rfl (by decide) lX8_173 rfl (Nat.le_of_ble_eq_true rfl) (Nat.le_of_ble_eq_true rfl) dX8_next_147 (by omega) (by omega) (z_room (by omega) (Nat.le_refl _) (Nat.le_refl _) (m_sortOf (d := 0) (c := x i) (hx i) ⟨rfl, ?_⟩))
    refine z_aload_n (j := 0) dX8_next_150 rfl ?_
    refine z_get (v := .int (s 21)) (by omega) mW_obj fX8_170 rfl dX8_next_151 ?_
    rw [show (s 21) = (nI 2) from h21]
    refine z_icmp_ne (tgt := 170) dX8_next_154 (by decide) (fun czq154 => ?_) (fun czq154 => ?_)
    · have hno : ¬ tLe (x i) = true := fun z => czq154 (by rw [(skc_all _ (hx i)).2.1.mpr z])
      exact hq s (by rw [rn_no hno]; exact h23) (fun _ _ => rfl)
    · refine z_aload_n (j := 0) dX8_next_157 rfl ?_
      refine z_dup rfl dX8_next_158 ?_
      refine z_get (v := .int (s 23)) (by omega) mW_obj fX8_164 rfl dX8_next_159 ?_
      refine z_iconst (v := 1) dX8_next_162 (by decide) ?_
      refine z_iadd dX8_next_163 ?_
      rw [show ((s 23) + 1) = (nI (i + 1)) from by rw [h23, nI_1]]
      refine m_put (k := 23) (by omega) fX8_164 (by unfold mS; omega) (by decide) dX8_next_164 ?_
      refine z_goto (tgt := 111) dX8_next_167 (by decide) ?_
      have h9 := skc_all _ (hx i)
      have hyes : tLe (x i) = true := h9.2.1.mp ((nI_eq (by omega) (by decide)).mp czq154)
      refine ih (i + 1) _ (by omega) (by rw [up_ne (by decide)]; exact h15) (by rw [up_ne (by decide)]; exact h21) (by rw [up_eq]) (fun s' g1 g2 => hq s' (by rw [rn_yes hyes]; exact g1) (fun q hq9 => (g2 q hq9).trans (up_ne hq9)))

set_option maxHeartbeats 4000000 in
set_option maxRecDepth 100000 in
theorem n_dig {l : zL} {d kc ks n b : Nat} {h : Nat → va_E} {a : Nat → Nat → Int32} {L : Nat} {x : Nat → Nat} {Q : zQ} (hb : b + 14 ≤ n) (hL : L ≤ 600) (hu : ∀ i, i < L → a 10 i = nI (x i)) (hx : ∀ i, x i < 256) : ∀ m i (s : Nat → Int32), i + m = L → s 15 = nI L → s 21 = 3 → s 23 = nI i → (∀ s', s' 23 = nI (rn tDi x m i) → (∀ q, q ≠ 23 → s' q = s q) → Zj l mX8_next (d + 1) kc ks 170 [(0, .ref b)] [] n (mW h b s' a) Q) → Zj l mX8_next (d + 1) kc ks 111 [(0, .ref b)] [] n (mW h b s a) Q := by
  intro m
  induction m with
  | zero =>
    intro i s hi h15 h21 h23 hq
    have hiL : i = L := by omega
    refine z_aload_n (j := 0) dX8_next_111 rfl ?_
    refine z_get (v := .int (s 21)) (by omega) mW_obj fX8_170 rfl dX8_next_112 ?_
    refine z_iconst (v := 2) dX8_next_115 (by decide) ?_
    rw [show (s 21) = 3 from h21]
    refine z_icmp_eq (tgt := 127) dX8_next_116 (by decide) (fun czq116 => absurd czq116 (by decide)) (fun czq116 => ?_)
    refine z_aload_n (j := 0) dX8_next_119 rfl ?_
    refine z_get (v := .int (s 21)) (by omega) mW_obj fX8_170 rfl dX8_next_120 ?_
    refine z_iconst (v := 3) dX8_next_123 (by decide) ?_
    rw [show (s 21) = 3 from h21]
    refine z_icmp_ne (tgt := 170) dX8_next_124 (by decide) (fun czq124 => absurd czq124 (fun z => z rfl)) (fun czq124 => ?_)
    refine z_aload_n (j := 0) dX8_next_127 rfl ?_
    refine z_get (v := .int (s 23)) (by omega) mW_obj fX8_164 rfl dX8_next_128 ?_
    refine z_aload_n (j := 0) dX8_next_131 rfl ?_
    refine z_get (v := .int (s 15)) (by omega) mW_obj fX8_157 rfl dX8_next_132 ?_
    rw [show (s 15) = (nI L) from h15, show (s 23) = (nI i) from h23]
    refine z_icmp_ge (tgt := 170) dX8_next_135 (by decide) (fun czq135 => ?_) (fun czq135 => absurd (nI_le (by omega) (by omega)) czq135)
    exact hq s (by rw [h23]; rfl) (fun _ _ => rfl)
  | succ m ih =>
    intro i s hi h15 h21 h23 hq
    refine z_aload_n (j := 0) dX8_next_111 rfl ?_
    refine z_get (v := .int (s 21)) (by omega) mW_obj fX8_170 rfl dX8_next_112 ?_
    refine z_iconst (v := 2) dX8_next_115 (by decide) ?_
    rw [show (s 21) = 3 from h21]
    refine z_icmp_eq (tgt := 127) dX8_next_116 (by decide) (fun czq116 => absurd czq116 (by decide)) (fun czq116 => ?_)
    refine z_aload_n (j := 0) dX8_next_119 rfl ?_
    refine z_get (v := .int (s 21)) (by omega) mW_obj fX8_170 rfl dX8_next_120 ?_
    refine z_iconst (v := 3) dX8_next_123 (by decide) ?_
    rw [show (s 21) = 3 from h21]
    refine z_icmp_ne (tgt := 170) dX8_next_124 (by decide) (fun czq124 => absurd czq124 (fun z => z rfl)) (fun czq124 => ?_)
    refine z_aload_n (j := 0) dX8_next_127 rfl ?_
    refine z_get (v := .int (s 23)) (by omega) mW_obj fX8_164 rfl dX8_next_128 ?_
    refine z_aload_n (j := 0) dX8_next_131 rfl ?_
    refine z_get (v := .int (s 15)) (by omega) mW_obj fX8_157 rfl dX8_next_132 ?_
    rw [show (s 15) = (nI L) from h15, show (s 23) = (nI i) from h23]
    refine z_icmp_ge (tgt := 170) dX8_next_135 (by decide) (fun czq135 => absurd czq135 (nI_ge (by omega) (by omega))) (fun czq135 => ?_)
    refine z_aload_n (j := 0) dX8_next_138 rfl ?_
    refine z_get (v := .ref (b + 11)) (by omega) mW_obj fX8_40 rfl dX8_next_139 ?_
    refine z_aload_n (j := 0) dX8_next_142 rfl ?_
    refine z_get (v := .int (s 23)) (by omega) mW_obj fX8_164 rfl dX8_next_143 ?_
    rw [show (s 23) = (nI i) from h23]
    refine m_aldN 10 600 i (by decide) rfl rfl hb rfl (by omega) (by decide) dX8_next_146 ?_
    rw [show (a 10 i) = (nI (x i)) from hu i (by omega)]
    refine z_kS [.int ((nI (x i)))] 0 0 kc ks yoX8_sortOf ysX8_sortOf rfl (by decide) lX8_173 rfl (Nat.le_of_ble_eq_true rfl) (Nat.le_of_ble_eq_true rfl) dX8_next_147 (by omega) (by omega) (z_room (by omega) (Nat.le_refl _) (Nat.le_refl _) (m_sortOf (d := 0) (c := x i) (hx i) ⟨rfl, ?_⟩))
    refine z_aload_n (j := 0) dX8_next_150 rfl ?_
    refine z_get (v := .int (s 21)) (by omega) mW_obj fX8_170 rfl dX8_next_151 ?_
    rw [show (s 21) = (nI 3) from h21]
    refine z_icmp_ne (tgt := 170) dX8_next_154 (by decide) (fun czq154 => ?_) (fun czq154 => ?_)
    · have hno : ¬ tDi (x i) = true := fun z => czq154 (by rw [(skc_all _ (hx i)).2.2.mpr z])
      exact hq s (by rw [rn_no hno]; exact h23) (fun _ _ => rfl)
    · refine z_aload_n (j := 0) dX8_next_157 rfl ?_
      refine z_dup rfl dX8_next_158 ?_
      refine z_get (v := .int (s 23)) (by omega) mW_obj fX8_164 rfl dX8_next_159 ?_
      refine z_iconst (v := 1) dX8_next_162 (by decide) ?_
      refine z_iadd dX8_next_163 ?_
      rw [show ((s 23) + 1) = (nI (i + 1)) from by rw [h23, nI_1]]
      refine m_put (k := 23) (by omega) fX8_164 (by unfold mS; omega) (by decide) dX8_next_164 ?_
      refine z_goto (tgt := 111) dX8_next_167 (by decide) ?_
      have h9 := skc_all _ (hx i)
      have hyes : tDi (x i) = true := h9.2.2.mp ((nI_eq (by omega) (by decide)).mp czq154)
      refine ih (i + 1) _ (by omega) (by rw [up_ne (by decide)]; exact h15) (by rw [up_ne (by decide)]; exact h21) (by rw [up_eq]) (fun s' g1 g2 => hq s' (by rw [rn_yes hyes]; exact g1) (fun q hq9 => (g2 q hq9).trans (up_ne hq9)))

set_option maxHeartbeats 4000000 in
set_option maxRecDepth 100000 in
theorem n_val {l : zL} {d kc ks n b : Nat} {h : Nat → va_E} {a : Nat → Nat → Int32} {L : Nat} {x : Nat → Nat} {st te : Nat} {Q : zQ} (hb : b + 14 ≤ n) (hL : L ≤ 600) (hu : ∀ i, i < L → a 10 i = nI (x i)) (hx : ∀ i, x i < 256) (hte : te ≤ L) (hdi : ∀ i, st ≤ i → i < te → tDi (x i) = true) : ∀ m i (s : Nat → Int32), i + m = te → st ≤ i → s 21 = 3 → s 23 = nI te → s 24 = nI (vN x st (i - st)) → (∀ s', s' 24 = nI (vN x st (te - st)) → (∀ q, q ≠ 24 → s' q = s q) → Q (.inl none) n (mW h b s' a)) → Zj l mX8_next (d + 1) kc ks 207 [(0, .ref b), (1, .int ((nI i)))] [] n (mW h b s a) Q := by
  intro m
  induction m with
  | zero =>
    intro i s hi hst h21 h23 h24 hq
    refine z_iload_n (j := 1) dX8_next_207 rfl ?_
    refine z_aload_n (j := 0) dX8_next_208 rfl ?_
    refine z_get (v := .int (s 23)) (by omega) mW_obj fX8_164 rfl dX8_next_209 ?_
    rw [show (s 23) = (nI te) from h23]
    refine z_icmp_ge (tgt := 250) dX8_next_212 (by decide) (fun czq212 => ?_) (fun czq212 => absurd (nI_le (by omega) (by omega)) czq212)
    exact z_vret rfl dX8_next_250 (hq s (by rw [h24, show i = te from by omega]) (fun _ _ => rfl))
  | succ m ih =>
    intro i s hi hst h21 h23 h24 hq
    refine z_iload_n (j := 1) dX8_next_207 rfl ?_
    refine z_aload_n (j := 0) dX8_next_208 rfl ?_
    refine z_get (v := .int (s 23)) (by omega) mW_obj fX8_164 rfl dX8_next_209 ?_
    rw [show (s 23) = (nI te) from h23]
    refine z_icmp_ge (tgt := 250) dX8_next_212 (by decide) (fun czq212 => absurd czq212 (nI_ge (by omega) (by omega))) (fun czq212 => ?_)
    refine z_aload_n (j := 0) dX8_next_215 rfl ?_
    refine z_get (v := .int (s 21)) (by omega) mW_obj fX8_170 rfl dX8_next_216 ?_
    refine z_iconst (v := 3) dX8_next_219 (by decide) ?_
    rw [show (s 21) = 3 from h21]
    refine z_icmp_ne (tgt := 250) dX8_next_220 (by decide) (fun czq220 => absurd czq220 (fun z => z rfl)) (fun czq220 => ?_)
    refine z_aload_n (j := 0) dX8_next_223 rfl ?_
    refine z_bipush (v := 10) dX8_next_224 (by decide) ?_
    refine z_aload_n (j := 0) dX8_next_226 rfl ?_
    refine z_get (v := .int (s 24)) (by omega) mW_obj fX8_176 rfl dX8_next_227 ?_
    refine z_imul dX8_next_230 ?_
    refine z_aload_n (j := 0) dX8_next_231 rfl ?_
    refine z_get (v := .ref (b + 11)) (by omega) mW_obj fX8_40 rfl dX8_next_232 ?_
    refine z_iload_n (j := 1) dX8_next_235 rfl ?_
    refine m_aldN 10 600 i (by decide) rfl rfl hb rfl (by omega) (by decide) dX8_next_236 ?_
    rw [show (a 10 i) = (nI (x i)) from hu i (by omega)]
    refine z_iadd dX8_next_237 ?_
    refine z_bipush (v := 48) dX8_next_238 (by decide) ?_
    refine z_isub dX8_next_240 ?_
    have hd := hdi i (by omega) (by omega)
    rw [show (((10 * (s 24)) + (nI (x i))) - 48) = nI (vN x st (i + 1 - st)) from by
      simp only [tDi, Bool.and_eq_true, decide_eq_true_eq] at hd
      rw [h24, show i + 1 - st = (i - st) + 1 by omega, vN, show st + (i - st) = i by omega, show (10 : Int32) = nI 10 from rfl, show (48 : Int32) = nI 48 from rfl, pk_mul, nI_add, pk_sub (by omega), Nat.mul_comm 10, Nat.add_sub_assoc hd.1]]
    refine m_put (k := 24) (by omega) fX8_176 (by unfold mS; omega) (by decide) dX8_next_241 ?_
    skip
    refine z_iinc ((nI (i + 1))) [1, 0] [(0, .ref b), (1, .int ((nI (i + 1))))] dX8_next_244 (j := 1) rfl (nI_1 i) (by decide) rfl ?_
    refine z_goto (tgt := 207) dX8_next_247 (by decide) ?_
    refine ih (i + 1) _ (by omega) (by omega) (by rw [up_ne (by decide)]; exact h21) (by rw [up_ne (by decide)]; exact h23) (by rw [up_eq]) (fun s' g1 g2 => hq s' g1 (fun q hq9 => (g2 q hq9).trans (up_ne hq9)))

set_option maxHeartbeats 4000000 in
set_option maxRecDepth 100000 in
theorem n_fin {l : zL} {d kc ks n b : Nat} {h : Nat → va_E} {a : Nat → Nat → Int32} {st te kk : Nat} {Q : zQ} {s : Nat → Int32} (hb : b + 14 ≤ n) (h22 : s 22 = nI st) (h23 : s 23 = nI te) (hst : st < te) (hte : te ≤ 600) (h21 : s 21 = nI kk) (hk6 : kk ≤ 6) (hk3 : ¬ kk = 3) (hq : ∀ s', (∀ q, q ≠ 24 → s' q = s q) → Q (.inl none) n (mW h b s' a)) : Zj l mX8_next (d + 1) kc ks 170 [(0, .ref b)] [] n (mW h b s a) Q := by
  refine z_aload_n (j := 0) dX8_next_170 rfl ?_
  refine z_get (v := .int (s 21)) (by omega) mW_obj fX8_170 rfl dX8_next_171 ?_
  refine z_iconst (v := 3) dX8_next_174 (by decide) ?_
  rw [show (s 21) = (nI kk) from h21]
  refine z_icmp_ne (tgt := 197) dX8_next_175 (by decide) (fun czq175 => ?_) (fun czq175 => absurd czq175 (fun z => hk3 ((nI_eq (b := 3) (by omega) (by decide)).mp z)))
  refine z_aload_n (j := 0) dX8_next_197 rfl ?_
  refine z_iconst (v := 0) dX8_next_198 (by decide) ?_
  refine m_put (k := 24) (by omega) fX8_176 (by unfold mS; omega) (by decide) dX8_next_199 ?_
  refine z_aload_n (j := 0) dX8_next_202 rfl ?_
  refine z_get (v := .int (s 22)) (by omega) mW_obj fX8_167 rfl dX8_next_203 ?_
  refine z_istore_n [1, 0] [(0, .ref b), (1, .int ((s 22)))] dX8_next_206 (by decide) rfl ?_
  skip
  refine z_iload_n (j := 1) dX8_next_207 rfl ?_
  refine z_aload_n (j := 0) dX8_next_208 rfl ?_
  refine z_get (v := .int (s 23)) (by omega) mW_obj fX8_164 rfl dX8_next_209 ?_
  rw [show (s 23) = nI te from h23, show (s 22) = nI st from h22]
  refine z_icmp_ge (tgt := 250) dX8_next_212 (by decide) (fun czq212 => absurd czq212 (nI_ge (by omega) (by omega))) (fun czq212 => ?_)
  refine z_aload_n (j := 0) dX8_next_215 rfl ?_
  refine z_get (v := .int (s 21)) (by omega) mW_obj fX8_170 rfl dX8_next_216 ?_
  refine z_iconst (v := 3) dX8_next_219 (by decide) ?_
  rw [show (s 21) = (nI kk) from h21]
  refine z_icmp_ne (tgt := 250) dX8_next_220 (by decide) (fun czq220 => ?_) (fun czq220 => absurd czq220 (fun z => hk3 ((nI_eq (b := 3) (by omega) (by decide)).mp z)))
  exact z_vret rfl dX8_next_250 (hq _ (fun q hq9 => up_ne hq9))

set_option maxHeartbeats 4000000 in
set_option maxRecDepth 100000 in
theorem n_fin3 {l : zL} {d kc ks n b : Nat} {h : Nat → va_E} {a : Nat → Nat → Int32} {L : Nat} {x : Nat → Nat} {st te : Nat} {Q : zQ} {s : Nat → Int32} (hb : b + 14 ≤ n) (hL : L ≤ 600) (hu : ∀ i, i < L → a 10 i = nI (x i)) (hx : ∀ i, x i < 256) (hteL : te ≤ L) (hst : st < te) (h21 : s 21 = 3) (h22 : s 22 = nI st) (h23 : s 23 = nI te) (hdi : ∀ i, st ≤ i → i < te → tDi (x i) = true) (hle4 : te - st ≤ 4) (hq : ∀ s', s' 24 = nI (vN x st (te - st)) → (∀ q, q ≠ 24 → s' q = s q) → Q (.inl none) n (mW h b s' a)) : Zj l mX8_next (d + 1) kc ks 170 [(0, .ref b)] [] n (mW h b s a) Q := by
  refine z_aload_n (j := 0) dX8_next_170 rfl ?_
  refine z_get (v := .int (s 21)) (by omega) mW_obj fX8_170 rfl dX8_next_171 ?_
  refine z_iconst (v := 3) dX8_next_174 (by decide) ?_
  rw [show (s 21) = 3 from h21]
  refine z_icmp_ne (tgt := 197) dX8_next_175 (by decide) (fun czq175 => absurd czq175 (fun z => z rfl)) (fun czq175 => ?_)
  refine z_aload_n (j := 0) dX8_next_178 rfl ?_
  refine z_get (v := .int (s 23)) (by omega) mW_obj fX8_164 rfl dX8_next_179 ?_
  refine z_aload_n (j := 0) dX8_next_182 rfl ?_
  refine z_get (v := .int (s 22)) (by omega) mW_obj fX8_167 rfl dX8_next_183 ?_
  refine z_isub dX8_next_186 ?_
  refine z_iconst (v := 4) dX8_next_187 (by decide) ?_
  rw [show ((s 23) - (s 22)) = nI (te - st) from by rw [h23, h22, pk_sub (by omega)]]
  refine z_icmp_le (tgt := 197) dX8_next_188 (by decide) (fun czq188 => ?_) (fun czq188 => absurd (nI_le (b := 4) hle4 (by decide)) czq188)
  refine z_aload_n (j := 0) dX8_next_197 rfl ?_
  refine z_iconst (v := 0) dX8_next_198 (by decide) ?_
  refine m_put (k := 24) (by omega) fX8_176 (by unfold mS; omega) (by decide) dX8_next_199 ?_
  refine z_aload_n (j := 0) dX8_next_202 rfl ?_
  refine z_get (v := .int (s 22)) (by omega) mW_obj fX8_167 rfl dX8_next_203 ?_
  rw [show (s 22) = (nI st) from h22]
  refine z_istore_n [1, 0] [(0, .ref b), (1, .int ((nI st)))] dX8_next_206 (by decide) rfl ?_
  refine n_val hb hL hu hx hteL hdi (te - st) st _ (by omega) (Nat.le_refl _) (by rw [up_ne (by decide)]; exact h21) (by rw [up_ne (by decide)]; exact h23) (by rw [up_eq, Nat.sub_self]; rfl) (fun s' g1 g2 => hq s' g1 (fun q hq9 => (g2 q hq9).trans (up_ne hq9)))

set_option maxHeartbeats 4000000 in
set_option maxRecDepth 100000 in
theorem n_fin6 {l : zL} {d kc ks n b : Nat} {h : Nat → va_E} {a : Nat → Nat → Int32} {L : Nat} {x : Nat → Nat} {st te : Nat} {Q : zQ} {s : Nat → Int32} (hb : b + 14 ≤ n) (hte : te ≤ 600) (hst : st < te) (h21 : s 21 = 3) (h22 : s 22 = nI st) (h23 : s 23 = nI te) (hle4 : ¬ te - st ≤ 4) (hq : ∀ s', s' 21 = 6 → (∀ q, q ≠ 24 → q ≠ 21 → s' q = s q) → Q (.inl none) n (mW h b s' a)) : Zj l mX8_next (d + 1) kc ks 170 [(0, .ref b)] [] n (mW h b s a) Q := by
  refine z_aload_n (j := 0) dX8_next_170 rfl ?_
  refine z_get (v := .int (s 21)) (by omega) mW_obj fX8_170 rfl dX8_next_171 ?_
  refine z_iconst (v := 3) dX8_next_174 (by decide) ?_
  rw [show (s 21) = 3 from h21]
  refine z_icmp_ne (tgt := 197) dX8_next_175 (by decide) (fun czq175 => absurd czq175 (fun z => z rfl)) (fun czq175 => ?_)
  refine z_aload_n (j := 0) dX8_next_178 rfl ?_
  refine z_get (v := .int (s 23)) (by omega) mW_obj fX8_164 rfl dX8_next_179 ?_
  refine z_aload_n (j := 0) dX8_next_182 rfl ?_
  refine z_get (v := .int (s 22)) (by omega) mW_obj fX8_167 rfl dX8_next_183 ?_
  refine z_isub dX8_next_186 ?_
  refine z_iconst (v := 4) dX8_next_187 (by decide) ?_
  rw [show ((s 23) - (s 22)) = nI (te - st) from by rw [h23, h22, pk_sub (by omega)]]
  refine z_icmp_le (tgt := 197) dX8_next_188 (by decide) (fun czq188 => absurd czq188 (nI_nle2 (b := 4) (by omega) (by omega))) (fun czq188 => ?_)
  refine z_aload_n (j := 0) dX8_next_191 rfl ?_
  refine z_bipush (v := 6) dX8_next_192 (by decide) ?_
  refine m_put (k := 21) (by omega) fX8_170 (by unfold mS; omega) (by decide) dX8_next_194 ?_
  refine z_aload_n (j := 0) dX8_next_197 rfl ?_
  refine z_iconst (v := 0) dX8_next_198 (by decide) ?_
  refine m_put (k := 24) (by omega) fX8_176 (by unfold mS; omega) (by decide) dX8_next_199 ?_
  refine z_aload_n (j := 0) dX8_next_202 rfl ?_
  refine z_get (v := .int (s 22)) (by omega) mW_obj fX8_167 rfl dX8_next_203 ?_
  refine z_istore_n [1, 0] [(0, .ref b), (1, .int ((s 22)))] dX8_next_206 (by decide) rfl ?_
  refine z_iload_n (j := 1) dX8_next_207 rfl ?_
  refine z_aload_n (j := 0) dX8_next_208 rfl ?_
  refine z_get (v := .int (s 23)) (by omega) mW_obj fX8_164 rfl dX8_next_209 ?_
  rw [show (s 23) = nI te from h23, show (s 22) = nI st from h22]
  refine z_icmp_ge (tgt := 250) dX8_next_212 (by decide) (fun czq212 => absurd czq212 (nI_ge (by omega) (by omega))) (fun czq212 => ?_)
  refine z_aload_n (j := 0) dX8_next_215 rfl ?_
  refine z_get (v := .int (6)) (by omega) mW_obj fX8_170 rfl dX8_next_216 ?_
  refine z_iconst (v := 3) dX8_next_219 (by decide) ?_
  refine z_icmp_ne (tgt := 250) dX8_next_220 (by decide) (fun czq220 => ?_) (fun czq220 => absurd czq220 (by decide))
  exact z_vret rfl dX8_next_250 (hq _ (by rw [up_ne (by decide), up_eq]) (fun q g1 g2 => by rw [up_ne g1, up_ne g2]))
