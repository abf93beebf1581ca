/-! THE CONSTANTS AT THE LAW'S START: what the given facts say of them -/
def flA : Cond → List Cond → List Cond
  | .and a b, r => flA a (flA b r)
  | c, r => c :: r
theorem flA_mem {args : Array Value} {s : State} : ∀ (T : Cond) (r : List Cond), T.before args s = true → ∀ c ∈ flA T r, c.before args s = true ∨ c ∈ r := by
  intro T
  induction T with
  | and a b iha ihb =>
    intro r h c hc
    rw [Cond.before_and, Bool.and_eq_true] at h
    rcases iha (flA b r) h.1 c hc with g | g
    · exact Or.inl g
    · exact ihb r h.2 c g
  | _ =>
    intro r h c hc
    rcases List.mem_cons.mp hc with rfl | g
    · exact Or.inl h
    · exact Or.inr g
def nfL : List Cond := flA (Jvm.Cond.and given_1 narrow_1) []
/-- the given facts, by their places -/
def nfH (b : Nat) (s : State) : Prop := ∀ (i : Nat) (c : Cond), nfL[i]? = some c → c.before #[.ref b] s = true
theorem nfH_of {b : Nat} {s : State} (h : (Jvm.Cond.and given_1 narrow_1).before #[.ref b] s = true) : nfH b s := fun i c hi =>
  (flA_mem _ [] h c (List.mem_of_getElem? hi)).elim id (fun g => absurd g List.not_mem_nil)
def evA (b : Nat) (s : State) (t : Term) : Nat := match t.eval #[.ref b] s none [] s with
  | some (.ref a) => a
  | _ => 0
theorem ev_ref {b a : Nat} {s : State} {t : Term} (h : t.eval #[.ref b] s none [] s = some (.ref a)) : evA b s t = a := by unfold evA; rw [h]
theorem ev_ex {b : Nat} {s : State} {t : Term} {nm : String} (h : (Cond.exactly t nm).before #[.ref b] s = true) : t.eval #[.ref b] s none [] s = some (.ref (evA b s t)) := by
  obtain ⟨a, c, cell, k, h1, -⟩ := Cond.exactly_spec (args := #[.ref b]) (first := s) (o := none) (s := s) (idx := []) h
  rw [ev_ref h1]
  exact h1
theorem ev_eqr {b a : Nat} {s : State} {t u : Term} (h : (Cond.eq t u).before #[.ref b] s = true) (hu : u.eval #[.ref b] s none [] s = some (.ref a)) : t.eval #[.ref b] s none [] s = some (.ref a) := by
  cases hv : t.eval #[.ref b] s none [] s with
  | none => simp [Cond.before, Cond.holds, Cond.value, hv] at h
  | some z =>
    simp only [Cond.before, Cond.holds, Cond.value, hv, hu] at h
    cases z <;> simp_all
abbrev lwA (s : State) : Nat → Prop := fun q => s.heap.size ≤ q
theorem lwA_h {s : State} : ∀ a : Nat, a < s.heap.size → ¬ lwA s a := fun _ h => Nat.not_le.mpr h
/-- a string of the class's code: its object, its bytes -/
theorem ev_str {b N : Nat} {s : State} {t : Term} {l : List Int32} (hN : N < 2 ^ 31) (h1 : (Cond.exactly t "java/lang/String").before #[.ref b] s = true) (h2 : (Cond.eq (.field t "java/lang/String" "coder" "B") (.int 0)).before #[.ref b] s = true) (h3 : (Cond.arrayOf (.field t "java/lang/String" "value" "[B") .byte).before #[.ref b] s = true) (h4 : (Cond.eq (.length (.field t "java/lang/String" "value" "[B")) (.int (Int32.ofNat N))).before #[.ref b] s = true)
    (h5 : ∀ j : Nat, j < N → (Cond.eq (.elem (.field t "java/lang/String" "value" "[B") (.int (Int32.ofNat j))) (.int (l.getD j 0))).before #[.ref b] s = true) :
    va_O "java/lang/String" (evA b s t) (lwA s) s s.heap ∧ va_OF "java/lang/String" "coder" "B" (.int 0) (evA b s t) (lwA s) s s.heap ∧ va_OF "java/lang/String" "value" "[B" (.ref (evA b s (.field t "java/lang/String" "value" "[B"))) (evA b s t) (lwA s) s s.heap ∧ va_T .byte (evA b s (.field t "java/lang/String" "value" "[B")) N (fun j => .int (l.getD j 0)) (lwA s) s s.heap := by
  have e := ev_ex h1
  obtain ⟨q, hq, hT⟩ := va_Tof (f := fun j => .int (l.getD j 0)) (A := lwA s) hN h3 (va_eqt h4) (fun j hj => va_eqt (h5 j hj)) lwA_h
  rw [ev_ref hq]
  exact ⟨va_Oof h1 e lwA_h, vk_OFof e (va_eqt h2) lwA_h, vk_OFof e hq lwA_h, hT⟩

def nSt (b : Nat) (s : State) (t : Term) (N : Nat) (l : List Int32) : Prop := va_O "java/lang/String" (evA b s t) (lwA s) s s.heap ∧ va_OF "java/lang/String" "coder" "B" (.int 0) (evA b s t) (lwA s) s s.heap ∧ va_OF "java/lang/String" "value" "[B" (.ref (evA b s (.field t "java/lang/String" "value" "[B"))) (evA b s t) (lwA s) s s.heap ∧ va_T .byte (evA b s (.field t "java/lang/String" "value" "[B")) N (fun j => .int (l.getD j 0)) (lwA s) s s.heap
def sTm (i : Nat) : Term := match i with
  | 0 => .string "NeighbourHash" 81
  | 1 => .string "NeighbourHash" 129
  | 2 => .string "NeighbourHash" 135
  | 3 => .string "NeighbourHash" 155
  | 4 => .string "NeighbourHash" 161
  | 5 => .string "NeighbourHash" 165
  | 6 => .string "NeighbourHash" 171
  | 7 => .string "NeighbourHash" 176
  | 8 => .string "NeighbourHash" 184
  | 9 => .string "NeighbourHash" 202
  | 10 => .string "NeighbourHash" 263
  | 11 => .string "NeighbourHash" 299
  | 12 => .string "NeighbourHash" 304
  | 13 => .string "NeighbourHash" 311
  | 14 => .string "NeighbourHash$Command" 62
  | 15 => .string "NeighbourHash$Command" 68
  | 16 => .string "NeighbourHash$Command" 71
  | 17 => .string "NeighbourHash$Command" 74
  | 18 => .string "NeighbourHash$Command" 77
  | 19 => .string "NeighbourHash$Command" 80
  | 20 => .string "NeighbourHash$Command" 83
  | 21 => .string "NeighbourHash$Command" 86
  | 22 => .string "NeighbourHash$Command" 89
  | 23 => .string "NeighbourHash$Command" 92
  | 24 => .string "NeighbourHash$Script" 73
  | 25 => .string "NeighbourHash$Script" 141
  | 26 => .string "NeighbourHashModel" 54
  | 27 => .string "NeighbourHashModel" 233
  | 28 => .string "NeighbourHashModel" 239
  | 29 => .string "NeighbourHashModel" 241
  | 30 => .string "NeighbourHashModel" 243
  | 31 => .string "NeighbourHashModel" 245
  | 32 => .string "NeighbourHashModel" 247
  | 33 => .string "NeighbourHashModel" 252
  | 34 => .string "NeighbourHashModel" 254
  | 35 => .string "NeighbourHashModel" 256
  | 36 => .string "NeighbourHashModel" 258
  | 37 => .string "NeighbourHashModel" 260
  | _ => .string "NeighbourHashModel" 298
def eTm (i : Nat) : Term := .static "NeighbourHash$Command" (match i with
  | 0 => "ADD"
  | 1 => "PUT"
  | 2 => "ROW"
  | 3 => "REMOVE"
  | 4 => "NEAR"
  | 5 => "TIMES"
  | 6 => "PULL"
  | 7 => "LIE"
  | 8 => "GROW"
  | _ => "CLEAR") "LNeighbourHash$Command;"
def cTm : Term := .static "NeighbourHash" "COMMANDS" "[LNeighbourHash$Command;"
def mTm : Term := .static "NeighbourHash$1" "$SwitchMap$NeighbourHash$Command" "[I"
def fTm : Term := .static "jdk/internal/util/Preconditions" "SIOOBE_FORMATTER" "Ljava/util/function/BiFunction;"
/-- which term lies at which place -/
def tmf (k : Nat) : Term := if k < 100 then sTm k else if k < 200 then .field (sTm (k - 100)) "java/lang/String" "value" "[B" else if k < 300 then eTm (k - 200) else if k = 300 then cTm else if k = 301 then mTm else if k = 500 then .arg 0 else fTm
def ad0 (b : Nat) (s : State) : Nat → Nat := fun q => if zB ≤ q then evA b s (tmf (q - zB)) else 0
theorem ad0_k {b : Nat} {s : State} (k : Nat) : ad0 b s (zB + k) = evA b s (tmf k) := by
  unfold ad0
  rw [if_pos (Nat.le_add_right _ _), Nat.add_sub_cancel_left]

theorem nX_0 {b : Nat} {s : State} (H : nfH b s) : (sTm 0).eval #[.ref b] s none [] s = some (.ref (evA b s (sTm 0))) := ev_ex (nm := "java/lang/String") (H 187 _ (by decide +kernel))
theorem nX_1 {b : Nat} {s : State} (H : nfH b s) : (sTm 1).eval #[.ref b] s none [] s = some (.ref (evA b s (sTm 1))) := ev_ex (nm := "java/lang/String") (H 260 _ (by decide +kernel))
theorem nX_2 {b : Nat} {s : State} (H : nfH b s) : (sTm 2).eval #[.ref b] s none [] s = some (.ref (evA b s (sTm 2))) := ev_ex (nm := "java/lang/String") (H 294 _ (by decide +kernel))
theorem nX_3 {b : Nat} {s : State} (H : nfH b s) : (sTm 3).eval #[.ref b] s none [] s = some (.ref (evA b s (sTm 3))) := ev_ex (nm := "java/lang/String") (H 320 _ (by decide +kernel))
theorem nX_4 {b : Nat} {s : State} (H : nfH b s) : (sTm 4).eval #[.ref b] s none [] s = some (.ref (evA b s (sTm 4))) := ev_ex (nm := "java/lang/String") (H 355 _ (by decide +kernel))
theorem nX_5 {b : Nat} {s : State} (H : nfH b s) : (sTm 5).eval #[.ref b] s none [] s = some (.ref (evA b s (sTm 5))) := ev_ex (nm := "java/lang/String") (H 380 _ (by decide +kernel))
theorem nX_6 {b : Nat} {s : State} (H : nfH b s) : (sTm 6).eval #[.ref b] s none [] s = some (.ref (evA b s (sTm 6))) := ev_ex (nm := "java/lang/String") (H 405 _ (by decide +kernel))
theorem nX_7 {b : Nat} {s : State} (H : nfH b s) : (sTm 7).eval #[.ref b] s none [] s = some (.ref (evA b s (sTm 7))) := ev_ex (nm := "java/lang/String") (H 435 _ (by decide +kernel))
theorem nX_8 {b : Nat} {s : State} (H : nfH b s) : (sTm 8).eval #[.ref b] s none [] s = some (.ref (evA b s (sTm 8))) := ev_ex (nm := "java/lang/String") (H 469 _ (by decide +kernel))
theorem nX_9 {b : Nat} {s : State} (H : nfH b s) : (sTm 9).eval #[.ref b] s none [] s = some (.ref (evA b s (sTm 9))) := ev_ex (nm := "java/lang/String") (H 496 _ (by decide +kernel))
theorem nX_10 {b : Nat} {s : State} (H : nfH b s) : (sTm 10).eval #[.ref b] s none [] s = some (.ref (evA b s (sTm 10))) := ev_ex (nm := "java/lang/String") (H 539 _ (by decide +kernel))
theorem nX_11 {b : Nat} {s : State} (H : nfH b s) : (sTm 11).eval #[.ref b] s none [] s = some (.ref (evA b s (sTm 11))) := ev_ex (nm := "java/lang/String") (H 218 _ (by decide +kernel))
theorem nX_12 {b : Nat} {s : State} (H : nfH b s) : (sTm 12).eval #[.ref b] s none [] s = some (.ref (evA b s (sTm 12))) := ev_ex (nm := "java/lang/String") (H 238 _ (by decide +kernel))
theorem nX_13 {b : Nat} {s : State} (H : nfH b s) : (sTm 13).eval #[.ref b] s none [] s = some (.ref (evA b s (sTm 13))) := ev_ex (nm := "java/lang/String") (H 521 _ (by decide +kernel))
theorem nE_14 : ∀ j, j < 3 → nfL[783 + j]? = some (.eq (.elem (.field (sTm 14) "java/lang/String" "value" "[B") (.int (Int32.ofNat j))) (.int (([97, 100, 100] : List Int32).getD j 0))) := by decide +kernel
theorem nS_14 {b : Nat} {s : State} (H : nfH b s) : nSt b s (sTm 14) 3 [97, 100, 100] := ev_str (b := b) (s := s) (N := 3) (t := sTm 14) (l := [97, 100, 100]) (by decide) (H 779 _ (by decide +kernel)) (H 780 _ (by decide +kernel)) (H 781 _ (by decide +kernel)) (H 782 _ (by decide +kernel)) (fun j hj => H _ _ (nE_14 j hj))
theorem nX_14 {b : Nat} {s : State} (H : nfH b s) : (sTm 14).eval #[.ref b] s none [] s = some (.ref (evA b s (sTm 14))) := ev_ex (nm := "java/lang/String") (H 779 _ (by decide +kernel))
theorem nE_15 : ∀ j, j < 3 → nfL[791 + j]? = some (.eq (.elem (.field (sTm 15) "java/lang/String" "value" "[B") (.int (Int32.ofNat j))) (.int (([112, 117, 116] : List Int32).getD j 0))) := by decide +kernel
theorem nS_15 {b : Nat} {s : State} (H : nfH b s) : nSt b s (sTm 15) 3 [112, 117, 116] := ev_str (b := b) (s := s) (N := 3) (t := sTm 15) (l := [112, 117, 116]) (by decide) (H 787 _ (by decide +kernel)) (H 788 _ (by decide +kernel)) (H 789 _ (by decide +kernel)) (H 790 _ (by decide +kernel)) (fun j hj => H _ _ (nE_15 j hj))
theorem nX_15 {b : Nat} {s : State} (H : nfH b s) : (sTm 15).eval #[.ref b] s none [] s = some (.ref (evA b s (sTm 15))) := ev_ex (nm := "java/lang/String") (H 787 _ (by decide +kernel))
theorem nE_16 : ∀ j, j < 3 → nfL[799 + j]? = some (.eq (.elem (.field (sTm 16) "java/lang/String" "value" "[B") (.int (Int32.ofNat j))) (.int (([114, 111, 119] : List Int32).getD j 0))) := by decide +kernel
theorem nS_16 {b : Nat} {s : State} (H : nfH b s) : nSt b s (sTm 16) 3 [114, 111, 119] := ev_str (b := b) (s := s) (N := 3) (t := sTm 16) (l := [114, 111, 119]) (by decide) (H 795 _ (by decide +kernel)) (H 796 _ (by decide +kernel)) (H 797 _ (by decide +kernel)) (H 798 _ (by decide +kernel)) (fun j hj => H _ _ (nE_16 j hj))
theorem nX_16 {b : Nat} {s : State} (H : nfH b s) : (sTm 16).eval #[.ref b] s none [] s = some (.ref (evA b s (sTm 16))) := ev_ex (nm := "java/lang/String") (H 795 _ (by decide +kernel))
theorem nE_17 : ∀ j, j < 6 → nfL[807 + j]? = some (.eq (.elem (.field (sTm 17) "java/lang/String" "value" "[B") (.int (Int32.ofNat j))) (.int (([114, 101, 109, 111, 118, 101] : List Int32).getD j 0))) := by decide +kernel
theorem nS_17 {b : Nat} {s : State} (H : nfH b s) : nSt b s (sTm 17) 6 [114, 101, 109, 111, 118, 101] := ev_str (b := b) (s := s) (N := 6) (t := sTm 17) (l := [114, 101, 109, 111, 118, 101]) (by decide) (H 803 _ (by decide +kernel)) (H 804 _ (by decide +kernel)) (H 805 _ (by decide +kernel)) (H 806 _ (by decide +kernel)) (fun j hj => H _ _ (nE_17 j hj))
theorem nX_17 {b : Nat} {s : State} (H : nfH b s) : (sTm 17).eval #[.ref b] s none [] s = some (.ref (evA b s (sTm 17))) := ev_ex (nm := "java/lang/String") (H 803 _ (by decide +kernel))
theorem nE_18 : ∀ j, j < 4 → nfL[818 + j]? = some (.eq (.elem (.field (sTm 18) "java/lang/String" "value" "[B") (.int (Int32.ofNat j))) (.int (([110, 101, 97, 114] : List Int32).getD j 0))) := by decide +kernel
theorem nS_18 {b : Nat} {s : State} (H : nfH b s) : nSt b s (sTm 18) 4 [110, 101, 97, 114] := ev_str (b := b) (s := s) (N := 4) (t := sTm 18) (l := [110, 101, 97, 114]) (by decide) (H 814 _ (by decide +kernel)) (H 815 _ (by decide +kernel)) (H 816 _ (by decide +kernel)) (H 817 _ (by decide +kernel)) (fun j hj => H _ _ (nE_18 j hj))
theorem nX_18 {b : Nat} {s : State} (H : nfH b s) : (sTm 18).eval #[.ref b] s none [] s = some (.ref (evA b s (sTm 18))) := ev_ex (nm := "java/lang/String") (H 814 _ (by decide +kernel))
theorem nE_19 : ∀ j, j < 5 → nfL[827 + j]? = some (.eq (.elem (.field (sTm 19) "java/lang/String" "value" "[B") (.int (Int32.ofNat j))) (.int (([116, 105, 109, 101, 115] : List Int32).getD j 0))) := by decide +kernel
theorem nS_19 {b : Nat} {s : State} (H : nfH b s) : nSt b s (sTm 19) 5 [116, 105, 109, 101, 115] := ev_str (b := b) (s := s) (N := 5) (t := sTm 19) (l := [116, 105, 109, 101, 115]) (by decide) (H 823 _ (by decide +kernel)) (H 824 _ (by decide +kernel)) (H 825 _ (by decide +kernel)) (H 826 _ (by decide +kernel)) (fun j hj => H _ _ (nE_19 j hj))
theorem nX_19 {b : Nat} {s : State} (H : nfH b s) : (sTm 19).eval #[.ref b] s none [] s = some (.ref (evA b s (sTm 19))) := ev_ex (nm := "java/lang/String") (H 823 _ (by decide +kernel))
theorem nE_20 : ∀ j, j < 4 → nfL[774 + j]? = some (.eq (.elem (.field (sTm 20) "java/lang/String" "value" "[B") (.int (Int32.ofNat j))) (.int (([112, 117, 108, 108] : List Int32).getD j 0))) := by decide +kernel
theorem nS_20 {b : Nat} {s : State} (H : nfH b s) : nSt b s (sTm 20) 4 [112, 117, 108, 108] := ev_str (b := b) (s := s) (N := 4) (t := sTm 20) (l := [112, 117, 108, 108]) (by decide) (H 770 _ (by decide +kernel)) (H 771 _ (by decide +kernel)) (H 772 _ (by decide +kernel)) (H 773 _ (by decide +kernel)) (fun j hj => H _ _ (nE_20 j hj))
theorem nX_20 {b : Nat} {s : State} (H : nfH b s) : (sTm 20).eval #[.ref b] s none [] s = some (.ref (evA b s (sTm 20))) := ev_ex (nm := "java/lang/String") (H 770 _ (by decide +kernel))
theorem nE_21 : ∀ j, j < 3 → nfL[837 + j]? = some (.eq (.elem (.field (sTm 21) "java/lang/String" "value" "[B") (.int (Int32.ofNat j))) (.int (([108, 105, 101] : List Int32).getD j 0))) := by decide +kernel
theorem nS_21 {b : Nat} {s : State} (H : nfH b s) : nSt b s (sTm 21) 3 [108, 105, 101] := ev_str (b := b) (s := s) (N := 3) (t := sTm 21) (l := [108, 105, 101]) (by decide) (H 833 _ (by decide +kernel)) (H 834 _ (by decide +kernel)) (H 835 _ (by decide +kernel)) (H 836 _ (by decide +kernel)) (fun j hj => H _ _ (nE_21 j hj))
theorem nX_21 {b : Nat} {s : State} (H : nfH b s) : (sTm 21).eval #[.ref b] s none [] s = some (.ref (evA b s (sTm 21))) := ev_ex (nm := "java/lang/String") (H 833 _ (by decide +kernel))
theorem nE_22 : ∀ j, j < 4 → nfL[845 + j]? = some (.eq (.elem (.field (sTm 22) "java/lang/String" "value" "[B") (.int (Int32.ofNat j))) (.int (([103, 114, 111, 119] : List Int32).getD j 0))) := by decide +kernel
theorem nS_22 {b : Nat} {s : State} (H : nfH b s) : nSt b s (sTm 22) 4 [103, 114, 111, 119] := ev_str (b := b) (s := s) (N := 4) (t := sTm 22) (l := [103, 114, 111, 119]) (by decide) (H 841 _ (by decide +kernel)) (H 842 _ (by decide +kernel)) (H 843 _ (by decide +kernel)) (H 844 _ (by decide +kernel)) (fun j hj => H _ _ (nE_22 j hj))
theorem nX_22 {b : Nat} {s : State} (H : nfH b s) : (sTm 22).eval #[.ref b] s none [] s = some (.ref (evA b s (sTm 22))) := ev_ex (nm := "java/lang/String") (H 841 _ (by decide +kernel))
theorem nE_23 : ∀ j, j < 5 → nfL[854 + j]? = some (.eq (.elem (.field (sTm 23) "java/lang/String" "value" "[B") (.int (Int32.ofNat j))) (.int (([99, 108, 101, 97, 114] : List Int32).getD j 0))) := by decide +kernel
theorem nS_23 {b : Nat} {s : State} (H : nfH b s) : nSt b s (sTm 23) 5 [99, 108, 101, 97, 114] := ev_str (b := b) (s := s) (N := 5) (t := sTm 23) (l := [99, 108, 101, 97, 114]) (by decide) (H 850 _ (by decide +kernel)) (H 851 _ (by decide +kernel)) (H 852 _ (by decide +kernel)) (H 853 _ (by decide +kernel)) (fun j hj => H _ _ (nE_23 j hj))
theorem nX_23 {b : Nat} {s : State} (H : nfH b s) : (sTm 23).eval #[.ref b] s none [] s = some (.ref (evA b s (sTm 23))) := ev_ex (nm := "java/lang/String") (H 850 _ (by decide +kernel))
theorem nE_24 : ∀ j, j < 6 → nfL[181 + j]? = some (.eq (.elem (.field (sTm 24) "java/lang/String" "value" "[B") (.int (Int32.ofNat j))) (.int (([114, 101, 112, 101, 97, 116] : List Int32).getD j 0))) := by decide +kernel
theorem nS_24 {b : Nat} {s : State} (H : nfH b s) : nSt b s (sTm 24) 6 [114, 101, 112, 101, 97, 116] := ev_str (b := b) (s := s) (N := 6) (t := sTm 24) (l := [114, 101, 112, 101, 97, 116]) (by decide) (H 177 _ (by decide +kernel)) (H 178 _ (by decide +kernel)) (H 179 _ (by decide +kernel)) (H 180 _ (by decide +kernel)) (fun j hj => H _ _ (nE_24 j hj))
theorem nX_24 {b : Nat} {s : State} (H : nfH b s) : (sTm 24).eval #[.ref b] s none [] s = some (.ref (evA b s (sTm 24))) := ev_ex (nm := "java/lang/String") (H 177 _ (by decide +kernel))
theorem nE_25 : ∀ j, j < 5 → nfL[172 + j]? = some (.eq (.elem (.field (sTm 25) "java/lang/String" "value" "[B") (.int (Int32.ofNat j))) (.int (([116, 97, 98, 108, 101] : List Int32).getD j 0))) := by decide +kernel
theorem nS_25 {b : Nat} {s : State} (H : nfH b s) : nSt b s (sTm 25) 5 [116, 97, 98, 108, 101] := ev_str (b := b) (s := s) (N := 5) (t := sTm 25) (l := [116, 97, 98, 108, 101]) (by decide) (H 168 _ (by decide +kernel)) (H 169 _ (by decide +kernel)) (H 170 _ (by decide +kernel)) (H 171 _ (by decide +kernel)) (fun j hj => H _ _ (nE_25 j hj))
theorem nX_25 {b : Nat} {s : State} (H : nfH b s) : (sTm 25).eval #[.ref b] s none [] s = some (.ref (evA b s (sTm 25))) := ev_ex (nm := "java/lang/String") (H 168 _ (by decide +kernel))
theorem nE_26 : ∀ j, j < 90 → nfL[579 + j]? = some (.eq (.elem (.field (sTm 26) "java/lang/String" "value" "[B") (.int (Int32.ofNat j))) (.int (([116, 97, 98, 108, 101, 32, 56, 32, 51, 32, 49, 59, 32, 97, 100, 100, 32, 49, 32, 49, 48, 59, 32, 97, 100, 100, 32, 57, 32, 49, 49, 59, 32, 97, 100, 100, 32, 51, 32, 49, 50, 59, 32, 97, 100, 100, 32, 49, 55, 32, 49, 51, 59, 32, 97, 100, 100, 32, 52, 32, 49, 52, 59, 32, 112, 117, 108, 108, 59, 32, 114, 101, 109, 111, 118, 101, 32, 57, 59, 32, 97, 100, 100, 32, 49, 50, 32, 49, 53, 59] : List Int32).getD j 0))) := by decide +kernel
theorem nS_26 {b : Nat} {s : State} (H : nfH b s) : nSt b s (sTm 26) 90 [116, 97, 98, 108, 101, 32, 56, 32, 51, 32, 49, 59, 32, 97, 100, 100, 32, 49, 32, 49, 48, 59, 32, 97, 100, 100, 32, 57, 32, 49, 49, 59, 32, 97, 100, 100, 32, 51, 32, 49, 50, 59, 32, 97, 100, 100, 32, 49, 55, 32, 49, 51, 59, 32, 97, 100, 100, 32, 52, 32, 49, 52, 59, 32, 112, 117, 108, 108, 59, 32, 114, 101, 109, 111, 118, 101, 32, 57, 59, 32, 97, 100, 100, 32, 49, 50, 32, 49, 53, 59] := ev_str (b := b) (s := s) (N := 90) (t := sTm 26) (l := [116, 97, 98, 108, 101, 32, 56, 32, 51, 32, 49, 59, 32, 97, 100, 100, 32, 49, 32, 49, 48, 59, 32, 97, 100, 100, 32, 57, 32, 49, 49, 59, 32, 97, 100, 100, 32, 51, 32, 49, 50, 59, 32, 97, 100, 100, 32, 49, 55, 32, 49, 51, 59, 32, 97, 100, 100, 32, 52, 32, 49, 52, 59, 32, 112, 117, 108, 108, 59, 32, 114, 101, 109, 111, 118, 101, 32, 57, 59, 32, 97, 100, 100, 32, 49, 50, 32, 49, 53, 59]) (by decide) (H 575 _ (by decide +kernel)) (H 576 _ (by decide +kernel)) (H 577 _ (by decide +kernel)) (H 578 _ (by decide +kernel)) (fun j hj => H _ _ (nE_26 j hj))
theorem nX_26 {b : Nat} {s : State} (H : nfH b s) : (sTm 26).eval #[.ref b] s none [] s = some (.ref (evA b s (sTm 26))) := ev_ex (nm := "java/lang/String") (H 575 _ (by decide +kernel))
theorem nE_27 : ∀ j, j < 3 → nfL[683 + j]? = some (.eq (.elem (.field (sTm 27) "java/lang/String" "value" "[B") (.int (Int32.ofNat j))) (.int (([97, 100, 100] : List Int32).getD j 0))) := by decide +kernel
theorem nS_27 {b : Nat} {s : State} (H : nfH b s) : nSt b s (sTm 27) 3 [97, 100, 100] := ev_str (b := b) (s := s) (N := 3) (t := sTm 27) (l := [97, 100, 100]) (by decide) (H 679 _ (by decide +kernel)) (H 680 _ (by decide +kernel)) (H 681 _ (by decide +kernel)) (H 682 _ (by decide +kernel)) (fun j hj => H _ _ (nE_27 j hj))
theorem nX_27 {b : Nat} {s : State} (H : nfH b s) : (sTm 27).eval #[.ref b] s none [] s = some (.ref (evA b s (sTm 27))) := ev_ex (nm := "java/lang/String") (H 679 _ (by decide +kernel))
theorem nE_28 : ∀ j, j < 3 → nfL[690 + j]? = some (.eq (.elem (.field (sTm 28) "java/lang/String" "value" "[B") (.int (Int32.ofNat j))) (.int (([112, 117, 116] : List Int32).getD j 0))) := by decide +kernel
theorem nS_28 {b : Nat} {s : State} (H : nfH b s) : nSt b s (sTm 28) 3 [112, 117, 116] := ev_str (b := b) (s := s) (N := 3) (t := sTm 28) (l := [112, 117, 116]) (by decide) (H 686 _ (by decide +kernel)) (H 687 _ (by decide +kernel)) (H 688 _ (by decide +kernel)) (H 689 _ (by decide +kernel)) (fun j hj => H _ _ (nE_28 j hj))
theorem nX_28 {b : Nat} {s : State} (H : nfH b s) : (sTm 28).eval #[.ref b] s none [] s = some (.ref (evA b s (sTm 28))) := ev_ex (nm := "java/lang/String") (H 686 _ (by decide +kernel))
theorem nE_29 : ∀ j, j < 3 → nfL[697 + j]? = some (.eq (.elem (.field (sTm 29) "java/lang/String" "value" "[B") (.int (Int32.ofNat j))) (.int (([114, 111, 119] : List Int32).getD j 0))) := by decide +kernel
theorem nS_29 {b : Nat} {s : State} (H : nfH b s) : nSt b s (sTm 29) 3 [114, 111, 119] := ev_str (b := b) (s := s) (N := 3) (t := sTm 29) (l := [114, 111, 119]) (by decide) (H 693 _ (by decide +kernel)) (H 694 _ (by decide +kernel)) (H 695 _ (by decide +kernel)) (H 696 _ (by decide +kernel)) (fun j hj => H _ _ (nE_29 j hj))
theorem nX_29 {b : Nat} {s : State} (H : nfH b s) : (sTm 29).eval #[.ref b] s none [] s = some (.ref (evA b s (sTm 29))) := ev_ex (nm := "java/lang/String") (H 693 _ (by decide +kernel))
theorem nE_30 : ∀ j, j < 6 → nfL[704 + j]? = some (.eq (.elem (.field (sTm 30) "java/lang/String" "value" "[B") (.int (Int32.ofNat j))) (.int (([114, 101, 109, 111, 118, 101] : List Int32).getD j 0))) := by decide +kernel
theorem nS_30 {b : Nat} {s : State} (H : nfH b s) : nSt b s (sTm 30) 6 [114, 101, 109, 111, 118, 101] := ev_str (b := b) (s := s) (N := 6) (t := sTm 30) (l := [114, 101, 109, 111, 118, 101]) (by decide) (H 700 _ (by decide +kernel)) (H 701 _ (by decide +kernel)) (H 702 _ (by decide +kernel)) (H 703 _ (by decide +kernel)) (fun j hj => H _ _ (nE_30 j hj))
theorem nX_30 {b : Nat} {s : State} (H : nfH b s) : (sTm 30).eval #[.ref b] s none [] s = some (.ref (evA b s (sTm 30))) := ev_ex (nm := "java/lang/String") (H 700 _ (by decide +kernel))
theorem nE_31 : ∀ j, j < 4 → nfL[714 + j]? = some (.eq (.elem (.field (sTm 31) "java/lang/String" "value" "[B") (.int (Int32.ofNat j))) (.int (([110, 101, 97, 114] : List Int32).getD j 0))) := by decide +kernel
theorem nS_31 {b : Nat} {s : State} (H : nfH b s) : nSt b s (sTm 31) 4 [110, 101, 97, 114] := ev_str (b := b) (s := s) (N := 4) (t := sTm 31) (l := [110, 101, 97, 114]) (by decide) (H 710 _ (by decide +kernel)) (H 711 _ (by decide +kernel)) (H 712 _ (by decide +kernel)) (H 713 _ (by decide +kernel)) (fun j hj => H _ _ (nE_31 j hj))
theorem nX_31 {b : Nat} {s : State} (H : nfH b s) : (sTm 31).eval #[.ref b] s none [] s = some (.ref (evA b s (sTm 31))) := ev_ex (nm := "java/lang/String") (H 710 _ (by decide +kernel))
theorem nE_32 : ∀ j, j < 5 → nfL[722 + j]? = some (.eq (.elem (.field (sTm 32) "java/lang/String" "value" "[B") (.int (Int32.ofNat j))) (.int (([116, 105, 109, 101, 115] : List Int32).getD j 0))) := by decide +kernel
theorem nS_32 {b : Nat} {s : State} (H : nfH b s) : nSt b s (sTm 32) 5 [116, 105, 109, 101, 115] := ev_str (b := b) (s := s) (N := 5) (t := sTm 32) (l := [116, 105, 109, 101, 115]) (by decide) (H 718 _ (by decide +kernel)) (H 719 _ (by decide +kernel)) (H 720 _ (by decide +kernel)) (H 721 _ (by decide +kernel)) (fun j hj => H _ _ (nE_32 j hj))
theorem nX_32 {b : Nat} {s : State} (H : nfH b s) : (sTm 32).eval #[.ref b] s none [] s = some (.ref (evA b s (sTm 32))) := ev_ex (nm := "java/lang/String") (H 718 _ (by decide +kernel))
theorem nE_33 : ∀ j, j < 4 → nfL[731 + j]? = some (.eq (.elem (.field (sTm 33) "java/lang/String" "value" "[B") (.int (Int32.ofNat j))) (.int (([112, 117, 108, 108] : List Int32).getD j 0))) := by decide +kernel
theorem nS_33 {b : Nat} {s : State} (H : nfH b s) : nSt b s (sTm 33) 4 [112, 117, 108, 108] := ev_str (b := b) (s := s) (N := 4) (t := sTm 33) (l := [112, 117, 108, 108]) (by decide) (H 727 _ (by decide +kernel)) (H 728 _ (by decide +kernel)) (H 729 _ (by decide +kernel)) (H 730 _ (by decide +kernel)) (fun j hj => H _ _ (nE_33 j hj))
theorem nX_33 {b : Nat} {s : State} (H : nfH b s) : (sTm 33).eval #[.ref b] s none [] s = some (.ref (evA b s (sTm 33))) := ev_ex (nm := "java/lang/String") (H 727 _ (by decide +kernel))
theorem nE_34 : ∀ j, j < 3 → nfL[739 + j]? = some (.eq (.elem (.field (sTm 34) "java/lang/String" "value" "[B") (.int (Int32.ofNat j))) (.int (([108, 105, 101] : List Int32).getD j 0))) := by decide +kernel
theorem nS_34 {b : Nat} {s : State} (H : nfH b s) : nSt b s (sTm 34) 3 [108, 105, 101] := ev_str (b := b) (s := s) (N := 3) (t := sTm 34) (l := [108, 105, 101]) (by decide) (H 735 _ (by decide +kernel)) (H 736 _ (by decide +kernel)) (H 737 _ (by decide +kernel)) (H 738 _ (by decide +kernel)) (fun j hj => H _ _ (nE_34 j hj))
theorem nX_34 {b : Nat} {s : State} (H : nfH b s) : (sTm 34).eval #[.ref b] s none [] s = some (.ref (evA b s (sTm 34))) := ev_ex (nm := "java/lang/String") (H 735 _ (by decide +kernel))
theorem nE_35 : ∀ j, j < 4 → nfL[746 + j]? = some (.eq (.elem (.field (sTm 35) "java/lang/String" "value" "[B") (.int (Int32.ofNat j))) (.int (([103, 114, 111, 119] : List Int32).getD j 0))) := by decide +kernel
theorem nS_35 {b : Nat} {s : State} (H : nfH b s) : nSt b s (sTm 35) 4 [103, 114, 111, 119] := ev_str (b := b) (s := s) (N := 4) (t := sTm 35) (l := [103, 114, 111, 119]) (by decide) (H 742 _ (by decide +kernel)) (H 743 _ (by decide +kernel)) (H 744 _ (by decide +kernel)) (H 745 _ (by decide +kernel)) (fun j hj => H _ _ (nE_35 j hj))
theorem nX_35 {b : Nat} {s : State} (H : nfH b s) : (sTm 35).eval #[.ref b] s none [] s = some (.ref (evA b s (sTm 35))) := ev_ex (nm := "java/lang/String") (H 742 _ (by decide +kernel))
theorem nE_36 : ∀ j, j < 5 → nfL[754 + j]? = some (.eq (.elem (.field (sTm 36) "java/lang/String" "value" "[B") (.int (Int32.ofNat j))) (.int (([99, 108, 101, 97, 114] : List Int32).getD j 0))) := by decide +kernel
theorem nS_36 {b : Nat} {s : State} (H : nfH b s) : nSt b s (sTm 36) 5 [99, 108, 101, 97, 114] := ev_str (b := b) (s := s) (N := 5) (t := sTm 36) (l := [99, 108, 101, 97, 114]) (by decide) (H 750 _ (by decide +kernel)) (H 751 _ (by decide +kernel)) (H 752 _ (by decide +kernel)) (H 753 _ (by decide +kernel)) (fun j hj => H _ _ (nE_36 j hj))
theorem nX_36 {b : Nat} {s : State} (H : nfH b s) : (sTm 36).eval #[.ref b] s none [] s = some (.ref (evA b s (sTm 36))) := ev_ex (nm := "java/lang/String") (H 750 _ (by decide +kernel))
theorem nE_37 : ∀ j, j < 6 → nfL[763 + j]? = some (.eq (.elem (.field (sTm 37) "java/lang/String" "value" "[B") (.int (Int32.ofNat j))) (.int (([114, 101, 112, 101, 97, 116] : List Int32).getD j 0))) := by decide +kernel
theorem nS_37 {b : Nat} {s : State} (H : nfH b s) : nSt b s (sTm 37) 6 [114, 101, 112, 101, 97, 116] := ev_str (b := b) (s := s) (N := 6) (t := sTm 37) (l := [114, 101, 112, 101, 97, 116]) (by decide) (H 759 _ (by decide +kernel)) (H 760 _ (by decide +kernel)) (H 761 _ (by decide +kernel)) (H 762 _ (by decide +kernel)) (fun j hj => H _ _ (nE_37 j hj))
theorem nX_37 {b : Nat} {s : State} (H : nfH b s) : (sTm 37).eval #[.ref b] s none [] s = some (.ref (evA b s (sTm 37))) := ev_ex (nm := "java/lang/String") (H 759 _ (by decide +kernel))
theorem nE_38 : ∀ j, j < 5 → nfL[673 + j]? = some (.eq (.elem (.field (sTm 38) "java/lang/String" "value" "[B") (.int (Int32.ofNat j))) (.int (([116, 97, 98, 108, 101] : List Int32).getD j 0))) := by decide +kernel
theorem nS_38 {b : Nat} {s : State} (H : nfH b s) : nSt b s (sTm 38) 5 [116, 97, 98, 108, 101] := ev_str (b := b) (s := s) (N := 5) (t := sTm 38) (l := [116, 97, 98, 108, 101]) (by decide) (H 669 _ (by decide +kernel)) (H 670 _ (by decide +kernel)) (H 671 _ (by decide +kernel)) (H 672 _ (by decide +kernel)) (fun j hj => H _ _ (nE_38 j hj))
theorem nX_38 {b : Nat} {s : State} (H : nfH b s) : (sTm 38).eval #[.ref b] s none [] s = some (.ref (evA b s (sTm 38))) := ev_ex (nm := "java/lang/String") (H 669 _ (by decide +kernel))
theorem nC_0 {b : Nat} {s : State} (H : nfH b s) : (eTm 0).eval #[.ref b] s none [] s = some (.ref (evA b s (eTm 0))) := ev_ex (nm := "NeighbourHash$Command") (H 43 _ (by decide +kernel))
theorem nCO_0 {b : Nat} {s : State} (H : nfH b s) : va_O "NeighbourHash$Command" (evA b s (eTm 0)) (lwA s) s s.heap := va_Oof (H 43 _ (by decide +kernel)) (nC_0 H) lwA_h
theorem nC1_0 {b : Nat} {s : State} (H : nfH b s) : va_OF "java/lang/Enum" "ordinal" "I" (.int 0) (evA b s (eTm 0)) (lwA s) s s.heap := vk_OFof (nC_0 H) (va_eqt (H 44 _ (by decide +kernel))) lwA_h
theorem nC2_0 {b : Nat} {s : State} (H : nfH b s) : va_OF "NeighbourHash$Command" "word" "Ljava/lang/String;" (.ref (evA b s (sTm 14))) (evA b s (eTm 0)) (lwA s) s s.heap := vk_OFof (nC_0 H) (ev_eqr (H 45 _ (by decide +kernel)) (nX_14 H)) lwA_h
theorem nC3_0 {b : Nat} {s : State} (H : nfH b s) : va_OF "NeighbourHash$Command" "numbers" "I" (.int 2) (evA b s (eTm 0)) (lwA s) s s.heap := vk_OFof (nC_0 H) (va_eqt (H 46 _ (by decide +kernel))) lwA_h
theorem nC_1 {b : Nat} {s : State} (H : nfH b s) : (eTm 1).eval #[.ref b] s none [] s = some (.ref (evA b s (eTm 1))) := ev_ex (nm := "NeighbourHash$Command") (H 48 _ (by decide +kernel))
theorem nCO_1 {b : Nat} {s : State} (H : nfH b s) : va_O "NeighbourHash$Command" (evA b s (eTm 1)) (lwA s) s s.heap := va_Oof (H 48 _ (by decide +kernel)) (nC_1 H) lwA_h
theorem nC1_1 {b : Nat} {s : State} (H : nfH b s) : va_OF "java/lang/Enum" "ordinal" "I" (.int 1) (evA b s (eTm 1)) (lwA s) s s.heap := vk_OFof (nC_1 H) (va_eqt (H 49 _ (by decide +kernel))) lwA_h
theorem nC2_1 {b : Nat} {s : State} (H : nfH b s) : va_OF "NeighbourHash$Command" "word" "Ljava/lang/String;" (.ref (evA b s (sTm 15))) (evA b s (eTm 1)) (lwA s) s s.heap := vk_OFof (nC_1 H) (ev_eqr (H 50 _ (by decide +kernel)) (nX_15 H)) lwA_h
theorem nC3_1 {b : Nat} {s : State} (H : nfH b s) : va_OF "NeighbourHash$Command" "numbers" "I" (.int 2) (evA b s (eTm 1)) (lwA s) s s.heap := vk_OFof (nC_1 H) (va_eqt (H 51 _ (by decide +kernel))) lwA_h
theorem nC_2 {b : Nat} {s : State} (H : nfH b s) : (eTm 2).eval #[.ref b] s none [] s = some (.ref (evA b s (eTm 2))) := ev_ex (nm := "NeighbourHash$Command") (H 54 _ (by decide +kernel))
theorem nCO_2 {b : Nat} {s : State} (H : nfH b s) : va_O "NeighbourHash$Command" (evA b s (eTm 2)) (lwA s) s s.heap := va_Oof (H 54 _ (by decide +kernel)) (nC_2 H) lwA_h
theorem nC1_2 {b : Nat} {s : State} (H : nfH b s) : va_OF "java/lang/Enum" "ordinal" "I" (.int 2) (evA b s (eTm 2)) (lwA s) s s.heap := vk_OFof (nC_2 H) (va_eqt (H 55 _ (by decide +kernel))) lwA_h
theorem nC2_2 {b : Nat} {s : State} (H : nfH b s) : va_OF "NeighbourHash$Command" "word" "Ljava/lang/String;" (.ref (evA b s (sTm 16))) (evA b s (eTm 2)) (lwA s) s s.heap := vk_OFof (nC_2 H) (ev_eqr (H 56 _ (by decide +kernel)) (nX_16 H)) lwA_h
theorem nC3_2 {b : Nat} {s : State} (H : nfH b s) : va_OF "NeighbourHash$Command" "numbers" "I" (.int 3) (evA b s (eTm 2)) (lwA s) s s.heap := vk_OFof (nC_2 H) (va_eqt (H 57 _ (by decide +kernel))) lwA_h
theorem nC_3 {b : Nat} {s : State} (H : nfH b s) : (eTm 3).eval #[.ref b] s none [] s = some (.ref (evA b s (eTm 3))) := ev_ex (nm := "NeighbourHash$Command") (H 61 _ (by decide +kernel))
theorem nCO_3 {b : Nat} {s : State} (H : nfH b s) : va_O "NeighbourHash$Command" (evA b s (eTm 3)) (lwA s) s s.heap := va_Oof (H 61 _ (by decide +kernel)) (nC_3 H) lwA_h
theorem nC1_3 {b : Nat} {s : State} (H : nfH b s) : va_OF "java/lang/Enum" "ordinal" "I" (.int 3) (evA b s (eTm 3)) (lwA s) s s.heap := vk_OFof (nC_3 H) (va_eqt (H 62 _ (by decide +kernel))) lwA_h
theorem nC2_3 {b : Nat} {s : State} (H : nfH b s) : va_OF "NeighbourHash$Command" "word" "Ljava/lang/String;" (.ref (evA b s (sTm 17))) (evA b s (eTm 3)) (lwA s) s s.heap := vk_OFof (nC_3 H) (ev_eqr (H 63 _ (by decide +kernel)) (nX_17 H)) lwA_h
theorem nC3_3 {b : Nat} {s : State} (H : nfH b s) : va_OF "NeighbourHash$Command" "numbers" "I" (.int 1) (evA b s (eTm 3)) (lwA s) s s.heap := vk_OFof (nC_3 H) (va_eqt (H 64 _ (by decide +kernel))) lwA_h
theorem nC_4 {b : Nat} {s : State} (H : nfH b s) : (eTm 4).eval #[.ref b] s none [] s = some (.ref (evA b s (eTm 4))) := ev_ex (nm := "NeighbourHash$Command") (H 69 _ (by decide +kernel))
theorem nCO_4 {b : Nat} {s : State} (H : nfH b s) : va_O "NeighbourHash$Command" (evA b s (eTm 4)) (lwA s) s s.heap := va_Oof (H 69 _ (by decide +kernel)) (nC_4 H) lwA_h
theorem nC1_4 {b : Nat} {s : State} (H : nfH b s) : va_OF "java/lang/Enum" "ordinal" "I" (.int 4) (evA b s (eTm 4)) (lwA s) s s.heap := vk_OFof (nC_4 H) (va_eqt (H 70 _ (by decide +kernel))) lwA_h
theorem nC2_4 {b : Nat} {s : State} (H : nfH b s) : va_OF "NeighbourHash$Command" "word" "Ljava/lang/String;" (.ref (evA b s (sTm 18))) (evA b s (eTm 4)) (lwA s) s s.heap := vk_OFof (nC_4 H) (ev_eqr (H 71 _ (by decide +kernel)) (nX_18 H)) lwA_h
theorem nC3_4 {b : Nat} {s : State} (H : nfH b s) : va_OF "NeighbourHash$Command" "numbers" "I" (.int 1) (evA b s (eTm 4)) (lwA s) s s.heap := vk_OFof (nC_4 H) (va_eqt (H 72 _ (by decide +kernel))) lwA_h
theorem nC_5 {b : Nat} {s : State} (H : nfH b s) : (eTm 5).eval #[.ref b] s none [] s = some (.ref (evA b s (eTm 5))) := ev_ex (nm := "NeighbourHash$Command") (H 78 _ (by decide +kernel))
theorem nCO_5 {b : Nat} {s : State} (H : nfH b s) : va_O "NeighbourHash$Command" (evA b s (eTm 5)) (lwA s) s s.heap := va_Oof (H 78 _ (by decide +kernel)) (nC_5 H) lwA_h
theorem nC1_5 {b : Nat} {s : State} (H : nfH b s) : va_OF "java/lang/Enum" "ordinal" "I" (.int 5) (evA b s (eTm 5)) (lwA s) s s.heap := vk_OFof (nC_5 H) (va_eqt (H 79 _ (by decide +kernel))) lwA_h
theorem nC2_5 {b : Nat} {s : State} (H : nfH b s) : va_OF "NeighbourHash$Command" "word" "Ljava/lang/String;" (.ref (evA b s (sTm 19))) (evA b s (eTm 5)) (lwA s) s s.heap := vk_OFof (nC_5 H) (ev_eqr (H 80 _ (by decide +kernel)) (nX_19 H)) lwA_h
theorem nC3_5 {b : Nat} {s : State} (H : nfH b s) : va_OF "NeighbourHash$Command" "numbers" "I" (.int 1) (evA b s (eTm 5)) (lwA s) s s.heap := vk_OFof (nC_5 H) (va_eqt (H 81 _ (by decide +kernel))) lwA_h
theorem nC_6 {b : Nat} {s : State} (H : nfH b s) : (eTm 6).eval #[.ref b] s none [] s = some (.ref (evA b s (eTm 6))) := ev_ex (nm := "NeighbourHash$Command") (H 37 _ (by decide +kernel))
theorem nCO_6 {b : Nat} {s : State} (H : nfH b s) : va_O "NeighbourHash$Command" (evA b s (eTm 6)) (lwA s) s s.heap := va_Oof (H 37 _ (by decide +kernel)) (nC_6 H) lwA_h
theorem nC1_6 {b : Nat} {s : State} (H : nfH b s) : va_OF "java/lang/Enum" "ordinal" "I" (.int 6) (evA b s (eTm 6)) (lwA s) s s.heap := vk_OFof (nC_6 H) (va_eqt (H 38 _ (by decide +kernel))) lwA_h
theorem nC2_6 {b : Nat} {s : State} (H : nfH b s) : va_OF "NeighbourHash$Command" "word" "Ljava/lang/String;" (.ref (evA b s (sTm 20))) (evA b s (eTm 6)) (lwA s) s s.heap := vk_OFof (nC_6 H) (ev_eqr (H 39 _ (by decide +kernel)) (nX_20 H)) lwA_h
theorem nC3_6 {b : Nat} {s : State} (H : nfH b s) : va_OF "NeighbourHash$Command" "numbers" "I" (.int 0) (evA b s (eTm 6)) (lwA s) s s.heap := vk_OFof (nC_6 H) (va_eqt (H 40 _ (by decide +kernel))) lwA_h
theorem nC_7 {b : Nat} {s : State} (H : nfH b s) : (eTm 7).eval #[.ref b] s none [] s = some (.ref (evA b s (eTm 7))) := ev_ex (nm := "NeighbourHash$Command") (H 88 _ (by decide +kernel))
theorem nCO_7 {b : Nat} {s : State} (H : nfH b s) : va_O "NeighbourHash$Command" (evA b s (eTm 7)) (lwA s) s s.heap := va_Oof (H 88 _ (by decide +kernel)) (nC_7 H) lwA_h
theorem nC1_7 {b : Nat} {s : State} (H : nfH b s) : va_OF "java/lang/Enum" "ordinal" "I" (.int 7) (evA b s (eTm 7)) (lwA s) s s.heap := vk_OFof (nC_7 H) (va_eqt (H 89 _ (by decide +kernel))) lwA_h
theorem nC2_7 {b : Nat} {s : State} (H : nfH b s) : va_OF "NeighbourHash$Command" "word" "Ljava/lang/String;" (.ref (evA b s (sTm 21))) (evA b s (eTm 7)) (lwA s) s s.heap := vk_OFof (nC_7 H) (ev_eqr (H 90 _ (by decide +kernel)) (nX_21 H)) lwA_h
theorem nC3_7 {b : Nat} {s : State} (H : nfH b s) : va_OF "NeighbourHash$Command" "numbers" "I" (.int 0) (evA b s (eTm 7)) (lwA s) s s.heap := vk_OFof (nC_7 H) (va_eqt (H 91 _ (by decide +kernel))) lwA_h
theorem nC_8 {b : Nat} {s : State} (H : nfH b s) : (eTm 8).eval #[.ref b] s none [] s = some (.ref (evA b s (eTm 8))) := ev_ex (nm := "NeighbourHash$Command") (H 99 _ (by decide +kernel))
theorem nCO_8 {b : Nat} {s : State} (H : nfH b s) : va_O "NeighbourHash$Command" (evA b s (eTm 8)) (lwA s) s s.heap := va_Oof (H 99 _ (by decide +kernel)) (nC_8 H) lwA_h
theorem nC1_8 {b : Nat} {s : State} (H : nfH b s) : va_OF "java/lang/Enum" "ordinal" "I" (.int 8) (evA b s (eTm 8)) (lwA s) s s.heap := vk_OFof (nC_8 H) (va_eqt (H 100 _ (by decide +kernel))) lwA_h
theorem nC2_8 {b : Nat} {s : State} (H : nfH b s) : va_OF "NeighbourHash$Command" "word" "Ljava/lang/String;" (.ref (evA b s (sTm 22))) (evA b s (eTm 8)) (lwA s) s s.heap := vk_OFof (nC_8 H) (ev_eqr (H 101 _ (by decide +kernel)) (nX_22 H)) lwA_h
theorem nC3_8 {b : Nat} {s : State} (H : nfH b s) : va_OF "NeighbourHash$Command" "numbers" "I" (.int 0) (evA b s (eTm 8)) (lwA s) s s.heap := vk_OFof (nC_8 H) (va_eqt (H 102 _ (by decide +kernel))) lwA_h
theorem nC_9 {b : Nat} {s : State} (H : nfH b s) : (eTm 9).eval #[.ref b] s none [] s = some (.ref (evA b s (eTm 9))) := ev_ex (nm := "NeighbourHash$Command") (H 111 _ (by decide +kernel))
theorem nCO_9 {b : Nat} {s : State} (H : nfH b s) : va_O "NeighbourHash$Command" (evA b s (eTm 9)) (lwA s) s s.heap := va_Oof (H 111 _ (by decide +kernel)) (nC_9 H) lwA_h
theorem nC1_9 {b : Nat} {s : State} (H : nfH b s) : va_OF "java/lang/Enum" "ordinal" "I" (.int 9) (evA b s (eTm 9)) (lwA s) s s.heap := vk_OFof (nC_9 H) (va_eqt (H 112 _ (by decide +kernel))) lwA_h
theorem nC2_9 {b : Nat} {s : State} (H : nfH b s) : va_OF "NeighbourHash$Command" "word" "Ljava/lang/String;" (.ref (evA b s (sTm 23))) (evA b s (eTm 9)) (lwA s) s s.heap := vk_OFof (nC_9 H) (ev_eqr (H 113 _ (by decide +kernel)) (nX_23 H)) lwA_h
theorem nC3_9 {b : Nat} {s : State} (H : nfH b s) : va_OF "NeighbourHash$Command" "numbers" "I" (.int 0) (evA b s (eTm 9)) (lwA s) s s.heap := vk_OFof (nC_9 H) (va_eqt (H 114 _ (by decide +kernel))) lwA_h
theorem nK_e : ∀ j, j < 10 → nfL[14 + j]? = some (.eq (.elem cTm (.int (Int32.ofNat j))) (eTm j)) := by decide +kernel
theorem nC_all {b : Nat} {s : State} (H : nfH b s) : ∀ j, j < 10 → (eTm j).eval #[.ref b] s none [] s = some (.ref (evA b s (eTm j))) := by
  intro j hj
  rcases (show j = 0 ∨ j = 1 ∨ j = 2 ∨ j = 3 ∨ j = 4 ∨ j = 5 ∨ j = 6 ∨ j = 7 ∨ j = 8 ∨ j = 9 by omega) with g | g | g | g | g | g | g | g | g | g <;> subst g
  · exact nC_0 H
  · exact nC_1 H
  · exact nC_2 H
  · exact nC_3 H
  · exact nC_4 H
  · exact nC_5 H
  · exact nC_6 H
  · exact nC_7 H
  · exact nC_8 H
  · exact nC_9 H
theorem nK {b : Nat} {s : State} (H : nfH b s) : cTm.eval #[.ref b] s none [] s = some (.ref (evA b s cTm)) ∧ va_T (.object "NeighbourHash$Command") (evA b s cTm) 10 (fun j => .ref (evA b s (eTm j))) (lwA s) s s.heap := by
  obtain ⟨q, hq, hT⟩ := va_Tof (tm := cTm) (ty := .object "NeighbourHash$Command") (N := 10) (f := fun j => .ref (evA b s (eTm j))) (A := lwA s) (by decide) (H 11 _ (by decide +kernel)) (va_eqt (H 12 _ (by decide +kernel))) (fun j hj => ev_eqr (H _ _ (nK_e j hj)) (nC_all H j hj)) lwA_h
  rw [ev_ref hq]
  exact ⟨hq, hT⟩
theorem nM_e : ∀ j, j < 10 → nfL[27 + j]? = some (.eq (.elem mTm (.int (Int32.ofNat j))) (.int (([1, 2, 3, 4, 5, 6, 0, 0, 7, 8] : List Int32).getD j 0))) := by decide +kernel
theorem nM {b : Nat} {s : State} (H : nfH b s) : mTm.eval #[.ref b] s none [] s = some (.ref (evA b s mTm)) ∧ va_T .int (evA b s mTm) 10 (fun j => .int (([1, 2, 3, 4, 5, 6, 0, 0, 7, 8] : List Int32).getD j 0)) (lwA s) s s.heap := by
  obtain ⟨q, hq, hT⟩ := va_Tof (tm := mTm) (ty := .int) (N := 10) (f := fun j => .int (([1, 2, 3, 4, 5, 6, 0, 0, 7, 8] : List Int32).getD j 0)) (A := lwA s) (by decide) (H 25 _ (by decide +kernel)) (va_eqt (H 26 _ (by decide +kernel))) (fun j hj => va_eqt (H _ _ (nM_e j hj))) lwA_h
  rw [ev_ref hq]
  exact ⟨hq, hT⟩
theorem nN {b : Nat} {s : State} (H : nfH b s) : ∀ i ∈ kE, ∀ j ∈ kE, ad0 b s i = ad0 b s j → i = j := by
  intro i hi j hj
  simp only [kE, List.mem_cons, List.not_mem_nil, or_false] at hi hj
  rcases hi with rfl | rfl | rfl | rfl | rfl | rfl | rfl | rfl | rfl | rfl <;> rcases hj with rfl | rfl | rfl | rfl | rfl | rfl | rfl | rfl | rfl | rfl <;> simp only [ad0_k]
  · exact fun _ => True.intro
  · exact fun e => absurd e (va_neR (H 53 _ (by decide +kernel)) (nC_0 H) (nC_1 H))
  · exact fun e => absurd e (va_neR (H 59 _ (by decide +kernel)) (nC_0 H) (nC_2 H))
  · exact fun e => absurd e (va_neR (H 66 _ (by decide +kernel)) (nC_0 H) (nC_3 H))
  · exact fun e => absurd e (va_neR (H 74 _ (by decide +kernel)) (nC_0 H) (nC_4 H))
  · exact fun e => absurd e (va_neR (H 83 _ (by decide +kernel)) (nC_0 H) (nC_5 H))
  · exact fun e => absurd e.symm (va_neR (H 47 _ (by decide +kernel)) (nC_6 H) (nC_0 H))
  · exact fun e => absurd e (va_neR (H 93 _ (by decide +kernel)) (nC_0 H) (nC_7 H))
  · exact fun e => absurd e (va_neR (H 104 _ (by decide +kernel)) (nC_0 H) (nC_8 H))
  · exact fun e => absurd e (va_neR (H 116 _ (by decide +kernel)) (nC_0 H) (nC_9 H))
  · exact fun e => absurd e.symm (va_neR (H 53 _ (by decide +kernel)) (nC_0 H) (nC_1 H))
  · exact fun _ => True.intro
  · exact fun e => absurd e (va_neR (H 60 _ (by decide +kernel)) (nC_1 H) (nC_2 H))
  · exact fun e => absurd e (va_neR (H 67 _ (by decide +kernel)) (nC_1 H) (nC_3 H))
  · exact fun e => absurd e (va_neR (H 75 _ (by decide +kernel)) (nC_1 H) (nC_4 H))
  · exact fun e => absurd e (va_neR (H 84 _ (by decide +kernel)) (nC_1 H) (nC_5 H))
  · exact fun e => absurd e.symm (va_neR (H 52 _ (by decide +kernel)) (nC_6 H) (nC_1 H))
  · exact fun e => absurd e (va_neR (H 94 _ (by decide +kernel)) (nC_1 H) (nC_7 H))
  · exact fun e => absurd e (va_neR (H 105 _ (by decide +kernel)) (nC_1 H) (nC_8 H))
  · exact fun e => absurd e (va_neR (H 117 _ (by decide +kernel)) (nC_1 H) (nC_9 H))
  · exact fun e => absurd e.symm (va_neR (H 59 _ (by decide +kernel)) (nC_0 H) (nC_2 H))
  · exact fun e => absurd e.symm (va_neR (H 60 _ (by decide +kernel)) (nC_1 H) (nC_2 H))
  · exact fun _ => True.intro
  · exact fun e => absurd e (va_neR (H 68 _ (by decide +kernel)) (nC_2 H) (nC_3 H))
  · exact fun e => absurd e (va_neR (H 76 _ (by decide +kernel)) (nC_2 H) (nC_4 H))
  · exact fun e => absurd e (va_neR (H 85 _ (by decide +kernel)) (nC_2 H) (nC_5 H))
  · exact fun e => absurd e.symm (va_neR (H 58 _ (by decide +kernel)) (nC_6 H) (nC_2 H))
  · exact fun e => absurd e (va_neR (H 95 _ (by decide +kernel)) (nC_2 H) (nC_7 H))
  · exact fun e => absurd e (va_neR (H 106 _ (by decide +kernel)) (nC_2 H) (nC_8 H))
  · exact fun e => absurd e (va_neR (H 118 _ (by decide +kernel)) (nC_2 H) (nC_9 H))
  · exact fun e => absurd e.symm (va_neR (H 66 _ (by decide +kernel)) (nC_0 H) (nC_3 H))
  · exact fun e => absurd e.symm (va_neR (H 67 _ (by decide +kernel)) (nC_1 H) (nC_3 H))
  · exact fun e => absurd e.symm (va_neR (H 68 _ (by decide +kernel)) (nC_2 H) (nC_3 H))
  · exact fun _ => True.intro
  · exact fun e => absurd e (va_neR (H 77 _ (by decide +kernel)) (nC_3 H) (nC_4 H))
  · exact fun e => absurd e (va_neR (H 86 _ (by decide +kernel)) (nC_3 H) (nC_5 H))
  · exact fun e => absurd e.symm (va_neR (H 65 _ (by decide +kernel)) (nC_6 H) (nC_3 H))
  · exact fun e => absurd e (va_neR (H 96 _ (by decide +kernel)) (nC_3 H) (nC_7 H))
  · exact fun e => absurd e (va_neR (H 107 _ (by decide +kernel)) (nC_3 H) (nC_8 H))
  · exact fun e => absurd e (va_neR (H 119 _ (by decide +kernel)) (nC_3 H) (nC_9 H))
  · exact fun e => absurd e.symm (va_neR (H 74 _ (by decide +kernel)) (nC_0 H) (nC_4 H))
  · exact fun e => absurd e.symm (va_neR (H 75 _ (by decide +kernel)) (nC_1 H) (nC_4 H))
  · exact fun e => absurd e.symm (va_neR (H 76 _ (by decide +kernel)) (nC_2 H) (nC_4 H))
  · exact fun e => absurd e.symm (va_neR (H 77 _ (by decide +kernel)) (nC_3 H) (nC_4 H))
  · exact fun _ => True.intro
  · exact fun e => absurd e (va_neR (H 87 _ (by decide +kernel)) (nC_4 H) (nC_5 H))
  · exact fun e => absurd e.symm (va_neR (H 73 _ (by decide +kernel)) (nC_6 H) (nC_4 H))
  · exact fun e => absurd e (va_neR (H 97 _ (by decide +kernel)) (nC_4 H) (nC_7 H))
  · exact fun e => absurd e (va_neR (H 108 _ (by decide +kernel)) (nC_4 H) (nC_8 H))
  · exact fun e => absurd e (va_neR (H 120 _ (by decide +kernel)) (nC_4 H) (nC_9 H))
  · exact fun e => absurd e.symm (va_neR (H 83 _ (by decide +kernel)) (nC_0 H) (nC_5 H))
  · exact fun e => absurd e.symm (va_neR (H 84 _ (by decide +kernel)) (nC_1 H) (nC_5 H))
  · exact fun e => absurd e.symm (va_neR (H 85 _ (by decide +kernel)) (nC_2 H) (nC_5 H))
  · exact fun e => absurd e.symm (va_neR (H 86 _ (by decide +kernel)) (nC_3 H) (nC_5 H))
  · exact fun e => absurd e.symm (va_neR (H 87 _ (by decide +kernel)) (nC_4 H) (nC_5 H))
  · exact fun _ => True.intro
  · exact fun e => absurd e.symm (va_neR (H 82 _ (by decide +kernel)) (nC_6 H) (nC_5 H))
  · exact fun e => absurd e (va_neR (H 98 _ (by decide +kernel)) (nC_5 H) (nC_7 H))
  · exact fun e => absurd e (va_neR (H 109 _ (by decide +kernel)) (nC_5 H) (nC_8 H))
  · exact fun e => absurd e (va_neR (H 121 _ (by decide +kernel)) (nC_5 H) (nC_9 H))
  · exact fun e => absurd e (va_neR (H 47 _ (by decide +kernel)) (nC_6 H) (nC_0 H))
  · exact fun e => absurd e (va_neR (H 52 _ (by decide +kernel)) (nC_6 H) (nC_1 H))
  · exact fun e => absurd e (va_neR (H 58 _ (by decide +kernel)) (nC_6 H) (nC_2 H))
  · exact fun e => absurd e (va_neR (H 65 _ (by decide +kernel)) (nC_6 H) (nC_3 H))
  · exact fun e => absurd e (va_neR (H 73 _ (by decide +kernel)) (nC_6 H) (nC_4 H))
  · exact fun e => absurd e (va_neR (H 82 _ (by decide +kernel)) (nC_6 H) (nC_5 H))
  · exact fun _ => True.intro
  · exact fun e => absurd e (va_neR (H 92 _ (by decide +kernel)) (nC_6 H) (nC_7 H))
  · exact fun e => absurd e (va_neR (H 103 _ (by decide +kernel)) (nC_6 H) (nC_8 H))
  · exact fun e => absurd e (va_neR (H 115 _ (by decide +kernel)) (nC_6 H) (nC_9 H))
  · exact fun e => absurd e.symm (va_neR (H 93 _ (by decide +kernel)) (nC_0 H) (nC_7 H))
  · exact fun e => absurd e.symm (va_neR (H 94 _ (by decide +kernel)) (nC_1 H) (nC_7 H))
  · exact fun e => absurd e.symm (va_neR (H 95 _ (by decide +kernel)) (nC_2 H) (nC_7 H))
  · exact fun e => absurd e.symm (va_neR (H 96 _ (by decide +kernel)) (nC_3 H) (nC_7 H))
  · exact fun e => absurd e.symm (va_neR (H 97 _ (by decide +kernel)) (nC_4 H) (nC_7 H))
  · exact fun e => absurd e.symm (va_neR (H 98 _ (by decide +kernel)) (nC_5 H) (nC_7 H))
  · exact fun e => absurd e.symm (va_neR (H 92 _ (by decide +kernel)) (nC_6 H) (nC_7 H))
  · exact fun _ => True.intro
  · exact fun e => absurd e (va_neR (H 110 _ (by decide +kernel)) (nC_7 H) (nC_8 H))
  · exact fun e => absurd e (va_neR (H 122 _ (by decide +kernel)) (nC_7 H) (nC_9 H))
  · exact fun e => absurd e.symm (va_neR (H 104 _ (by decide +kernel)) (nC_0 H) (nC_8 H))
  · exact fun e => absurd e.symm (va_neR (H 105 _ (by decide +kernel)) (nC_1 H) (nC_8 H))
  · exact fun e => absurd e.symm (va_neR (H 106 _ (by decide +kernel)) (nC_2 H) (nC_8 H))
  · exact fun e => absurd e.symm (va_neR (H 107 _ (by decide +kernel)) (nC_3 H) (nC_8 H))
  · exact fun e => absurd e.symm (va_neR (H 108 _ (by decide +kernel)) (nC_4 H) (nC_8 H))
  · exact fun e => absurd e.symm (va_neR (H 109 _ (by decide +kernel)) (nC_5 H) (nC_8 H))
  · exact fun e => absurd e.symm (va_neR (H 103 _ (by decide +kernel)) (nC_6 H) (nC_8 H))
  · exact fun e => absurd e.symm (va_neR (H 110 _ (by decide +kernel)) (nC_7 H) (nC_8 H))
  · exact fun _ => True.intro
  · exact fun e => absurd e (va_neR (H 123 _ (by decide +kernel)) (nC_8 H) (nC_9 H))
  · exact fun e => absurd e.symm (va_neR (H 116 _ (by decide +kernel)) (nC_0 H) (nC_9 H))
  · exact fun e => absurd e.symm (va_neR (H 117 _ (by decide +kernel)) (nC_1 H) (nC_9 H))
  · exact fun e => absurd e.symm (va_neR (H 118 _ (by decide +kernel)) (nC_2 H) (nC_9 H))
  · exact fun e => absurd e.symm (va_neR (H 119 _ (by decide +kernel)) (nC_3 H) (nC_9 H))
  · exact fun e => absurd e.symm (va_neR (H 120 _ (by decide +kernel)) (nC_4 H) (nC_9 H))
  · exact fun e => absurd e.symm (va_neR (H 121 _ (by decide +kernel)) (nC_5 H) (nC_9 H))
  · exact fun e => absurd e.symm (va_neR (H 115 _ (by decide +kernel)) (nC_6 H) (nC_9 H))
  · exact fun e => absurd e.symm (va_neR (H 122 _ (by decide +kernel)) (nC_7 H) (nC_9 H))
  · exact fun e => absurd e.symm (va_neR (H 123 _ (by decide +kernel)) (nC_8 H) (nC_9 H))
  · exact fun _ => True.intro
